theorem rdZ_len {z : Nat → Int} (h : GZ z) : 2 * (rdZ z).2.2.2.length ≤ 64 := by
  have h1 := rdS_le (fun j => z (7 + j)) (z 6).toNat
  have h2 := h.2.1
  unfold rdZ
  omega
/-! the law's helpers -/
theorem CtH_of {G : GT} {y : MethodName} {me : MeT} {np : Nat} {as : List Value} {N N' : Nat} {gf gf' : Bool} {h h' : Hp} {kc ks : Nat} {v : Option Value} (k : YKh y me np) (hini : me.2.2.2.2.2.2.2 = true → y.name = "<init>") (loc : List (Option Value)) (hloc : lvl loc = lv_args 0 as) (hlen : (lg_sl as).length ≤ me.2.2.1)
    (body : ∀ x : CxT, Cx G me x → ZM G x v N' gf' h' → V G me x 0 loc [] N gf h kc ks) : CtH G y me as N gf h kc ks v N' gf' h' := by
  obtain ⟨k1, k2, k3, k4, k5, k6⟩ := k
  refine vx_ofWH (cc := me.2.1) (maxL := me.2.2.1) (ret := me.2.2.2.1) (hh := me.2.2.2.2.2.2.1) k4 rfl ?_
  intro p e s m args below meth c s₁ B hml hv
  obtain ⟨rfl, hK, hW⟩ := hv
  have hts : ∀ w ∈ wsH y me, w.before as.toArray s = true := atoms_spec (ws := wsH y me) B.pre
  have hown : s.vm.findClass me.1 = some m.cls := by rw [k5]; exact findClass_of_methodNamed B.named
  have htb : c.exceptionTable.toList = tableOf me.2.2.2.2.2.2.1 := vx_table (x := y) B (hts _ List.mem_cons_self)
  have hb := body (p, e, (headSpec (wsH y me) (rmO me kc ks)).room, s, m, as.toArray, below, meth, c, vx_MQ below (QcM G v N' gf' h') (fun _ _ _ => False) as.toArray s kc ks (gA G))
    ⟨B.exec, B.bytes, hml, B.returns, hown, fun w hw => hts w (List.mem_cons_of_mem _ hw), hK, B.notSynchronized, rfl, rfl, htb, fun q => (name_of_methodNamed B.named B.method).1.trans (hini q)⟩ (Or.inr rfl)
  rw [lg_entry_eq]
  exact hb s.heap [] 0 0 _ hW va_S.rf (LH.of (lv_entry as hlen) (fun i w q => by rw [← hloc]; exact lvl_mem.mpr q)) (by show 0 + kc ≤ kc; omega) (by show 0 + ks ≤ ks; omega)
def OkH (G : GT) (y : MethodName) (me : MeT) (as : List Value) (K : Nat → Nat → Int) (r : Nat → Option Nat) (v : Value) (s : Nat → Int) (st : Nat) (kp : Int) (t : Nat → Int) (T : Nat) : Prop :=
  ∃ K1 r1, CtH G y me as 28 false (HP G K r) 0 0 (some v) 28 false (HP G K1 r1) ∧ IC K1 r1 s st kp t T
def OkE (G : GT) (y : MethodName) (me : MeT) (as : List Value) (K : Nat → Nat → Int) (r : Nat → Option Nat) (v : Value) (s : Nat → Int) (st : Nat) (kp : Int) (t : Nat → Int) (T : Nat) : Prop :=
  ∃ K1 r1, CtH G y me as 28 false (HP G K r) 1 6 (some v) 28 false (HP G K1 r1) ∧ IC K1 r1 s st kp t T
set_option maxRecDepth 100000 in
set_option maxHeartbeats 4000000 in
theorem h_L_set (G : GT) (K : Nat → Nat → Int) (r : Nat → Option Nat) (p : Int) (hp : -2147483648 ≤ p ∧ p < 2147483648) (q : Int) (hq : -2147483648 ≤ q ∧ q < 2147483648) (v : Int) (K1 : Nat → Nat → Int) (r1 : Nat → Option Nat) (hc : CtO G yX5_set mX5_set [rf G 0, .int (iI p), .int (iI q)] K r (some (.int (iI v))) K1 r1) : CtH G yL_set mL_set [rf G 0, .int (iI p), .int (iI q)] 28 false (HP G K r) 0 0 (some (.int (iI v))) 28 false (HP G K1 r1) := by
  refine CtH_of kL_set (by decide) [some (rf G 0), some (.int (iI p)), some (.int (iI q)), none] rfl (Nat.le_of_ble_eq_true rfl) ?_
  intro x C hZ
  refine V_aload_n C dL_set_0 rfl rfl ?_
  refine V_iload_n C dL_set_1 rfl rfl ?_
  refine V_iload_n C dL_set_2 rfl rfl ?_
  refine V_V1 (k2 := 0) (s2 := 0) C dL_set_3 lL_9 kX5_set (hc) (by decide) (rfl) rfl rfl rfl ⟨Nat.le_of_ble_eq_true rfl, Nat.le_of_ble_eq_true rfl⟩ (Nat.le_of_ble_eq_true rfl) (Nat.le_refl _) (Nat.le_refl _) ?_
  exact V_iret C dL_set_6 rfl hZ rfl rfl
set_option maxRecDepth 100000 in
set_option maxHeartbeats 4000000 in
theorem e1_L_set (G : GT) (K : Nat → Nat → Int) (r : Nat → Option Nat) (p : Int) (hp : -2147483648 ≤ p ∧ p < 2147483648) (q : Int) (hq : -2147483648 ≤ q ∧ q < 2147483648) (K1 : Nat → Nat → Int) (hc : CtX G yX5_set mX5_set [rf G 0, .int (iI p), .int (iI q)] 28 false (HP G K r) 1 6 "java/lang/IndexOutOfBoundsException" (HP G K1 r)) : CtH G yL_set mL_set [rf G 0, .int (iI p), .int (iI q)] 28 false (HP G K r) 1 6 (some (.int (iI (-2000001)))) 28 false (HP G K1 r) := by
  refine CtH_of kL_set (by decide) [some (rf G 0), some (.int (iI p)), some (.int (iI q)), none] rfl (Nat.le_of_ble_eq_true rfl) ?_
  intro x C hZ
  have hh : ∀ a : Nat, V G mL_set x 7 [some (rf G 0), some (.int (iI p)), some (.int (iI q)), none] [.ref a] 28 false (HP G K1 r) 0 0 := by
    intro a
    refine V_astore_n (q := a) C dL_set_7 rfl (Nat.le_of_ble_eq_true rfl) rfl ?_
    refine V_ldc (n := -2000001) C dL_set_8 qL_17 (by decide) ?_
    exact V_iret C dL_set_10 rfl hZ rfl rfl
  have hx := VX_catch (E := "java/lang/IndexOutOfBoundsException") (pc := 3) (st := []) (kc := 0) (ks := 0) C [] (0, 6, 7, 15) [(0, 6, 11, 18)] rfl (fun z hz => by cases hz) ⟨by decide, by decide⟩ (by decide) nL_15 (by decide +kernel) hh
  refine V_aload_n C dL_set_0 rfl rfl ?_
  refine V_iload_n C dL_set_1 rfl rfl ?_
  refine V_iload_n C dL_set_2 rfl rfl ?_
  exact V_VX (k2 := 0) (s2 := 0) C dL_set_3 lL_9 kX5_set (hc) (by decide) (rfl) rfl rfl rfl ⟨Nat.le_of_ble_eq_true rfl, Nat.le_of_ble_eq_true rfl⟩ (Nat.le_of_ble_eq_true rfl) (by omega) (by omega) (hx)
set_option maxRecDepth 100000 in
set_option maxHeartbeats 4000000 in
theorem e2_L_set (G : GT) (K : Nat → Nat → Int) (r : Nat → Option Nat) (p : Int) (hp : -2147483648 ≤ p ∧ p < 2147483648) (q : Int) (hq : -2147483648 ≤ q ∧ q < 2147483648) (K1 : Nat → Nat → Int) (hc : CtX G yX5_set mX5_set [rf G 0, .int (iI p), .int (iI q)] 28 false (HP G K r) 1 6 "java/lang/IllegalArgumentException" (HP G K1 r)) : CtH G yL_set mL_set [rf G 0, .int (iI p), .int (iI q)] 28 false (HP G K r) 1 6 (some (.int (iI (-2000002)))) 28 false (HP G K1 r) := by
  refine CtH_of kL_set (by decide) [some (rf G 0), some (.int (iI p)), some (.int (iI q)), none] rfl (Nat.le_of_ble_eq_true rfl) ?_
  intro x C hZ
  have hh : ∀ a : Nat, V G mL_set x 11 [some (rf G 0), some (.int (iI p)), some (.int (iI q)), none] [.ref a] 28 false (HP G K1 r) 0 0 := by
    intro a
    refine V_astore_n (q := a) C dL_set_11 rfl (Nat.le_of_ble_eq_true rfl) rfl ?_
    refine V_ldc (n := -2000002) C dL_set_12 qL_20 (by decide) ?_
    exact V_iret C dL_set_14 rfl hZ rfl rfl
  have hx := VX_catch (E := "java/lang/IllegalArgumentException") (pc := 3) (st := []) (kc := 0) (ks := 0) C [(0, 6, 7, 15)] (0, 6, 11, 18) [] rfl (fun z hz => by
    obtain rfl := List.mem_singleton.mp hz
    exact ⟨"java/lang/IndexOutOfBoundsException", by decide, nL_15, by decide +kernel⟩) ⟨by decide, by decide⟩ (by decide) nL_18 (by decide +kernel) hh
  refine V_aload_n C dL_set_0 rfl rfl ?_
  refine V_iload_n C dL_set_1 rfl rfl ?_
  refine V_iload_n C dL_set_2 rfl rfl ?_
  exact V_VX (k2 := 0) (s2 := 0) C dL_set_3 lL_9 kX5_set (hc) (by decide) (rfl) rfl rfl rfl ⟨Nat.le_of_ble_eq_true rfl, Nat.le_of_ble_eq_true rfl⟩ (Nat.le_of_ble_eq_true rfl) (by omega) (by omega) (hx)
set_option maxRecDepth 100000 in
set_option maxHeartbeats 4000000 in
theorem h_L_add (G : GT) (K : Nat → Nat → Int) (r : Nat → Option Nat) (p : Int) (hp : -2147483648 ≤ p ∧ p < 2147483648) (q : Int) (hq : -2147483648 ≤ q ∧ q < 2147483648) (v : Int) (K1 : Nat → Nat → Int) (r1 : Nat → Option Nat) (hc : CtO G yX5_add mX5_add [rf G 0, .int (iI p), .int (iI q)] K r (some (.int (iI v))) K1 r1) : CtH G yL_add mL_add [rf G 0, .int (iI p), .int (iI q)] 28 false (HP G K r) 0 0 (some (.int (iI v))) 28 false (HP G K1 r1) := by
  refine CtH_of kL_add (by decide) [some (rf G 0), some (.int (iI p)), some (.int (iI q)), none] rfl (Nat.le_of_ble_eq_true rfl) ?_
  intro x C hZ
  refine V_aload_n C dL_add_0 rfl rfl ?_
  refine V_iload_n C dL_add_1 rfl rfl ?_
  refine V_iload_n C dL_add_2 rfl rfl ?_
  refine V_V1 (k2 := 0) (s2 := 0) C dL_add_3 lL_21 kX5_add (hc) (by decide) (rfl) rfl rfl rfl ⟨Nat.le_of_ble_eq_true rfl, Nat.le_of_ble_eq_true rfl⟩ (Nat.le_of_ble_eq_true rfl) (Nat.le_refl _) (Nat.le_refl _) ?_
  exact V_iret C dL_add_6 rfl hZ rfl rfl
set_option maxRecDepth 100000 in
set_option maxHeartbeats 4000000 in
theorem e1_L_add (G : GT) (K : Nat → Nat → Int) (r : Nat → Option Nat) (p : Int) (hp : -2147483648 ≤ p ∧ p < 2147483648) (q : Int) (hq : -2147483648 ≤ q ∧ q < 2147483648) (K1 : Nat → Nat → Int) (hc : CtX G yX5_add mX5_add [rf G 0, .int (iI p), .int (iI q)] 28 false (HP G K r) 1 6 "java/lang/IndexOutOfBoundsException" (HP G K1 r)) : CtH G yL_add mL_add [rf G 0, .int (iI p), .int (iI q)] 28 false (HP G K r) 1 6 (some (.int (iI (-2000001)))) 28 false (HP G K1 r) := by
  refine CtH_of kL_add (by decide) [some (rf G 0), some (.int (iI p)), some (.int (iI q)), none] rfl (Nat.le_of_ble_eq_true rfl) ?_
  intro x C hZ
  have hh : ∀ a : Nat, V G mL_add x 7 [some (rf G 0), some (.int (iI p)), some (.int (iI q)), none] [.ref a] 28 false (HP G K1 r) 0 0 := by
    intro a
    refine V_astore_n (q := a) C dL_add_7 rfl (Nat.le_of_ble_eq_true rfl) rfl ?_
    refine V_ldc (n := -2000001) C dL_add_8 qL_17 (by decide) ?_
    exact V_iret C dL_add_10 rfl hZ rfl rfl
  have hx := VX_catch (E := "java/lang/IndexOutOfBoundsException") (pc := 3) (st := []) (kc := 0) (ks := 0) C [] (0, 6, 7, 15) [(0, 6, 11, 24)] rfl (fun z hz => by cases hz) ⟨by decide, by decide⟩ (by decide) nL_15 (by decide +kernel) hh
  refine V_aload_n C dL_add_0 rfl rfl ?_
  refine V_iload_n C dL_add_1 rfl rfl ?_
  refine V_iload_n C dL_add_2 rfl rfl ?_
  exact V_VX (k2 := 0) (s2 := 0) C dL_add_3 lL_21 kX5_add (hc) (by decide) (rfl) rfl rfl rfl ⟨Nat.le_of_ble_eq_true rfl, Nat.le_of_ble_eq_true rfl⟩ (Nat.le_of_ble_eq_true rfl) (by omega) (by omega) (hx)
set_option maxRecDepth 100000 in
set_option maxHeartbeats 4000000 in
theorem e2_L_add (G : GT) (K : Nat → Nat → Int) (r : Nat → Option Nat) (p : Int) (hp : -2147483648 ≤ p ∧ p < 2147483648) (q : Int) (hq : -2147483648 ≤ q ∧ q < 2147483648) (K1 : Nat → Nat → Int) (hc : CtX G yX5_add mX5_add [rf G 0, .int (iI p), .int (iI q)] 28 false (HP G K r) 1 6 "java/lang/IllegalStateException" (HP G K1 r)) : CtH G yL_add mL_add [rf G 0, .int (iI p), .int (iI q)] 28 false (HP G K r) 1 6 (some (.int (iI (-2000002)))) 28 false (HP G K1 r) := by
  refine CtH_of kL_add (by decide) [some (rf G 0), some (.int (iI p)), some (.int (iI q)), none] rfl (Nat.le_of_ble_eq_true rfl) ?_
  intro x C hZ
  have hh : ∀ a : Nat, V G mL_add x 11 [some (rf G 0), some (.int (iI p)), some (.int (iI q)), none] [.ref a] 28 false (HP G K1 r) 0 0 := by
    intro a
    refine V_astore_n (q := a) C dL_add_11 rfl (Nat.le_of_ble_eq_true rfl) rfl ?_
    refine V_ldc (n := -2000002) C dL_add_12 qL_20 (by decide) ?_
    exact V_iret C dL_add_14 rfl hZ rfl rfl
  have hx := VX_catch (E := "java/lang/IllegalStateException") (pc := 3) (st := []) (kc := 0) (ks := 0) C [(0, 6, 7, 15)] (0, 6, 11, 24) [] rfl (fun z hz => by
    obtain rfl := List.mem_singleton.mp hz
    exact ⟨"java/lang/IndexOutOfBoundsException", by decide, nL_15, by decide +kernel⟩) ⟨by decide, by decide⟩ (by decide) nL_24 (by decide +kernel) hh
  refine V_aload_n C dL_add_0 rfl rfl ?_
  refine V_iload_n C dL_add_1 rfl rfl ?_
  refine V_iload_n C dL_add_2 rfl rfl ?_
  exact V_VX (k2 := 0) (s2 := 0) C dL_add_3 lL_21 kX5_add (hc) (by decide) (rfl) rfl rfl rfl ⟨Nat.le_of_ble_eq_true rfl, Nat.le_of_ble_eq_true rfl⟩ (Nat.le_of_ble_eq_true rfl) (by omega) (by omega) (hx)
set_option maxRecDepth 100000 in
set_option maxHeartbeats 4000000 in
theorem h_L_take (G : GT) (K : Nat → Nat → Int) (r : Nat → Option Nat) (p : Int) (hp : -2147483648 ≤ p ∧ p < 2147483648) (q : Int) (hq : -2147483648 ≤ q ∧ q < 2147483648) (v : Int) (K1 : Nat → Nat → Int) (r1 : Nat → Option Nat) (hc : CtO G yX5_takeAway mX5_takeAway [rf G 0, .int (iI p), .int (iI q)] K r (some (.int (iI v))) K1 r1) : CtH G yL_take mL_take [rf G 0, .int (iI p), .int (iI q)] 28 false (HP G K r) 0 0 (some (.int (iI v))) 28 false (HP G K1 r1) := by
  refine CtH_of kL_take (by decide) [some (rf G 0), some (.int (iI p)), some (.int (iI q)), none] rfl (Nat.le_of_ble_eq_true rfl) ?_
  intro x C hZ
  refine V_aload_n C dL_take_0 rfl rfl ?_
  refine V_iload_n C dL_take_1 rfl rfl ?_
  refine V_iload_n C dL_take_2 rfl rfl ?_
  refine V_V1 (k2 := 0) (s2 := 0) C dL_take_3 lL_26 kX5_takeAway (hc) (by decide) (rfl) rfl rfl rfl ⟨Nat.le_of_ble_eq_true rfl, Nat.le_of_ble_eq_true rfl⟩ (Nat.le_of_ble_eq_true rfl) (Nat.le_refl _) (Nat.le_refl _) ?_
  exact V_iret C dL_take_6 rfl hZ rfl rfl
set_option maxRecDepth 100000 in
set_option maxHeartbeats 4000000 in
theorem e1_L_take (G : GT) (K : Nat → Nat → Int) (r : Nat → Option Nat) (p : Int) (hp : -2147483648 ≤ p ∧ p < 2147483648) (q : Int) (hq : -2147483648 ≤ q ∧ q < 2147483648) (K1 : Nat → Nat → Int) (hc : CtX G yX5_takeAway mX5_takeAway [rf G 0, .int (iI p), .int (iI q)] 28 false (HP G K r) 1 6 "java/lang/IndexOutOfBoundsException" (HP G K1 r)) : CtH G yL_take mL_take [rf G 0, .int (iI p), .int (iI q)] 28 false (HP G K r) 1 6 (some (.int (iI (-2000001)))) 28 false (HP G K1 r) := by
  refine CtH_of kL_take (by decide) [some (rf G 0), some (.int (iI p)), some (.int (iI q)), none] rfl (Nat.le_of_ble_eq_true rfl) ?_
  intro x C hZ
  have hh : ∀ a : Nat, V G mL_take x 7 [some (rf G 0), some (.int (iI p)), some (.int (iI q)), none] [.ref a] 28 false (HP G K1 r) 0 0 := by
    intro a
    refine V_astore_n (q := a) C dL_take_7 rfl (Nat.le_of_ble_eq_true rfl) rfl ?_
    refine V_ldc (n := -2000001) C dL_take_8 qL_17 (by decide) ?_
    exact V_iret C dL_take_10 rfl hZ rfl rfl
  have hx := VX_catch (E := "java/lang/IndexOutOfBoundsException") (pc := 3) (st := []) (kc := 0) (ks := 0) C [] (0, 6, 7, 15) [(0, 6, 11, 24)] rfl (fun z hz => by cases hz) ⟨by decide, by decide⟩ (by decide) nL_15 (by decide +kernel) hh
  refine V_aload_n C dL_take_0 rfl rfl ?_
  refine V_iload_n C dL_take_1 rfl rfl ?_
  refine V_iload_n C dL_take_2 rfl rfl ?_
  exact V_VX (k2 := 0) (s2 := 0) C dL_take_3 lL_26 kX5_takeAway (hc) (by decide) (rfl) rfl rfl rfl ⟨Nat.le_of_ble_eq_true rfl, Nat.le_of_ble_eq_true rfl⟩ (Nat.le_of_ble_eq_true rfl) (by omega) (by omega) (hx)
set_option maxRecDepth 100000 in
set_option maxHeartbeats 4000000 in
theorem e2_L_take (G : GT) (K : Nat → Nat → Int) (r : Nat → Option Nat) (p : Int) (hp : -2147483648 ≤ p ∧ p < 2147483648) (q : Int) (hq : -2147483648 ≤ q ∧ q < 2147483648) (K1 : Nat → Nat → Int) (hc : CtX G yX5_takeAway mX5_takeAway [rf G 0, .int (iI p), .int (iI q)] 28 false (HP G K r) 1 6 "java/lang/IllegalStateException" (HP G K1 r)) : CtH G yL_take mL_take [rf G 0, .int (iI p), .int (iI q)] 28 false (HP G K r) 1 6 (some (.int (iI (-2000002)))) 28 false (HP G K1 r) := by
  refine CtH_of kL_take (by decide) [some (rf G 0), some (.int (iI p)), some (.int (iI q)), none] rfl (Nat.le_of_ble_eq_true rfl) ?_
  intro x C hZ
  have hh : ∀ a : Nat, V G mL_take x 11 [some (rf G 0), some (.int (iI p)), some (.int (iI q)), none] [.ref a] 28 false (HP G K1 r) 0 0 := by
    intro a
    refine V_astore_n (q := a) C dL_take_11 rfl (Nat.le_of_ble_eq_true rfl) rfl ?_
    refine V_ldc (n := -2000002) C dL_take_12 qL_20 (by decide) ?_
    exact V_iret C dL_take_14 rfl hZ rfl rfl
  have hx := VX_catch (E := "java/lang/IllegalStateException") (pc := 3) (st := []) (kc := 0) (ks := 0) C [(0, 6, 7, 15)] (0, 6, 11, 24) [] rfl (fun z hz => by
    obtain rfl := List.mem_singleton.mp hz
    exact ⟨"java/lang/IndexOutOfBoundsException", by decide, nL_15, by decide +kernel⟩) ⟨by decide, by decide⟩ (by decide) nL_24 (by decide +kernel) hh
  refine V_aload_n C dL_take_0 rfl rfl ?_
  refine V_iload_n C dL_take_1 rfl rfl ?_
  refine V_iload_n C dL_take_2 rfl rfl ?_
  exact V_VX (k2 := 0) (s2 := 0) C dL_take_3 lL_26 kX5_takeAway (hc) (by decide) (rfl) rfl rfl rfl ⟨Nat.le_of_ble_eq_true rfl, Nat.le_of_ble_eq_true rfl⟩ (Nat.le_of_ble_eq_true rfl) (by omega) (by omega) (hx)
set_option maxRecDepth 100000 in
set_option maxHeartbeats 4000000 in
theorem h_L_raise (G : GT) (K : Nat → Nat → Int) (r : Nat → Option Nat) (p : Int) (hp : -2147483648 ≤ p ∧ p < 2147483648) (v : Int) (K1 : Nat → Nat → Int) (r1 : Nat → Option Nat) (hc : CtO G yX5_raise mX5_raise [rf G 0, .int (iI p)] K r (some (.int (iI v))) K1 r1) : CtH G yL_raise mL_raise [rf G 0, .int (iI p)] 28 false (HP G K r) 0 0 (some (.int (iI v))) 28 false (HP G K1 r1) := by
  refine CtH_of kL_raise (by decide) [some (rf G 0), some (.int (iI p)), none] rfl (Nat.le_of_ble_eq_true rfl) ?_
  intro x C hZ
  refine V_aload_n C dL_raise_0 rfl rfl ?_
  refine V_iload_n C dL_raise_1 rfl rfl ?_
  refine V_V1 (k2 := 0) (s2 := 0) C dL_raise_2 lL_29 kX5_raise (hc) (by decide) (rfl) rfl rfl rfl ⟨Nat.le_of_ble_eq_true rfl, Nat.le_of_ble_eq_true rfl⟩ (Nat.le_of_ble_eq_true rfl) (Nat.le_refl _) (Nat.le_refl _) ?_
  exact V_iret C dL_raise_5 rfl hZ rfl rfl
set_option maxRecDepth 100000 in
set_option maxHeartbeats 4000000 in
theorem e1_L_raise (G : GT) (K : Nat → Nat → Int) (r : Nat → Option Nat) (p : Int) (hp : -2147483648 ≤ p ∧ p < 2147483648) (K1 : Nat → Nat → Int) (hc : CtX G yX5_raise mX5_raise [rf G 0, .int (iI p)] 28 false (HP G K r) 1 6 "java/lang/IndexOutOfBoundsException" (HP G K1 r)) : CtH G yL_raise mL_raise [rf G 0, .int (iI p)] 28 false (HP G K r) 1 6 (some (.int (iI (-2000001)))) 28 false (HP G K1 r) := by
  refine CtH_of kL_raise (by decide) [some (rf G 0), some (.int (iI p)), none] rfl (Nat.le_of_ble_eq_true rfl) ?_
  intro x C hZ
  have hh : ∀ a : Nat, V G mL_raise x 6 [some (rf G 0), some (.int (iI p)), none] [.ref a] 28 false (HP G K1 r) 0 0 := by
    intro a
    refine V_astore_n (q := a) C dL_raise_6 rfl (Nat.le_of_ble_eq_true rfl) rfl ?_
    refine V_ldc (n := -2000001) C dL_raise_7 qL_17 (by decide) ?_
    exact V_iret C dL_raise_9 rfl hZ rfl rfl
  have hx := VX_catch (E := "java/lang/IndexOutOfBoundsException") (pc := 2) (st := []) (kc := 0) (ks := 0) C [] (0, 5, 6, 15) [(0, 5, 10, 24)] rfl (fun z hz => by cases hz) ⟨by decide, by decide⟩ (by decide) nL_15 (by decide +kernel) hh
  refine V_aload_n C dL_raise_0 rfl rfl ?_
  refine V_iload_n C dL_raise_1 rfl rfl ?_
  exact V_VX (k2 := 0) (s2 := 0) C dL_raise_2 lL_29 kX5_raise (hc) (by decide) (rfl) rfl rfl rfl ⟨Nat.le_of_ble_eq_true rfl, Nat.le_of_ble_eq_true rfl⟩ (Nat.le_of_ble_eq_true rfl) (by omega) (by omega) (hx)
set_option maxRecDepth 100000 in
set_option maxHeartbeats 4000000 in
theorem e2_L_raise (G : GT) (K : Nat → Nat → Int) (r : Nat → Option Nat) (p : Int) (hp : -2147483648 ≤ p ∧ p < 2147483648) (K1 : Nat → Nat → Int) (hc : CtX G yX5_raise mX5_raise [rf G 0, .int (iI p)] 28 false (HP G K r) 1 6 "java/lang/IllegalStateException" (HP G K1 r)) : CtH G yL_raise mL_raise [rf G 0, .int (iI p)] 28 false (HP G K r) 1 6 (some (.int (iI (-2000002)))) 28 false (HP G K1 r) := by
  refine CtH_of kL_raise (by decide) [some (rf G 0), some (.int (iI p)), none] rfl (Nat.le_of_ble_eq_true rfl) ?_
  intro x C hZ
  have hh : ∀ a : Nat, V G mL_raise x 10 [some (rf G 0), some (.int (iI p)), none] [.ref a] 28 false (HP G K1 r) 0 0 := by
    intro a
    refine V_astore_n (q := a) C dL_raise_10 rfl (Nat.le_of_ble_eq_true rfl) rfl ?_
    refine V_ldc (n := -2000002) C dL_raise_11 qL_20 (by decide) ?_
    exact V_iret C dL_raise_13 rfl hZ rfl rfl
  have hx := VX_catch (E := "java/lang/IllegalStateException") (pc := 2) (st := []) (kc := 0) (ks := 0) C [(0, 5, 6, 15)] (0, 5, 10, 24) [] rfl (fun z hz => by
    obtain rfl := List.mem_singleton.mp hz
    exact ⟨"java/lang/IndexOutOfBoundsException", by decide, nL_15, by decide +kernel⟩) ⟨by decide, by decide⟩ (by decide) nL_24 (by decide +kernel) hh
  refine V_aload_n C dL_raise_0 rfl rfl ?_
  refine V_iload_n C dL_raise_1 rfl rfl ?_
  exact V_VX (k2 := 0) (s2 := 0) C dL_raise_2 lL_29 kX5_raise (hc) (by decide) (rfl) rfl rfl rfl ⟨Nat.le_of_ble_eq_true rfl, Nat.le_of_ble_eq_true rfl⟩ (Nat.le_of_ble_eq_true rfl) (by omega) (by omega) (hx)
set_option maxRecDepth 100000 in
set_option maxHeartbeats 4000000 in
theorem h_L_pay (G : GT) (K : Nat → Nat → Int) (r : Nat → Option Nat) (p : Int) (hp : -2147483648 ≤ p ∧ p < 2147483648) (q : Int) (hq : -2147483648 ≤ q ∧ q < 2147483648) (u : Int) (hu : -2147483648 ≤ u ∧ u < 2147483648) (v : Int) (K1 : Nat → Nat → Int) (r1 : Nat → Option Nat) (hc : CtO G yX5_pay mX5_pay [rf G 0, .int (iI p), .int (iI q), .int (iI u)] K r (some (.int (iI v))) K1 r1) : CtH G yL_pay mL_pay [rf G 0, .int (iI p), .int (iI q), .int (iI u)] 28 false (HP G K r) 0 0 (some (.int (iI v))) 28 false (HP G K1 r1) := by
  refine CtH_of kL_pay (by decide) [some (rf G 0), some (.int (iI p)), some (.int (iI q)), some (.int (iI u)), none] rfl (Nat.le_of_ble_eq_true rfl) ?_
  intro x C hZ
  refine V_aload_n C dL_pay_0 rfl rfl ?_
  refine V_iload_n C dL_pay_1 rfl rfl ?_
  refine V_iload_n C dL_pay_2 rfl rfl ?_
  refine V_iload_n C dL_pay_3 rfl rfl ?_
  refine V_V1 (k2 := 0) (s2 := 0) C dL_pay_4 lL_33 kX5_pay (hc) (by decide) (rfl) rfl rfl rfl ⟨Nat.le_of_ble_eq_true rfl, Nat.le_of_ble_eq_true rfl⟩ (Nat.le_of_ble_eq_true rfl) (Nat.le_refl _) (Nat.le_refl _) ?_
  exact V_iret C dL_pay_7 rfl hZ rfl rfl
set_option maxRecDepth 100000 in
set_option maxHeartbeats 4000000 in
theorem e1_L_pay (G : GT) (K : Nat → Nat → Int) (r : Nat → Option Nat) (p : Int) (hp : -2147483648 ≤ p ∧ p < 2147483648) (q : Int) (hq : -2147483648 ≤ q ∧ q < 2147483648) (u : Int) (hu : -2147483648 ≤ u ∧ u < 2147483648) (K1 : Nat → Nat → Int) (hc : CtX G yX5_pay mX5_pay [rf G 0, .int (iI p), .int (iI q), .int (iI u)] 28 false (HP G K r) 1 6 "java/lang/IndexOutOfBoundsException" (HP G K1 r)) : CtH G yL_pay mL_pay [rf G 0, .int (iI p), .int (iI q), .int (iI u)] 28 false (HP G K r) 1 6 (some (.int (iI (-2000001)))) 28 false (HP G K1 r) := by
  refine CtH_of kL_pay (by decide) [some (rf G 0), some (.int (iI p)), some (.int (iI q)), some (.int (iI u)), none] rfl (Nat.le_of_ble_eq_true rfl) ?_
  intro x C hZ
  have hh : ∀ a : Nat, V G mL_pay x 8 [some (rf G 0), some (.int (iI p)), some (.int (iI q)), some (.int (iI u)), none] [.ref a] 28 false (HP G K1 r) 0 0 := by
    intro a
    refine V_astore (q := a) C dL_pay_8 (Nat.le_of_ble_eq_true rfl) rfl ?_
    refine V_ldc (n := -2000001) C dL_pay_10 qL_17 (by decide) ?_
    exact V_iret C dL_pay_12 rfl hZ rfl rfl
  have hx := VX_catch (E := "java/lang/IndexOutOfBoundsException") (pc := 4) (st := []) (kc := 0) (ks := 0) C [] (0, 7, 8, 15) [(0, 7, 13, 18), (0, 7, 18, 24)] rfl (fun z hz => by cases hz) ⟨by decide, by decide⟩ (by decide) nL_15 (by decide +kernel) hh
  refine V_aload_n C dL_pay_0 rfl rfl ?_
  refine V_iload_n C dL_pay_1 rfl rfl ?_
  refine V_iload_n C dL_pay_2 rfl rfl ?_
  refine V_iload_n C dL_pay_3 rfl rfl ?_
  exact V_VX (k2 := 0) (s2 := 0) C dL_pay_4 lL_33 kX5_pay (hc) (by decide) (rfl) rfl rfl rfl ⟨Nat.le_of_ble_eq_true rfl, Nat.le_of_ble_eq_true rfl⟩ (Nat.le_of_ble_eq_true rfl) (by omega) (by omega) (hx)
set_option maxRecDepth 100000 in
set_option maxHeartbeats 4000000 in
theorem e2_L_pay (G : GT) (K : Nat → Nat → Int) (r : Nat → Option Nat) (p : Int) (hp : -2147483648 ≤ p ∧ p < 2147483648) (q : Int) (hq : -2147483648 ≤ q ∧ q < 2147483648) (u : Int) (hu : -2147483648 ≤ u ∧ u < 2147483648) (K1 : Nat → Nat → Int) (hc : CtX G yX5_pay mX5_pay [rf G 0, .int (iI p), .int (iI q), .int (iI u)] 28 false (HP G K r) 1 6 "java/lang/IllegalArgumentException" (HP G K1 r)) : CtH G yL_pay mL_pay [rf G 0, .int (iI p), .int (iI q), .int (iI u)] 28 false (HP G K r) 1 6 (some (.int (iI (-2000002)))) 28 false (HP G K1 r) := by
  refine CtH_of kL_pay (by decide) [some (rf G 0), some (.int (iI p)), some (.int (iI q)), some (.int (iI u)), none] rfl (Nat.le_of_ble_eq_true rfl) ?_
  intro x C hZ
  have hh : ∀ a : Nat, V G mL_pay x 13 [some (rf G 0), some (.int (iI p)), some (.int (iI q)), some (.int (iI u)), none] [.ref a] 28 false (HP G K1 r) 0 0 := by
    intro a
    refine V_astore (q := a) C dL_pay_13 (Nat.le_of_ble_eq_true rfl) rfl ?_
    refine V_ldc (n := -2000002) C dL_pay_15 qL_20 (by decide) ?_
    exact V_iret C dL_pay_17 rfl hZ rfl rfl
  have hx := VX_catch (E := "java/lang/IllegalArgumentException") (pc := 4) (st := []) (kc := 0) (ks := 0) C [(0, 7, 8, 15)] (0, 7, 13, 18) [(0, 7, 18, 24)] rfl (fun z hz => by
    obtain rfl := List.mem_singleton.mp hz
    exact ⟨"java/lang/IndexOutOfBoundsException", by decide, nL_15, by decide +kernel⟩) ⟨by decide, by decide⟩ (by decide) nL_18 (by decide +kernel) hh
  refine V_aload_n C dL_pay_0 rfl rfl ?_
  refine V_iload_n C dL_pay_1 rfl rfl ?_
  refine V_iload_n C dL_pay_2 rfl rfl ?_
  refine V_iload_n C dL_pay_3 rfl rfl ?_
  exact V_VX (k2 := 0) (s2 := 0) C dL_pay_4 lL_33 kX5_pay (hc) (by decide) (rfl) rfl rfl rfl ⟨Nat.le_of_ble_eq_true rfl, Nat.le_of_ble_eq_true rfl⟩ (Nat.le_of_ble_eq_true rfl) (by omega) (by omega) (hx)
set_option maxRecDepth 100000 in
set_option maxHeartbeats 4000000 in
theorem e3_L_pay (G : GT) (K : Nat → Nat → Int) (r : Nat → Option Nat) (p : Int) (hp : -2147483648 ≤ p ∧ p < 2147483648) (q : Int) (hq : -2147483648 ≤ q ∧ q < 2147483648) (u : Int) (hu : -2147483648 ≤ u ∧ u < 2147483648) (K1 : Nat → Nat → Int) (hc : CtX G yX5_pay mX5_pay [rf G 0, .int (iI p), .int (iI q), .int (iI u)] 28 false (HP G K r) 1 6 "java/lang/IllegalStateException" (HP G K1 r)) : CtH G yL_pay mL_pay [rf G 0, .int (iI p), .int (iI q), .int (iI u)] 28 false (HP G K r) 1 6 (some (.int (iI (-2000003)))) 28 false (HP G K1 r) := by
  refine CtH_of kL_pay (by decide) [some (rf G 0), some (.int (iI p)), some (.int (iI q)), some (.int (iI u)), none] rfl (Nat.le_of_ble_eq_true rfl) ?_
  intro x C hZ
  have hh : ∀ a : Nat, V G mL_pay x 18 [some (rf G 0), some (.int (iI p)), some (.int (iI q)), some (.int (iI u)), none] [.ref a] 28 false (HP G K1 r) 0 0 := by
    intro a
    refine V_astore (q := a) C dL_pay_18 (Nat.le_of_ble_eq_true rfl) rfl ?_
    refine V_ldc (n := -2000003) C dL_pay_20 qL_37 (by decide) ?_
    exact V_iret C dL_pay_22 rfl hZ rfl rfl
  have hx := VX_catch (E := "java/lang/IllegalStateException") (pc := 4) (st := []) (kc := 0) (ks := 0) C [(0, 7, 8, 15), (0, 7, 13, 18)] (0, 7, 18, 24) [] rfl (fun z hz => by
    rcases List.mem_cons.mp hz with rfl | hz
    · exact ⟨"java/lang/IndexOutOfBoundsException", by decide, nL_15, by decide +kernel⟩
    · obtain rfl := List.mem_singleton.mp hz
      exact ⟨"java/lang/IllegalArgumentException", by decide, nL_18, by decide +kernel⟩) ⟨by decide, by decide⟩ (by decide) nL_24 (by decide +kernel) hh
  refine V_aload_n C dL_pay_0 rfl rfl ?_
  refine V_iload_n C dL_pay_1 rfl rfl ?_
  refine V_iload_n C dL_pay_2 rfl rfl ?_
  refine V_iload_n C dL_pay_3 rfl rfl ?_
  exact V_VX (k2 := 0) (s2 := 0) C dL_pay_4 lL_33 kX5_pay (hc) (by decide) (rfl) rfl rfl rfl ⟨Nat.le_of_ble_eq_true rfl, Nat.le_of_ble_eq_true rfl⟩ (Nat.le_of_ble_eq_true rfl) (by omega) (by omega) (hx)
set_option maxRecDepth 100000 in
set_option maxHeartbeats 4000000 in
theorem h_L_send (G : GT) (K : Nat → Nat → Int) (r : Nat → Option Nat) (p : Int) (hp : -2147483648 ≤ p ∧ p < 2147483648) (v : Int) (K1 : Nat → Nat → Int) (r1 : Nat → Option Nat) (hc : CtO G yX5_send mX5_send [rf G 0, .int (iI p)] K r (some (.int (iI v))) K1 r1) : CtH G yL_send mL_send [rf G 0, .int (iI p)] 28 false (HP G K r) 0 0 (some (.int (iI v))) 28 false (HP G K1 r1) := by
  refine CtH_of kL_send (by decide) [some (rf G 0), some (.int (iI p)), none] rfl (Nat.le_of_ble_eq_true rfl) ?_
  intro x C hZ
  refine V_aload_n C dL_send_0 rfl rfl ?_
  refine V_iload_n C dL_send_1 rfl rfl ?_
  refine V_V1 (k2 := 0) (s2 := 0) C dL_send_2 lL_38 kX5_send (hc) (by decide) (rfl) rfl rfl rfl ⟨Nat.le_of_ble_eq_true rfl, Nat.le_of_ble_eq_true rfl⟩ (Nat.le_of_ble_eq_true rfl) (Nat.le_refl _) (Nat.le_refl _) ?_
  exact V_iret C dL_send_5 rfl hZ rfl rfl
set_option maxRecDepth 100000 in
set_option maxHeartbeats 4000000 in
theorem e1_L_send (G : GT) (K : Nat → Nat → Int) (r : Nat → Option Nat) (p : Int) (hp : -2147483648 ≤ p ∧ p < 2147483648) (K1 : Nat → Nat → Int) (hc : CtX G yX5_send mX5_send [rf G 0, .int (iI p)] 28 false (HP G K r) 1 6 "java/lang/IllegalArgumentException" (HP G K1 r)) : CtH G yL_send mL_send [rf G 0, .int (iI p)] 28 false (HP G K r) 1 6 (some (.int (iI (-2000001)))) 28 false (HP G K1 r) := by
  refine CtH_of kL_send (by decide) [some (rf G 0), some (.int (iI p)), none] rfl (Nat.le_of_ble_eq_true rfl) ?_
  intro x C hZ
  have hh : ∀ a : Nat, V G mL_send x 6 [some (rf G 0), some (.int (iI p)), none] [.ref a] 28 false (HP G K1 r) 0 0 := by
    intro a
    refine V_astore_n (q := a) C dL_send_6 rfl (Nat.le_of_ble_eq_true rfl) rfl ?_
    refine V_ldc (n := -2000001) C dL_send_7 qL_17 (by decide) ?_
    exact V_iret C dL_send_9 rfl hZ rfl rfl
  have hx := VX_catch (E := "java/lang/IllegalArgumentException") (pc := 2) (st := []) (kc := 0) (ks := 0) C [] (0, 5, 6, 18) [(0, 5, 10, 24)] rfl (fun z hz => by cases hz) ⟨by decide, by decide⟩ (by decide) nL_18 (by decide +kernel) hh
  refine V_aload_n C dL_send_0 rfl rfl ?_
  refine V_iload_n C dL_send_1 rfl rfl ?_
  exact V_VX (k2 := 0) (s2 := 0) C dL_send_2 lL_38 kX5_send (hc) (by decide) (rfl) rfl rfl rfl ⟨Nat.le_of_ble_eq_true rfl, Nat.le_of_ble_eq_true rfl⟩ (Nat.le_of_ble_eq_true rfl) (by omega) (by omega) (hx)
set_option maxRecDepth 100000 in
set_option maxHeartbeats 4000000 in
theorem e2_L_send (G : GT) (K : Nat → Nat → Int) (r : Nat → Option Nat) (p : Int) (hp : -2147483648 ≤ p ∧ p < 2147483648) (K1 : Nat → Nat → Int) (hc : CtX G yX5_send mX5_send [rf G 0, .int (iI p)] 28 false (HP G K r) 1 6 "java/lang/IllegalStateException" (HP G K1 r)) : CtH G yL_send mL_send [rf G 0, .int (iI p)] 28 false (HP G K r) 1 6 (some (.int (iI (-2000002)))) 28 false (HP G K1 r) := by
  refine CtH_of kL_send (by decide) [some (rf G 0), some (.int (iI p)), none] rfl (Nat.le_of_ble_eq_true rfl) ?_
  intro x C hZ
  have hh : ∀ a : Nat, V G mL_send x 10 [some (rf G 0), some (.int (iI p)), none] [.ref a] 28 false (HP G K1 r) 0 0 := by
    intro a
    refine V_astore_n (q := a) C dL_send_10 rfl (Nat.le_of_ble_eq_true rfl) rfl ?_
    refine V_ldc (n := -2000002) C dL_send_11 qL_20 (by decide) ?_
    exact V_iret C dL_send_13 rfl hZ rfl rfl
  have hx := VX_catch (E := "java/lang/IllegalStateException") (pc := 2) (st := []) (kc := 0) (ks := 0) C [(0, 5, 6, 18)] (0, 5, 10, 24) [] rfl (fun z hz => by
    obtain rfl := List.mem_singleton.mp hz
    exact ⟨"java/lang/IllegalArgumentException", by decide, nL_18, by decide +kernel⟩) ⟨by decide, by decide⟩ (by decide) nL_24 (by decide +kernel) hh
  refine V_aload_n C dL_send_0 rfl rfl ?_
  refine V_iload_n C dL_send_1 rfl rfl ?_
  exact V_VX (k2 := 0) (s2 := 0) C dL_send_2 lL_38 kX5_send (hc) (by decide) (rfl) rfl rfl rfl ⟨Nat.le_of_ble_eq_true rfl, Nat.le_of_ble_eq_true rfl⟩ (Nat.le_of_ble_eq_true rfl) (by omega) (by omega) (hx)
set_option maxRecDepth 100000 in
set_option maxHeartbeats 4000000 in
theorem h_L_turn (G : GT) (K : Nat → Nat → Int) (r : Nat → Option Nat) (p : Int) (hp : -2147483648 ≤ p ∧ p < 2147483648) (v : Int) (K1 : Nat → Nat → Int) (r1 : Nat → Option Nat) (hc : CtO G yX5_turn mX5_turn [rf G 0, .int (iI p)] K r (some (.int (iI v))) K1 r1) : CtH G yL_turn mL_turn [rf G 0, .int (iI p)] 28 false (HP G K r) 0 0 (some (.int (iI v))) 28 false (HP G K1 r1) := by
  refine CtH_of kL_turn (by decide) [some (rf G 0), some (.int (iI p)), none] rfl (Nat.le_of_ble_eq_true rfl) ?_
  intro x C hZ
  refine V_aload_n C dL_turn_0 rfl rfl ?_
  refine V_iload_n C dL_turn_1 rfl rfl ?_
  refine V_V1 (k2 := 0) (s2 := 0) C dL_turn_2 lL_41 kX5_turn (hc) (by decide) (rfl) rfl rfl rfl ⟨Nat.le_of_ble_eq_true rfl, Nat.le_of_ble_eq_true rfl⟩ (Nat.le_of_ble_eq_true rfl) (Nat.le_refl _) (Nat.le_refl _) ?_
  exact V_iret C dL_turn_5 rfl hZ rfl rfl
set_option maxRecDepth 100000 in
set_option maxHeartbeats 4000000 in
theorem e1_L_turn (G : GT) (K : Nat → Nat → Int) (r : Nat → Option Nat) (p : Int) (hp : -2147483648 ≤ p ∧ p < 2147483648) (K1 : Nat → Nat → Int) (hc : CtX G yX5_turn mX5_turn [rf G 0, .int (iI p)] 28 false (HP G K r) 1 6 "java/lang/IndexOutOfBoundsException" (HP G K1 r)) : CtH G yL_turn mL_turn [rf G 0, .int (iI p)] 28 false (HP G K r) 1 6 (some (.int (iI (-2000001)))) 28 false (HP G K1 r) := by
  refine CtH_of kL_turn (by decide) [some (rf G 0), some (.int (iI p)), none] rfl (Nat.le_of_ble_eq_true rfl) ?_
  intro x C hZ
  have hh : ∀ a : Nat, V G mL_turn x 6 [some (rf G 0), some (.int (iI p)), none] [.ref a] 28 false (HP G K1 r) 0 0 := by
    intro a
    refine V_astore_n (q := a) C dL_turn_6 rfl (Nat.le_of_ble_eq_true rfl) rfl ?_
    refine V_ldc (n := -2000001) C dL_turn_7 qL_17 (by decide) ?_
    exact V_iret C dL_turn_9 rfl hZ rfl rfl
  have hx := VX_catch (E := "java/lang/IndexOutOfBoundsException") (pc := 2) (st := []) (kc := 0) (ks := 0) C [] (0, 5, 6, 15) [] rfl (fun z hz => by cases hz) ⟨by decide, by decide⟩ (by decide) nL_15 (by decide +kernel) hh
  refine V_aload_n C dL_turn_0 rfl rfl ?_
  refine V_iload_n C dL_turn_1 rfl rfl ?_
  exact V_VX (k2 := 0) (s2 := 0) C dL_turn_2 lL_41 kX5_turn (hc) (by decide) (rfl) rfl rfl rfl ⟨Nat.le_of_ble_eq_true rfl, Nat.le_of_ble_eq_true rfl⟩ (Nat.le_of_ble_eq_true rfl) (by omega) (by omega) (hx)
set_option maxRecDepth 100000 in
set_option maxHeartbeats 4000000 in
theorem h_L_cut (G : GT) (K : Nat → Nat → Int) (r : Nat → Option Nat) (p : Int) (hp : -2147483648 ≤ p ∧ p < 2147483648) (v : Int) (K1 : Nat → Nat → Int) (r1 : Nat → Option Nat) (hc : CtO G yX5_cut mX5_cut [rf G 0, .int (iI p)] K r (some (.int (iI v))) K1 r1) : CtH G yL_cut mL_cut [rf G 0, .int (iI p)] 28 false (HP G K r) 0 0 (some (.int (iI v))) 28 false (HP G K1 r1) := by
  refine CtH_of kL_cut (by decide) [some (rf G 0), some (.int (iI p)), none] rfl (Nat.le_of_ble_eq_true rfl) ?_
  intro x C hZ
  refine V_aload_n C dL_cut_0 rfl rfl ?_
  refine V_iload_n C dL_cut_1 rfl rfl ?_
  refine V_V1 (k2 := 0) (s2 := 0) C dL_cut_2 lL_44 kX5_cut (hc) (by decide) (rfl) rfl rfl rfl ⟨Nat.le_of_ble_eq_true rfl, Nat.le_of_ble_eq_true rfl⟩ (Nat.le_of_ble_eq_true rfl) (Nat.le_refl _) (Nat.le_refl _) ?_
  exact V_iret C dL_cut_5 rfl hZ rfl rfl
set_option maxRecDepth 100000 in
set_option maxHeartbeats 4000000 in
theorem e1_L_cut (G : GT) (K : Nat → Nat → Int) (r : Nat → Option Nat) (p : Int) (hp : -2147483648 ≤ p ∧ p < 2147483648) (K1 : Nat → Nat → Int) (hc : CtX G yX5_cut mX5_cut [rf G 0, .int (iI p)] 28 false (HP G K r) 1 6 "java/lang/IllegalArgumentException" (HP G K1 r)) : CtH G yL_cut mL_cut [rf G 0, .int (iI p)] 28 false (HP G K r) 1 6 (some (.int (iI (-2000001)))) 28 false (HP G K1 r) := by
  refine CtH_of kL_cut (by decide) [some (rf G 0), some (.int (iI p)), none] rfl (Nat.le_of_ble_eq_true rfl) ?_
  intro x C hZ
  have hh : ∀ a : Nat, V G mL_cut x 6 [some (rf G 0), some (.int (iI p)), none] [.ref a] 28 false (HP G K1 r) 0 0 := by
    intro a
    refine V_astore_n (q := a) C dL_cut_6 rfl (Nat.le_of_ble_eq_true rfl) rfl ?_
    refine V_ldc (n := -2000001) C dL_cut_7 qL_17 (by decide) ?_
    exact V_iret C dL_cut_9 rfl hZ rfl rfl
  have hx := VX_catch (E := "java/lang/IllegalArgumentException") (pc := 2) (st := []) (kc := 0) (ks := 0) C [] (0, 5, 6, 18) [(0, 5, 10, 24)] rfl (fun z hz => by cases hz) ⟨by decide, by decide⟩ (by decide) nL_18 (by decide +kernel) hh
  refine V_aload_n C dL_cut_0 rfl rfl ?_
  refine V_iload_n C dL_cut_1 rfl rfl ?_
  exact V_VX (k2 := 0) (s2 := 0) C dL_cut_2 lL_44 kX5_cut (hc) (by decide) (rfl) rfl rfl rfl ⟨Nat.le_of_ble_eq_true rfl, Nat.le_of_ble_eq_true rfl⟩ (Nat.le_of_ble_eq_true rfl) (by omega) (by omega) (hx)
set_option maxRecDepth 100000 in
set_option maxHeartbeats 4000000 in
theorem e2_L_cut (G : GT) (K : Nat → Nat → Int) (r : Nat → Option Nat) (p : Int) (hp : -2147483648 ≤ p ∧ p < 2147483648) (K1 : Nat → Nat → Int) (hc : CtX G yX5_cut mX5_cut [rf G 0, .int (iI p)] 28 false (HP G K r) 1 6 "java/lang/IllegalStateException" (HP G K1 r)) : CtH G yL_cut mL_cut [rf G 0, .int (iI p)] 28 false (HP G K r) 1 6 (some (.int (iI (-2000002)))) 28 false (HP G K1 r) := by
  refine CtH_of kL_cut (by decide) [some (rf G 0), some (.int (iI p)), none] rfl (Nat.le_of_ble_eq_true rfl) ?_
  intro x C hZ
  have hh : ∀ a : Nat, V G mL_cut x 10 [some (rf G 0), some (.int (iI p)), none] [.ref a] 28 false (HP G K1 r) 0 0 := by
    intro a
    refine V_astore_n (q := a) C dL_cut_10 rfl (Nat.le_of_ble_eq_true rfl) rfl ?_
    refine V_ldc (n := -2000002) C dL_cut_11 qL_20 (by decide) ?_
    exact V_iret C dL_cut_13 rfl hZ rfl rfl
  have hx := VX_catch (E := "java/lang/IllegalStateException") (pc := 2) (st := []) (kc := 0) (ks := 0) C [(0, 5, 6, 18)] (0, 5, 10, 24) [] rfl (fun z hz => by
    obtain rfl := List.mem_singleton.mp hz
    exact ⟨"java/lang/IllegalArgumentException", by decide, nL_18, by decide +kernel⟩) ⟨by decide, by decide⟩ (by decide) nL_24 (by decide +kernel) hh
  refine V_aload_n C dL_cut_0 rfl rfl ?_
  refine V_iload_n C dL_cut_1 rfl rfl ?_
  exact V_VX (k2 := 0) (s2 := 0) C dL_cut_2 lL_44 kX5_cut (hc) (by decide) (rfl) rfl rfl rfl ⟨Nat.le_of_ble_eq_true rfl, Nat.le_of_ble_eq_true rfl⟩ (Nat.le_of_ble_eq_true rfl) (by omega) (by omega) (hx)
set_option maxRecDepth 100000 in
set_option maxHeartbeats 4000000 in
theorem h_L_append (G : GT) (K : Nat → Nat → Int) (r : Nat → Option Nat) (p : Int) (hp : -2147483648 ≤ p ∧ p < 2147483648) (v : Int) (K1 : Nat → Nat → Int) (r1 : Nat → Option Nat) (hc : CtO G yX5_append mX5_append [rf G 0, .int (iI p)] K r (some (.int (iI v))) K1 r1) : CtH G yL_append mL_append [rf G 0, .int (iI p)] 28 false (HP G K r) 0 0 (some (.int (iI v))) 28 false (HP G K1 r1) := by
  refine CtH_of kL_append (by decide) [some (rf G 0), some (.int (iI p)), none] rfl (Nat.le_of_ble_eq_true rfl) ?_
  intro x C hZ
  refine V_aload_n C dL_append_0 rfl rfl ?_
  refine V_iload_n C dL_append_1 rfl rfl ?_
  refine V_V1 (k2 := 0) (s2 := 0) C dL_append_2 lL_47 kX5_append (hc) (by decide) (rfl) rfl rfl rfl ⟨Nat.le_of_ble_eq_true rfl, Nat.le_of_ble_eq_true rfl⟩ (Nat.le_of_ble_eq_true rfl) (Nat.le_refl _) (Nat.le_refl _) ?_
  exact V_iret C dL_append_5 rfl hZ rfl rfl
set_option maxRecDepth 100000 in
set_option maxHeartbeats 4000000 in
theorem h_L_work (G : GT) (K : Nat → Nat → Int) (r : Nat → Option Nat)  (v : Int) (K1 : Nat → Nat → Int) (r1 : Nat → Option Nat) (hc : CtO G yX5_work mX5_work [rf G 0] K r (some (.int (iI v))) K1 r1) : CtH G yL_work mL_work [rf G 0] 28 false (HP G K r) 0 0 (some (.int (iI v))) 28 false (HP G K1 r1) := by
  refine CtH_of kL_work (by decide) [some (rf G 0), none] rfl (Nat.le_of_ble_eq_true rfl) ?_
  intro x C hZ
  refine V_aload_n C dL_work_0 rfl rfl ?_
  refine V_V1 (k2 := 0) (s2 := 0) C dL_work_1 lL_50 kX5_work (hc) (by decide) (rfl) rfl rfl rfl ⟨Nat.le_of_ble_eq_true rfl, Nat.le_of_ble_eq_true rfl⟩ (Nat.le_of_ble_eq_true rfl) (Nat.le_refl _) (Nat.le_refl _) ?_
  exact V_iret C dL_work_4 rfl hZ rfl rfl
set_option maxRecDepth 100000 in
set_option maxHeartbeats 4000000 in
theorem e1_L_work (G : GT) (K : Nat → Nat → Int) (r : Nat → Option Nat)  (K1 : Nat → Nat → Int) (hc : CtX G yX5_work mX5_work [rf G 0] 28 false (HP G K r) 1 6 "java/lang/IllegalArgumentException" (HP G K1 r)) : CtH G yL_work mL_work [rf G 0] 28 false (HP G K r) 1 6 (some (.int (iI (-2000001)))) 28 false (HP G K1 r) := by
  refine CtH_of kL_work (by decide) [some (rf G 0), none] rfl (Nat.le_of_ble_eq_true rfl) ?_
  intro x C hZ
  have hh : ∀ a : Nat, V G mL_work x 5 [some (rf G 0), none] [.ref a] 28 false (HP G K1 r) 0 0 := by
    intro a
    refine V_astore_n (q := a) C dL_work_5 rfl (Nat.le_of_ble_eq_true rfl) rfl ?_
    refine V_ldc (n := -2000001) C dL_work_6 qL_17 (by decide) ?_
    exact V_iret C dL_work_8 rfl hZ rfl rfl
  have hx := VX_catch (E := "java/lang/IllegalArgumentException") (pc := 1) (st := []) (kc := 0) (ks := 0) C [] (0, 4, 5, 18) [] rfl (fun z hz => by cases hz) ⟨by decide, by decide⟩ (by decide) nL_18 (by decide +kernel) hh
  refine V_aload_n C dL_work_0 rfl rfl ?_
  exact V_VX (k2 := 0) (s2 := 0) C dL_work_1 lL_50 kX5_work (hc) (by decide) (rfl) rfl rfl rfl ⟨Nat.le_of_ble_eq_true rfl, Nat.le_of_ble_eq_true rfl⟩ (Nat.le_of_ble_eq_true rfl) (by omega) (by omega) (hx)
set_option maxRecDepth 100000 in
set_option maxHeartbeats 4000000 in
theorem h_L_part (G : GT) (K : Nat → Nat → Int) (r : Nat → Option Nat)  (v : Int) (K1 : Nat → Nat → Int) (r1 : Nat → Option Nat) (hc : CtO G yX5_stoppedPart mX5_stoppedPart [rf G 0] K r (some (.int (iI v))) K1 r1) : CtH G yL_part mL_part [rf G 0] 28 false (HP G K r) 0 0 (some (.int (iI v))) 28 false (HP G K1 r1) := by
  refine CtH_of kL_part (by decide) [some (rf G 0), none] rfl (Nat.le_of_ble_eq_true rfl) ?_
  intro x C hZ
  refine V_aload_n C dL_part_0 rfl rfl ?_
  refine V_V1 (k2 := 0) (s2 := 0) C dL_part_1 lL_54 kX5_stoppedPart (hc) (by decide) (rfl) rfl rfl rfl ⟨Nat.le_of_ble_eq_true rfl, Nat.le_of_ble_eq_true rfl⟩ (Nat.le_of_ble_eq_true rfl) (Nat.le_refl _) (Nat.le_refl _) ?_
  exact V_iret C dL_part_4 rfl hZ rfl rfl
set_option maxRecDepth 100000 in
set_option maxHeartbeats 4000000 in
theorem h_L_why (G : GT) (K : Nat → Nat → Int) (r : Nat → Option Nat)  (v : Int) (K1 : Nat → Nat → Int) (r1 : Nat → Option Nat) (hc : CtO G yX5_whyStopped mX5_whyStopped [rf G 0] K r (some (.int (iI v))) K1 r1) : CtH G yL_why mL_why [rf G 0] 28 false (HP G K r) 0 0 (some (.int (iI v))) 28 false (HP G K1 r1) := by
  refine CtH_of kL_why (by decide) [some (rf G 0), none] rfl (Nat.le_of_ble_eq_true rfl) ?_
  intro x C hZ
  refine V_aload_n C dL_why_0 rfl rfl ?_
  refine V_V1 (k2 := 0) (s2 := 0) C dL_why_1 lL_57 kX5_whyStopped (hc) (by decide) (rfl) rfl rfl rfl ⟨Nat.le_of_ble_eq_true rfl, Nat.le_of_ble_eq_true rfl⟩ (Nat.le_of_ble_eq_true rfl) (Nat.le_refl _) (Nat.le_refl _) ?_
  exact V_iret C dL_why_4 rfl hZ rfl rfl
set_option maxRecDepth 100000 in
set_option maxHeartbeats 4000000 in
theorem h_L_undo (G : GT) (K : Nat → Nat → Int) (r : Nat → Option Nat)  (v : Int) (K1 : Nat → Nat → Int) (r1 : Nat → Option Nat) (hc : CtO G yX5_undo mX5_undo [rf G 0] K r (some (.int (iI v))) K1 r1) : CtH G yL_undo mL_undo [rf G 0] 28 false (HP G K r) 0 0 (some (.int (iI v))) 28 false (HP G K1 r1) := by
  refine CtH_of kL_undo (by decide) [some (rf G 0), none] rfl (Nat.le_of_ble_eq_true rfl) ?_
  intro x C hZ
  refine V_aload_n C dL_undo_0 rfl rfl ?_
  refine V_V1 (k2 := 0) (s2 := 0) C dL_undo_1 lL_60 kX5_undo (hc) (by decide) (rfl) rfl rfl rfl ⟨Nat.le_of_ble_eq_true rfl, Nat.le_of_ble_eq_true rfl⟩ (Nat.le_of_ble_eq_true rfl) (Nat.le_refl _) (Nat.le_refl _) ?_
  exact V_iret C dL_undo_4 rfl hZ rfl rfl
set_option maxRecDepth 100000 in
set_option maxHeartbeats 4000000 in
theorem e1_L_undo (G : GT) (K : Nat → Nat → Int) (r : Nat → Option Nat)  (K1 : Nat → Nat → Int) (hc : CtX G yX5_undo mX5_undo [rf G 0] 28 false (HP G K r) 1 6 "java/lang/IllegalStateException" (HP G K1 r)) : CtH G yL_undo mL_undo [rf G 0] 28 false (HP G K r) 1 6 (some (.int (iI (-2000001)))) 28 false (HP G K1 r) := by
  refine CtH_of kL_undo (by decide) [some (rf G 0), none] rfl (Nat.le_of_ble_eq_true rfl) ?_
  intro x C hZ
  have hh : ∀ a : Nat, V G mL_undo x 5 [some (rf G 0), none] [.ref a] 28 false (HP G K1 r) 0 0 := by
    intro a
    refine V_astore_n (q := a) C dL_undo_5 rfl (Nat.le_of_ble_eq_true rfl) rfl ?_
    refine V_ldc (n := -2000001) C dL_undo_6 qL_17 (by decide) ?_
    exact V_iret C dL_undo_8 rfl hZ rfl rfl
  have hx := VX_catch (E := "java/lang/IllegalStateException") (pc := 1) (st := []) (kc := 0) (ks := 0) C [] (0, 4, 5, 24) [] rfl (fun z hz => by cases hz) ⟨by decide, by decide⟩ (by decide) nL_24 (by decide +kernel) hh
  refine V_aload_n C dL_undo_0 rfl rfl ?_
  exact V_VX (k2 := 0) (s2 := 0) C dL_undo_1 lL_60 kX5_undo (hc) (by decide) (rfl) rfl rfl rfl ⟨Nat.le_of_ble_eq_true rfl, Nat.le_of_ble_eq_true rfl⟩ (Nat.le_of_ble_eq_true rfl) (by omega) (by omega) (hx)
set_option maxRecDepth 100000 in
set_option maxHeartbeats 4000000 in
theorem h_L_restore (G : GT) (K : Nat → Nat → Int) (r : Nat → Option Nat)  (v : Int) (K1 : Nat → Nat → Int) (r1 : Nat → Option Nat) (hc : CtO G yX5_restore mX5_restore [rf G 0] K r (some (.int (iI v))) K1 r1) : CtH G yL_restore mL_restore [rf G 0] 28 false (HP G K r) 0 0 (some (.int (iI v))) 28 false (HP G K1 r1) := by
  refine CtH_of kL_restore (by decide) [some (rf G 0), none] rfl (Nat.le_of_ble_eq_true rfl) ?_
  intro x C hZ
  refine V_aload_n C dL_restore_0 rfl rfl ?_
  refine V_V1 (k2 := 0) (s2 := 0) C dL_restore_1 lL_63 kX5_restore (hc) (by decide) (rfl) rfl rfl rfl ⟨Nat.le_of_ble_eq_true rfl, Nat.le_of_ble_eq_true rfl⟩ (Nat.le_of_ble_eq_true rfl) (Nat.le_refl _) (Nat.le_refl _) ?_
  exact V_iret C dL_restore_4 rfl hZ rfl rfl
set_option maxRecDepth 100000 in
set_option maxHeartbeats 4000000 in
theorem e1_L_restore (G : GT) (K : Nat → Nat → Int) (r : Nat → Option Nat)  (K1 : Nat → Nat → Int) (hc : CtX G yX5_restore mX5_restore [rf G 0] 28 false (HP G K r) 1 6 "java/lang/IllegalStateException" (HP G K1 r)) : CtH G yL_restore mL_restore [rf G 0] 28 false (HP G K r) 1 6 (some (.int (iI (-2000001)))) 28 false (HP G K1 r) := by
  refine CtH_of kL_restore (by decide) [some (rf G 0), none] rfl (Nat.le_of_ble_eq_true rfl) ?_
  intro x C hZ
  have hh : ∀ a : Nat, V G mL_restore x 5 [some (rf G 0), none] [.ref a] 28 false (HP G K1 r) 0 0 := by
    intro a
    refine V_astore_n (q := a) C dL_restore_5 rfl (Nat.le_of_ble_eq_true rfl) rfl ?_
    refine V_ldc (n := -2000001) C dL_restore_6 qL_17 (by decide) ?_
    exact V_iret C dL_restore_8 rfl hZ rfl rfl
  have hx := VX_catch (E := "java/lang/IllegalStateException") (pc := 1) (st := []) (kc := 0) (ks := 0) C [] (0, 4, 5, 24) [] rfl (fun z hz => by cases hz) ⟨by decide, by decide⟩ (by decide) nL_24 (by decide +kernel) hh
  refine V_aload_n C dL_restore_0 rfl rfl ?_
  exact V_VX (k2 := 0) (s2 := 0) C dL_restore_1 lL_63 kX5_restore (hc) (by decide) (rfl) rfl rfl rfl ⟨Nat.le_of_ble_eq_true rfl, Nat.le_of_ble_eq_true rfl⟩ (Nat.le_of_ble_eq_true rfl) (by omega) (by omega) (hx)
set_option maxRecDepth 100000 in
set_option maxHeartbeats 4000000 in
theorem h_L_number (G : GT) (K : Nat → Nat → Int) (r : Nat → Option Nat) (p : Int) (hp : -2147483648 ≤ p ∧ p < 2147483648) (v : Int) (K1 : Nat → Nat → Int) (r1 : Nat → Option Nat) (hc : CtO G yX5_numberOf mX5_numberOf [rf G 0, .int (iI p)] K r (some (.int (iI v))) K1 r1) : CtH G yL_number mL_number [rf G 0, .int (iI p)] 28 false (HP G K r) 0 0 (some (.int (iI v))) 28 false (HP G K1 r1) := by
  refine CtH_of kL_number (by decide) [some (rf G 0), some (.int (iI p)), none] rfl (Nat.le_of_ble_eq_true rfl) ?_
  intro x C hZ
  refine V_aload_n C dL_number_0 rfl rfl ?_
  refine V_iload_n C dL_number_1 rfl rfl ?_
  refine V_V1 (k2 := 0) (s2 := 0) C dL_number_2 lL_66 kX5_numberOf (hc) (by decide) (rfl) rfl rfl rfl ⟨Nat.le_of_ble_eq_true rfl, Nat.le_of_ble_eq_true rfl⟩ (Nat.le_of_ble_eq_true rfl) (Nat.le_refl _) (Nat.le_refl _) ?_
  exact V_iret C dL_number_5 rfl hZ rfl rfl
set_option maxRecDepth 100000 in
set_option maxHeartbeats 4000000 in
theorem h_L_stepsOf (G : GT) (K : Nat → Nat → Int) (r : Nat → Option Nat) (p : Int) (hp : -2147483648 ≤ p ∧ p < 2147483648) (v : Int) (K1 : Nat → Nat → Int) (r1 : Nat → Option Nat) (hc : CtO G yX5_stepsOf mX5_stepsOf [rf G 0, .int (iI p)] K r (some (.int (iI v))) K1 r1) : CtH G yL_stepsOf mL_stepsOf [rf G 0, .int (iI p)] 28 false (HP G K r) 0 0 (some (.int (iI v))) 28 false (HP G K1 r1) := by
  refine CtH_of kL_stepsOf (by decide) [some (rf G 0), some (.int (iI p)), none] rfl (Nat.le_of_ble_eq_true rfl) ?_
  intro x C hZ
  refine V_aload_n C dL_stepsOf_0 rfl rfl ?_
  refine V_iload_n C dL_stepsOf_1 rfl rfl ?_
  refine V_V1 (k2 := 0) (s2 := 0) C dL_stepsOf_2 lL_69 kX5_stepsOf (hc) (by decide) (rfl) rfl rfl rfl ⟨Nat.le_of_ble_eq_true rfl, Nat.le_of_ble_eq_true rfl⟩ (Nat.le_of_ble_eq_true rfl) (Nat.le_refl _) (Nat.le_refl _) ?_
  exact V_iret C dL_stepsOf_5 rfl hZ rfl rfl
set_option maxRecDepth 100000 in
set_option maxHeartbeats 4000000 in
theorem h_L_byCarries (G : GT) (K : Nat → Nat → Int) (r : Nat → Option Nat) (p : Int) (hp : -2147483648 ≤ p ∧ p < 2147483648) (q : Int) (hq : -2147483648 ≤ q ∧ q < 2147483648) (v : Int) (K1 : Nat → Nat → Int) (r1 : Nat → Option Nat) (hc : CtO G yX5_sumByCarries mX5_sumByCarries [rf G 0, .int (iI p), .int (iI q)] K r (some (.int (iI v))) K1 r1) : CtH G yL_byCarries mL_byCarries [rf G 0, .int (iI p), .int (iI q)] 28 false (HP G K r) 0 0 (some (.int (iI v))) 28 false (HP G K1 r1) := by
  refine CtH_of kL_byCarries (by decide) [some (rf G 0), some (.int (iI p)), some (.int (iI q)), none] rfl (Nat.le_of_ble_eq_true rfl) ?_
  intro x C hZ
  refine V_aload_n C dL_byCarries_0 rfl rfl ?_
  refine V_iload_n C dL_byCarries_1 rfl rfl ?_
  refine V_iload_n C dL_byCarries_2 rfl rfl ?_
  refine V_V1 (k2 := 0) (s2 := 0) C dL_byCarries_3 lL_72 kX5_sumByCarries (hc) (by decide) (rfl) rfl rfl rfl ⟨Nat.le_of_ble_eq_true rfl, Nat.le_of_ble_eq_true rfl⟩ (Nat.le_of_ble_eq_true rfl) (Nat.le_refl _) (Nat.le_refl _) ?_
  exact V_iret C dL_byCarries_6 rfl hZ rfl rfl
set_option maxRecDepth 100000 in
set_option maxHeartbeats 4000000 in
theorem h_L_carries (G : GT) (K : Nat → Nat → Int) (r : Nat → Option Nat) (p : Int) (hp : -2147483648 ≤ p ∧ p < 2147483648) (q : Int) (hq : -2147483648 ≤ q ∧ q < 2147483648) (v : Int) (K1 : Nat → Nat → Int) (r1 : Nat → Option Nat) (hc : CtO G yX5_carries mX5_carries [rf G 0, .int (iI p), .int (iI q)] K r (some (.int (iI v))) K1 r1) : CtH G yL_carries mL_carries [rf G 0, .int (iI p), .int (iI q)] 28 false (HP G K r) 0 0 (some (.int (iI v))) 28 false (HP G K1 r1) := by
  refine CtH_of kL_carries (by decide) [some (rf G 0), some (.int (iI p)), some (.int (iI q)), none] rfl (Nat.le_of_ble_eq_true rfl) ?_
  intro x C hZ
  refine V_aload_n C dL_carries_0 rfl rfl ?_
  refine V_iload_n C dL_carries_1 rfl rfl ?_
  refine V_iload_n C dL_carries_2 rfl rfl ?_
  refine V_V1 (k2 := 0) (s2 := 0) C dL_carries_3 lL_75 kX5_carries (hc) (by decide) (rfl) rfl rfl rfl ⟨Nat.le_of_ble_eq_true rfl, Nat.le_of_ble_eq_true rfl⟩ (Nat.le_of_ble_eq_true rfl) (Nat.le_refl _) (Nat.le_refl _) ?_
  exact V_iret C dL_carries_6 rfl hZ rfl rfl
set_option maxRecDepth 100000 in
set_option maxHeartbeats 4000000 in
theorem h_L_digit (G : GT) (K : Nat → Nat → Int) (r : Nat → Option Nat) (p : Int) (hp : -2147483648 ≤ p ∧ p < 2147483648) (v : Int) (K1 : Nat → Nat → Int) (r1 : Nat → Option Nat) (hc : CtO G yX5_digitAt mX5_digitAt [rf G 0, .int (iI p)] K r (some (.int (iI v))) K1 r1) : CtH G yL_digit mL_digit [rf G 0, .int (iI p)] 28 false (HP G K r) 0 0 (some (.int (iI v))) 28 false (HP G K1 r1) := by
  refine CtH_of kL_digit (by decide) [some (rf G 0), some (.int (iI p)), none] rfl (Nat.le_of_ble_eq_true rfl) ?_
  intro x C hZ
  refine V_aload_n C dL_digit_0 rfl rfl ?_
  refine V_iload_n C dL_digit_1 rfl rfl ?_
  refine V_V1 (k2 := 0) (s2 := 0) C dL_digit_2 lL_78 kX5_digitAt (hc) (by decide) (rfl) rfl rfl rfl ⟨Nat.le_of_ble_eq_true rfl, Nat.le_of_ble_eq_true rfl⟩ (Nat.le_of_ble_eq_true rfl) (Nat.le_refl _) (Nat.le_refl _) ?_
  exact V_iret C dL_digit_5 rfl hZ rfl rfl
set_option maxRecDepth 100000 in
set_option maxHeartbeats 4000000 in
theorem h_L_readAt (G : GT) (K : Nat → Nat → Int) (r : Nat → Option Nat) (p : Int) (hp : -2147483648 ≤ p ∧ p < 2147483648) (v : Int) (K1 : Nat → Nat → Int) (r1 : Nat → Option Nat) (hc : CtO G yX5_readAt mX5_readAt [rf G 0, .int (iI p)] K r (some (.int (iI v))) K1 r1) : CtH G yL_readAt mL_readAt [rf G 0, .int (iI p)] 28 false (HP G K r) 0 0 (some (.int (iI v))) 28 false (HP G K1 r1) := by
  refine CtH_of kL_readAt (by decide) [some (rf G 0), some (.int (iI p)), none] rfl (Nat.le_of_ble_eq_true rfl) ?_
  intro x C hZ
  refine V_aload_n C dL_readAt_0 rfl rfl ?_
  refine V_iload_n C dL_readAt_1 rfl rfl ?_
  refine V_V1 (k2 := 0) (s2 := 0) C dL_readAt_2 lL_81 kX5_readAt (hc) (by decide) (rfl) rfl rfl rfl ⟨Nat.le_of_ble_eq_true rfl, Nat.le_of_ble_eq_true rfl⟩ (Nat.le_of_ble_eq_true rfl) (Nat.le_refl _) (Nat.le_refl _) ?_
  exact V_iret C dL_readAt_5 rfl hZ rfl rfl
set_option maxRecDepth 100000 in
set_option maxHeartbeats 4000000 in
theorem h_L_worthOfSet (G : GT) (K : Nat → Nat → Int) (r : Nat → Option Nat) (p : Int) (hp : -2147483648 ≤ p ∧ p < 2147483648) (v : Int) (K1 : Nat → Nat → Int) (r1 : Nat → Option Nat) (hc : CtO G yX5_worthOfSet mX5_worthOfSet [rf G 0, .int (iI p)] K r (some (.int (iI v))) K1 r1) : CtH G yL_worthOfSet mL_worthOfSet [rf G 0, .int (iI p)] 28 false (HP G K r) 0 0 (some (.int (iI v))) 28 false (HP G K1 r1) := by
  refine CtH_of kL_worthOfSet (by decide) [some (rf G 0), some (.int (iI p)), none] rfl (Nat.le_of_ble_eq_true rfl) ?_
  intro x C hZ
  refine V_aload_n C dL_worthOfSet_0 rfl rfl ?_
  refine V_iload_n C dL_worthOfSet_1 rfl rfl ?_
  refine V_V1 (k2 := 0) (s2 := 0) C dL_worthOfSet_2 lL_90 kX5_worthOfSet (hc) (by decide) (rfl) rfl rfl rfl ⟨Nat.le_of_ble_eq_true rfl, Nat.le_of_ble_eq_true rfl⟩ (Nat.le_of_ble_eq_true rfl) (Nat.le_refl _) (Nat.le_refl _) ?_
  exact V_iret C dL_worthOfSet_5 rfl hZ rfl rfl
set_option maxRecDepth 100000 in
set_option maxHeartbeats 4000000 in
theorem h_L_say (G : GT) (K : Nat → Nat → Int) (r : Nat → Option Nat) (p : Int) (hp : -2147483648 ≤ p ∧ p < 2147483648) (v : Int) (K1 : Nat → Nat → Int) (r1 : Nat → Option Nat) (hc : CtO G yX5_say mX5_say [rf G 0, .int (iI p)] K r (some (.int (iI v))) K1 r1) : CtH G yL_say mL_say [rf G 0, .int (iI p)] 28 false (HP G K r) 0 0 (some (.int (iI v))) 28 false (HP G K1 r1) := by
  refine CtH_of kL_say (by decide) [some (rf G 0), some (.int (iI p)), none] rfl (Nat.le_of_ble_eq_true rfl) ?_
  intro x C hZ
  refine V_aload_n C dL_say_0 rfl rfl ?_
  refine V_iload_n C dL_say_1 rfl rfl ?_
  refine V_V1 (k2 := 0) (s2 := 0) C dL_say_2 lL_93 kX5_say (hc) (by decide) (rfl) rfl rfl rfl ⟨Nat.le_of_ble_eq_true rfl, Nat.le_of_ble_eq_true rfl⟩ (Nat.le_of_ble_eq_true rfl) (Nat.le_refl _) (Nat.le_refl _) ?_
  exact V_iret C dL_say_5 rfl hZ rfl rfl
set_option maxRecDepth 100000 in
set_option maxHeartbeats 4000000 in
theorem h_L_counting (G : GT) (K : Nat → Nat → Int) (r : Nat → Option Nat) (p : Int) (hp : -2147483648 ≤ p ∧ p < 2147483648) (v : Int) (K1 : Nat → Nat → Int) (r1 : Nat → Option Nat) (hc : CtO G yX5_sayByCounting mX5_sayByCounting [rf G 0, .int (iI p)] K r (some (.int (iI v))) K1 r1) : CtH G yL_counting mL_counting [rf G 0, .int (iI p)] 28 false (HP G K r) 0 0 (some (.int (iI v))) 28 false (HP G K1 r1) := by
  refine CtH_of kL_counting (by decide) [some (rf G 0), some (.int (iI p)), none] rfl (Nat.le_of_ble_eq_true rfl) ?_
  intro x C hZ
  refine V_aload_n C dL_counting_0 rfl rfl ?_
  refine V_iload_n C dL_counting_1 rfl rfl ?_
  refine V_V1 (k2 := 0) (s2 := 0) C dL_counting_2 lL_96 kX5_sayByCounting (hc) (by decide) (rfl) rfl rfl rfl ⟨Nat.le_of_ble_eq_true rfl, Nat.le_of_ble_eq_true rfl⟩ (Nat.le_of_ble_eq_true rfl) (Nat.le_refl _) (Nat.le_refl _) ?_
  exact V_iret C dL_counting_5 rfl hZ rfl rfl
set_option maxRecDepth 100000 in
set_option maxHeartbeats 4000000 in
theorem h_L_full (G : GT) (K : Nat → Nat → Int) (r : Nat → Option Nat) (p : Int) (hp : -2147483648 ≤ p ∧ p < 2147483648) (v : Int) (K1 : Nat → Nat → Int) (r1 : Nat → Option Nat) (hc : CtO G yX5_fullSet mX5_fullSet [rf G 0, .int (iI p)] K r (some (.int (iI v))) K1 r1) : CtH G yL_full mL_full [rf G 0, .int (iI p)] 28 false (HP G K r) 0 0 (some (.int (iI v))) 28 false (HP G K1 r1) := by
  refine CtH_of kL_full (by decide) [some (rf G 0), some (.int (iI p)), none] rfl (Nat.le_of_ble_eq_true rfl) ?_
  intro x C hZ
  refine V_aload_n C dL_full_0 rfl rfl ?_
  refine V_iload_n C dL_full_1 rfl rfl ?_
  refine V_V1 (k2 := 0) (s2 := 0) C dL_full_2 lL_99 kX5_fullSet (hc) (by decide) (rfl) rfl rfl rfl ⟨Nat.le_of_ble_eq_true rfl, Nat.le_of_ble_eq_true rfl⟩ (Nat.le_of_ble_eq_true rfl) (Nat.le_refl _) (Nat.le_refl _) ?_
  exact V_iret C dL_full_5 rfl hZ rfl rfl
set_option maxRecDepth 100000 in
set_option maxHeartbeats 4000000 in
theorem h_L_ways (G : GT) (K : Nat → Nat → Int) (r : Nat → Option Nat) (p : Int) (hp : -2147483648 ≤ p ∧ p < 2147483648) (v : Int) (K1 : Nat → Nat → Int) (r1 : Nat → Option Nat) (hc : CtO G yX5_ways mX5_ways [rf G 0, .int (iI p)] K r (some (.int (iI v))) K1 r1) : CtH G yL_ways mL_ways [rf G 0, .int (iI p)] 28 false (HP G K r) 0 0 (some (.int (iI v))) 28 false (HP G K1 r1) := by
  refine CtH_of kL_ways (by decide) [some (rf G 0), some (.int (iI p)), none] rfl (Nat.le_of_ble_eq_true rfl) ?_
  intro x C hZ
  refine V_aload_n C dL_ways_0 rfl rfl ?_
  refine V_iload_n C dL_ways_1 rfl rfl ?_
  refine V_V1 (k2 := 0) (s2 := 0) C dL_ways_2 lL_102 kX5_ways (hc) (by decide) (rfl) rfl rfl rfl ⟨Nat.le_of_ble_eq_true rfl, Nat.le_of_ble_eq_true rfl⟩ (Nat.le_of_ble_eq_true rfl) (Nat.le_refl _) (Nat.le_refl _) ?_
  exact V_iret C dL_ways_5 rfl hZ rfl rfl
set_option maxRecDepth 100000 in
set_option maxHeartbeats 4000000 in
theorem h_L_gaps (G : GT) (K : Nat → Nat → Int) (r : Nat → Option Nat) (p : Int) (hp : -2147483648 ≤ p ∧ p < 2147483648) (v : Int) (K1 : Nat → Nat → Int) (r1 : Nat → Option Nat) (hc : CtO G yX5_waysByGaps mX5_waysByGaps [rf G 0, .int (iI p)] K r (some (.int (iI v))) K1 r1) : CtH G yL_gaps mL_gaps [rf G 0, .int (iI p)] 28 false (HP G K r) 0 0 (some (.int (iI v))) 28 false (HP G K1 r1) := by
  refine CtH_of kL_gaps (by decide) [some (rf G 0), some (.int (iI p)), none] rfl (Nat.le_of_ble_eq_true rfl) ?_
  intro x C hZ
  refine V_aload_n C dL_gaps_0 rfl rfl ?_
  refine V_iload_n C dL_gaps_1 rfl rfl ?_
  refine V_V1 (k2 := 0) (s2 := 0) C dL_gaps_2 lL_105 kX5_waysByGaps (hc) (by decide) (rfl) rfl rfl rfl ⟨Nat.le_of_ble_eq_true rfl, Nat.le_of_ble_eq_true rfl⟩ (Nat.le_of_ble_eq_true rfl) (Nat.le_refl _) (Nat.le_refl _) ?_
  exact V_iret C dL_gaps_5 rfl hZ rfl rfl
set_option maxRecDepth 100000 in
set_option maxHeartbeats 4000000 in
theorem h_L_length (G : GT) (K : Nat → Nat → Int) (r : Nat → Option Nat) (p : Int) (hp : -2147483648 ≤ p ∧ p < 2147483648) (q : Int) (hq : -2147483648 ≤ q ∧ q < 2147483648) (v : Int) (K1 : Nat → Nat → Int) (r1 : Nat → Option Nat) (hc : CtO G yX5_spokenLength mX5_spokenLength [rf G 0, .int (iI p), .int (iI q)] K r (some (.int (iI v))) K1 r1) : CtH G yL_length mL_length [rf G 0, .int (iI p), .int (iI q)] 28 false (HP G K r) 0 0 (some (.int (iI v))) 28 false (HP G K1 r1) := by
  refine CtH_of kL_length (by decide) [some (rf G 0), some (.int (iI p)), some (.int (iI q)), none] rfl (Nat.le_of_ble_eq_true rfl) ?_
  intro x C hZ
  refine V_aload_n C dL_length_0 rfl rfl ?_
  refine V_iload_n C dL_length_1 rfl rfl ?_
  refine V_iload_n C dL_length_2 rfl rfl ?_
  refine V_V1 (k2 := 0) (s2 := 0) C dL_length_3 lL_108 kX5_spokenLength (hc) (by decide) (rfl) rfl rfl rfl ⟨Nat.le_of_ble_eq_true rfl, Nat.le_of_ble_eq_true rfl⟩ (Nat.le_of_ble_eq_true rfl) (Nat.le_refl _) (Nat.le_refl _) ?_
  exact V_iret C dL_length_6 rfl hZ rfl rfl
set_option maxRecDepth 100000 in
set_option maxHeartbeats 4000000 in
theorem h_L_word (G : GT) (K : Nat → Nat → Int) (r : Nat → Option Nat) (p : Int) (hp : -2147483648 ≤ p ∧ p < 2147483648) (q : Int) (hq : -2147483648 ≤ q ∧ q < 2147483648) (u : Int) (hu : -2147483648 ≤ u ∧ u < 2147483648) (v : Int) (K1 : Nat → Nat → Int) (r1 : Nat → Option Nat) (hc : CtO G yX5_spokenAt mX5_spokenAt [rf G 0, .int (iI p), .int (iI q), .int (iI u)] K r (some (.int (iI v))) K1 r1) : CtH G yL_word mL_word [rf G 0, .int (iI p), .int (iI q), .int (iI u)] 28 false (HP G K r) 0 0 (some (.int (iI v))) 28 false (HP G K1 r1) := by
  refine CtH_of kL_word (by decide) [some (rf G 0), some (.int (iI p)), some (.int (iI q)), some (.int (iI u)), none] rfl (Nat.le_of_ble_eq_true rfl) ?_
  intro x C hZ
  refine V_aload_n C dL_word_0 rfl rfl ?_
  refine V_iload_n C dL_word_1 rfl rfl ?_
  refine V_iload_n C dL_word_2 rfl rfl ?_
  refine V_iload_n C dL_word_3 rfl rfl ?_
  refine V_V1 (k2 := 0) (s2 := 0) C dL_word_4 lL_111 kX5_spokenAt (hc) (by decide) (rfl) rfl rfl rfl ⟨Nat.le_of_ble_eq_true rfl, Nat.le_of_ble_eq_true rfl⟩ (Nat.le_of_ble_eq_true rfl) (Nat.le_refl _) (Nat.le_refl _) ?_
  exact V_iret C dL_word_7 rfl hZ rfl rfl
set_option maxRecDepth 100000 in
set_option maxHeartbeats 4000000 in
theorem h_L_code (G : GT) (K : Nat → Nat → Int) (r : Nat → Option Nat) (p : Int) (hp : -2147483648 ≤ p ∧ p < 2147483648) (v : Int) (K1 : Nat → Nat → Int) (r1 : Nat → Option Nat) (hc : CtO G yX5_codeLength mX5_codeLength [rf G 0, .int (iI p)] K r (some (.int (iI v))) K1 r1) : CtH G yL_code mL_code [rf G 0, .int (iI p)] 28 false (HP G K r) 0 0 (some (.int (iI v))) 28 false (HP G K1 r1) := by
  refine CtH_of kL_code (by decide) [some (rf G 0), some (.int (iI p)), none] rfl (Nat.le_of_ble_eq_true rfl) ?_
  intro x C hZ
  refine V_aload_n C dL_code_0 rfl rfl ?_
  refine V_iload_n C dL_code_1 rfl rfl ?_
  refine V_V1 (k2 := 0) (s2 := 0) C dL_code_2 lL_114 kX5_codeLength (hc) (by decide) (rfl) rfl rfl rfl ⟨Nat.le_of_ble_eq_true rfl, Nat.le_of_ble_eq_true rfl⟩ (Nat.le_of_ble_eq_true rfl) (Nat.le_refl _) (Nat.le_refl _) ?_
  exact V_iret C dL_code_5 rfl hZ rfl rfl
set_option maxRecDepth 100000 in
set_option maxHeartbeats 4000000 in
theorem g_number (G : GT) (K : Nat → Nat → Int) (r : Nat → Option Nat) (s : Nat → Int) (st : Nat) (kp : Int) (t : Nat → Int) (T : Nat) (h : IC K r s st kp t T) (hg : GI s st kp t T) (k : Nat) (hk : k ≤ 5) (v : Int) (hv : s k = v) : OkH G yL_number mL_number [rf G 0, .int (iI ((k : Int)))] K r (.int (iI (v))) s st kp t T := by
  subst hv
  obtain ⟨K1, r1, hc, hI, -⟩ := o_X5_numberOf G K r s st kp t T h hg ((k : Int)) (by omega) (by omega)
  exact ⟨K1, r1, h_L_number G K r ((k : Int)) (by omega) _ K1 r1 hc, hI⟩
set_option maxRecDepth 100000 in
set_option maxHeartbeats 4000000 in
theorem g_say (G : GT) (K : Nat → Nat → Int) (r : Nat → Option Nat) (s : Nat → Int) (st : Nat) (kp : Int) (t : Nat → Int) (T : Nat) (h : IC K r s st kp t T) (hg : GI s st kp t T) (n : Nat) (hn : n ≤ 6764) : OkH G yL_say mL_say [rf G 0, .int (iI ((n : Int)))] K r (.int (iI ((gm 18 n : Nat)))) s st kp t T := by
  obtain ⟨K1, r1, hc, hI, -⟩ := o_X5_say G K r s st kp t T h hg ((n : Int)) (by omega) (by omega)
  exact ⟨K1, r1, h_L_say G K r ((n : Int)) (by omega) _ K1 r1 hc, hI⟩
set_option maxRecDepth 100000 in
set_option maxHeartbeats 4000000 in
theorem g_counting (G : GT) (K : Nat → Nat → Int) (r : Nat → Option Nat) (s : Nat → Int) (st : Nat) (kp : Int) (t : Nat → Int) (T : Nat) (h : IC K r s st kp t T) (hg : GI s st kp t T) (n : Nat) (hn : n ≤ 6764) : OkH G yL_counting mL_counting [rf G 0, .int (iI ((n : Int)))] K r (.int (iI ((gm 18 n : Nat)))) s st kp t T := by
  obtain ⟨K1, r1, hc, hI, -⟩ := o_X5_sayByCounting G K r s st kp t T h hg ((n : Int)) (by omega) (by omega)
  exact ⟨K1, r1, h_L_counting G K r ((n : Int)) (by omega) _ K1 r1 hc, hI⟩
set_option maxRecDepth 100000 in
set_option maxHeartbeats 4000000 in
theorem g_full (G : GT) (K : Nat → Nat → Int) (r : Nat → Option Nat) (s : Nat → Int) (st : Nat) (kp : Int) (t : Nat → Int) (T : Nat) (h : IC K r s st kp t T) (hg : GI s st kp t T) (n : Nat) (hn : n ≤ 6764) : OkH G yL_full mL_full [rf G 0, .int (iI ((n : Int)))] K r (.int (iI ((fm 18 n : Nat)))) s st kp t T := by
  obtain ⟨K1, r1, hc, hI, -⟩ := o_X5_fullSet G K r s st kp t T h hg ((n : Int)) (by omega) (by omega)
  exact ⟨K1, r1, h_L_full G K r ((n : Int)) (by omega) _ K1 r1 hc, hI⟩
set_option maxRecDepth 100000 in
set_option maxHeartbeats 4000000 in
theorem g_ways (G : GT) (K : Nat → Nat → Int) (r : Nat → Option Nat) (s : Nat → Int) (st : Nat) (kp : Int) (t : Nat → Int) (T : Nat) (h : IC K r s st kp t T) (hg : GI s st kp t T) (n : Nat) (hn : n ≤ 6764) : OkH G yL_ways mL_ways [rf G 0, .int (iI ((n : Int)))] K r (.int (iI (cw (gm 18 n)))) s st kp t T := by
  obtain ⟨K1, r1, hc, hI, -⟩ := o_X5_ways G K r s st kp t T h hg ((n : Int)) (by omega) (by omega)
  exact ⟨K1, r1, h_L_ways G K r ((n : Int)) (by omega) _ K1 r1 hc, hI⟩
set_option maxRecDepth 100000 in
set_option maxHeartbeats 4000000 in
theorem g_gaps (G : GT) (K : Nat → Nat → Int) (r : Nat → Option Nat) (s : Nat → Int) (st : Nat) (kp : Int) (t : Nat → Int) (T : Nat) (h : IC K r s st kp t T) (hg : GI s st kp t T) (n : Nat) (hn : n ≤ 6764) : OkH G yL_gaps mL_gaps [rf G 0, .int (iI ((n : Int)))] K r (.int (iI (cw (gm 18 n)))) s st kp t T := by
  obtain ⟨K1, r1, hc, hI, -⟩ := o_X5_waysByGaps G K r s st kp t T h hg ((n : Int)) (by omega) (by omega)
  exact ⟨K1, r1, h_L_gaps G K r ((n : Int)) (by omega) _ K1 r1 hc, hI⟩
set_option maxRecDepth 100000 in
set_option maxHeartbeats 4000000 in
theorem g_worthOfSet (G : GT) (K : Nat → Nat → Int) (r : Nat → Option Nat) (s : Nat → Int) (st : Nat) (kp : Int) (t : Nat → Int) (T : Nat) (h : IC K r s st kp t T) (hg : GI s st kp t T) (m : Nat) (hm : m < 262144) : OkH G yL_worthOfSet mL_worthOfSet [rf G 0, .int (iI ((m : Int)))] K r (.int (iI ((wo 22 m : Nat)))) s st kp t T := by
  obtain ⟨K1, r1, hc, hI, -⟩ := o_X5_worthOfSet G K r s st kp t T h hg ((m : Int)) (by omega) (by omega)
  exact ⟨K1, r1, h_L_worthOfSet G K r ((m : Int)) (by omega) _ K1 r1 hc, hI⟩
set_option maxRecDepth 100000 in
set_option maxHeartbeats 4000000 in
theorem g_length (G : GT) (K : Nat → Nat → Int) (r : Nat → Option Nat) (s : Nat → Int) (st : Nat) (kp : Int) (t : Nat → Int) (T : Nat) (h : IC K r s st kp t T) (hg : GI s st kp t T) (b : Int) (hb : 0 ≤ b ∧ b ≤ 2) (n : Nat) (hn : n ≤ 6764) : OkH G yL_length mL_length [rf G 0, .int (iI (b)), .int (iI ((n : Int)))] K r (.int (iI ((cn 22 (gm 18 n) : Nat)))) s st kp t T := by
  obtain ⟨K1, r1, hc, hI, -⟩ := o_X5_spokenLength G K r s st kp t T h hg (b) (by omega) ((n : Int)) (by omega) (by omega) (by omega)
  exact ⟨K1, r1, h_L_length G K r (b) (by omega) ((n : Int)) (by omega) _ K1 r1 hc, hI⟩
set_option maxRecDepth 100000 in
set_option maxHeartbeats 4000000 in
theorem g_stepsOf (G : GT) (K : Nat → Nat → Int) (r : Nat → Option Nat) (s : Nat → Int) (st : Nat) (kp : Int) (t : Nat → Int) (T : Nat) (h : IC K r s st kp t T) (hg : GI s st kp t T) (k : Nat) (hk : k ≤ 5) (n : Nat) (hv : s k = n) : OkH G yL_stepsOf mL_stepsOf [rf G 0, .int (iI ((k : Int)))] K r (.int (iI ((cn 22 (gm 18 n) : Nat)))) s st kp t T := by
  have en : n = (s ((k : Int).toNat)).toNat := by rw [tnN, hv]; rfl
  subst en
  obtain ⟨K1, r1, hc, hI, -⟩ := o_X5_stepsOf G K r s st kp t T h hg ((k : Int)) (by omega) (by omega)
  exact ⟨K1, r1, h_L_stepsOf G K r ((k : Int)) (by omega) _ K1 r1 hc, hI⟩
set_option maxRecDepth 100000 in
set_option maxHeartbeats 4000000 in
theorem g_byCarries (G : GT) (K : Nat → Nat → Int) (r : Nat → Option Nat) (s : Nat → Int) (st : Nat) (kp : Int) (t : Nat → Int) (T : Nat) (h : IC K r s st kp t T) (hg : GI s st kp t T) (k : Nat) (hk : k ≤ 5) (j : Nat) (hj : j ≤ 5) (n m : Nat) (hv : s k = n) (hw : s j = m) : OkH G yL_byCarries mL_byCarries [rf G 0, .int (iI ((k : Int))), .int (iI ((j : Int)))] K r (.int (iI ((mkN (adE (gm 18 n) (gm 18 m)) 22 : Nat)))) s st kp t T := by
  have en : n = (s ((k : Int).toNat)).toNat := by rw [tnN, hv]; rfl
  have em : m = (s ((j : Int).toNat)).toNat := by rw [tnN, hw]; rfl
  subst en
  subst em
  obtain ⟨K1, r1, hc, hI, -⟩ := o_X5_sumByCarries G K r s st kp t T h hg ((k : Int)) (by omega) ((j : Int)) (by omega) (by omega)
  exact ⟨K1, r1, h_L_byCarries G K r ((k : Int)) (by omega) ((j : Int)) (by omega) _ K1 r1 hc, hI⟩
set_option maxRecDepth 100000 in
set_option maxHeartbeats 4000000 in
theorem g_carries (G : GT) (K : Nat → Nat → Int) (r : Nat → Option Nat) (s : Nat → Int) (st : Nat) (kp : Int) (t : Nat → Int) (T : Nat) (h : IC K r s st kp t T) (hg : GI s st kp t T) (k : Nat) (hk : k ≤ 5) (j : Nat) (hj : j ≤ 5) (n m : Nat) (hv : s k = n) (hw : s j = m) : OkH G yL_carries mL_carries [rf G 0, .int (iI ((k : Int))), .int (iI ((j : Int)))] K r (.int (iI ((adC (gm 18 n) (gm 18 m) : Nat)))) s st kp t T := by
  have en : n = (s ((k : Int).toNat)).toNat := by rw [tnN, hv]; rfl
  have em : m = (s ((j : Int).toNat)).toNat := by rw [tnN, hw]; rfl
  subst en
  subst em
  obtain ⟨K1, r1, hc, hI, -⟩ := o_X5_carries G K r s st kp t T h hg ((k : Int)) (by omega) ((j : Int)) (by omega) (by omega)
  exact ⟨K1, r1, h_L_carries G K r ((k : Int)) (by omega) ((j : Int)) (by omega) _ K1 r1 hc, hI⟩
set_option maxRecDepth 100000 in
set_option maxHeartbeats 4000000 in
theorem g_word (G : GT) (K : Nat → Nat → Int) (r : Nat → Option Nat) (s : Nat → Int) (st : Nat) (kp : Int) (t : Nat → Int) (T : Nat) (h : IC K r s st kp t T) (hg : GI s st kp t T) (b : Int) (hb : 0 ≤ b ∧ b ≤ 2) (n : Nat) (hn : n ≤ 6764) (p : Nat) (hp : p < cn 22 (gm 18 n)) : OkH G yL_word mL_word [rf G 0, .int (iI (b)), .int (iI ((n : Int))), .int (iI ((p : Int)))] K r (.int (iI (wd (gm 18 n) b p))) s st kp t T := by
  have := cn_le 22 (gm 18 n)
  obtain ⟨K1, r1, hc, hI, -⟩ := o_X5_spokenAt G K r s st kp t T h hg (b) (by omega) ((n : Int)) (by omega) ((p : Int)) (by omega) (by omega) ⟨by omega, by omega, by rw [tnN]; omega⟩
  exact ⟨K1, r1, h_L_word G K r (b) (by omega) ((n : Int)) (by omega) ((p : Int)) (by omega) _ K1 r1 hc, hI⟩
set_option maxRecDepth 100000 in
set_option maxHeartbeats 4000000 in
theorem g_readAt (G : GT) (K : Nat → Nat → Int) (r : Nat → Option Nat) (s : Nat → Int) (st : Nat) (kp : Int) (t : Nat → Int) (T : Nat) (h : IC K r s st kp t T) (hg : GI s st kp t T) (k : Nat) (hk : k < (rdZ s).2.2.2.length) : OkH G yL_readAt mL_readAt [rf G 0, .int (iI ((k : Int)))] K r (.int (iI (((rdZ s).2.2.2.getD k 0 : Nat)))) s st kp t T := by
  have := rdZ_len hg.1
  obtain ⟨K1, r1, hc, hI, -⟩ := o_X5_readAt G K r s st kp t T h hg ((k : Int)) (by omega) ⟨by omega, by omega⟩
  exact ⟨K1, r1, h_L_readAt G K r ((k : Int)) (by omega) _ K1 r1 hc, hI⟩
set_option maxRecDepth 100000 in
set_option maxHeartbeats 4000000 in
theorem g_code (G : GT) (K : Nat → Nat → Int) (r : Nat → Option Nat) (s : Nat → Int) (st : Nat) (kp : Int) (t : Nat → Int) (T : Nat) (h : IC K r s st kp t T) (hg : GI s st kp t T) (n : Nat) (hn : 1 ≤ n ∧ n ≤ 6764) : OkH G yL_code mL_code [rf G 0, .int (iI ((n : Int)))] K r (.int (iI ((cl (n : Int) : Nat)))) s st kp t T := by
  obtain ⟨K1, r1, hc, hI, -⟩ := o_X5_codeLength G K r s st kp t T h hg ((n : Int)) (by omega) (by omega)
  exact ⟨K1, r1, h_L_code G K r ((n : Int)) (by omega) _ K1 r1 hc, hI⟩
set_option maxRecDepth 100000 in
set_option maxHeartbeats 4000000 in
theorem g_digit (G : GT) (K : Nat → Nat → Int) (r : Nat → Option Nat) (s : Nat → Int) (st : Nat) (kp : Int) (t : Nat → Int) (T : Nat) (h : IC K r s st kp t T) (hg : GI s st kp t T) (k : Nat) (hk : (k : Int) < s 6) : OkH G yL_digit mL_digit [rf G 0, .int (iI ((k : Int)))] K r (.int (iI (s (7 + k)))) s st kp t T := by
  have := hg.1.2.1
  obtain ⟨K1, r1, hc, hI, -⟩ := o_X5_digitAt G K r s st kp t T h hg ((k : Int)) (by omega) (by omega)
  exact ⟨K1, r1, h_L_digit G K r ((k : Int)) (by omega) _ K1 r1 hc, hI⟩
set_option maxRecDepth 100000 in
set_option maxHeartbeats 4000000 in
theorem g_part (G : GT) (K : Nat → Nat → Int) (r : Nat → Option Nat) (s : Nat → Int) (st : Nat) (kp : Int) (t : Nat → Int) (T : Nat) (h : IC K r s st kp t T) (hg : GI s st kp t T) (hc : s 71 = 1) : OkH G yL_part mL_part [rf G 0] K r (.int (iI (s 72))) s st kp t T := by
  obtain ⟨K1, r1, hc, hI, -⟩ := o_X5_stoppedPart G K r s st kp t T h hg  hc
  exact ⟨K1, r1, h_L_part G K r  _ K1 r1 hc, hI⟩
set_option maxRecDepth 100000 in
set_option maxHeartbeats 4000000 in
theorem g_why (G : GT) (K : Nat → Nat → Int) (r : Nat → Option Nat) (s : Nat → Int) (st : Nat) (kp : Int) (t : Nat → Int) (T : Nat) (h : IC K r s st kp t T) (hg : GI s st kp t T) (hc : s 71 = 1) : OkH G yL_why mL_why [rf G 0] K r (.int (iI (s 73))) s st kp t T := by
  obtain ⟨K1, r1, hc, hI, -⟩ := o_X5_whyStopped G K r s st kp t T h hg  hc
  exact ⟨K1, r1, h_L_why G K r  _ K1 r1 hc, hI⟩
set_option maxRecDepth 100000 in
set_option maxHeartbeats 4000000 in
theorem g_undo (G : GT) (K : Nat → Nat → Int) (r : Nat → Option Nat) (s : Nat → Int) (st : Nat) (kp : Int) (t : Nat → Int) (T : Nat) (h : IC K r s st kp t T) (hg : GI s st kp t T) (hc : 0 < st) : OkH G yL_undo mL_undo [rf G 0] K r (.int (iI ((st : Int) - 1))) (cpS s st 0 74) (st - 1) kp t T := by
  obtain ⟨K1, r1, hc, hI, -⟩ := o_X5_undo G K r s st kp t T h hg  hc
  exact ⟨K1, r1, h_L_undo G K r  _ K1 r1 hc, hI⟩
set_option maxRecDepth 100000 in
set_option maxHeartbeats 4000000 in
theorem g_restore (G : GT) (K : Nat → Nat → Int) (r : Nat → Option Nat) (s : Nat → Int) (st : Nat) (kp : Int) (t : Nat → Int) (T : Nat) (h : IC K r s st kp t T) (hg : GI s st kp t T) (hc : kp = 1) : OkH G yL_restore mL_restore [rf G 0] K r (.int (iI (su (cpS (svS s st) 6 0 74) 6))) (cpS (svS s st) 6 0 74) (st1 st) kp t T := by
  obtain ⟨K1, r1, hc, hI, -⟩ := o_X5_restore G K r s st kp t T h hg  hc
  exact ⟨K1, r1, h_L_restore G K r  _ K1 r1 hc, hI⟩
set_option maxRecDepth 100000 in
set_option maxHeartbeats 4000000 in
theorem g_append (G : GT) (K : Nat → Nat → Int) (r : Nat → Option Nat) (s : Nat → Int) (st : Nat) (kp : Int) (t : Nat → Int) (T : Nat) (h : IC K r s st kp t T) (hg : GI s st kp t T) (p : Nat) (hc : 33 ≤ p ∧ p ≤ 126) (hd : T < 60) : OkH G yL_append mL_append [rf G 0, .int (iI ((p : Int)))] K r (.int (iI ((T : Int) + 1))) s st kp (us t T (p : Int)) (T + 1) := by
  obtain ⟨K1, r1, hc, hI, -⟩ := o_X5_append G K r s st kp t T h hg ((p : Int)) (by omega) (by omega) hd
  exact ⟨K1, r1, h_L_append G K r ((p : Int)) (by omega) _ K1 r1 hc, hI⟩
