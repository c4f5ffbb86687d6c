theorem CtH_of {G : GT} {y : MethodName} {me : MeT} {np : Nat} {as : List Value} {N N' : Nat} {gf gf' : Bool} {h h' : Hp} {kc ks : Nat} {v : Option Value} (k : YKh y me np) (hini : me.2.2.2.2.2.2.2 = true → y.name = "<init>") (loc : List (Option Value)) (hloc : lvl loc = lv_args 0 as) (hlen : (lg_sl as).length ≤ me.2.2.1)
    (body : ∀ x : CxT, Cx G me x → ZM G x v N' gf' h' → V G me x 0 loc [] N gf h kc ks) : CtH G y me as N gf h kc ks v N' gf' h' := by
  obtain ⟨k1, k2, k3, k4, k5, k6⟩ := k
  refine vx_ofWH (cc := me.2.1) (maxL := me.2.2.1) (ret := me.2.2.2.1) (hh := me.2.2.2.2.2.2.1) k4 rfl ?_
  intro p e s m args below meth c s₁ B hml hv
  obtain ⟨rfl, hK, hW⟩ := hv
  have hts : ∀ w ∈ wsH y me, w.before as.toArray s = true := atoms_spec (ws := wsH y me) B.pre
  have hown : s.vm.findClass me.1 = some m.cls := by rw [k5]; exact findClass_of_methodNamed B.named
  have htb : c.exceptionTable.toList = tableOf me.2.2.2.2.2.2.1 := vx_table (x := y) B (hts _ List.mem_cons_self)
  have hb := body (p, e, (headSpec (wsH y me) (rmO me kc ks)).room, s, m, as.toArray, below, meth, c, vx_MQ below (QcM G v N' gf' h') (fun _ _ _ => False) as.toArray s kc ks (gA G))
    ⟨B.exec, B.bytes, hml, B.returns, hown, fun w hw => hts w (List.mem_cons_of_mem _ hw), hK, B.notSynchronized, rfl, rfl, htb, fun q => (name_of_methodNamed B.named B.method).1.trans (hini q)⟩ (Or.inr rfl)
  rw [lg_entry_eq]
  exact hb s.heap [] 0 0 _ hW va_S.rf (LH.of (lv_entry as hlen) (fun i w q => by rw [← hloc]; exact lvl_mem.mpr q)) (by show 0 + kc ≤ kc; omega) (by show 0 + ks ≤ ks; omega)
theorem FM_of {K K' : Nat → Nat → Int} (h : ∀ q, q ≠ 28 → q ≠ 29 → q ≠ 30 → q ≠ 31 → q ≠ 32 → K' q = K q) : FM K K' := fun q hq => h q (by omega) (by omega) (by omega) (by omega) (by omega)
set_option maxRecDepth 100000 in
set_option maxHeartbeats 4000000 in
theorem h_L_set (G : GT) (K : Nat → Nat → Int) (r : Nat → Option Nat) (p : Int) (hp : -2147483648 ≤ p ∧ p < 2147483648) (q : Int) (hq : -2147483648 ≤ q ∧ q < 2147483648) (v : Int) (hv : -2147483648 ≤ v ∧ v < 2147483648) (K1 : Nat → Nat → Int) (r1 : Nat → Option Nat) (hc : CtO G yX5_set mX5_set [rf G 0, .int (iI p), .int (iI q)] K r (some (.int (iI v))) K1 r1) : CtH G yL_set mL_set [rf G 0, .int (iI p), .int (iI q), rf G 33] 34 false (HP G K r) 1 6 (some (.int (iI 0))) 34 false (HP G (us K1 33 (us (K1 33) 0 v)) r1) := by
  refine CtH_of kL_set (by decide) [some (rf G 0), some (.int (iI p)), some (.int (iI q)), some (rf G 33), none] rfl (Nat.le_of_ble_eq_true rfl) ?_
  intro x C hZ
  refine V_aload_n C dL_set_0 rfl rfl ?_
  refine V_iconst C dL_set_1 ?_
  refine V_aload_n C dL_set_2 rfl rfl ?_
  refine V_iload_n C dL_set_3 rfl rfl ?_
  refine V_iload_n C dL_set_4 rfl rfl ?_
  refine V_V1 (k2 := 1) (s2 := 6) C dL_set_5 lL_7 kX5_set (hc) (by decide) (rfl) rfl rfl rfl ⟨Nat.le_of_ble_eq_true rfl, Nat.le_of_ble_eq_true rfl⟩ (Nat.le_of_ble_eq_true rfl) (Nat.le_refl _) (Nat.le_refl _) ?_
  refine V_i2l C dL_set_8 (by omega) ?_
  refine V_lastH C dL_set_9 (by decide) (fun _ => rfl) (by omega) (by decide) ?_
  refine V_goto (tgt := 21) C dL_set_10 (by decide) ?_
  refine V_iconst C dL_set_21 ?_
  exact V_iret C dL_set_22 rfl hZ rfl rfl
set_option maxRecDepth 100000 in
set_option maxHeartbeats 4000000 in
theorem e1_L_set (G : GT) (K : Nat → Nat → Int) (r : Nat → Option Nat) (p : Int) (hp : -2147483648 ≤ p ∧ p < 2147483648) (q : Int) (hq : -2147483648 ≤ q ∧ q < 2147483648) (K1 : Nat → Nat → Int) (hc : CtX G yX5_set mX5_set [rf G 0, .int (iI p), .int (iI q)] 34 false (HP G K r) 1 6 "java/lang/IndexOutOfBoundsException" (HP G K1 r)) : CtH G yL_set mL_set [rf G 0, .int (iI p), .int (iI q), rf G 33] 34 false (HP G K r) 1 6 (some (.int (iI 1))) 34 false (HP G K1 r) := by
  refine CtH_of kL_set (by decide) [some (rf G 0), some (.int (iI p)), some (.int (iI q)), some (rf G 33), none] rfl (Nat.le_of_ble_eq_true rfl) ?_
  intro x C hZ
  have hh : ∀ a : Nat, V G mL_set x 13 [some (rf G 0), some (.int (iI p)), some (.int (iI q)), some (rf G 33), none] [.ref a] 34 false (HP G K1 r) 0 0 := by
    intro a
    refine V_astore (q := a) C dL_set_13 (Nat.le_of_ble_eq_true rfl) rfl ?_
    refine V_iconst C dL_set_15 ?_
    exact V_iret C dL_set_16 rfl hZ rfl rfl
  have hx := VX_catch (E := "java/lang/IndexOutOfBoundsException") (pc := 5) (st := [.int (iI 0), rf G 33]) (kc := 0) (ks := 0) C [] (0, 10, 13, 13) [(0, 10, 17, 15)] rfl (fun z hz => by cases hz) ⟨by decide, by decide⟩ (by decide) nL_13 (by decide +kernel) hh
  refine V_aload_n C dL_set_0 rfl rfl ?_
  refine V_iconst C dL_set_1 ?_
  refine V_aload_n C dL_set_2 rfl rfl ?_
  refine V_iload_n C dL_set_3 rfl rfl ?_
  refine V_iload_n C dL_set_4 rfl rfl ?_
  exact V_VX (k2 := 0) (s2 := 0) C dL_set_5 lL_7 kX5_set (hc) (by decide) (rfl) rfl rfl rfl ⟨Nat.le_of_ble_eq_true rfl, Nat.le_of_ble_eq_true rfl⟩ (Nat.le_of_ble_eq_true rfl) (by omega) (by omega) (hx)
set_option maxRecDepth 100000 in
set_option maxHeartbeats 4000000 in
theorem e2_L_set (G : GT) (K : Nat → Nat → Int) (r : Nat → Option Nat) (p : Int) (hp : -2147483648 ≤ p ∧ p < 2147483648) (q : Int) (hq : -2147483648 ≤ q ∧ q < 2147483648) (K1 : Nat → Nat → Int) (hc : CtX G yX5_set mX5_set [rf G 0, .int (iI p), .int (iI q)] 34 false (HP G K r) 1 6 "java/lang/IllegalArgumentException" (HP G K1 r)) : CtH G yL_set mL_set [rf G 0, .int (iI p), .int (iI q), rf G 33] 34 false (HP G K r) 1 6 (some (.int (iI 2))) 34 false (HP G K1 r) := by
  refine CtH_of kL_set (by decide) [some (rf G 0), some (.int (iI p)), some (.int (iI q)), some (rf G 33), none] rfl (Nat.le_of_ble_eq_true rfl) ?_
  intro x C hZ
  have hh : ∀ a : Nat, V G mL_set x 17 [some (rf G 0), some (.int (iI p)), some (.int (iI q)), some (rf G 33), none] [.ref a] 34 false (HP G K1 r) 0 0 := by
    intro a
    refine V_astore (q := a) C dL_set_17 (Nat.le_of_ble_eq_true rfl) rfl ?_
    refine V_iconst C dL_set_19 ?_
    exact V_iret C dL_set_20 rfl hZ rfl rfl
  have hx := VX_catch (E := "java/lang/IllegalArgumentException") (pc := 5) (st := [.int (iI 0), rf G 33]) (kc := 0) (ks := 0) C [(0, 10, 13, 13)] (0, 10, 17, 15) [] rfl (fun z hz => by
    obtain rfl := List.mem_singleton.mp hz
    exact ⟨"java/lang/IndexOutOfBoundsException", by decide, nL_13, by decide +kernel⟩) ⟨by decide, by decide⟩ (by decide) nL_15 (by decide +kernel) hh
  refine V_aload_n C dL_set_0 rfl rfl ?_
  refine V_iconst C dL_set_1 ?_
  refine V_aload_n C dL_set_2 rfl rfl ?_
  refine V_iload_n C dL_set_3 rfl rfl ?_
  refine V_iload_n C dL_set_4 rfl rfl ?_
  exact V_VX (k2 := 0) (s2 := 0) C dL_set_5 lL_7 kX5_set (hc) (by decide) (rfl) rfl rfl rfl ⟨Nat.le_of_ble_eq_true rfl, Nat.le_of_ble_eq_true rfl⟩ (Nat.le_of_ble_eq_true rfl) (by omega) (by omega) (hx)
set_option maxRecDepth 100000 in
set_option maxHeartbeats 4000000 in
theorem h_L_add (G : GT) (K : Nat → Nat → Int) (r : Nat → Option Nat) (p : Int) (hp : -2147483648 ≤ p ∧ p < 2147483648) (q : Int) (hq : -2147483648 ≤ q ∧ q < 2147483648) (v : Int) (hv : -2147483648 ≤ v ∧ v < 2147483648) (K1 : Nat → Nat → Int) (r1 : Nat → Option Nat) (hc : CtO G yX5_add mX5_add [rf G 0, .int (iI p), .int (iI q)] K r (some (.int (iI v))) K1 r1) : CtH G yL_add mL_add [rf G 0, .int (iI p), .int (iI q), rf G 33] 34 false (HP G K r) 1 6 (some (.int (iI 0))) 34 false (HP G (us K1 33 (us (K1 33) 0 v)) r1) := by
  refine CtH_of kL_add (by decide) [some (rf G 0), some (.int (iI p)), some (.int (iI q)), some (rf G 33), none] rfl (Nat.le_of_ble_eq_true rfl) ?_
  intro x C hZ
  refine V_aload_n C dL_add_0 rfl rfl ?_
  refine V_iconst C dL_add_1 ?_
  refine V_aload_n C dL_add_2 rfl rfl ?_
  refine V_iload_n C dL_add_3 rfl rfl ?_
  refine V_iload_n C dL_add_4 rfl rfl ?_
  refine V_V1 (k2 := 1) (s2 := 6) C dL_add_5 lL_17 kX5_add (hc) (by decide) (rfl) rfl rfl rfl ⟨Nat.le_of_ble_eq_true rfl, Nat.le_of_ble_eq_true rfl⟩ (Nat.le_of_ble_eq_true rfl) (Nat.le_refl _) (Nat.le_refl _) ?_
  refine V_i2l C dL_add_8 (by omega) ?_
  refine V_lastH C dL_add_9 (by decide) (fun _ => rfl) (by omega) (by decide) ?_
  refine V_goto (tgt := 21) C dL_add_10 (by decide) ?_
  refine V_iconst C dL_add_21 ?_
  exact V_iret C dL_add_22 rfl hZ rfl rfl
set_option maxRecDepth 100000 in
set_option maxHeartbeats 4000000 in
theorem e1_L_add (G : GT) (K : Nat → Nat → Int) (r : Nat → Option Nat) (p : Int) (hp : -2147483648 ≤ p ∧ p < 2147483648) (q : Int) (hq : -2147483648 ≤ q ∧ q < 2147483648) (K1 : Nat → Nat → Int) (hc : CtX G yX5_add mX5_add [rf G 0, .int (iI p), .int (iI q)] 34 false (HP G K r) 1 6 "java/lang/IndexOutOfBoundsException" (HP G K1 r)) : CtH G yL_add mL_add [rf G 0, .int (iI p), .int (iI q), rf G 33] 34 false (HP G K r) 1 6 (some (.int (iI 1))) 34 false (HP G K1 r) := by
  refine CtH_of kL_add (by decide) [some (rf G 0), some (.int (iI p)), some (.int (iI q)), some (rf G 33), none] rfl (Nat.le_of_ble_eq_true rfl) ?_
  intro x C hZ
  have hh : ∀ a : Nat, V G mL_add x 13 [some (rf G 0), some (.int (iI p)), some (.int (iI q)), some (rf G 33), none] [.ref a] 34 false (HP G K1 r) 0 0 := by
    intro a
    refine V_astore (q := a) C dL_add_13 (Nat.le_of_ble_eq_true rfl) rfl ?_
    refine V_iconst C dL_add_15 ?_
    exact V_iret C dL_add_16 rfl hZ rfl rfl
  have hx := VX_catch (E := "java/lang/IndexOutOfBoundsException") (pc := 5) (st := [.int (iI 0), rf G 33]) (kc := 0) (ks := 0) C [] (0, 10, 13, 13) [(0, 10, 17, 20)] rfl (fun z hz => by cases hz) ⟨by decide, by decide⟩ (by decide) nL_13 (by decide +kernel) hh
  refine V_aload_n C dL_add_0 rfl rfl ?_
  refine V_iconst C dL_add_1 ?_
  refine V_aload_n C dL_add_2 rfl rfl ?_
  refine V_iload_n C dL_add_3 rfl rfl ?_
  refine V_iload_n C dL_add_4 rfl rfl ?_
  exact V_VX (k2 := 0) (s2 := 0) C dL_add_5 lL_17 kX5_add (hc) (by decide) (rfl) rfl rfl rfl ⟨Nat.le_of_ble_eq_true rfl, Nat.le_of_ble_eq_true rfl⟩ (Nat.le_of_ble_eq_true rfl) (by omega) (by omega) (hx)
set_option maxRecDepth 100000 in
set_option maxHeartbeats 4000000 in
theorem e2_L_add (G : GT) (K : Nat → Nat → Int) (r : Nat → Option Nat) (p : Int) (hp : -2147483648 ≤ p ∧ p < 2147483648) (q : Int) (hq : -2147483648 ≤ q ∧ q < 2147483648) (K1 : Nat → Nat → Int) (hc : CtX G yX5_add mX5_add [rf G 0, .int (iI p), .int (iI q)] 34 false (HP G K r) 1 6 "java/lang/IllegalStateException" (HP G K1 r)) : CtH G yL_add mL_add [rf G 0, .int (iI p), .int (iI q), rf G 33] 34 false (HP G K r) 1 6 (some (.int (iI 2))) 34 false (HP G K1 r) := by
  refine CtH_of kL_add (by decide) [some (rf G 0), some (.int (iI p)), some (.int (iI q)), some (rf G 33), none] rfl (Nat.le_of_ble_eq_true rfl) ?_
  intro x C hZ
  have hh : ∀ a : Nat, V G mL_add x 17 [some (rf G 0), some (.int (iI p)), some (.int (iI q)), some (rf G 33), none] [.ref a] 34 false (HP G K1 r) 0 0 := by
    intro a
    refine V_astore (q := a) C dL_add_17 (Nat.le_of_ble_eq_true rfl) rfl ?_
    refine V_iconst C dL_add_19 ?_
    exact V_iret C dL_add_20 rfl hZ rfl rfl
  have hx := VX_catch (E := "java/lang/IllegalStateException") (pc := 5) (st := [.int (iI 0), rf G 33]) (kc := 0) (ks := 0) C [(0, 10, 13, 13)] (0, 10, 17, 20) [] rfl (fun z hz => by
    obtain rfl := List.mem_singleton.mp hz
    exact ⟨"java/lang/IndexOutOfBoundsException", by decide, nL_13, by decide +kernel⟩) ⟨by decide, by decide⟩ (by decide) nL_20 (by decide +kernel) hh
  refine V_aload_n C dL_add_0 rfl rfl ?_
  refine V_iconst C dL_add_1 ?_
  refine V_aload_n C dL_add_2 rfl rfl ?_
  refine V_iload_n C dL_add_3 rfl rfl ?_
  refine V_iload_n C dL_add_4 rfl rfl ?_
  exact V_VX (k2 := 0) (s2 := 0) C dL_add_5 lL_17 kX5_add (hc) (by decide) (rfl) rfl rfl rfl ⟨Nat.le_of_ble_eq_true rfl, Nat.le_of_ble_eq_true rfl⟩ (Nat.le_of_ble_eq_true rfl) (by omega) (by omega) (hx)
set_option maxRecDepth 100000 in
set_option maxHeartbeats 4000000 in
theorem h_L_takeAway (G : GT) (K : Nat → Nat → Int) (r : Nat → Option Nat) (p : Int) (hp : -2147483648 ≤ p ∧ p < 2147483648) (q : Int) (hq : -2147483648 ≤ q ∧ q < 2147483648) (v : Int) (hv : -2147483648 ≤ v ∧ v < 2147483648) (K1 : Nat → Nat → Int) (r1 : Nat → Option Nat) (hc : CtO G yX5_takeAway mX5_takeAway [rf G 0, .int (iI p), .int (iI q)] K r (some (.int (iI v))) K1 r1) : CtH G yL_takeAway mL_takeAway [rf G 0, .int (iI p), .int (iI q), rf G 33] 34 false (HP G K r) 1 6 (some (.int (iI 0))) 34 false (HP G (us K1 33 (us (K1 33) 0 v)) r1) := by
  refine CtH_of kL_takeAway (by decide) [some (rf G 0), some (.int (iI p)), some (.int (iI q)), some (rf G 33), none] rfl (Nat.le_of_ble_eq_true rfl) ?_
  intro x C hZ
  refine V_aload_n C dL_takeAway_0 rfl rfl ?_
  refine V_iconst C dL_takeAway_1 ?_
  refine V_aload_n C dL_takeAway_2 rfl rfl ?_
  refine V_iload_n C dL_takeAway_3 rfl rfl ?_
  refine V_iload_n C dL_takeAway_4 rfl rfl ?_
  refine V_V1 (k2 := 1) (s2 := 6) C dL_takeAway_5 lL_22 kX5_takeAway (hc) (by decide) (rfl) rfl rfl rfl ⟨Nat.le_of_ble_eq_true rfl, Nat.le_of_ble_eq_true rfl⟩ (Nat.le_of_ble_eq_true rfl) (Nat.le_refl _) (Nat.le_refl _) ?_
  refine V_i2l C dL_takeAway_8 (by omega) ?_
  refine V_lastH C dL_takeAway_9 (by decide) (fun _ => rfl) (by omega) (by decide) ?_
  refine V_goto (tgt := 21) C dL_takeAway_10 (by decide) ?_
  refine V_iconst C dL_takeAway_21 ?_
  exact V_iret C dL_takeAway_22 rfl hZ rfl rfl
set_option maxRecDepth 100000 in
set_option maxHeartbeats 4000000 in
theorem e1_L_takeAway (G : GT) (K : Nat → Nat → Int) (r : Nat → Option Nat) (p : Int) (hp : -2147483648 ≤ p ∧ p < 2147483648) (q : Int) (hq : -2147483648 ≤ q ∧ q < 2147483648) (K1 : Nat → Nat → Int) (hc : CtX G yX5_takeAway mX5_takeAway [rf G 0, .int (iI p), .int (iI q)] 34 false (HP G K r) 1 6 "java/lang/IndexOutOfBoundsException" (HP G K1 r)) : CtH G yL_takeAway mL_takeAway [rf G 0, .int (iI p), .int (iI q), rf G 33] 34 false (HP G K r) 1 6 (some (.int (iI 1))) 34 false (HP G K1 r) := by
  refine CtH_of kL_takeAway (by decide) [some (rf G 0), some (.int (iI p)), some (.int (iI q)), some (rf G 33), none] rfl (Nat.le_of_ble_eq_true rfl) ?_
  intro x C hZ
  have hh : ∀ a : Nat, V G mL_takeAway x 13 [some (rf G 0), some (.int (iI p)), some (.int (iI q)), some (rf G 33), none] [.ref a] 34 false (HP G K1 r) 0 0 := by
    intro a
    refine V_astore (q := a) C dL_takeAway_13 (Nat.le_of_ble_eq_true rfl) rfl ?_
    refine V_iconst C dL_takeAway_15 ?_
    exact V_iret C dL_takeAway_16 rfl hZ rfl rfl
  have hx := VX_catch (E := "java/lang/IndexOutOfBoundsException") (pc := 5) (st := [.int (iI 0), rf G 33]) (kc := 0) (ks := 0) C [] (0, 10, 13, 13) [(0, 10, 17, 20)] rfl (fun z hz => by cases hz) ⟨by decide, by decide⟩ (by decide) nL_13 (by decide +kernel) hh
  refine V_aload_n C dL_takeAway_0 rfl rfl ?_
  refine V_iconst C dL_takeAway_1 ?_
  refine V_aload_n C dL_takeAway_2 rfl rfl ?_
  refine V_iload_n C dL_takeAway_3 rfl rfl ?_
  refine V_iload_n C dL_takeAway_4 rfl rfl ?_
  exact V_VX (k2 := 0) (s2 := 0) C dL_takeAway_5 lL_22 kX5_takeAway (hc) (by decide) (rfl) rfl rfl rfl ⟨Nat.le_of_ble_eq_true rfl, Nat.le_of_ble_eq_true rfl⟩ (Nat.le_of_ble_eq_true rfl) (by omega) (by omega) (hx)
set_option maxRecDepth 100000 in
set_option maxHeartbeats 4000000 in
theorem e2_L_takeAway (G : GT) (K : Nat → Nat → Int) (r : Nat → Option Nat) (p : Int) (hp : -2147483648 ≤ p ∧ p < 2147483648) (q : Int) (hq : -2147483648 ≤ q ∧ q < 2147483648) (K1 : Nat → Nat → Int) (hc : CtX G yX5_takeAway mX5_takeAway [rf G 0, .int (iI p), .int (iI q)] 34 false (HP G K r) 1 6 "java/lang/IllegalStateException" (HP G K1 r)) : CtH G yL_takeAway mL_takeAway [rf G 0, .int (iI p), .int (iI q), rf G 33] 34 false (HP G K r) 1 6 (some (.int (iI 2))) 34 false (HP G K1 r) := by
  refine CtH_of kL_takeAway (by decide) [some (rf G 0), some (.int (iI p)), some (.int (iI q)), some (rf G 33), none] rfl (Nat.le_of_ble_eq_true rfl) ?_
  intro x C hZ
  have hh : ∀ a : Nat, V G mL_takeAway x 17 [some (rf G 0), some (.int (iI p)), some (.int (iI q)), some (rf G 33), none] [.ref a] 34 false (HP G K1 r) 0 0 := by
    intro a
    refine V_astore (q := a) C dL_takeAway_17 (Nat.le_of_ble_eq_true rfl) rfl ?_
    refine V_iconst C dL_takeAway_19 ?_
    exact V_iret C dL_takeAway_20 rfl hZ rfl rfl
  have hx := VX_catch (E := "java/lang/IllegalStateException") (pc := 5) (st := [.int (iI 0), rf G 33]) (kc := 0) (ks := 0) C [(0, 10, 13, 13)] (0, 10, 17, 20) [] rfl (fun z hz => by
    obtain rfl := List.mem_singleton.mp hz
    exact ⟨"java/lang/IndexOutOfBoundsException", by decide, nL_13, by decide +kernel⟩) ⟨by decide, by decide⟩ (by decide) nL_20 (by decide +kernel) hh
  refine V_aload_n C dL_takeAway_0 rfl rfl ?_
  refine V_iconst C dL_takeAway_1 ?_
  refine V_aload_n C dL_takeAway_2 rfl rfl ?_
  refine V_iload_n C dL_takeAway_3 rfl rfl ?_
  refine V_iload_n C dL_takeAway_4 rfl rfl ?_
  exact V_VX (k2 := 0) (s2 := 0) C dL_takeAway_5 lL_22 kX5_takeAway (hc) (by decide) (rfl) rfl rfl rfl ⟨Nat.le_of_ble_eq_true rfl, Nat.le_of_ble_eq_true rfl⟩ (Nat.le_of_ble_eq_true rfl) (by omega) (by omega) (hx)
set_option maxRecDepth 100000 in
set_option maxHeartbeats 4000000 in
theorem h_L_raise (G : GT) (K : Nat → Nat → Int) (r : Nat → Option Nat) (p : Int) (hp : -2147483648 ≤ p ∧ p < 2147483648) (v : Int) (hv : -2147483648 ≤ v ∧ v < 2147483648) (K1 : Nat → Nat → Int) (r1 : Nat → Option Nat) (hc : CtO G yX5_raise mX5_raise [rf G 0, .int (iI p)] K r (some (.int (iI v))) K1 r1) : CtH G yL_raise mL_raise [rf G 0, .int (iI p), rf G 33] 34 false (HP G K r) 1 6 (some (.int (iI 0))) 34 false (HP G (us K1 33 (us (K1 33) 0 v)) r1) := by
  refine CtH_of kL_raise (by decide) [some (rf G 0), some (.int (iI p)), some (rf G 33), none] rfl (Nat.le_of_ble_eq_true rfl) ?_
  intro x C hZ
  refine V_aload_n C dL_raise_0 rfl rfl ?_
  refine V_iconst C dL_raise_1 ?_
  refine V_aload_n C dL_raise_2 rfl rfl ?_
  refine V_iload_n C dL_raise_3 rfl rfl ?_
  refine V_V1 (k2 := 1) (s2 := 6) C dL_raise_4 lL_25 kX5_raise (hc) (by decide) (rfl) rfl rfl rfl ⟨Nat.le_of_ble_eq_true rfl, Nat.le_of_ble_eq_true rfl⟩ (Nat.le_of_ble_eq_true rfl) (Nat.le_refl _) (Nat.le_refl _) ?_
  refine V_i2l C dL_raise_7 (by omega) ?_
  refine V_lastH C dL_raise_8 (by decide) (fun _ => rfl) (by omega) (by decide) ?_
  refine V_goto (tgt := 18) C dL_raise_9 (by decide) ?_
  refine V_iconst C dL_raise_18 ?_
  exact V_iret C dL_raise_19 rfl hZ rfl rfl
set_option maxRecDepth 100000 in
set_option maxHeartbeats 4000000 in
theorem e1_L_raise (G : GT) (K : Nat → Nat → Int) (r : Nat → Option Nat) (p : Int) (hp : -2147483648 ≤ p ∧ p < 2147483648) (K1 : Nat → Nat → Int) (hc : CtX G yX5_raise mX5_raise [rf G 0, .int (iI p)] 34 false (HP G K r) 1 6 "java/lang/IndexOutOfBoundsException" (HP G K1 r)) : CtH G yL_raise mL_raise [rf G 0, .int (iI p), rf G 33] 34 false (HP G K r) 1 6 (some (.int (iI 1))) 34 false (HP G K1 r) := by
  refine CtH_of kL_raise (by decide) [some (rf G 0), some (.int (iI p)), some (rf G 33), none] rfl (Nat.le_of_ble_eq_true rfl) ?_
  intro x C hZ
  have hh : ∀ a : Nat, V G mL_raise x 12 [some (rf G 0), some (.int (iI p)), some (rf G 33), none] [.ref a] 34 false (HP G K1 r) 0 0 := by
    intro a
    refine V_astore_n (q := a) C dL_raise_12 rfl (Nat.le_of_ble_eq_true rfl) rfl ?_
    refine V_iconst C dL_raise_13 ?_
    exact V_iret C dL_raise_14 rfl hZ rfl rfl
  have hx := VX_catch (E := "java/lang/IndexOutOfBoundsException") (pc := 4) (st := [.int (iI 0), rf G 33]) (kc := 0) (ks := 0) C [] (0, 9, 12, 13) [(0, 9, 15, 20)] rfl (fun z hz => by cases hz) ⟨by decide, by decide⟩ (by decide) nL_13 (by decide +kernel) hh
  refine V_aload_n C dL_raise_0 rfl rfl ?_
  refine V_iconst C dL_raise_1 ?_
  refine V_aload_n C dL_raise_2 rfl rfl ?_
  refine V_iload_n C dL_raise_3 rfl rfl ?_
  exact V_VX (k2 := 0) (s2 := 0) C dL_raise_4 lL_25 kX5_raise (hc) (by decide) (rfl) rfl rfl rfl ⟨Nat.le_of_ble_eq_true rfl, Nat.le_of_ble_eq_true rfl⟩ (Nat.le_of_ble_eq_true rfl) (by omega) (by omega) (hx)
set_option maxRecDepth 100000 in
set_option maxHeartbeats 4000000 in
theorem e2_L_raise (G : GT) (K : Nat → Nat → Int) (r : Nat → Option Nat) (p : Int) (hp : -2147483648 ≤ p ∧ p < 2147483648) (K1 : Nat → Nat → Int) (hc : CtX G yX5_raise mX5_raise [rf G 0, .int (iI p)] 34 false (HP G K r) 1 6 "java/lang/IllegalStateException" (HP G K1 r)) : CtH G yL_raise mL_raise [rf G 0, .int (iI p), rf G 33] 34 false (HP G K r) 1 6 (some (.int (iI 2))) 34 false (HP G K1 r) := by
  refine CtH_of kL_raise (by decide) [some (rf G 0), some (.int (iI p)), some (rf G 33), none] rfl (Nat.le_of_ble_eq_true rfl) ?_
  intro x C hZ
  have hh : ∀ a : Nat, V G mL_raise x 15 [some (rf G 0), some (.int (iI p)), some (rf G 33), none] [.ref a] 34 false (HP G K1 r) 0 0 := by
    intro a
    refine V_astore_n (q := a) C dL_raise_15 rfl (Nat.le_of_ble_eq_true rfl) rfl ?_
    refine V_iconst C dL_raise_16 ?_
    exact V_iret C dL_raise_17 rfl hZ rfl rfl
  have hx := VX_catch (E := "java/lang/IllegalStateException") (pc := 4) (st := [.int (iI 0), rf G 33]) (kc := 0) (ks := 0) C [(0, 9, 12, 13)] (0, 9, 15, 20) [] rfl (fun z hz => by
    obtain rfl := List.mem_singleton.mp hz
    exact ⟨"java/lang/IndexOutOfBoundsException", by decide, nL_13, by decide +kernel⟩) ⟨by decide, by decide⟩ (by decide) nL_20 (by decide +kernel) hh
  refine V_aload_n C dL_raise_0 rfl rfl ?_
  refine V_iconst C dL_raise_1 ?_
  refine V_aload_n C dL_raise_2 rfl rfl ?_
  refine V_iload_n C dL_raise_3 rfl rfl ?_
  exact V_VX (k2 := 0) (s2 := 0) C dL_raise_4 lL_25 kX5_raise (hc) (by decide) (rfl) rfl rfl rfl ⟨Nat.le_of_ble_eq_true rfl, Nat.le_of_ble_eq_true rfl⟩ (Nat.le_of_ble_eq_true rfl) (by omega) (by omega) (hx)
set_option maxRecDepth 100000 in
set_option maxHeartbeats 4000000 in
theorem h_L_pay (G : GT) (K : Nat → Nat → Int) (r : Nat → Option Nat) (p : Int) (hp : -2147483648 ≤ p ∧ p < 2147483648) (q : Int) (hq : -2147483648 ≤ q ∧ q < 2147483648) (u : Int) (hu : -2147483648 ≤ u ∧ u < 2147483648) (v : Int) (hv : -2147483648 ≤ v ∧ v < 2147483648) (K1 : Nat → Nat → Int) (r1 : Nat → Option Nat) (hc : CtO G yX5_pay mX5_pay [rf G 0, .int (iI p), .int (iI q), .int (iI u)] K r (some (.int (iI v))) K1 r1) : CtH G yL_pay mL_pay [rf G 0, .int (iI p), .int (iI q), .int (iI u), rf G 33] 34 false (HP G K r) 1 6 (some (.int (iI 0))) 34 false (HP G (us K1 33 (us (K1 33) 0 v)) r1) := by
  refine CtH_of kL_pay (by decide) [some (rf G 0), some (.int (iI p)), some (.int (iI q)), some (.int (iI u)), some (rf G 33), none] rfl (Nat.le_of_ble_eq_true rfl) ?_
  intro x C hZ
  refine V_aload C dL_pay_0 rfl ?_
  refine V_iconst C dL_pay_2 ?_
  refine V_aload_n C dL_pay_3 rfl rfl ?_
  refine V_iload_n C dL_pay_4 rfl rfl ?_
  refine V_iload_n C dL_pay_5 rfl rfl ?_
  refine V_iload_n C dL_pay_6 rfl rfl ?_
  refine V_V1 (k2 := 1) (s2 := 6) C dL_pay_7 lL_29 kX5_pay (hc) (by decide) (rfl) rfl rfl rfl ⟨Nat.le_of_ble_eq_true rfl, Nat.le_of_ble_eq_true rfl⟩ (Nat.le_of_ble_eq_true rfl) (Nat.le_refl _) (Nat.le_refl _) ?_
  refine V_i2l C dL_pay_10 (by omega) ?_
  refine V_lastH C dL_pay_11 (by decide) (fun _ => rfl) (by omega) (by decide) ?_
  refine V_goto (tgt := 27) C dL_pay_12 (by decide) ?_
  refine V_iconst C dL_pay_27 ?_
  exact V_iret C dL_pay_28 rfl hZ rfl rfl
set_option maxRecDepth 100000 in
set_option maxHeartbeats 4000000 in
theorem e1_L_pay (G : GT) (K : Nat → Nat → Int) (r : Nat → Option Nat) (p : Int) (hp : -2147483648 ≤ p ∧ p < 2147483648) (q : Int) (hq : -2147483648 ≤ q ∧ q < 2147483648) (u : Int) (hu : -2147483648 ≤ u ∧ u < 2147483648) (K1 : Nat → Nat → Int) (hc : CtX G yX5_pay mX5_pay [rf G 0, .int (iI p), .int (iI q), .int (iI u)] 34 false (HP G K r) 1 6 "java/lang/IndexOutOfBoundsException" (HP G K1 r)) : CtH G yL_pay mL_pay [rf G 0, .int (iI p), .int (iI q), .int (iI u), rf G 33] 34 false (HP G K r) 1 6 (some (.int (iI 1))) 34 false (HP G K1 r) := by
  refine CtH_of kL_pay (by decide) [some (rf G 0), some (.int (iI p)), some (.int (iI q)), some (.int (iI u)), some (rf G 33), none] rfl (Nat.le_of_ble_eq_true rfl) ?_
  intro x C hZ
  have hh : ∀ a : Nat, V G mL_pay x 15 [some (rf G 0), some (.int (iI p)), some (.int (iI q)), some (.int (iI u)), some (rf G 33), none] [.ref a] 34 false (HP G K1 r) 0 0 := by
    intro a
    refine V_astore (q := a) C dL_pay_15 (Nat.le_of_ble_eq_true rfl) rfl ?_
    refine V_iconst C dL_pay_17 ?_
    exact V_iret C dL_pay_18 rfl hZ rfl rfl
  have hx := VX_catch (E := "java/lang/IndexOutOfBoundsException") (pc := 7) (st := [.int (iI 0), rf G 33]) (kc := 0) (ks := 0) C [] (0, 12, 15, 13) [(0, 12, 19, 15), (0, 12, 23, 20)] rfl (fun z hz => by cases hz) ⟨by decide, by decide⟩ (by decide) nL_13 (by decide +kernel) hh
  refine V_aload C dL_pay_0 rfl ?_
  refine V_iconst C dL_pay_2 ?_
  refine V_aload_n C dL_pay_3 rfl rfl ?_
  refine V_iload_n C dL_pay_4 rfl rfl ?_
  refine V_iload_n C dL_pay_5 rfl rfl ?_
  refine V_iload_n C dL_pay_6 rfl rfl ?_
  exact V_VX (k2 := 0) (s2 := 0) C dL_pay_7 lL_29 kX5_pay (hc) (by decide) (rfl) rfl rfl rfl ⟨Nat.le_of_ble_eq_true rfl, Nat.le_of_ble_eq_true rfl⟩ (Nat.le_of_ble_eq_true rfl) (by omega) (by omega) (hx)
set_option maxRecDepth 100000 in
set_option maxHeartbeats 4000000 in
theorem e2_L_pay (G : GT) (K : Nat → Nat → Int) (r : Nat → Option Nat) (p : Int) (hp : -2147483648 ≤ p ∧ p < 2147483648) (q : Int) (hq : -2147483648 ≤ q ∧ q < 2147483648) (u : Int) (hu : -2147483648 ≤ u ∧ u < 2147483648) (K1 : Nat → Nat → Int) (hc : CtX G yX5_pay mX5_pay [rf G 0, .int (iI p), .int (iI q), .int (iI u)] 34 false (HP G K r) 1 6 "java/lang/IllegalArgumentException" (HP G K1 r)) : CtH G yL_pay mL_pay [rf G 0, .int (iI p), .int (iI q), .int (iI u), rf G 33] 34 false (HP G K r) 1 6 (some (.int (iI 2))) 34 false (HP G K1 r) := by
  refine CtH_of kL_pay (by decide) [some (rf G 0), some (.int (iI p)), some (.int (iI q)), some (.int (iI u)), some (rf G 33), none] rfl (Nat.le_of_ble_eq_true rfl) ?_
  intro x C hZ
  have hh : ∀ a : Nat, V G mL_pay x 19 [some (rf G 0), some (.int (iI p)), some (.int (iI q)), some (.int (iI u)), some (rf G 33), none] [.ref a] 34 false (HP G K1 r) 0 0 := by
    intro a
    refine V_astore (q := a) C dL_pay_19 (Nat.le_of_ble_eq_true rfl) rfl ?_
    refine V_iconst C dL_pay_21 ?_
    exact V_iret C dL_pay_22 rfl hZ rfl rfl
  have hx := VX_catch (E := "java/lang/IllegalArgumentException") (pc := 7) (st := [.int (iI 0), rf G 33]) (kc := 0) (ks := 0) C [(0, 12, 15, 13)] (0, 12, 19, 15) [(0, 12, 23, 20)] rfl (fun z hz => by
    obtain rfl := List.mem_singleton.mp hz
    exact ⟨"java/lang/IndexOutOfBoundsException", by decide, nL_13, by decide +kernel⟩) ⟨by decide, by decide⟩ (by decide) nL_15 (by decide +kernel) hh
  refine V_aload C dL_pay_0 rfl ?_
  refine V_iconst C dL_pay_2 ?_
  refine V_aload_n C dL_pay_3 rfl rfl ?_
  refine V_iload_n C dL_pay_4 rfl rfl ?_
  refine V_iload_n C dL_pay_5 rfl rfl ?_
  refine V_iload_n C dL_pay_6 rfl rfl ?_
  exact V_VX (k2 := 0) (s2 := 0) C dL_pay_7 lL_29 kX5_pay (hc) (by decide) (rfl) rfl rfl rfl ⟨Nat.le_of_ble_eq_true rfl, Nat.le_of_ble_eq_true rfl⟩ (Nat.le_of_ble_eq_true rfl) (by omega) (by omega) (hx)
set_option maxRecDepth 100000 in
set_option maxHeartbeats 4000000 in
theorem e3_L_pay (G : GT) (K : Nat → Nat → Int) (r : Nat → Option Nat) (p : Int) (hp : -2147483648 ≤ p ∧ p < 2147483648) (q : Int) (hq : -2147483648 ≤ q ∧ q < 2147483648) (u : Int) (hu : -2147483648 ≤ u ∧ u < 2147483648) (K1 : Nat → Nat → Int) (hc : CtX G yX5_pay mX5_pay [rf G 0, .int (iI p), .int (iI q), .int (iI u)] 34 false (HP G K r) 1 6 "java/lang/IllegalStateException" (HP G K1 r)) : CtH G yL_pay mL_pay [rf G 0, .int (iI p), .int (iI q), .int (iI u), rf G 33] 34 false (HP G K r) 1 6 (some (.int (iI 3))) 34 false (HP G K1 r) := by
  refine CtH_of kL_pay (by decide) [some (rf G 0), some (.int (iI p)), some (.int (iI q)), some (.int (iI u)), some (rf G 33), none] rfl (Nat.le_of_ble_eq_true rfl) ?_
  intro x C hZ
  have hh : ∀ a : Nat, V G mL_pay x 23 [some (rf G 0), some (.int (iI p)), some (.int (iI q)), some (.int (iI u)), some (rf G 33), none] [.ref a] 34 false (HP G K1 r) 0 0 := by
    intro a
    refine V_astore (q := a) C dL_pay_23 (Nat.le_of_ble_eq_true rfl) rfl ?_
    refine V_iconst C dL_pay_25 ?_
    exact V_iret C dL_pay_26 rfl hZ rfl rfl
  have hx := VX_catch (E := "java/lang/IllegalStateException") (pc := 7) (st := [.int (iI 0), rf G 33]) (kc := 0) (ks := 0) C [(0, 12, 15, 13), (0, 12, 19, 15)] (0, 12, 23, 20) [] rfl (fun z hz => by
    rcases List.mem_cons.mp hz with rfl | hz
    · exact ⟨"java/lang/IndexOutOfBoundsException", by decide, nL_13, by decide +kernel⟩
    · obtain rfl := List.mem_singleton.mp hz
      exact ⟨"java/lang/IllegalArgumentException", by decide, nL_15, by decide +kernel⟩) ⟨by decide, by decide⟩ (by decide) nL_20 (by decide +kernel) hh
  refine V_aload C dL_pay_0 rfl ?_
  refine V_iconst C dL_pay_2 ?_
  refine V_aload_n C dL_pay_3 rfl rfl ?_
  refine V_iload_n C dL_pay_4 rfl rfl ?_
  refine V_iload_n C dL_pay_5 rfl rfl ?_
  refine V_iload_n C dL_pay_6 rfl rfl ?_
  exact V_VX (k2 := 0) (s2 := 0) C dL_pay_7 lL_29 kX5_pay (hc) (by decide) (rfl) rfl rfl rfl ⟨Nat.le_of_ble_eq_true rfl, Nat.le_of_ble_eq_true rfl⟩ (Nat.le_of_ble_eq_true rfl) (by omega) (by omega) (hx)
set_option maxRecDepth 100000 in
set_option maxHeartbeats 4000000 in
theorem h_L_send (G : GT) (K : Nat → Nat → Int) (r : Nat → Option Nat) (p : Int) (hp : -2147483648 ≤ p ∧ p < 2147483648) (v : Int) (hv : -2147483648 ≤ v ∧ v < 2147483648) (K1 : Nat → Nat → Int) (r1 : Nat → Option Nat) (hc : CtO G yX5_send mX5_send [rf G 0, .int (iI p)] K r (some (.int (iI v))) K1 r1) : CtH G yL_send mL_send [rf G 0, .int (iI p), rf G 33] 34 false (HP G K r) 1 6 (some (.int (iI 0))) 34 false (HP G (us K1 33 (us (K1 33) 0 v)) r1) := by
  refine CtH_of kL_send (by decide) [some (rf G 0), some (.int (iI p)), some (rf G 33), none] rfl (Nat.le_of_ble_eq_true rfl) ?_
  intro x C hZ
  refine V_aload_n C dL_send_0 rfl rfl ?_
  refine V_iconst C dL_send_1 ?_
  refine V_aload_n C dL_send_2 rfl rfl ?_
  refine V_iload_n C dL_send_3 rfl rfl ?_
  refine V_V1 (k2 := 1) (s2 := 6) C dL_send_4 lL_33 kX5_send (hc) (by decide) (rfl) rfl rfl rfl ⟨Nat.le_of_ble_eq_true rfl, Nat.le_of_ble_eq_true rfl⟩ (Nat.le_of_ble_eq_true rfl) (Nat.le_refl _) (Nat.le_refl _) ?_
  refine V_i2l C dL_send_7 (by omega) ?_
  refine V_lastH C dL_send_8 (by decide) (fun _ => rfl) (by omega) (by decide) ?_
  refine V_goto (tgt := 18) C dL_send_9 (by decide) ?_
  refine V_iconst C dL_send_18 ?_
  exact V_iret C dL_send_19 rfl hZ rfl rfl
set_option maxRecDepth 100000 in
set_option maxHeartbeats 4000000 in
theorem e1_L_send (G : GT) (K : Nat → Nat → Int) (r : Nat → Option Nat) (p : Int) (hp : -2147483648 ≤ p ∧ p < 2147483648) (K1 : Nat → Nat → Int) (hc : CtX G yX5_send mX5_send [rf G 0, .int (iI p)] 34 false (HP G K r) 1 6 "java/lang/IllegalArgumentException" (HP G K1 r)) : CtH G yL_send mL_send [rf G 0, .int (iI p), rf G 33] 34 false (HP G K r) 1 6 (some (.int (iI 1))) 34 false (HP G K1 r) := by
  refine CtH_of kL_send (by decide) [some (rf G 0), some (.int (iI p)), some (rf G 33), none] rfl (Nat.le_of_ble_eq_true rfl) ?_
  intro x C hZ
  have hh : ∀ a : Nat, V G mL_send x 12 [some (rf G 0), some (.int (iI p)), some (rf G 33), none] [.ref a] 34 false (HP G K1 r) 0 0 := by
    intro a
    refine V_astore_n (q := a) C dL_send_12 rfl (Nat.le_of_ble_eq_true rfl) rfl ?_
    refine V_iconst C dL_send_13 ?_
    exact V_iret C dL_send_14 rfl hZ rfl rfl
  have hx := VX_catch (E := "java/lang/IllegalArgumentException") (pc := 4) (st := [.int (iI 0), rf G 33]) (kc := 0) (ks := 0) C [] (0, 9, 12, 15) [(0, 9, 15, 20)] rfl (fun z hz => by cases hz) ⟨by decide, by decide⟩ (by decide) nL_15 (by decide +kernel) hh
  refine V_aload_n C dL_send_0 rfl rfl ?_
  refine V_iconst C dL_send_1 ?_
  refine V_aload_n C dL_send_2 rfl rfl ?_
  refine V_iload_n C dL_send_3 rfl rfl ?_
  exact V_VX (k2 := 0) (s2 := 0) C dL_send_4 lL_33 kX5_send (hc) (by decide) (rfl) rfl rfl rfl ⟨Nat.le_of_ble_eq_true rfl, Nat.le_of_ble_eq_true rfl⟩ (Nat.le_of_ble_eq_true rfl) (by omega) (by omega) (hx)
set_option maxRecDepth 100000 in
set_option maxHeartbeats 4000000 in
theorem e2_L_send (G : GT) (K : Nat → Nat → Int) (r : Nat → Option Nat) (p : Int) (hp : -2147483648 ≤ p ∧ p < 2147483648) (K1 : Nat → Nat → Int) (hc : CtX G yX5_send mX5_send [rf G 0, .int (iI p)] 34 false (HP G K r) 1 6 "java/lang/IllegalStateException" (HP G K1 r)) : CtH G yL_send mL_send [rf G 0, .int (iI p), rf G 33] 34 false (HP G K r) 1 6 (some (.int (iI 2))) 34 false (HP G K1 r) := by
  refine CtH_of kL_send (by decide) [some (rf G 0), some (.int (iI p)), some (rf G 33), none] rfl (Nat.le_of_ble_eq_true rfl) ?_
  intro x C hZ
  have hh : ∀ a : Nat, V G mL_send x 15 [some (rf G 0), some (.int (iI p)), some (rf G 33), none] [.ref a] 34 false (HP G K1 r) 0 0 := by
    intro a
    refine V_astore_n (q := a) C dL_send_15 rfl (Nat.le_of_ble_eq_true rfl) rfl ?_
    refine V_iconst C dL_send_16 ?_
    exact V_iret C dL_send_17 rfl hZ rfl rfl
  have hx := VX_catch (E := "java/lang/IllegalStateException") (pc := 4) (st := [.int (iI 0), rf G 33]) (kc := 0) (ks := 0) C [(0, 9, 12, 15)] (0, 9, 15, 20) [] rfl (fun z hz => by
    obtain rfl := List.mem_singleton.mp hz
    exact ⟨"java/lang/IllegalArgumentException", by decide, nL_15, by decide +kernel⟩) ⟨by decide, by decide⟩ (by decide) nL_20 (by decide +kernel) hh
  refine V_aload_n C dL_send_0 rfl rfl ?_
  refine V_iconst C dL_send_1 ?_
  refine V_aload_n C dL_send_2 rfl rfl ?_
  refine V_iload_n C dL_send_3 rfl rfl ?_
  exact V_VX (k2 := 0) (s2 := 0) C dL_send_4 lL_33 kX5_send (hc) (by decide) (rfl) rfl rfl rfl ⟨Nat.le_of_ble_eq_true rfl, Nat.le_of_ble_eq_true rfl⟩ (Nat.le_of_ble_eq_true rfl) (by omega) (by omega) (hx)
set_option maxRecDepth 100000 in
set_option maxHeartbeats 4000000 in
theorem h_L_turn (G : GT) (K : Nat → Nat → Int) (r : Nat → Option Nat) (p : Int) (hp : -2147483648 ≤ p ∧ p < 2147483648) (v : Int) (hv : -2147483648 ≤ v ∧ v < 2147483648) (K1 : Nat → Nat → Int) (r1 : Nat → Option Nat) (hc : CtO G yX5_turn mX5_turn [rf G 0, .int (iI p)] K r (some (.int (iI v))) K1 r1) : CtH G yL_turn mL_turn [rf G 0, .int (iI p), rf G 33] 34 false (HP G K r) 1 6 (some (.int (iI 0))) 34 false (HP G (us K1 33 (us (K1 33) 0 v)) r1) := by
  refine CtH_of kL_turn (by decide) [some (rf G 0), some (.int (iI p)), some (rf G 33), none] rfl (Nat.le_of_ble_eq_true rfl) ?_
  intro x C hZ
  refine V_aload_n C dL_turn_0 rfl rfl ?_
  refine V_iconst C dL_turn_1 ?_
  refine V_aload_n C dL_turn_2 rfl rfl ?_
  refine V_iload_n C dL_turn_3 rfl rfl ?_
  refine V_V1 (k2 := 1) (s2 := 6) C dL_turn_4 lL_36 kX5_turn (hc) (by decide) (rfl) rfl rfl rfl ⟨Nat.le_of_ble_eq_true rfl, Nat.le_of_ble_eq_true rfl⟩ (Nat.le_of_ble_eq_true rfl) (Nat.le_refl _) (Nat.le_refl _) ?_
  refine V_i2l C dL_turn_7 (by omega) ?_
  refine V_lastH C dL_turn_8 (by decide) (fun _ => rfl) (by omega) (by decide) ?_
  refine V_goto (tgt := 15) C dL_turn_9 (by decide) ?_
  refine V_iconst C dL_turn_15 ?_
  exact V_iret C dL_turn_16 rfl hZ rfl rfl
set_option maxRecDepth 100000 in
set_option maxHeartbeats 4000000 in
theorem e1_L_turn (G : GT) (K : Nat → Nat → Int) (r : Nat → Option Nat) (p : Int) (hp : -2147483648 ≤ p ∧ p < 2147483648) (K1 : Nat → Nat → Int) (hc : CtX G yX5_turn mX5_turn [rf G 0, .int (iI p)] 34 false (HP G K r) 1 6 "java/lang/IndexOutOfBoundsException" (HP G K1 r)) : CtH G yL_turn mL_turn [rf G 0, .int (iI p), rf G 33] 34 false (HP G K r) 1 6 (some (.int (iI 1))) 34 false (HP G K1 r) := by
  refine CtH_of kL_turn (by decide) [some (rf G 0), some (.int (iI p)), some (rf G 33), none] rfl (Nat.le_of_ble_eq_true rfl) ?_
  intro x C hZ
  have hh : ∀ a : Nat, V G mL_turn x 12 [some (rf G 0), some (.int (iI p)), some (rf G 33), none] [.ref a] 34 false (HP G K1 r) 0 0 := by
    intro a
    refine V_astore_n (q := a) C dL_turn_12 rfl (Nat.le_of_ble_eq_true rfl) rfl ?_
    refine V_iconst C dL_turn_13 ?_
    exact V_iret C dL_turn_14 rfl hZ rfl rfl
  have hx := VX_catch (E := "java/lang/IndexOutOfBoundsException") (pc := 4) (st := [.int (iI 0), rf G 33]) (kc := 0) (ks := 0) C [] (0, 9, 12, 13) [] rfl (fun z hz => by cases hz) ⟨by decide, by decide⟩ (by decide) nL_13 (by decide +kernel) hh
  refine V_aload_n C dL_turn_0 rfl rfl ?_
  refine V_iconst C dL_turn_1 ?_
  refine V_aload_n C dL_turn_2 rfl rfl ?_
  refine V_iload_n C dL_turn_3 rfl rfl ?_
  exact V_VX (k2 := 0) (s2 := 0) C dL_turn_4 lL_36 kX5_turn (hc) (by decide) (rfl) rfl rfl rfl ⟨Nat.le_of_ble_eq_true rfl, Nat.le_of_ble_eq_true rfl⟩ (Nat.le_of_ble_eq_true rfl) (by omega) (by omega) (hx)
set_option maxRecDepth 100000 in
set_option maxHeartbeats 4000000 in
theorem h_L_cut (G : GT) (K : Nat → Nat → Int) (r : Nat → Option Nat) (p : Int) (hp : -2147483648 ≤ p ∧ p < 2147483648) (v : Int) (hv : -2147483648 ≤ v ∧ v < 2147483648) (K1 : Nat → Nat → Int) (r1 : Nat → Option Nat) (hc : CtO G yX5_cut mX5_cut [rf G 0, .int (iI p)] K r (some (.int (iI v))) K1 r1) : CtH G yL_cut mL_cut [rf G 0, .int (iI p), rf G 33] 34 false (HP G K r) 1 6 (some (.int (iI 0))) 34 false (HP G (us K1 33 (us (K1 33) 0 v)) r1) := by
  refine CtH_of kL_cut (by decide) [some (rf G 0), some (.int (iI p)), some (rf G 33), none] rfl (Nat.le_of_ble_eq_true rfl) ?_
  intro x C hZ
  refine V_aload_n C dL_cut_0 rfl rfl ?_
  refine V_iconst C dL_cut_1 ?_
  refine V_aload_n C dL_cut_2 rfl rfl ?_
  refine V_iload_n C dL_cut_3 rfl rfl ?_
  refine V_V1 (k2 := 1) (s2 := 6) C dL_cut_4 lL_39 kX5_cut (hc) (by decide) (rfl) rfl rfl rfl ⟨Nat.le_of_ble_eq_true rfl, Nat.le_of_ble_eq_true rfl⟩ (Nat.le_of_ble_eq_true rfl) (Nat.le_refl _) (Nat.le_refl _) ?_
  refine V_i2l C dL_cut_7 (by omega) ?_
  refine V_lastH C dL_cut_8 (by decide) (fun _ => rfl) (by omega) (by decide) ?_
  refine V_goto (tgt := 18) C dL_cut_9 (by decide) ?_
  refine V_iconst C dL_cut_18 ?_
  exact V_iret C dL_cut_19 rfl hZ rfl rfl
set_option maxRecDepth 100000 in
set_option maxHeartbeats 4000000 in
theorem e1_L_cut (G : GT) (K : Nat → Nat → Int) (r : Nat → Option Nat) (p : Int) (hp : -2147483648 ≤ p ∧ p < 2147483648) (K1 : Nat → Nat → Int) (hc : CtX G yX5_cut mX5_cut [rf G 0, .int (iI p)] 34 false (HP G K r) 1 6 "java/lang/IllegalArgumentException" (HP G K1 r)) : CtH G yL_cut mL_cut [rf G 0, .int (iI p), rf G 33] 34 false (HP G K r) 1 6 (some (.int (iI 1))) 34 false (HP G K1 r) := by
  refine CtH_of kL_cut (by decide) [some (rf G 0), some (.int (iI p)), some (rf G 33), none] rfl (Nat.le_of_ble_eq_true rfl) ?_
  intro x C hZ
  have hh : ∀ a : Nat, V G mL_cut x 12 [some (rf G 0), some (.int (iI p)), some (rf G 33), none] [.ref a] 34 false (HP G K1 r) 0 0 := by
    intro a
    refine V_astore_n (q := a) C dL_cut_12 rfl (Nat.le_of_ble_eq_true rfl) rfl ?_
    refine V_iconst C dL_cut_13 ?_
    exact V_iret C dL_cut_14 rfl hZ rfl rfl
  have hx := VX_catch (E := "java/lang/IllegalArgumentException") (pc := 4) (st := [.int (iI 0), rf G 33]) (kc := 0) (ks := 0) C [] (0, 9, 12, 15) [(0, 9, 15, 20)] rfl (fun z hz => by cases hz) ⟨by decide, by decide⟩ (by decide) nL_15 (by decide +kernel) hh
  refine V_aload_n C dL_cut_0 rfl rfl ?_
  refine V_iconst C dL_cut_1 ?_
  refine V_aload_n C dL_cut_2 rfl rfl ?_
  refine V_iload_n C dL_cut_3 rfl rfl ?_
  exact V_VX (k2 := 0) (s2 := 0) C dL_cut_4 lL_39 kX5_cut (hc) (by decide) (rfl) rfl rfl rfl ⟨Nat.le_of_ble_eq_true rfl, Nat.le_of_ble_eq_true rfl⟩ (Nat.le_of_ble_eq_true rfl) (by omega) (by omega) (hx)
set_option maxRecDepth 100000 in
set_option maxHeartbeats 4000000 in
theorem e2_L_cut (G : GT) (K : Nat → Nat → Int) (r : Nat → Option Nat) (p : Int) (hp : -2147483648 ≤ p ∧ p < 2147483648) (K1 : Nat → Nat → Int) (hc : CtX G yX5_cut mX5_cut [rf G 0, .int (iI p)] 34 false (HP G K r) 1 6 "java/lang/IllegalStateException" (HP G K1 r)) : CtH G yL_cut mL_cut [rf G 0, .int (iI p), rf G 33] 34 false (HP G K r) 1 6 (some (.int (iI 2))) 34 false (HP G K1 r) := by
  refine CtH_of kL_cut (by decide) [some (rf G 0), some (.int (iI p)), some (rf G 33), none] rfl (Nat.le_of_ble_eq_true rfl) ?_
  intro x C hZ
  have hh : ∀ a : Nat, V G mL_cut x 15 [some (rf G 0), some (.int (iI p)), some (rf G 33), none] [.ref a] 34 false (HP G K1 r) 0 0 := by
    intro a
    refine V_astore_n (q := a) C dL_cut_15 rfl (Nat.le_of_ble_eq_true rfl) rfl ?_
    refine V_iconst C dL_cut_16 ?_
    exact V_iret C dL_cut_17 rfl hZ rfl rfl
  have hx := VX_catch (E := "java/lang/IllegalStateException") (pc := 4) (st := [.int (iI 0), rf G 33]) (kc := 0) (ks := 0) C [(0, 9, 12, 15)] (0, 9, 15, 20) [] rfl (fun z hz => by
    obtain rfl := List.mem_singleton.mp hz
    exact ⟨"java/lang/IllegalArgumentException", by decide, nL_15, by decide +kernel⟩) ⟨by decide, by decide⟩ (by decide) nL_20 (by decide +kernel) hh
  refine V_aload_n C dL_cut_0 rfl rfl ?_
  refine V_iconst C dL_cut_1 ?_
  refine V_aload_n C dL_cut_2 rfl rfl ?_
  refine V_iload_n C dL_cut_3 rfl rfl ?_
  exact V_VX (k2 := 0) (s2 := 0) C dL_cut_4 lL_39 kX5_cut (hc) (by decide) (rfl) rfl rfl rfl ⟨Nat.le_of_ble_eq_true rfl, Nat.le_of_ble_eq_true rfl⟩ (Nat.le_of_ble_eq_true rfl) (by omega) (by omega) (hx)
set_option maxRecDepth 100000 in
set_option maxHeartbeats 4000000 in
theorem h_L_append (G : GT) (K : Nat → Nat → Int) (r : Nat → Option Nat) (p : Int) (hp : -2147483648 ≤ p ∧ p < 2147483648) (v : Int) (hv : -2147483648 ≤ v ∧ v < 2147483648) (K1 : Nat → Nat → Int) (r1 : Nat → Option Nat) (hc : CtO G yX5_append mX5_append [rf G 0, .int (iI p)] K r (some (.int (iI v))) K1 r1) : CtH G yL_append mL_append [rf G 0, .int (iI p), rf G 33] 34 false (HP G K r) 1 6 (some (.int (iI 0))) 34 false (HP G (us K1 33 (us (K1 33) 0 v)) r1) := by
  refine CtH_of kL_append (by decide) [some (rf G 0), some (.int (iI p)), some (rf G 33), none] rfl (Nat.le_of_ble_eq_true rfl) ?_
  intro x C hZ
  refine V_aload_n C dL_append_0 rfl rfl ?_
  refine V_iconst C dL_append_1 ?_
  refine V_aload_n C dL_append_2 rfl rfl ?_
  refine V_iload_n C dL_append_3 rfl rfl ?_
  refine V_V1 (k2 := 1) (s2 := 6) C dL_append_4 lL_42 kX5_append (hc) (by decide) (rfl) rfl rfl rfl ⟨Nat.le_of_ble_eq_true rfl, Nat.le_of_ble_eq_true rfl⟩ (Nat.le_of_ble_eq_true rfl) (Nat.le_refl _) (Nat.le_refl _) ?_
  refine V_i2l C dL_append_7 (by omega) ?_
  refine V_lastH C dL_append_8 (by decide) (fun _ => rfl) (by omega) (by decide) ?_
  refine V_goto (tgt := 18) C dL_append_9 (by decide) ?_
  refine V_iconst C dL_append_18 ?_
  exact V_iret C dL_append_19 rfl hZ rfl rfl
set_option maxRecDepth 100000 in
set_option maxHeartbeats 4000000 in
theorem e1_L_append (G : GT) (K : Nat → Nat → Int) (r : Nat → Option Nat) (p : Int) (hp : -2147483648 ≤ p ∧ p < 2147483648) (K1 : Nat → Nat → Int) (hc : CtX G yX5_append mX5_append [rf G 0, .int (iI p)] 34 false (HP G K r) 1 6 "java/lang/IllegalArgumentException" (HP G K1 r)) : CtH G yL_append mL_append [rf G 0, .int (iI p), rf G 33] 34 false (HP G K r) 1 6 (some (.int (iI 1))) 34 false (HP G K1 r) := by
  refine CtH_of kL_append (by decide) [some (rf G 0), some (.int (iI p)), some (rf G 33), none] rfl (Nat.le_of_ble_eq_true rfl) ?_
  intro x C hZ
  have hh : ∀ a : Nat, V G mL_append x 12 [some (rf G 0), some (.int (iI p)), some (rf G 33), none] [.ref a] 34 false (HP G K1 r) 0 0 := by
    intro a
    refine V_astore_n (q := a) C dL_append_12 rfl (Nat.le_of_ble_eq_true rfl) rfl ?_
    refine V_iconst C dL_append_13 ?_
    exact V_iret C dL_append_14 rfl hZ rfl rfl
  have hx := VX_catch (E := "java/lang/IllegalArgumentException") (pc := 4) (st := [.int (iI 0), rf G 33]) (kc := 0) (ks := 0) C [] (0, 9, 12, 15) [(0, 9, 15, 20)] rfl (fun z hz => by cases hz) ⟨by decide, by decide⟩ (by decide) nL_15 (by decide +kernel) hh
  refine V_aload_n C dL_append_0 rfl rfl ?_
  refine V_iconst C dL_append_1 ?_
  refine V_aload_n C dL_append_2 rfl rfl ?_
  refine V_iload_n C dL_append_3 rfl rfl ?_
  exact V_VX (k2 := 0) (s2 := 0) C dL_append_4 lL_42 kX5_append (hc) (by decide) (rfl) rfl rfl rfl ⟨Nat.le_of_ble_eq_true rfl, Nat.le_of_ble_eq_true rfl⟩ (Nat.le_of_ble_eq_true rfl) (by omega) (by omega) (hx)
set_option maxRecDepth 100000 in
set_option maxHeartbeats 4000000 in
theorem e2_L_append (G : GT) (K : Nat → Nat → Int) (r : Nat → Option Nat) (p : Int) (hp : -2147483648 ≤ p ∧ p < 2147483648) (K1 : Nat → Nat → Int) (hc : CtX G yX5_append mX5_append [rf G 0, .int (iI p)] 34 false (HP G K r) 1 6 "java/lang/IllegalStateException" (HP G K1 r)) : CtH G yL_append mL_append [rf G 0, .int (iI p), rf G 33] 34 false (HP G K r) 1 6 (some (.int (iI 2))) 34 false (HP G K1 r) := by
  refine CtH_of kL_append (by decide) [some (rf G 0), some (.int (iI p)), some (rf G 33), none] rfl (Nat.le_of_ble_eq_true rfl) ?_
  intro x C hZ
  have hh : ∀ a : Nat, V G mL_append x 15 [some (rf G 0), some (.int (iI p)), some (rf G 33), none] [.ref a] 34 false (HP G K1 r) 0 0 := by
    intro a
    refine V_astore_n (q := a) C dL_append_15 rfl (Nat.le_of_ble_eq_true rfl) rfl ?_
    refine V_iconst C dL_append_16 ?_
    exact V_iret C dL_append_17 rfl hZ rfl rfl
  have hx := VX_catch (E := "java/lang/IllegalStateException") (pc := 4) (st := [.int (iI 0), rf G 33]) (kc := 0) (ks := 0) C [(0, 9, 12, 15)] (0, 9, 15, 20) [] rfl (fun z hz => by
    obtain rfl := List.mem_singleton.mp hz
    exact ⟨"java/lang/IllegalArgumentException", by decide, nL_15, by decide +kernel⟩) ⟨by decide, by decide⟩ (by decide) nL_20 (by decide +kernel) hh
  refine V_aload_n C dL_append_0 rfl rfl ?_
  refine V_iconst C dL_append_1 ?_
  refine V_aload_n C dL_append_2 rfl rfl ?_
  refine V_iload_n C dL_append_3 rfl rfl ?_
  exact V_VX (k2 := 0) (s2 := 0) C dL_append_4 lL_42 kX5_append (hc) (by decide) (rfl) rfl rfl rfl ⟨Nat.le_of_ble_eq_true rfl, Nat.le_of_ble_eq_true rfl⟩ (Nat.le_of_ble_eq_true rfl) (by omega) (by omega) (hx)
set_option maxRecDepth 100000 in
set_option maxHeartbeats 4000000 in
theorem h_L_work (G : GT) (K : Nat → Nat → Int) (r : Nat → Option Nat)  (v : Int) (hv : -2147483648 ≤ v ∧ v < 2147483648) (K1 : Nat → Nat → Int) (r1 : Nat → Option Nat) (hc : CtO G yX5_work mX5_work [rf G 0] K r (some (.int (iI v))) K1 r1) : CtH G yL_work mL_work [rf G 0, rf G 33] 34 false (HP G K r) 1 6 (some (.int (iI 0))) 34 false (HP G (us K1 33 (us (K1 33) 0 v)) r1) := by
  refine CtH_of kL_work (by decide) [some (rf G 0), some (rf G 33), none] rfl (Nat.le_of_ble_eq_true rfl) ?_
  intro x C hZ
  refine V_aload_n C dL_work_0 rfl rfl ?_
  refine V_iconst C dL_work_1 ?_
  refine V_aload_n C dL_work_2 rfl rfl ?_
  refine V_V1 (k2 := 1) (s2 := 6) C dL_work_3 lL_45 kX5_work (hc) (by decide) (rfl) rfl rfl rfl ⟨Nat.le_of_ble_eq_true rfl, Nat.le_of_ble_eq_true rfl⟩ (Nat.le_of_ble_eq_true rfl) (Nat.le_refl _) (Nat.le_refl _) ?_
  refine V_i2l C dL_work_6 (by omega) ?_
  refine V_lastH C dL_work_7 (by decide) (fun _ => rfl) (by omega) (by decide) ?_
  refine V_goto (tgt := 14) C dL_work_8 (by decide) ?_
  refine V_iconst C dL_work_14 ?_
  exact V_iret C dL_work_15 rfl hZ rfl rfl
set_option maxRecDepth 100000 in
set_option maxHeartbeats 4000000 in
theorem e1_L_work (G : GT) (K : Nat → Nat → Int) (r : Nat → Option Nat)  (K1 : Nat → Nat → Int) (hc : CtX G yX5_work mX5_work [rf G 0] 34 false (HP G K r) 1 6 "java/lang/IllegalArgumentException" (HP G K1 r)) : CtH G yL_work mL_work [rf G 0, rf G 33] 34 false (HP G K r) 1 6 (some (.int (iI 1))) 34 false (HP G K1 r) := by
  refine CtH_of kL_work (by decide) [some (rf G 0), some (rf G 33), none] rfl (Nat.le_of_ble_eq_true rfl) ?_
  intro x C hZ
  have hh : ∀ a : Nat, V G mL_work x 11 [some (rf G 0), some (rf G 33), none] [.ref a] 34 false (HP G K1 r) 0 0 := by
    intro a
    refine V_astore_n (q := a) C dL_work_11 rfl (Nat.le_of_ble_eq_true rfl) rfl ?_
    refine V_iconst C dL_work_12 ?_
    exact V_iret C dL_work_13 rfl hZ rfl rfl
  have hx := VX_catch (E := "java/lang/IllegalArgumentException") (pc := 3) (st := [.int (iI 0), rf G 33]) (kc := 0) (ks := 0) C [] (0, 8, 11, 15) [] rfl (fun z hz => by cases hz) ⟨by decide, by decide⟩ (by decide) nL_15 (by decide +kernel) hh
  refine V_aload_n C dL_work_0 rfl rfl ?_
  refine V_iconst C dL_work_1 ?_
  refine V_aload_n C dL_work_2 rfl rfl ?_
  exact V_VX (k2 := 0) (s2 := 0) C dL_work_3 lL_45 kX5_work (hc) (by decide) (rfl) rfl rfl rfl ⟨Nat.le_of_ble_eq_true rfl, Nat.le_of_ble_eq_true rfl⟩ (Nat.le_of_ble_eq_true rfl) (by omega) (by omega) (hx)
set_option maxRecDepth 100000 in
set_option maxHeartbeats 4000000 in
theorem h_L_stoppedPart (G : GT) (K : Nat → Nat → Int) (r : Nat → Option Nat)  (v : Int) (hv : -2147483648 ≤ v ∧ v < 2147483648) (K1 : Nat → Nat → Int) (r1 : Nat → Option Nat) (hc : CtO G yX5_stoppedPart mX5_stoppedPart [rf G 0] K r (some (.int (iI v))) K1 r1) : CtH G yL_stoppedPart mL_stoppedPart [rf G 0, rf G 33] 34 false (HP G K r) 1 6 (some (.int (iI 0))) 34 false (HP G (us K1 33 (us (K1 33) 0 v)) r1) := by
  refine CtH_of kL_stoppedPart (by decide) [some (rf G 0), some (rf G 33), none] rfl (Nat.le_of_ble_eq_true rfl) ?_
  intro x C hZ
  refine V_aload_n C dL_stoppedPart_0 rfl rfl ?_
  refine V_iconst C dL_stoppedPart_1 ?_
  refine V_aload_n C dL_stoppedPart_2 rfl rfl ?_
  refine V_V1 (k2 := 1) (s2 := 6) C dL_stoppedPart_3 lL_49 kX5_stoppedPart (hc) (by decide) (rfl) rfl rfl rfl ⟨Nat.le_of_ble_eq_true rfl, Nat.le_of_ble_eq_true rfl⟩ (Nat.le_of_ble_eq_true rfl) (Nat.le_refl _) (Nat.le_refl _) ?_
  refine V_i2l C dL_stoppedPart_6 (by omega) ?_
  refine V_lastH C dL_stoppedPart_7 (by decide) (fun _ => rfl) (by omega) (by decide) ?_
  refine V_goto (tgt := 14) C dL_stoppedPart_8 (by decide) ?_
  refine V_iconst C dL_stoppedPart_14 ?_
  exact V_iret C dL_stoppedPart_15 rfl hZ rfl rfl
set_option maxRecDepth 100000 in
set_option maxHeartbeats 4000000 in
theorem e1_L_stoppedPart (G : GT) (K : Nat → Nat → Int) (r : Nat → Option Nat)  (K1 : Nat → Nat → Int) (hc : CtX G yX5_stoppedPart mX5_stoppedPart [rf G 0] 34 false (HP G K r) 1 6 "java/lang/IllegalStateException" (HP G K1 r)) : CtH G yL_stoppedPart mL_stoppedPart [rf G 0, rf G 33] 34 false (HP G K r) 1 6 (some (.int (iI 1))) 34 false (HP G K1 r) := by
  refine CtH_of kL_stoppedPart (by decide) [some (rf G 0), some (rf G 33), none] rfl (Nat.le_of_ble_eq_true rfl) ?_
  intro x C hZ
  have hh : ∀ a : Nat, V G mL_stoppedPart x 11 [some (rf G 0), some (rf G 33), none] [.ref a] 34 false (HP G K1 r) 0 0 := by
    intro a
    refine V_astore_n (q := a) C dL_stoppedPart_11 rfl (Nat.le_of_ble_eq_true rfl) rfl ?_
    refine V_iconst C dL_stoppedPart_12 ?_
    exact V_iret C dL_stoppedPart_13 rfl hZ rfl rfl
  have hx := VX_catch (E := "java/lang/IllegalStateException") (pc := 3) (st := [.int (iI 0), rf G 33]) (kc := 0) (ks := 0) C [] (0, 8, 11, 20) [] rfl (fun z hz => by cases hz) ⟨by decide, by decide⟩ (by decide) nL_20 (by decide +kernel) hh
  refine V_aload_n C dL_stoppedPart_0 rfl rfl ?_
  refine V_iconst C dL_stoppedPart_1 ?_
  refine V_aload_n C dL_stoppedPart_2 rfl rfl ?_
  exact V_VX (k2 := 0) (s2 := 0) C dL_stoppedPart_3 lL_49 kX5_stoppedPart (hc) (by decide) (rfl) rfl rfl rfl ⟨Nat.le_of_ble_eq_true rfl, Nat.le_of_ble_eq_true rfl⟩ (Nat.le_of_ble_eq_true rfl) (by omega) (by omega) (hx)
set_option maxRecDepth 100000 in
set_option maxHeartbeats 4000000 in
theorem h_L_whyStopped (G : GT) (K : Nat → Nat → Int) (r : Nat → Option Nat)  (v : Int) (hv : -2147483648 ≤ v ∧ v < 2147483648) (K1 : Nat → Nat → Int) (r1 : Nat → Option Nat) (hc : CtO G yX5_whyStopped mX5_whyStopped [rf G 0] K r (some (.int (iI v))) K1 r1) : CtH G yL_whyStopped mL_whyStopped [rf G 0, rf G 33] 34 false (HP G K r) 1 6 (some (.int (iI 0))) 34 false (HP G (us K1 33 (us (K1 33) 0 v)) r1) := by
  refine CtH_of kL_whyStopped (by decide) [some (rf G 0), some (rf G 33), none] rfl (Nat.le_of_ble_eq_true rfl) ?_
  intro x C hZ
  refine V_aload_n C dL_whyStopped_0 rfl rfl ?_
  refine V_iconst C dL_whyStopped_1 ?_
  refine V_aload_n C dL_whyStopped_2 rfl rfl ?_
  refine V_V1 (k2 := 1) (s2 := 6) C dL_whyStopped_3 lL_52 kX5_whyStopped (hc) (by decide) (rfl) rfl rfl rfl ⟨Nat.le_of_ble_eq_true rfl, Nat.le_of_ble_eq_true rfl⟩ (Nat.le_of_ble_eq_true rfl) (Nat.le_refl _) (Nat.le_refl _) ?_
  refine V_i2l C dL_whyStopped_6 (by omega) ?_
  refine V_lastH C dL_whyStopped_7 (by decide) (fun _ => rfl) (by omega) (by decide) ?_
  refine V_goto (tgt := 14) C dL_whyStopped_8 (by decide) ?_
  refine V_iconst C dL_whyStopped_14 ?_
  exact V_iret C dL_whyStopped_15 rfl hZ rfl rfl
set_option maxRecDepth 100000 in
set_option maxHeartbeats 4000000 in
theorem e1_L_whyStopped (G : GT) (K : Nat → Nat → Int) (r : Nat → Option Nat)  (K1 : Nat → Nat → Int) (hc : CtX G yX5_whyStopped mX5_whyStopped [rf G 0] 34 false (HP G K r) 1 6 "java/lang/IllegalStateException" (HP G K1 r)) : CtH G yL_whyStopped mL_whyStopped [rf G 0, rf G 33] 34 false (HP G K r) 1 6 (some (.int (iI 1))) 34 false (HP G K1 r) := by
  refine CtH_of kL_whyStopped (by decide) [some (rf G 0), some (rf G 33), none] rfl (Nat.le_of_ble_eq_true rfl) ?_
  intro x C hZ
  have hh : ∀ a : Nat, V G mL_whyStopped x 11 [some (rf G 0), some (rf G 33), none] [.ref a] 34 false (HP G K1 r) 0 0 := by
    intro a
    refine V_astore_n (q := a) C dL_whyStopped_11 rfl (Nat.le_of_ble_eq_true rfl) rfl ?_
    refine V_iconst C dL_whyStopped_12 ?_
    exact V_iret C dL_whyStopped_13 rfl hZ rfl rfl
  have hx := VX_catch (E := "java/lang/IllegalStateException") (pc := 3) (st := [.int (iI 0), rf G 33]) (kc := 0) (ks := 0) C [] (0, 8, 11, 20) [] rfl (fun z hz => by cases hz) ⟨by decide, by decide⟩ (by decide) nL_20 (by decide +kernel) hh
  refine V_aload_n C dL_whyStopped_0 rfl rfl ?_
  refine V_iconst C dL_whyStopped_1 ?_
  refine V_aload_n C dL_whyStopped_2 rfl rfl ?_
  exact V_VX (k2 := 0) (s2 := 0) C dL_whyStopped_3 lL_52 kX5_whyStopped (hc) (by decide) (rfl) rfl rfl rfl ⟨Nat.le_of_ble_eq_true rfl, Nat.le_of_ble_eq_true rfl⟩ (Nat.le_of_ble_eq_true rfl) (by omega) (by omega) (hx)
set_option maxRecDepth 100000 in
set_option maxHeartbeats 4000000 in
theorem h_L_undo (G : GT) (K : Nat → Nat → Int) (r : Nat → Option Nat)  (v : Int) (hv : -2147483648 ≤ v ∧ v < 2147483648) (K1 : Nat → Nat → Int) (r1 : Nat → Option Nat) (hc : CtO G yX5_undo mX5_undo [rf G 0] K r (some (.int (iI v))) K1 r1) : CtH G yL_undo mL_undo [rf G 0, rf G 33] 34 false (HP G K r) 1 6 (some (.int (iI 0))) 34 false (HP G (us K1 33 (us (K1 33) 0 v)) r1) := by
  refine CtH_of kL_undo (by decide) [some (rf G 0), some (rf G 33), none] rfl (Nat.le_of_ble_eq_true rfl) ?_
  intro x C hZ
  refine V_aload_n C dL_undo_0 rfl rfl ?_
  refine V_iconst C dL_undo_1 ?_
  refine V_aload_n C dL_undo_2 rfl rfl ?_
  refine V_V1 (k2 := 1) (s2 := 6) C dL_undo_3 lL_55 kX5_undo (hc) (by decide) (rfl) rfl rfl rfl ⟨Nat.le_of_ble_eq_true rfl, Nat.le_of_ble_eq_true rfl⟩ (Nat.le_of_ble_eq_true rfl) (Nat.le_refl _) (Nat.le_refl _) ?_
  refine V_i2l C dL_undo_6 (by omega) ?_
  refine V_lastH C dL_undo_7 (by decide) (fun _ => rfl) (by omega) (by decide) ?_
  refine V_goto (tgt := 14) C dL_undo_8 (by decide) ?_
  refine V_iconst C dL_undo_14 ?_
  exact V_iret C dL_undo_15 rfl hZ rfl rfl
set_option maxRecDepth 100000 in
set_option maxHeartbeats 4000000 in
theorem e1_L_undo (G : GT) (K : Nat → Nat → Int) (r : Nat → Option Nat)  (K1 : Nat → Nat → Int) (hc : CtX G yX5_undo mX5_undo [rf G 0] 34 false (HP G K r) 1 6 "java/lang/IllegalStateException" (HP G K1 r)) : CtH G yL_undo mL_undo [rf G 0, rf G 33] 34 false (HP G K r) 1 6 (some (.int (iI 1))) 34 false (HP G K1 r) := by
  refine CtH_of kL_undo (by decide) [some (rf G 0), some (rf G 33), none] rfl (Nat.le_of_ble_eq_true rfl) ?_
  intro x C hZ
  have hh : ∀ a : Nat, V G mL_undo x 11 [some (rf G 0), some (rf G 33), none] [.ref a] 34 false (HP G K1 r) 0 0 := by
    intro a
    refine V_astore_n (q := a) C dL_undo_11 rfl (Nat.le_of_ble_eq_true rfl) rfl ?_
    refine V_iconst C dL_undo_12 ?_
    exact V_iret C dL_undo_13 rfl hZ rfl rfl
  have hx := VX_catch (E := "java/lang/IllegalStateException") (pc := 3) (st := [.int (iI 0), rf G 33]) (kc := 0) (ks := 0) C [] (0, 8, 11, 20) [] rfl (fun z hz => by cases hz) ⟨by decide, by decide⟩ (by decide) nL_20 (by decide +kernel) hh
  refine V_aload_n C dL_undo_0 rfl rfl ?_
  refine V_iconst C dL_undo_1 ?_
  refine V_aload_n C dL_undo_2 rfl rfl ?_
  exact V_VX (k2 := 0) (s2 := 0) C dL_undo_3 lL_55 kX5_undo (hc) (by decide) (rfl) rfl rfl rfl ⟨Nat.le_of_ble_eq_true rfl, Nat.le_of_ble_eq_true rfl⟩ (Nat.le_of_ble_eq_true rfl) (by omega) (by omega) (hx)
set_option maxRecDepth 100000 in
set_option maxHeartbeats 4000000 in
theorem h_L_restore (G : GT) (K : Nat → Nat → Int) (r : Nat → Option Nat)  (v : Int) (hv : -2147483648 ≤ v ∧ v < 2147483648) (K1 : Nat → Nat → Int) (r1 : Nat → Option Nat) (hc : CtO G yX5_restore mX5_restore [rf G 0] K r (some (.int (iI v))) K1 r1) : CtH G yL_restore mL_restore [rf G 0, rf G 33] 34 false (HP G K r) 1 6 (some (.int (iI 0))) 34 false (HP G (us K1 33 (us (K1 33) 0 v)) r1) := by
  refine CtH_of kL_restore (by decide) [some (rf G 0), some (rf G 33), none] rfl (Nat.le_of_ble_eq_true rfl) ?_
  intro x C hZ
  refine V_aload_n C dL_restore_0 rfl rfl ?_
  refine V_iconst C dL_restore_1 ?_
  refine V_aload_n C dL_restore_2 rfl rfl ?_
  refine V_V1 (k2 := 1) (s2 := 6) C dL_restore_3 lL_58 kX5_restore (hc) (by decide) (rfl) rfl rfl rfl ⟨Nat.le_of_ble_eq_true rfl, Nat.le_of_ble_eq_true rfl⟩ (Nat.le_of_ble_eq_true rfl) (Nat.le_refl _) (Nat.le_refl _) ?_
  refine V_i2l C dL_restore_6 (by omega) ?_
  refine V_lastH C dL_restore_7 (by decide) (fun _ => rfl) (by omega) (by decide) ?_
  refine V_goto (tgt := 14) C dL_restore_8 (by decide) ?_
  refine V_iconst C dL_restore_14 ?_
  exact V_iret C dL_restore_15 rfl hZ rfl rfl
set_option maxRecDepth 100000 in
set_option maxHeartbeats 4000000 in
theorem e1_L_restore (G : GT) (K : Nat → Nat → Int) (r : Nat → Option Nat)  (K1 : Nat → Nat → Int) (hc : CtX G yX5_restore mX5_restore [rf G 0] 34 false (HP G K r) 1 6 "java/lang/IllegalStateException" (HP G K1 r)) : CtH G yL_restore mL_restore [rf G 0, rf G 33] 34 false (HP G K r) 1 6 (some (.int (iI 1))) 34 false (HP G K1 r) := by
  refine CtH_of kL_restore (by decide) [some (rf G 0), some (rf G 33), none] rfl (Nat.le_of_ble_eq_true rfl) ?_
  intro x C hZ
  have hh : ∀ a : Nat, V G mL_restore x 11 [some (rf G 0), some (rf G 33), none] [.ref a] 34 false (HP G K1 r) 0 0 := by
    intro a
    refine V_astore_n (q := a) C dL_restore_11 rfl (Nat.le_of_ble_eq_true rfl) rfl ?_
    refine V_iconst C dL_restore_12 ?_
    exact V_iret C dL_restore_13 rfl hZ rfl rfl
  have hx := VX_catch (E := "java/lang/IllegalStateException") (pc := 3) (st := [.int (iI 0), rf G 33]) (kc := 0) (ks := 0) C [] (0, 8, 11, 20) [] rfl (fun z hz => by cases hz) ⟨by decide, by decide⟩ (by decide) nL_20 (by decide +kernel) hh
  refine V_aload_n C dL_restore_0 rfl rfl ?_
  refine V_iconst C dL_restore_1 ?_
  refine V_aload_n C dL_restore_2 rfl rfl ?_
  exact V_VX (k2 := 0) (s2 := 0) C dL_restore_3 lL_58 kX5_restore (hc) (by decide) (rfl) rfl rfl rfl ⟨Nat.le_of_ble_eq_true rfl, Nat.le_of_ble_eq_true rfl⟩ (Nat.le_of_ble_eq_true rfl) (by omega) (by omega) (hx)
set_option maxRecDepth 100000 in
set_option maxHeartbeats 4000000 in
theorem h_L_worthOf (G : GT) (K : Nat → Nat → Int) (r : Nat → Option Nat) (p : Int) (hp : -2147483648 ≤ p ∧ p < 2147483648) (v : Int) (hv : -2147483648 ≤ v ∧ v < 2147483648) (K1 : Nat → Nat → Int) (r1 : Nat → Option Nat) (hc : CtO G yX5_worthOf mX5_worthOf [rf G 0, .int (iI p)] K r (some (.int (iI v))) K1 r1) : CtH G yL_worthOf mL_worthOf [rf G 0, .int (iI p), rf G 33] 34 false (HP G K r) 1 6 (some (.int (iI 0))) 34 false (HP G (us K1 33 (us (K1 33) 0 v)) r1) := by
  refine CtH_of kL_worthOf (by decide) [some (rf G 0), some (.int (iI p)), some (rf G 33), none] rfl (Nat.le_of_ble_eq_true rfl) ?_
  intro x C hZ
  refine V_aload_n C dL_worthOf_0 rfl rfl ?_
  refine V_iconst C dL_worthOf_1 ?_
  refine V_aload_n C dL_worthOf_2 rfl rfl ?_
  refine V_iload_n C dL_worthOf_3 rfl rfl ?_
  refine V_V1 (k2 := 1) (s2 := 6) C dL_worthOf_4 lL_61 kX5_worthOf (hc) (by decide) (rfl) rfl rfl rfl ⟨Nat.le_of_ble_eq_true rfl, Nat.le_of_ble_eq_true rfl⟩ (Nat.le_of_ble_eq_true rfl) (Nat.le_refl _) (Nat.le_refl _) ?_
  refine V_i2l C dL_worthOf_7 (by omega) ?_
  refine V_lastH C dL_worthOf_8 (by decide) (fun _ => rfl) (by omega) (by decide) ?_
  refine V_goto (tgt := 15) C dL_worthOf_9 (by decide) ?_
  refine V_iconst C dL_worthOf_15 ?_
  exact V_iret C dL_worthOf_16 rfl hZ rfl rfl
set_option maxRecDepth 100000 in
set_option maxHeartbeats 4000000 in
theorem e1_L_worthOf (G : GT) (K : Nat → Nat → Int) (r : Nat → Option Nat) (p : Int) (hp : -2147483648 ≤ p ∧ p < 2147483648) (K1 : Nat → Nat → Int) (hc : CtX G yX5_worthOf mX5_worthOf [rf G 0, .int (iI p)] 34 false (HP G K r) 1 6 "java/lang/IndexOutOfBoundsException" (HP G K1 r)) : CtH G yL_worthOf mL_worthOf [rf G 0, .int (iI p), rf G 33] 34 false (HP G K r) 1 6 (some (.int (iI 1))) 34 false (HP G K1 r) := by
  refine CtH_of kL_worthOf (by decide) [some (rf G 0), some (.int (iI p)), some (rf G 33), none] rfl (Nat.le_of_ble_eq_true rfl) ?_
  intro x C hZ
  have hh : ∀ a : Nat, V G mL_worthOf x 12 [some (rf G 0), some (.int (iI p)), some (rf G 33), none] [.ref a] 34 false (HP G K1 r) 0 0 := by
    intro a
    refine V_astore_n (q := a) C dL_worthOf_12 rfl (Nat.le_of_ble_eq_true rfl) rfl ?_
    refine V_iconst C dL_worthOf_13 ?_
    exact V_iret C dL_worthOf_14 rfl hZ rfl rfl
  have hx := VX_catch (E := "java/lang/IndexOutOfBoundsException") (pc := 4) (st := [.int (iI 0), rf G 33]) (kc := 0) (ks := 0) C [] (0, 9, 12, 13) [] rfl (fun z hz => by cases hz) ⟨by decide, by decide⟩ (by decide) nL_13 (by decide +kernel) hh
  refine V_aload_n C dL_worthOf_0 rfl rfl ?_
  refine V_iconst C dL_worthOf_1 ?_
  refine V_aload_n C dL_worthOf_2 rfl rfl ?_
  refine V_iload_n C dL_worthOf_3 rfl rfl ?_
  exact V_VX (k2 := 0) (s2 := 0) C dL_worthOf_4 lL_61 kX5_worthOf (hc) (by decide) (rfl) rfl rfl rfl ⟨Nat.le_of_ble_eq_true rfl, Nat.le_of_ble_eq_true rfl⟩ (Nat.le_of_ble_eq_true rfl) (by omega) (by omega) (hx)
set_option maxRecDepth 100000 in
set_option maxHeartbeats 4000000 in
theorem h_L_worthOfSet (G : GT) (K : Nat → Nat → Int) (r : Nat → Option Nat) (p : Int) (hp : -2147483648 ≤ p ∧ p < 2147483648) (v : Int) (hv : -2147483648 ≤ v ∧ v < 2147483648) (K1 : Nat → Nat → Int) (r1 : Nat → Option Nat) (hc : CtO G yX5_worthOfSet mX5_worthOfSet [rf G 0, .int (iI p)] K r (some (.int (iI v))) K1 r1) : CtH G yL_worthOfSet mL_worthOfSet [rf G 0, .int (iI p), rf G 33] 34 false (HP G K r) 1 6 (some (.int (iI 0))) 34 false (HP G (us K1 33 (us (K1 33) 0 v)) r1) := by
  refine CtH_of kL_worthOfSet (by decide) [some (rf G 0), some (.int (iI p)), some (rf G 33), none] rfl (Nat.le_of_ble_eq_true rfl) ?_
  intro x C hZ
  refine V_aload_n C dL_worthOfSet_0 rfl rfl ?_
  refine V_iconst C dL_worthOfSet_1 ?_
  refine V_aload_n C dL_worthOfSet_2 rfl rfl ?_
  refine V_iload_n C dL_worthOfSet_3 rfl rfl ?_
  refine V_V1 (k2 := 1) (s2 := 6) C dL_worthOfSet_4 lL_64 kX5_worthOfSet (hc) (by decide) (rfl) rfl rfl rfl ⟨Nat.le_of_ble_eq_true rfl, Nat.le_of_ble_eq_true rfl⟩ (Nat.le_of_ble_eq_true rfl) (Nat.le_refl _) (Nat.le_refl _) ?_
  refine V_i2l C dL_worthOfSet_7 (by omega) ?_
  refine V_lastH C dL_worthOfSet_8 (by decide) (fun _ => rfl) (by omega) (by decide) ?_
  refine V_goto (tgt := 15) C dL_worthOfSet_9 (by decide) ?_
  refine V_iconst C dL_worthOfSet_15 ?_
  exact V_iret C dL_worthOfSet_16 rfl hZ rfl rfl
set_option maxRecDepth 100000 in
set_option maxHeartbeats 4000000 in
theorem e1_L_worthOfSet (G : GT) (K : Nat → Nat → Int) (r : Nat → Option Nat) (p : Int) (hp : -2147483648 ≤ p ∧ p < 2147483648) (K1 : Nat → Nat → Int) (hc : CtX G yX5_worthOfSet mX5_worthOfSet [rf G 0, .int (iI p)] 34 false (HP G K r) 1 6 "java/lang/IllegalArgumentException" (HP G K1 r)) : CtH G yL_worthOfSet mL_worthOfSet [rf G 0, .int (iI p), rf G 33] 34 false (HP G K r) 1 6 (some (.int (iI 1))) 34 false (HP G K1 r) := by
  refine CtH_of kL_worthOfSet (by decide) [some (rf G 0), some (.int (iI p)), some (rf G 33), none] rfl (Nat.le_of_ble_eq_true rfl) ?_
  intro x C hZ
  have hh : ∀ a : Nat, V G mL_worthOfSet x 12 [some (rf G 0), some (.int (iI p)), some (rf G 33), none] [.ref a] 34 false (HP G K1 r) 0 0 := by
    intro a
    refine V_astore_n (q := a) C dL_worthOfSet_12 rfl (Nat.le_of_ble_eq_true rfl) rfl ?_
    refine V_iconst C dL_worthOfSet_13 ?_
    exact V_iret C dL_worthOfSet_14 rfl hZ rfl rfl
  have hx := VX_catch (E := "java/lang/IllegalArgumentException") (pc := 4) (st := [.int (iI 0), rf G 33]) (kc := 0) (ks := 0) C [] (0, 9, 12, 15) [] rfl (fun z hz => by cases hz) ⟨by decide, by decide⟩ (by decide) nL_15 (by decide +kernel) hh
  refine V_aload_n C dL_worthOfSet_0 rfl rfl ?_
  refine V_iconst C dL_worthOfSet_1 ?_
  refine V_aload_n C dL_worthOfSet_2 rfl rfl ?_
  refine V_iload_n C dL_worthOfSet_3 rfl rfl ?_
  exact V_VX (k2 := 0) (s2 := 0) C dL_worthOfSet_4 lL_64 kX5_worthOfSet (hc) (by decide) (rfl) rfl rfl rfl ⟨Nat.le_of_ble_eq_true rfl, Nat.le_of_ble_eq_true rfl⟩ (Nat.le_of_ble_eq_true rfl) (by omega) (by omega) (hx)
set_option maxRecDepth 100000 in
set_option maxHeartbeats 4000000 in
theorem h_L_say (G : GT) (K : Nat → Nat → Int) (r : Nat → Option Nat) (p : Int) (hp : -2147483648 ≤ p ∧ p < 2147483648) (v : Int) (hv : -2147483648 ≤ v ∧ v < 2147483648) (K1 : Nat → Nat → Int) (r1 : Nat → Option Nat) (hc : CtO G yX5_say mX5_say [rf G 0, .int (iI p)] K r (some (.int (iI v))) K1 r1) : CtH G yL_say mL_say [rf G 0, .int (iI p), rf G 33] 34 false (HP G K r) 1 6 (some (.int (iI 0))) 34 false (HP G (us K1 33 (us (K1 33) 0 v)) r1) := by
  refine CtH_of kL_say (by decide) [some (rf G 0), some (.int (iI p)), some (rf G 33), none] rfl (Nat.le_of_ble_eq_true rfl) ?_
  intro x C hZ
  refine V_aload_n C dL_say_0 rfl rfl ?_
  refine V_iconst C dL_say_1 ?_
  refine V_aload_n C dL_say_2 rfl rfl ?_
  refine V_iload_n C dL_say_3 rfl rfl ?_
  refine V_V1 (k2 := 1) (s2 := 6) C dL_say_4 lL_67 kX5_say (hc) (by decide) (rfl) rfl rfl rfl ⟨Nat.le_of_ble_eq_true rfl, Nat.le_of_ble_eq_true rfl⟩ (Nat.le_of_ble_eq_true rfl) (Nat.le_refl _) (Nat.le_refl _) ?_
  refine V_i2l C dL_say_7 (by omega) ?_
  refine V_lastH C dL_say_8 (by decide) (fun _ => rfl) (by omega) (by decide) ?_
  refine V_goto (tgt := 15) C dL_say_9 (by decide) ?_
  refine V_iconst C dL_say_15 ?_
  exact V_iret C dL_say_16 rfl hZ rfl rfl
set_option maxRecDepth 100000 in
set_option maxHeartbeats 4000000 in
theorem e1_L_say (G : GT) (K : Nat → Nat → Int) (r : Nat → Option Nat) (p : Int) (hp : -2147483648 ≤ p ∧ p < 2147483648) (K1 : Nat → Nat → Int) (hc : CtX G yX5_say mX5_say [rf G 0, .int (iI p)] 34 false (HP G K r) 1 6 "java/lang/IllegalArgumentException" (HP G K1 r)) : CtH G yL_say mL_say [rf G 0, .int (iI p), rf G 33] 34 false (HP G K r) 1 6 (some (.int (iI 1))) 34 false (HP G K1 r) := by
  refine CtH_of kL_say (by decide) [some (rf G 0), some (.int (iI p)), some (rf G 33), none] rfl (Nat.le_of_ble_eq_true rfl) ?_
  intro x C hZ
  have hh : ∀ a : Nat, V G mL_say x 12 [some (rf G 0), some (.int (iI p)), some (rf G 33), none] [.ref a] 34 false (HP G K1 r) 0 0 := by
    intro a
    refine V_astore_n (q := a) C dL_say_12 rfl (Nat.le_of_ble_eq_true rfl) rfl ?_
    refine V_iconst C dL_say_13 ?_
    exact V_iret C dL_say_14 rfl hZ rfl rfl
  have hx := VX_catch (E := "java/lang/IllegalArgumentException") (pc := 4) (st := [.int (iI 0), rf G 33]) (kc := 0) (ks := 0) C [] (0, 9, 12, 15) [] rfl (fun z hz => by cases hz) ⟨by decide, by decide⟩ (by decide) nL_15 (by decide +kernel) hh
  refine V_aload_n C dL_say_0 rfl rfl ?_
  refine V_iconst C dL_say_1 ?_
  refine V_aload_n C dL_say_2 rfl rfl ?_
  refine V_iload_n C dL_say_3 rfl rfl ?_
  exact V_VX (k2 := 0) (s2 := 0) C dL_say_4 lL_67 kX5_say (hc) (by decide) (rfl) rfl rfl rfl ⟨Nat.le_of_ble_eq_true rfl, Nat.le_of_ble_eq_true rfl⟩ (Nat.le_of_ble_eq_true rfl) (by omega) (by omega) (hx)
set_option maxRecDepth 100000 in
set_option maxHeartbeats 4000000 in
theorem h_L_sayByCounting (G : GT) (K : Nat → Nat → Int) (r : Nat → Option Nat) (p : Int) (hp : -2147483648 ≤ p ∧ p < 2147483648) (v : Int) (hv : -2147483648 ≤ v ∧ v < 2147483648) (K1 : Nat → Nat → Int) (r1 : Nat → Option Nat) (hc : CtO G yX5_sayByCounting mX5_sayByCounting [rf G 0, .int (iI p)] K r (some (.int (iI v))) K1 r1) : CtH G yL_sayByCounting mL_sayByCounting [rf G 0, .int (iI p), rf G 33] 34 false (HP G K r) 1 6 (some (.int (iI 0))) 34 false (HP G (us K1 33 (us (K1 33) 0 v)) r1) := by
  refine CtH_of kL_sayByCounting (by decide) [some (rf G 0), some (.int (iI p)), some (rf G 33), none] rfl (Nat.le_of_ble_eq_true rfl) ?_
  intro x C hZ
  refine V_aload_n C dL_sayByCounting_0 rfl rfl ?_
  refine V_iconst C dL_sayByCounting_1 ?_
  refine V_aload_n C dL_sayByCounting_2 rfl rfl ?_
  refine V_iload_n C dL_sayByCounting_3 rfl rfl ?_
  refine V_V1 (k2 := 1) (s2 := 6) C dL_sayByCounting_4 lL_70 kX5_sayByCounting (hc) (by decide) (rfl) rfl rfl rfl ⟨Nat.le_of_ble_eq_true rfl, Nat.le_of_ble_eq_true rfl⟩ (Nat.le_of_ble_eq_true rfl) (Nat.le_refl _) (Nat.le_refl _) ?_
  refine V_i2l C dL_sayByCounting_7 (by omega) ?_
  refine V_lastH C dL_sayByCounting_8 (by decide) (fun _ => rfl) (by omega) (by decide) ?_
  refine V_goto (tgt := 15) C dL_sayByCounting_9 (by decide) ?_
  refine V_iconst C dL_sayByCounting_15 ?_
  exact V_iret C dL_sayByCounting_16 rfl hZ rfl rfl
set_option maxRecDepth 100000 in
set_option maxHeartbeats 4000000 in
theorem e1_L_sayByCounting (G : GT) (K : Nat → Nat → Int) (r : Nat → Option Nat) (p : Int) (hp : -2147483648 ≤ p ∧ p < 2147483648) (K1 : Nat → Nat → Int) (hc : CtX G yX5_sayByCounting mX5_sayByCounting [rf G 0, .int (iI p)] 34 false (HP G K r) 1 6 "java/lang/IllegalArgumentException" (HP G K1 r)) : CtH G yL_sayByCounting mL_sayByCounting [rf G 0, .int (iI p), rf G 33] 34 false (HP G K r) 1 6 (some (.int (iI 1))) 34 false (HP G K1 r) := by
  refine CtH_of kL_sayByCounting (by decide) [some (rf G 0), some (.int (iI p)), some (rf G 33), none] rfl (Nat.le_of_ble_eq_true rfl) ?_
  intro x C hZ
  have hh : ∀ a : Nat, V G mL_sayByCounting x 12 [some (rf G 0), some (.int (iI p)), some (rf G 33), none] [.ref a] 34 false (HP G K1 r) 0 0 := by
    intro a
    refine V_astore_n (q := a) C dL_sayByCounting_12 rfl (Nat.le_of_ble_eq_true rfl) rfl ?_
    refine V_iconst C dL_sayByCounting_13 ?_
    exact V_iret C dL_sayByCounting_14 rfl hZ rfl rfl
  have hx := VX_catch (E := "java/lang/IllegalArgumentException") (pc := 4) (st := [.int (iI 0), rf G 33]) (kc := 0) (ks := 0) C [] (0, 9, 12, 15) [] rfl (fun z hz => by cases hz) ⟨by decide, by decide⟩ (by decide) nL_15 (by decide +kernel) hh
  refine V_aload_n C dL_sayByCounting_0 rfl rfl ?_
  refine V_iconst C dL_sayByCounting_1 ?_
  refine V_aload_n C dL_sayByCounting_2 rfl rfl ?_
  refine V_iload_n C dL_sayByCounting_3 rfl rfl ?_
  exact V_VX (k2 := 0) (s2 := 0) C dL_sayByCounting_4 lL_70 kX5_sayByCounting (hc) (by decide) (rfl) rfl rfl rfl ⟨Nat.le_of_ble_eq_true rfl, Nat.le_of_ble_eq_true rfl⟩ (Nat.le_of_ble_eq_true rfl) (by omega) (by omega) (hx)
set_option maxRecDepth 100000 in
set_option maxHeartbeats 4000000 in
theorem h_L_fullSet (G : GT) (K : Nat → Nat → Int) (r : Nat → Option Nat) (p : Int) (hp : -2147483648 ≤ p ∧ p < 2147483648) (v : Int) (hv : -2147483648 ≤ v ∧ v < 2147483648) (K1 : Nat → Nat → Int) (r1 : Nat → Option Nat) (hc : CtO G yX5_fullSet mX5_fullSet [rf G 0, .int (iI p)] K r (some (.int (iI v))) K1 r1) : CtH G yL_fullSet mL_fullSet [rf G 0, .int (iI p), rf G 33] 34 false (HP G K r) 1 6 (some (.int (iI 0))) 34 false (HP G (us K1 33 (us (K1 33) 0 v)) r1) := by
  refine CtH_of kL_fullSet (by decide) [some (rf G 0), some (.int (iI p)), some (rf G 33), none] rfl (Nat.le_of_ble_eq_true rfl) ?_
  intro x C hZ
  refine V_aload_n C dL_fullSet_0 rfl rfl ?_
  refine V_iconst C dL_fullSet_1 ?_
  refine V_aload_n C dL_fullSet_2 rfl rfl ?_
  refine V_iload_n C dL_fullSet_3 rfl rfl ?_
  refine V_V1 (k2 := 1) (s2 := 6) C dL_fullSet_4 lL_73 kX5_fullSet (hc) (by decide) (rfl) rfl rfl rfl ⟨Nat.le_of_ble_eq_true rfl, Nat.le_of_ble_eq_true rfl⟩ (Nat.le_of_ble_eq_true rfl) (Nat.le_refl _) (Nat.le_refl _) ?_
  refine V_i2l C dL_fullSet_7 (by omega) ?_
  refine V_lastH C dL_fullSet_8 (by decide) (fun _ => rfl) (by omega) (by decide) ?_
  refine V_goto (tgt := 15) C dL_fullSet_9 (by decide) ?_
  refine V_iconst C dL_fullSet_15 ?_
  exact V_iret C dL_fullSet_16 rfl hZ rfl rfl
set_option maxRecDepth 100000 in
set_option maxHeartbeats 4000000 in
theorem e1_L_fullSet (G : GT) (K : Nat → Nat → Int) (r : Nat → Option Nat) (p : Int) (hp : -2147483648 ≤ p ∧ p < 2147483648) (K1 : Nat → Nat → Int) (hc : CtX G yX5_fullSet mX5_fullSet [rf G 0, .int (iI p)] 34 false (HP G K r) 1 6 "java/lang/IllegalArgumentException" (HP G K1 r)) : CtH G yL_fullSet mL_fullSet [rf G 0, .int (iI p), rf G 33] 34 false (HP G K r) 1 6 (some (.int (iI 1))) 34 false (HP G K1 r) := by
  refine CtH_of kL_fullSet (by decide) [some (rf G 0), some (.int (iI p)), some (rf G 33), none] rfl (Nat.le_of_ble_eq_true rfl) ?_
  intro x C hZ
  have hh : ∀ a : Nat, V G mL_fullSet x 12 [some (rf G 0), some (.int (iI p)), some (rf G 33), none] [.ref a] 34 false (HP G K1 r) 0 0 := by
    intro a
    refine V_astore_n (q := a) C dL_fullSet_12 rfl (Nat.le_of_ble_eq_true rfl) rfl ?_
    refine V_iconst C dL_fullSet_13 ?_
    exact V_iret C dL_fullSet_14 rfl hZ rfl rfl
  have hx := VX_catch (E := "java/lang/IllegalArgumentException") (pc := 4) (st := [.int (iI 0), rf G 33]) (kc := 0) (ks := 0) C [] (0, 9, 12, 15) [] rfl (fun z hz => by cases hz) ⟨by decide, by decide⟩ (by decide) nL_15 (by decide +kernel) hh
  refine V_aload_n C dL_fullSet_0 rfl rfl ?_
  refine V_iconst C dL_fullSet_1 ?_
  refine V_aload_n C dL_fullSet_2 rfl rfl ?_
  refine V_iload_n C dL_fullSet_3 rfl rfl ?_
  exact V_VX (k2 := 0) (s2 := 0) C dL_fullSet_4 lL_73 kX5_fullSet (hc) (by decide) (rfl) rfl rfl rfl ⟨Nat.le_of_ble_eq_true rfl, Nat.le_of_ble_eq_true rfl⟩ (Nat.le_of_ble_eq_true rfl) (by omega) (by omega) (hx)
set_option maxRecDepth 100000 in
set_option maxHeartbeats 4000000 in
theorem h_L_ways (G : GT) (K : Nat → Nat → Int) (r : Nat → Option Nat) (p : Int) (hp : -2147483648 ≤ p ∧ p < 2147483648) (v : Int) (hv : -2147483648 ≤ v ∧ v < 2147483648) (K1 : Nat → Nat → Int) (r1 : Nat → Option Nat) (hc : CtO G yX5_ways mX5_ways [rf G 0, .int (iI p)] K r (some (.int (iI v))) K1 r1) : CtH G yL_ways mL_ways [rf G 0, .int (iI p), rf G 33] 34 false (HP G K r) 1 6 (some (.int (iI 0))) 34 false (HP G (us K1 33 (us (K1 33) 0 v)) r1) := by
  refine CtH_of kL_ways (by decide) [some (rf G 0), some (.int (iI p)), some (rf G 33), none] rfl (Nat.le_of_ble_eq_true rfl) ?_
  intro x C hZ
  refine V_aload_n C dL_ways_0 rfl rfl ?_
  refine V_iconst C dL_ways_1 ?_
  refine V_aload_n C dL_ways_2 rfl rfl ?_
  refine V_iload_n C dL_ways_3 rfl rfl ?_
  refine V_V1 (k2 := 1) (s2 := 6) C dL_ways_4 lL_76 kX5_ways (hc) (by decide) (rfl) rfl rfl rfl ⟨Nat.le_of_ble_eq_true rfl, Nat.le_of_ble_eq_true rfl⟩ (Nat.le_of_ble_eq_true rfl) (Nat.le_refl _) (Nat.le_refl _) ?_
  refine V_i2l C dL_ways_7 (by omega) ?_
  refine V_lastH C dL_ways_8 (by decide) (fun _ => rfl) (by omega) (by decide) ?_
  refine V_goto (tgt := 15) C dL_ways_9 (by decide) ?_
  refine V_iconst C dL_ways_15 ?_
  exact V_iret C dL_ways_16 rfl hZ rfl rfl
set_option maxRecDepth 100000 in
set_option maxHeartbeats 4000000 in
theorem e1_L_ways (G : GT) (K : Nat → Nat → Int) (r : Nat → Option Nat) (p : Int) (hp : -2147483648 ≤ p ∧ p < 2147483648) (K1 : Nat → Nat → Int) (hc : CtX G yX5_ways mX5_ways [rf G 0, .int (iI p)] 34 false (HP G K r) 1 6 "java/lang/IllegalArgumentException" (HP G K1 r)) : CtH G yL_ways mL_ways [rf G 0, .int (iI p), rf G 33] 34 false (HP G K r) 1 6 (some (.int (iI 1))) 34 false (HP G K1 r) := by
  refine CtH_of kL_ways (by decide) [some (rf G 0), some (.int (iI p)), some (rf G 33), none] rfl (Nat.le_of_ble_eq_true rfl) ?_
  intro x C hZ
  have hh : ∀ a : Nat, V G mL_ways x 12 [some (rf G 0), some (.int (iI p)), some (rf G 33), none] [.ref a] 34 false (HP G K1 r) 0 0 := by
    intro a
    refine V_astore_n (q := a) C dL_ways_12 rfl (Nat.le_of_ble_eq_true rfl) rfl ?_
    refine V_iconst C dL_ways_13 ?_
    exact V_iret C dL_ways_14 rfl hZ rfl rfl
  have hx := VX_catch (E := "java/lang/IllegalArgumentException") (pc := 4) (st := [.int (iI 0), rf G 33]) (kc := 0) (ks := 0) C [] (0, 9, 12, 15) [] rfl (fun z hz => by cases hz) ⟨by decide, by decide⟩ (by decide) nL_15 (by decide +kernel) hh
  refine V_aload_n C dL_ways_0 rfl rfl ?_
  refine V_iconst C dL_ways_1 ?_
  refine V_aload_n C dL_ways_2 rfl rfl ?_
  refine V_iload_n C dL_ways_3 rfl rfl ?_
  exact V_VX (k2 := 0) (s2 := 0) C dL_ways_4 lL_76 kX5_ways (hc) (by decide) (rfl) rfl rfl rfl ⟨Nat.le_of_ble_eq_true rfl, Nat.le_of_ble_eq_true rfl⟩ (Nat.le_of_ble_eq_true rfl) (by omega) (by omega) (hx)
set_option maxRecDepth 100000 in
set_option maxHeartbeats 4000000 in
theorem h_L_waysByGaps (G : GT) (K : Nat → Nat → Int) (r : Nat → Option Nat) (p : Int) (hp : -2147483648 ≤ p ∧ p < 2147483648) (v : Int) (hv : -2147483648 ≤ v ∧ v < 2147483648) (K1 : Nat → Nat → Int) (r1 : Nat → Option Nat) (hc : CtO G yX5_waysByGaps mX5_waysByGaps [rf G 0, .int (iI p)] K r (some (.int (iI v))) K1 r1) : CtH G yL_waysByGaps mL_waysByGaps [rf G 0, .int (iI p), rf G 33] 34 false (HP G K r) 1 6 (some (.int (iI 0))) 34 false (HP G (us K1 33 (us (K1 33) 0 v)) r1) := by
  refine CtH_of kL_waysByGaps (by decide) [some (rf G 0), some (.int (iI p)), some (rf G 33), none] rfl (Nat.le_of_ble_eq_true rfl) ?_
  intro x C hZ
  refine V_aload_n C dL_waysByGaps_0 rfl rfl ?_
  refine V_iconst C dL_waysByGaps_1 ?_
  refine V_aload_n C dL_waysByGaps_2 rfl rfl ?_
  refine V_iload_n C dL_waysByGaps_3 rfl rfl ?_
  refine V_V1 (k2 := 1) (s2 := 6) C dL_waysByGaps_4 lL_79 kX5_waysByGaps (hc) (by decide) (rfl) rfl rfl rfl ⟨Nat.le_of_ble_eq_true rfl, Nat.le_of_ble_eq_true rfl⟩ (Nat.le_of_ble_eq_true rfl) (Nat.le_refl _) (Nat.le_refl _) ?_
  refine V_i2l C dL_waysByGaps_7 (by omega) ?_
  refine V_lastH C dL_waysByGaps_8 (by decide) (fun _ => rfl) (by omega) (by decide) ?_
  refine V_goto (tgt := 15) C dL_waysByGaps_9 (by decide) ?_
  refine V_iconst C dL_waysByGaps_15 ?_
  exact V_iret C dL_waysByGaps_16 rfl hZ rfl rfl
set_option maxRecDepth 100000 in
set_option maxHeartbeats 4000000 in
theorem e1_L_waysByGaps (G : GT) (K : Nat → Nat → Int) (r : Nat → Option Nat) (p : Int) (hp : -2147483648 ≤ p ∧ p < 2147483648) (K1 : Nat → Nat → Int) (hc : CtX G yX5_waysByGaps mX5_waysByGaps [rf G 0, .int (iI p)] 34 false (HP G K r) 1 6 "java/lang/IllegalArgumentException" (HP G K1 r)) : CtH G yL_waysByGaps mL_waysByGaps [rf G 0, .int (iI p), rf G 33] 34 false (HP G K r) 1 6 (some (.int (iI 1))) 34 false (HP G K1 r) := by
  refine CtH_of kL_waysByGaps (by decide) [some (rf G 0), some (.int (iI p)), some (rf G 33), none] rfl (Nat.le_of_ble_eq_true rfl) ?_
  intro x C hZ
  have hh : ∀ a : Nat, V G mL_waysByGaps x 12 [some (rf G 0), some (.int (iI p)), some (rf G 33), none] [.ref a] 34 false (HP G K1 r) 0 0 := by
    intro a
    refine V_astore_n (q := a) C dL_waysByGaps_12 rfl (Nat.le_of_ble_eq_true rfl) rfl ?_
    refine V_iconst C dL_waysByGaps_13 ?_
    exact V_iret C dL_waysByGaps_14 rfl hZ rfl rfl
  have hx := VX_catch (E := "java/lang/IllegalArgumentException") (pc := 4) (st := [.int (iI 0), rf G 33]) (kc := 0) (ks := 0) C [] (0, 9, 12, 15) [] rfl (fun z hz => by cases hz) ⟨by decide, by decide⟩ (by decide) nL_15 (by decide +kernel) hh
  refine V_aload_n C dL_waysByGaps_0 rfl rfl ?_
  refine V_iconst C dL_waysByGaps_1 ?_
  refine V_aload_n C dL_waysByGaps_2 rfl rfl ?_
  refine V_iload_n C dL_waysByGaps_3 rfl rfl ?_
  exact V_VX (k2 := 0) (s2 := 0) C dL_waysByGaps_4 lL_79 kX5_waysByGaps (hc) (by decide) (rfl) rfl rfl rfl ⟨Nat.le_of_ble_eq_true rfl, Nat.le_of_ble_eq_true rfl⟩ (Nat.le_of_ble_eq_true rfl) (by omega) (by omega) (hx)
set_option maxRecDepth 100000 in
set_option maxHeartbeats 4000000 in
theorem h_L_spokenLength (G : GT) (K : Nat → Nat → Int) (r : Nat → Option Nat) (p : Int) (hp : -2147483648 ≤ p ∧ p < 2147483648) (q : Int) (hq : -2147483648 ≤ q ∧ q < 2147483648) (v : Int) (hv : -2147483648 ≤ v ∧ v < 2147483648) (K1 : Nat → Nat → Int) (r1 : Nat → Option Nat) (hc : CtO G yX5_spokenLength mX5_spokenLength [rf G 0, .int (iI p), .int (iI q)] K r (some (.int (iI v))) K1 r1) : CtH G yL_spokenLength mL_spokenLength [rf G 0, .int (iI p), .int (iI q), rf G 33] 34 false (HP G K r) 1 6 (some (.int (iI 0))) 34 false (HP G (us K1 33 (us (K1 33) 0 v)) r1) := by
  refine CtH_of kL_spokenLength (by decide) [some (rf G 0), some (.int (iI p)), some (.int (iI q)), some (rf G 33), none] rfl (Nat.le_of_ble_eq_true rfl) ?_
  intro x C hZ
  refine V_aload_n C dL_spokenLength_0 rfl rfl ?_
  refine V_iconst C dL_spokenLength_1 ?_
  refine V_aload_n C dL_spokenLength_2 rfl rfl ?_
  refine V_iload_n C dL_spokenLength_3 rfl rfl ?_
  refine V_iload_n C dL_spokenLength_4 rfl rfl ?_
  refine V_V1 (k2 := 1) (s2 := 6) C dL_spokenLength_5 lL_82 kX5_spokenLength (hc) (by decide) (rfl) rfl rfl rfl ⟨Nat.le_of_ble_eq_true rfl, Nat.le_of_ble_eq_true rfl⟩ (Nat.le_of_ble_eq_true rfl) (Nat.le_refl _) (Nat.le_refl _) ?_
  refine V_i2l C dL_spokenLength_8 (by omega) ?_
  refine V_lastH C dL_spokenLength_9 (by decide) (fun _ => rfl) (by omega) (by decide) ?_
  refine V_goto (tgt := 21) C dL_spokenLength_10 (by decide) ?_
  refine V_iconst C dL_spokenLength_21 ?_
  exact V_iret C dL_spokenLength_22 rfl hZ rfl rfl
set_option maxRecDepth 100000 in
set_option maxHeartbeats 4000000 in
theorem e1_L_spokenLength (G : GT) (K : Nat → Nat → Int) (r : Nat → Option Nat) (p : Int) (hp : -2147483648 ≤ p ∧ p < 2147483648) (q : Int) (hq : -2147483648 ≤ q ∧ q < 2147483648) (K1 : Nat → Nat → Int) (hc : CtX G yX5_spokenLength mX5_spokenLength [rf G 0, .int (iI p), .int (iI q)] 34 false (HP G K r) 1 6 "java/lang/IndexOutOfBoundsException" (HP G K1 r)) : CtH G yL_spokenLength mL_spokenLength [rf G 0, .int (iI p), .int (iI q), rf G 33] 34 false (HP G K r) 1 6 (some (.int (iI 1))) 34 false (HP G K1 r) := by
  refine CtH_of kL_spokenLength (by decide) [some (rf G 0), some (.int (iI p)), some (.int (iI q)), some (rf G 33), none] rfl (Nat.le_of_ble_eq_true rfl) ?_
  intro x C hZ
  have hh : ∀ a : Nat, V G mL_spokenLength x 13 [some (rf G 0), some (.int (iI p)), some (.int (iI q)), some (rf G 33), none] [.ref a] 34 false (HP G K1 r) 0 0 := by
    intro a
    refine V_astore (q := a) C dL_spokenLength_13 (Nat.le_of_ble_eq_true rfl) rfl ?_
    refine V_iconst C dL_spokenLength_15 ?_
    exact V_iret C dL_spokenLength_16 rfl hZ rfl rfl
  have hx := VX_catch (E := "java/lang/IndexOutOfBoundsException") (pc := 5) (st := [.int (iI 0), rf G 33]) (kc := 0) (ks := 0) C [] (0, 10, 13, 13) [(0, 10, 17, 15)] rfl (fun z hz => by cases hz) ⟨by decide, by decide⟩ (by decide) nL_13 (by decide +kernel) hh
  refine V_aload_n C dL_spokenLength_0 rfl rfl ?_
  refine V_iconst C dL_spokenLength_1 ?_
  refine V_aload_n C dL_spokenLength_2 rfl rfl ?_
  refine V_iload_n C dL_spokenLength_3 rfl rfl ?_
  refine V_iload_n C dL_spokenLength_4 rfl rfl ?_
  exact V_VX (k2 := 0) (s2 := 0) C dL_spokenLength_5 lL_82 kX5_spokenLength (hc) (by decide) (rfl) rfl rfl rfl ⟨Nat.le_of_ble_eq_true rfl, Nat.le_of_ble_eq_true rfl⟩ (Nat.le_of_ble_eq_true rfl) (by omega) (by omega) (hx)
set_option maxRecDepth 100000 in
set_option maxHeartbeats 4000000 in
theorem e2_L_spokenLength (G : GT) (K : Nat → Nat → Int) (r : Nat → Option Nat) (p : Int) (hp : -2147483648 ≤ p ∧ p < 2147483648) (q : Int) (hq : -2147483648 ≤ q ∧ q < 2147483648) (K1 : Nat → Nat → Int) (hc : CtX G yX5_spokenLength mX5_spokenLength [rf G 0, .int (iI p), .int (iI q)] 34 false (HP G K r) 1 6 "java/lang/IllegalArgumentException" (HP G K1 r)) : CtH G yL_spokenLength mL_spokenLength [rf G 0, .int (iI p), .int (iI q), rf G 33] 34 false (HP G K r) 1 6 (some (.int (iI 2))) 34 false (HP G K1 r) := by
  refine CtH_of kL_spokenLength (by decide) [some (rf G 0), some (.int (iI p)), some (.int (iI q)), some (rf G 33), none] rfl (Nat.le_of_ble_eq_true rfl) ?_
  intro x C hZ
  have hh : ∀ a : Nat, V G mL_spokenLength x 17 [some (rf G 0), some (.int (iI p)), some (.int (iI q)), some (rf G 33), none] [.ref a] 34 false (HP G K1 r) 0 0 := by
    intro a
    refine V_astore (q := a) C dL_spokenLength_17 (Nat.le_of_ble_eq_true rfl) rfl ?_
    refine V_iconst C dL_spokenLength_19 ?_
    exact V_iret C dL_spokenLength_20 rfl hZ rfl rfl
  have hx := VX_catch (E := "java/lang/IllegalArgumentException") (pc := 5) (st := [.int (iI 0), rf G 33]) (kc := 0) (ks := 0) C [(0, 10, 13, 13)] (0, 10, 17, 15) [] rfl (fun z hz => by
    obtain rfl := List.mem_singleton.mp hz
    exact ⟨"java/lang/IndexOutOfBoundsException", by decide, nL_13, by decide +kernel⟩) ⟨by decide, by decide⟩ (by decide) nL_15 (by decide +kernel) hh
  refine V_aload_n C dL_spokenLength_0 rfl rfl ?_
  refine V_iconst C dL_spokenLength_1 ?_
  refine V_aload_n C dL_spokenLength_2 rfl rfl ?_
  refine V_iload_n C dL_spokenLength_3 rfl rfl ?_
  refine V_iload_n C dL_spokenLength_4 rfl rfl ?_
  exact V_VX (k2 := 0) (s2 := 0) C dL_spokenLength_5 lL_82 kX5_spokenLength (hc) (by decide) (rfl) rfl rfl rfl ⟨Nat.le_of_ble_eq_true rfl, Nat.le_of_ble_eq_true rfl⟩ (Nat.le_of_ble_eq_true rfl) (by omega) (by omega) (hx)
set_option maxRecDepth 100000 in
set_option maxHeartbeats 4000000 in
theorem h_L_spokenAt (G : GT) (K : Nat → Nat → Int) (r : Nat → Option Nat) (p : Int) (hp : -2147483648 ≤ p ∧ p < 2147483648) (q : Int) (hq : -2147483648 ≤ q ∧ q < 2147483648) (u : Int) (hu : -2147483648 ≤ u ∧ u < 2147483648) (v : Int) (hv : -2147483648 ≤ v ∧ v < 2147483648) (K1 : Nat → Nat → Int) (r1 : Nat → Option Nat) (hc : CtO G yX5_spokenAt mX5_spokenAt [rf G 0, .int (iI p), .int (iI q), .int (iI u)] K r (some (.int (iI v))) K1 r1) : CtH G yL_spokenAt mL_spokenAt [rf G 0, .int (iI p), .int (iI q), .int (iI u), rf G 33] 34 false (HP G K r) 1 6 (some (.int (iI 0))) 34 false (HP G (us K1 33 (us (K1 33) 0 v)) r1) := by
  refine CtH_of kL_spokenAt (by decide) [some (rf G 0), some (.int (iI p)), some (.int (iI q)), some (.int (iI u)), some (rf G 33), none] rfl (Nat.le_of_ble_eq_true rfl) ?_
  intro x C hZ
  refine V_aload C dL_spokenAt_0 rfl ?_
  refine V_iconst C dL_spokenAt_2 ?_
  refine V_aload_n C dL_spokenAt_3 rfl rfl ?_
  refine V_iload_n C dL_spokenAt_4 rfl rfl ?_
  refine V_iload_n C dL_spokenAt_5 rfl rfl ?_
  refine V_iload_n C dL_spokenAt_6 rfl rfl ?_
  refine V_V1 (k2 := 1) (s2 := 6) C dL_spokenAt_7 lL_85 kX5_spokenAt (hc) (by decide) (rfl) rfl rfl rfl ⟨Nat.le_of_ble_eq_true rfl, Nat.le_of_ble_eq_true rfl⟩ (Nat.le_of_ble_eq_true rfl) (Nat.le_refl _) (Nat.le_refl _) ?_
  refine V_i2l C dL_spokenAt_10 (by omega) ?_
  refine V_lastH C dL_spokenAt_11 (by decide) (fun _ => rfl) (by omega) (by decide) ?_
  refine V_goto (tgt := 23) C dL_spokenAt_12 (by decide) ?_
  refine V_iconst C dL_spokenAt_23 ?_
  exact V_iret C dL_spokenAt_24 rfl hZ rfl rfl
set_option maxRecDepth 100000 in
set_option maxHeartbeats 4000000 in
theorem e1_L_spokenAt (G : GT) (K : Nat → Nat → Int) (r : Nat → Option Nat) (p : Int) (hp : -2147483648 ≤ p ∧ p < 2147483648) (q : Int) (hq : -2147483648 ≤ q ∧ q < 2147483648) (u : Int) (hu : -2147483648 ≤ u ∧ u < 2147483648) (K1 : Nat → Nat → Int) (hc : CtX G yX5_spokenAt mX5_spokenAt [rf G 0, .int (iI p), .int (iI q), .int (iI u)] 34 false (HP G K r) 1 6 "java/lang/IndexOutOfBoundsException" (HP G K1 r)) : CtH G yL_spokenAt mL_spokenAt [rf G 0, .int (iI p), .int (iI q), .int (iI u), rf G 33] 34 false (HP G K r) 1 6 (some (.int (iI 1))) 34 false (HP G K1 r) := by
  refine CtH_of kL_spokenAt (by decide) [some (rf G 0), some (.int (iI p)), some (.int (iI q)), some (.int (iI u)), some (rf G 33), none] rfl (Nat.le_of_ble_eq_true rfl) ?_
  intro x C hZ
  have hh : ∀ a : Nat, V G mL_spokenAt x 15 [some (rf G 0), some (.int (iI p)), some (.int (iI q)), some (.int (iI u)), some (rf G 33), none] [.ref a] 34 false (HP G K1 r) 0 0 := by
    intro a
    refine V_astore (q := a) C dL_spokenAt_15 (Nat.le_of_ble_eq_true rfl) rfl ?_
    refine V_iconst C dL_spokenAt_17 ?_
    exact V_iret C dL_spokenAt_18 rfl hZ rfl rfl
  have hx := VX_catch (E := "java/lang/IndexOutOfBoundsException") (pc := 7) (st := [.int (iI 0), rf G 33]) (kc := 0) (ks := 0) C [] (0, 12, 15, 13) [(0, 12, 19, 15)] rfl (fun z hz => by cases hz) ⟨by decide, by decide⟩ (by decide) nL_13 (by decide +kernel) hh
  refine V_aload C dL_spokenAt_0 rfl ?_
  refine V_iconst C dL_spokenAt_2 ?_
  refine V_aload_n C dL_spokenAt_3 rfl rfl ?_
  refine V_iload_n C dL_spokenAt_4 rfl rfl ?_
  refine V_iload_n C dL_spokenAt_5 rfl rfl ?_
  refine V_iload_n C dL_spokenAt_6 rfl rfl ?_
  exact V_VX (k2 := 0) (s2 := 0) C dL_spokenAt_7 lL_85 kX5_spokenAt (hc) (by decide) (rfl) rfl rfl rfl ⟨Nat.le_of_ble_eq_true rfl, Nat.le_of_ble_eq_true rfl⟩ (Nat.le_of_ble_eq_true rfl) (by omega) (by omega) (hx)
set_option maxRecDepth 100000 in
set_option maxHeartbeats 4000000 in
theorem e2_L_spokenAt (G : GT) (K : Nat → Nat → Int) (r : Nat → Option Nat) (p : Int) (hp : -2147483648 ≤ p ∧ p < 2147483648) (q : Int) (hq : -2147483648 ≤ q ∧ q < 2147483648) (u : Int) (hu : -2147483648 ≤ u ∧ u < 2147483648) (K1 : Nat → Nat → Int) (hc : CtX G yX5_spokenAt mX5_spokenAt [rf G 0, .int (iI p), .int (iI q), .int (iI u)] 34 false (HP G K r) 1 6 "java/lang/IllegalArgumentException" (HP G K1 r)) : CtH G yL_spokenAt mL_spokenAt [rf G 0, .int (iI p), .int (iI q), .int (iI u), rf G 33] 34 false (HP G K r) 1 6 (some (.int (iI 2))) 34 false (HP G K1 r) := by
  refine CtH_of kL_spokenAt (by decide) [some (rf G 0), some (.int (iI p)), some (.int (iI q)), some (.int (iI u)), some (rf G 33), none] rfl (Nat.le_of_ble_eq_true rfl) ?_
  intro x C hZ
  have hh : ∀ a : Nat, V G mL_spokenAt x 19 [some (rf G 0), some (.int (iI p)), some (.int (iI q)), some (.int (iI u)), some (rf G 33), none] [.ref a] 34 false (HP G K1 r) 0 0 := by
    intro a
    refine V_astore (q := a) C dL_spokenAt_19 (Nat.le_of_ble_eq_true rfl) rfl ?_
    refine V_iconst C dL_spokenAt_21 ?_
    exact V_iret C dL_spokenAt_22 rfl hZ rfl rfl
  have hx := VX_catch (E := "java/lang/IllegalArgumentException") (pc := 7) (st := [.int (iI 0), rf G 33]) (kc := 0) (ks := 0) C [(0, 12, 15, 13)] (0, 12, 19, 15) [] rfl (fun z hz => by
    obtain rfl := List.mem_singleton.mp hz
    exact ⟨"java/lang/IndexOutOfBoundsException", by decide, nL_13, by decide +kernel⟩) ⟨by decide, by decide⟩ (by decide) nL_15 (by decide +kernel) hh
  refine V_aload C dL_spokenAt_0 rfl ?_
  refine V_iconst C dL_spokenAt_2 ?_
  refine V_aload_n C dL_spokenAt_3 rfl rfl ?_
  refine V_iload_n C dL_spokenAt_4 rfl rfl ?_
  refine V_iload_n C dL_spokenAt_5 rfl rfl ?_
  refine V_iload_n C dL_spokenAt_6 rfl rfl ?_
  exact V_VX (k2 := 0) (s2 := 0) C dL_spokenAt_7 lL_85 kX5_spokenAt (hc) (by decide) (rfl) rfl rfl rfl ⟨Nat.le_of_ble_eq_true rfl, Nat.le_of_ble_eq_true rfl⟩ (Nat.le_of_ble_eq_true rfl) (by omega) (by omega) (hx)
set_option maxRecDepth 100000 in
set_option maxHeartbeats 4000000 in
theorem h_L_numberOf (G : GT) (K : Nat → Nat → Int) (r : Nat → Option Nat) (p : Int) (hp : -2147483648 ≤ p ∧ p < 2147483648) (v : Int) (hv : -2147483648 ≤ v ∧ v < 2147483648) (K1 : Nat → Nat → Int) (r1 : Nat → Option Nat) (hc : CtO G yX5_numberOf mX5_numberOf [rf G 0, .int (iI p)] K r (some (.int (iI v))) K1 r1) : CtH G yL_numberOf mL_numberOf [rf G 0, .int (iI p), rf G 33] 34 false (HP G K r) 1 6 (some (.int (iI 0))) 34 false (HP G (us K1 33 (us (K1 33) 0 v)) r1) := by
  refine CtH_of kL_numberOf (by decide) [some (rf G 0), some (.int (iI p)), some (rf G 33), none] rfl (Nat.le_of_ble_eq_true rfl) ?_
  intro x C hZ
  refine V_aload_n C dL_numberOf_0 rfl rfl ?_
  refine V_iconst C dL_numberOf_1 ?_
  refine V_aload_n C dL_numberOf_2 rfl rfl ?_
  refine V_iload_n C dL_numberOf_3 rfl rfl ?_
  refine V_V1 (k2 := 1) (s2 := 6) C dL_numberOf_4 lL_88 kX5_numberOf (hc) (by decide) (rfl) rfl rfl rfl ⟨Nat.le_of_ble_eq_true rfl, Nat.le_of_ble_eq_true rfl⟩ (Nat.le_of_ble_eq_true rfl) (Nat.le_refl _) (Nat.le_refl _) ?_
  refine V_i2l C dL_numberOf_7 (by omega) ?_
  refine V_lastH C dL_numberOf_8 (by decide) (fun _ => rfl) (by omega) (by decide) ?_
  refine V_goto (tgt := 15) C dL_numberOf_9 (by decide) ?_
  refine V_iconst C dL_numberOf_15 ?_
  exact V_iret C dL_numberOf_16 rfl hZ rfl rfl
set_option maxRecDepth 100000 in
set_option maxHeartbeats 4000000 in
theorem e1_L_numberOf (G : GT) (K : Nat → Nat → Int) (r : Nat → Option Nat) (p : Int) (hp : -2147483648 ≤ p ∧ p < 2147483648) (K1 : Nat → Nat → Int) (hc : CtX G yX5_numberOf mX5_numberOf [rf G 0, .int (iI p)] 34 false (HP G K r) 1 6 "java/lang/IndexOutOfBoundsException" (HP G K1 r)) : CtH G yL_numberOf mL_numberOf [rf G 0, .int (iI p), rf G 33] 34 false (HP G K r) 1 6 (some (.int (iI 1))) 34 false (HP G K1 r) := by
  refine CtH_of kL_numberOf (by decide) [some (rf G 0), some (.int (iI p)), some (rf G 33), none] rfl (Nat.le_of_ble_eq_true rfl) ?_
  intro x C hZ
  have hh : ∀ a : Nat, V G mL_numberOf x 12 [some (rf G 0), some (.int (iI p)), some (rf G 33), none] [.ref a] 34 false (HP G K1 r) 0 0 := by
    intro a
    refine V_astore_n (q := a) C dL_numberOf_12 rfl (Nat.le_of_ble_eq_true rfl) rfl ?_
    refine V_iconst C dL_numberOf_13 ?_
    exact V_iret C dL_numberOf_14 rfl hZ rfl rfl
  have hx := VX_catch (E := "java/lang/IndexOutOfBoundsException") (pc := 4) (st := [.int (iI 0), rf G 33]) (kc := 0) (ks := 0) C [] (0, 9, 12, 13) [] rfl (fun z hz => by cases hz) ⟨by decide, by decide⟩ (by decide) nL_13 (by decide +kernel) hh
  refine V_aload_n C dL_numberOf_0 rfl rfl ?_
  refine V_iconst C dL_numberOf_1 ?_
  refine V_aload_n C dL_numberOf_2 rfl rfl ?_
  refine V_iload_n C dL_numberOf_3 rfl rfl ?_
  exact V_VX (k2 := 0) (s2 := 0) C dL_numberOf_4 lL_88 kX5_numberOf (hc) (by decide) (rfl) rfl rfl rfl ⟨Nat.le_of_ble_eq_true rfl, Nat.le_of_ble_eq_true rfl⟩ (Nat.le_of_ble_eq_true rfl) (by omega) (by omega) (hx)
set_option maxRecDepth 100000 in
set_option maxHeartbeats 4000000 in
theorem h_L_stepsOf (G : GT) (K : Nat → Nat → Int) (r : Nat → Option Nat) (p : Int) (hp : -2147483648 ≤ p ∧ p < 2147483648) (v : Int) (hv : -2147483648 ≤ v ∧ v < 2147483648) (K1 : Nat → Nat → Int) (r1 : Nat → Option Nat) (hc : CtO G yX5_stepsOf mX5_stepsOf [rf G 0, .int (iI p)] K r (some (.int (iI v))) K1 r1) : CtH G yL_stepsOf mL_stepsOf [rf G 0, .int (iI p), rf G 33] 34 false (HP G K r) 1 6 (some (.int (iI 0))) 34 false (HP G (us K1 33 (us (K1 33) 0 v)) r1) := by
  refine CtH_of kL_stepsOf (by decide) [some (rf G 0), some (.int (iI p)), some (rf G 33), none] rfl (Nat.le_of_ble_eq_true rfl) ?_
  intro x C hZ
  refine V_aload_n C dL_stepsOf_0 rfl rfl ?_
  refine V_iconst C dL_stepsOf_1 ?_
  refine V_aload_n C dL_stepsOf_2 rfl rfl ?_
  refine V_iload_n C dL_stepsOf_3 rfl rfl ?_
  refine V_V1 (k2 := 1) (s2 := 6) C dL_stepsOf_4 lL_91 kX5_stepsOf (hc) (by decide) (rfl) rfl rfl rfl ⟨Nat.le_of_ble_eq_true rfl, Nat.le_of_ble_eq_true rfl⟩ (Nat.le_of_ble_eq_true rfl) (Nat.le_refl _) (Nat.le_refl _) ?_
  refine V_i2l C dL_stepsOf_7 (by omega) ?_
  refine V_lastH C dL_stepsOf_8 (by decide) (fun _ => rfl) (by omega) (by decide) ?_
  refine V_goto (tgt := 15) C dL_stepsOf_9 (by decide) ?_
  refine V_iconst C dL_stepsOf_15 ?_
  exact V_iret C dL_stepsOf_16 rfl hZ rfl rfl
set_option maxRecDepth 100000 in
set_option maxHeartbeats 4000000 in
theorem e1_L_stepsOf (G : GT) (K : Nat → Nat → Int) (r : Nat → Option Nat) (p : Int) (hp : -2147483648 ≤ p ∧ p < 2147483648) (K1 : Nat → Nat → Int) (hc : CtX G yX5_stepsOf mX5_stepsOf [rf G 0, .int (iI p)] 34 false (HP G K r) 1 6 "java/lang/IndexOutOfBoundsException" (HP G K1 r)) : CtH G yL_stepsOf mL_stepsOf [rf G 0, .int (iI p), rf G 33] 34 false (HP G K r) 1 6 (some (.int (iI 1))) 34 false (HP G K1 r) := by
  refine CtH_of kL_stepsOf (by decide) [some (rf G 0), some (.int (iI p)), some (rf G 33), none] rfl (Nat.le_of_ble_eq_true rfl) ?_
  intro x C hZ
  have hh : ∀ a : Nat, V G mL_stepsOf x 12 [some (rf G 0), some (.int (iI p)), some (rf G 33), none] [.ref a] 34 false (HP G K1 r) 0 0 := by
    intro a
    refine V_astore_n (q := a) C dL_stepsOf_12 rfl (Nat.le_of_ble_eq_true rfl) rfl ?_
    refine V_iconst C dL_stepsOf_13 ?_
    exact V_iret C dL_stepsOf_14 rfl hZ rfl rfl
  have hx := VX_catch (E := "java/lang/IndexOutOfBoundsException") (pc := 4) (st := [.int (iI 0), rf G 33]) (kc := 0) (ks := 0) C [] (0, 9, 12, 13) [] rfl (fun z hz => by cases hz) ⟨by decide, by decide⟩ (by decide) nL_13 (by decide +kernel) hh
  refine V_aload_n C dL_stepsOf_0 rfl rfl ?_
  refine V_iconst C dL_stepsOf_1 ?_
  refine V_aload_n C dL_stepsOf_2 rfl rfl ?_
  refine V_iload_n C dL_stepsOf_3 rfl rfl ?_
  exact V_VX (k2 := 0) (s2 := 0) C dL_stepsOf_4 lL_91 kX5_stepsOf (hc) (by decide) (rfl) rfl rfl rfl ⟨Nat.le_of_ble_eq_true rfl, Nat.le_of_ble_eq_true rfl⟩ (Nat.le_of_ble_eq_true rfl) (by omega) (by omega) (hx)
set_option maxRecDepth 100000 in
set_option maxHeartbeats 4000000 in
theorem h_L_sumByCarries (G : GT) (K : Nat → Nat → Int) (r : Nat → Option Nat) (p : Int) (hp : -2147483648 ≤ p ∧ p < 2147483648) (q : Int) (hq : -2147483648 ≤ q ∧ q < 2147483648) (v : Int) (hv : -2147483648 ≤ v ∧ v < 2147483648) (K1 : Nat → Nat → Int) (r1 : Nat → Option Nat) (hc : CtO G yX5_sumByCarries mX5_sumByCarries [rf G 0, .int (iI p), .int (iI q)] K r (some (.int (iI v))) K1 r1) : CtH G yL_sumByCarries mL_sumByCarries [rf G 0, .int (iI p), .int (iI q), rf G 33] 34 false (HP G K r) 1 6 (some (.int (iI 0))) 34 false (HP G (us K1 33 (us (K1 33) 0 v)) r1) := by
  refine CtH_of kL_sumByCarries (by decide) [some (rf G 0), some (.int (iI p)), some (.int (iI q)), some (rf G 33), none] rfl (Nat.le_of_ble_eq_true rfl) ?_
  intro x C hZ
  refine V_aload_n C dL_sumByCarries_0 rfl rfl ?_
  refine V_iconst C dL_sumByCarries_1 ?_
  refine V_aload_n C dL_sumByCarries_2 rfl rfl ?_
  refine V_iload_n C dL_sumByCarries_3 rfl rfl ?_
  refine V_iload_n C dL_sumByCarries_4 rfl rfl ?_
  refine V_V1 (k2 := 1) (s2 := 6) C dL_sumByCarries_5 lL_94 kX5_sumByCarries (hc) (by decide) (rfl) rfl rfl rfl ⟨Nat.le_of_ble_eq_true rfl, Nat.le_of_ble_eq_true rfl⟩ (Nat.le_of_ble_eq_true rfl) (Nat.le_refl _) (Nat.le_refl _) ?_
  refine V_i2l C dL_sumByCarries_8 (by omega) ?_
  refine V_lastH C dL_sumByCarries_9 (by decide) (fun _ => rfl) (by omega) (by decide) ?_
  refine V_goto (tgt := 17) C dL_sumByCarries_10 (by decide) ?_
  refine V_iconst C dL_sumByCarries_17 ?_
  exact V_iret C dL_sumByCarries_18 rfl hZ rfl rfl
set_option maxRecDepth 100000 in
set_option maxHeartbeats 4000000 in
theorem e1_L_sumByCarries (G : GT) (K : Nat → Nat → Int) (r : Nat → Option Nat) (p : Int) (hp : -2147483648 ≤ p ∧ p < 2147483648) (q : Int) (hq : -2147483648 ≤ q ∧ q < 2147483648) (K1 : Nat → Nat → Int) (hc : CtX G yX5_sumByCarries mX5_sumByCarries [rf G 0, .int (iI p), .int (iI q)] 34 false (HP G K r) 1 6 "java/lang/IndexOutOfBoundsException" (HP G K1 r)) : CtH G yL_sumByCarries mL_sumByCarries [rf G 0, .int (iI p), .int (iI q), rf G 33] 34 false (HP G K r) 1 6 (some (.int (iI 1))) 34 false (HP G K1 r) := by
  refine CtH_of kL_sumByCarries (by decide) [some (rf G 0), some (.int (iI p)), some (.int (iI q)), some (rf G 33), none] rfl (Nat.le_of_ble_eq_true rfl) ?_
  intro x C hZ
  have hh : ∀ a : Nat, V G mL_sumByCarries x 13 [some (rf G 0), some (.int (iI p)), some (.int (iI q)), some (rf G 33), none] [.ref a] 34 false (HP G K1 r) 0 0 := by
    intro a
    refine V_astore (q := a) C dL_sumByCarries_13 (Nat.le_of_ble_eq_true rfl) rfl ?_
    refine V_iconst C dL_sumByCarries_15 ?_
    exact V_iret C dL_sumByCarries_16 rfl hZ rfl rfl
  have hx := VX_catch (E := "java/lang/IndexOutOfBoundsException") (pc := 5) (st := [.int (iI 0), rf G 33]) (kc := 0) (ks := 0) C [] (0, 10, 13, 13) [] rfl (fun z hz => by cases hz) ⟨by decide, by decide⟩ (by decide) nL_13 (by decide +kernel) hh
  refine V_aload_n C dL_sumByCarries_0 rfl rfl ?_
  refine V_iconst C dL_sumByCarries_1 ?_
  refine V_aload_n C dL_sumByCarries_2 rfl rfl ?_
  refine V_iload_n C dL_sumByCarries_3 rfl rfl ?_
  refine V_iload_n C dL_sumByCarries_4 rfl rfl ?_
  exact V_VX (k2 := 0) (s2 := 0) C dL_sumByCarries_5 lL_94 kX5_sumByCarries (hc) (by decide) (rfl) rfl rfl rfl ⟨Nat.le_of_ble_eq_true rfl, Nat.le_of_ble_eq_true rfl⟩ (Nat.le_of_ble_eq_true rfl) (by omega) (by omega) (hx)
set_option maxRecDepth 100000 in
set_option maxHeartbeats 4000000 in
theorem h_L_carries (G : GT) (K : Nat → Nat → Int) (r : Nat → Option Nat) (p : Int) (hp : -2147483648 ≤ p ∧ p < 2147483648) (q : Int) (hq : -2147483648 ≤ q ∧ q < 2147483648) (v : Int) (hv : -2147483648 ≤ v ∧ v < 2147483648) (K1 : Nat → Nat → Int) (r1 : Nat → Option Nat) (hc : CtO G yX5_carries mX5_carries [rf G 0, .int (iI p), .int (iI q)] K r (some (.int (iI v))) K1 r1) : CtH G yL_carries mL_carries [rf G 0, .int (iI p), .int (iI q), rf G 33] 34 false (HP G K r) 1 6 (some (.int (iI 0))) 34 false (HP G (us K1 33 (us (K1 33) 0 v)) r1) := by
  refine CtH_of kL_carries (by decide) [some (rf G 0), some (.int (iI p)), some (.int (iI q)), some (rf G 33), none] rfl (Nat.le_of_ble_eq_true rfl) ?_
  intro x C hZ
  refine V_aload_n C dL_carries_0 rfl rfl ?_
  refine V_iconst C dL_carries_1 ?_
  refine V_aload_n C dL_carries_2 rfl rfl ?_
  refine V_iload_n C dL_carries_3 rfl rfl ?_
  refine V_iload_n C dL_carries_4 rfl rfl ?_
  refine V_V1 (k2 := 1) (s2 := 6) C dL_carries_5 lL_97 kX5_carries (hc) (by decide) (rfl) rfl rfl rfl ⟨Nat.le_of_ble_eq_true rfl, Nat.le_of_ble_eq_true rfl⟩ (Nat.le_of_ble_eq_true rfl) (Nat.le_refl _) (Nat.le_refl _) ?_
  refine V_i2l C dL_carries_8 (by omega) ?_
  refine V_lastH C dL_carries_9 (by decide) (fun _ => rfl) (by omega) (by decide) ?_
  refine V_goto (tgt := 17) C dL_carries_10 (by decide) ?_
  refine V_iconst C dL_carries_17 ?_
  exact V_iret C dL_carries_18 rfl hZ rfl rfl
set_option maxRecDepth 100000 in
set_option maxHeartbeats 4000000 in
theorem e1_L_carries (G : GT) (K : Nat → Nat → Int) (r : Nat → Option Nat) (p : Int) (hp : -2147483648 ≤ p ∧ p < 2147483648) (q : Int) (hq : -2147483648 ≤ q ∧ q < 2147483648) (K1 : Nat → Nat → Int) (hc : CtX G yX5_carries mX5_carries [rf G 0, .int (iI p), .int (iI q)] 34 false (HP G K r) 1 6 "java/lang/IndexOutOfBoundsException" (HP G K1 r)) : CtH G yL_carries mL_carries [rf G 0, .int (iI p), .int (iI q), rf G 33] 34 false (HP G K r) 1 6 (some (.int (iI 1))) 34 false (HP G K1 r) := by
  refine CtH_of kL_carries (by decide) [some (rf G 0), some (.int (iI p)), some (.int (iI q)), some (rf G 33), none] rfl (Nat.le_of_ble_eq_true rfl) ?_
  intro x C hZ
  have hh : ∀ a : Nat, V G mL_carries x 13 [some (rf G 0), some (.int (iI p)), some (.int (iI q)), some (rf G 33), none] [.ref a] 34 false (HP G K1 r) 0 0 := by
    intro a
    refine V_astore (q := a) C dL_carries_13 (Nat.le_of_ble_eq_true rfl) rfl ?_
    refine V_iconst C dL_carries_15 ?_
    exact V_iret C dL_carries_16 rfl hZ rfl rfl
  have hx := VX_catch (E := "java/lang/IndexOutOfBoundsException") (pc := 5) (st := [.int (iI 0), rf G 33]) (kc := 0) (ks := 0) C [] (0, 10, 13, 13) [] rfl (fun z hz => by cases hz) ⟨by decide, by decide⟩ (by decide) nL_13 (by decide +kernel) hh
  refine V_aload_n C dL_carries_0 rfl rfl ?_
  refine V_iconst C dL_carries_1 ?_
  refine V_aload_n C dL_carries_2 rfl rfl ?_
  refine V_iload_n C dL_carries_3 rfl rfl ?_
  refine V_iload_n C dL_carries_4 rfl rfl ?_
  exact V_VX (k2 := 0) (s2 := 0) C dL_carries_5 lL_97 kX5_carries (hc) (by decide) (rfl) rfl rfl rfl ⟨Nat.le_of_ble_eq_true rfl, Nat.le_of_ble_eq_true rfl⟩ (Nat.le_of_ble_eq_true rfl) (by omega) (by omega) (hx)
set_option maxRecDepth 100000 in
set_option maxHeartbeats 4000000 in
theorem h_L_digitAt (G : GT) (K : Nat → Nat → Int) (r : Nat → Option Nat) (p : Int) (hp : -2147483648 ≤ p ∧ p < 2147483648) (v : Int) (hv : -2147483648 ≤ v ∧ v < 2147483648) (K1 : Nat → Nat → Int) (r1 : Nat → Option Nat) (hc : CtO G yX5_digitAt mX5_digitAt [rf G 0, .int (iI p)] K r (some (.int (iI v))) K1 r1) : CtH G yL_digitAt mL_digitAt [rf G 0, .int (iI p), rf G 33] 34 false (HP G K r) 1 6 (some (.int (iI 0))) 34 false (HP G (us K1 33 (us (K1 33) 0 v)) r1) := by
  refine CtH_of kL_digitAt (by decide) [some (rf G 0), some (.int (iI p)), some (rf G 33), none] rfl (Nat.le_of_ble_eq_true rfl) ?_
  intro x C hZ
  refine V_aload_n C dL_digitAt_0 rfl rfl ?_
  refine V_iconst C dL_digitAt_1 ?_
  refine V_aload_n C dL_digitAt_2 rfl rfl ?_
  refine V_iload_n C dL_digitAt_3 rfl rfl ?_
  refine V_V1 (k2 := 1) (s2 := 6) C dL_digitAt_4 lL_100 kX5_digitAt (hc) (by decide) (rfl) rfl rfl rfl ⟨Nat.le_of_ble_eq_true rfl, Nat.le_of_ble_eq_true rfl⟩ (Nat.le_of_ble_eq_true rfl) (Nat.le_refl _) (Nat.le_refl _) ?_
  refine V_i2l C dL_digitAt_7 (by omega) ?_
  refine V_lastH C dL_digitAt_8 (by decide) (fun _ => rfl) (by omega) (by decide) ?_
  refine V_goto (tgt := 15) C dL_digitAt_9 (by decide) ?_
  refine V_iconst C dL_digitAt_15 ?_
  exact V_iret C dL_digitAt_16 rfl hZ rfl rfl
set_option maxRecDepth 100000 in
set_option maxHeartbeats 4000000 in
theorem e1_L_digitAt (G : GT) (K : Nat → Nat → Int) (r : Nat → Option Nat) (p : Int) (hp : -2147483648 ≤ p ∧ p < 2147483648) (K1 : Nat → Nat → Int) (hc : CtX G yX5_digitAt mX5_digitAt [rf G 0, .int (iI p)] 34 false (HP G K r) 1 6 "java/lang/IndexOutOfBoundsException" (HP G K1 r)) : CtH G yL_digitAt mL_digitAt [rf G 0, .int (iI p), rf G 33] 34 false (HP G K r) 1 6 (some (.int (iI 1))) 34 false (HP G K1 r) := by
  refine CtH_of kL_digitAt (by decide) [some (rf G 0), some (.int (iI p)), some (rf G 33), none] rfl (Nat.le_of_ble_eq_true rfl) ?_
  intro x C hZ
  have hh : ∀ a : Nat, V G mL_digitAt x 12 [some (rf G 0), some (.int (iI p)), some (rf G 33), none] [.ref a] 34 false (HP G K1 r) 0 0 := by
    intro a
    refine V_astore_n (q := a) C dL_digitAt_12 rfl (Nat.le_of_ble_eq_true rfl) rfl ?_
    refine V_iconst C dL_digitAt_13 ?_
    exact V_iret C dL_digitAt_14 rfl hZ rfl rfl
  have hx := VX_catch (E := "java/lang/IndexOutOfBoundsException") (pc := 4) (st := [.int (iI 0), rf G 33]) (kc := 0) (ks := 0) C [] (0, 9, 12, 13) [] rfl (fun z hz => by cases hz) ⟨by decide, by decide⟩ (by decide) nL_13 (by decide +kernel) hh
  refine V_aload_n C dL_digitAt_0 rfl rfl ?_
  refine V_iconst C dL_digitAt_1 ?_
  refine V_aload_n C dL_digitAt_2 rfl rfl ?_
  refine V_iload_n C dL_digitAt_3 rfl rfl ?_
  exact V_VX (k2 := 0) (s2 := 0) C dL_digitAt_4 lL_100 kX5_digitAt (hc) (by decide) (rfl) rfl rfl rfl ⟨Nat.le_of_ble_eq_true rfl, Nat.le_of_ble_eq_true rfl⟩ (Nat.le_of_ble_eq_true rfl) (by omega) (by omega) (hx)
set_option maxRecDepth 100000 in
set_option maxHeartbeats 4000000 in
theorem h_L_readAt (G : GT) (K : Nat → Nat → Int) (r : Nat → Option Nat) (p : Int) (hp : -2147483648 ≤ p ∧ p < 2147483648) (v : Int) (hv : -2147483648 ≤ v ∧ v < 2147483648) (K1 : Nat → Nat → Int) (r1 : Nat → Option Nat) (hc : CtO G yX5_readAt mX5_readAt [rf G 0, .int (iI p)] K r (some (.int (iI v))) K1 r1) : CtH G yL_readAt mL_readAt [rf G 0, .int (iI p), rf G 33] 34 false (HP G K r) 1 6 (some (.int (iI 0))) 34 false (HP G (us K1 33 (us (K1 33) 0 v)) r1) := by
  refine CtH_of kL_readAt (by decide) [some (rf G 0), some (.int (iI p)), some (rf G 33), none] rfl (Nat.le_of_ble_eq_true rfl) ?_
  intro x C hZ
  refine V_aload_n C dL_readAt_0 rfl rfl ?_
  refine V_iconst C dL_readAt_1 ?_
  refine V_aload_n C dL_readAt_2 rfl rfl ?_
  refine V_iload_n C dL_readAt_3 rfl rfl ?_
  refine V_V1 (k2 := 1) (s2 := 6) C dL_readAt_4 lL_103 kX5_readAt (hc) (by decide) (rfl) rfl rfl rfl ⟨Nat.le_of_ble_eq_true rfl, Nat.le_of_ble_eq_true rfl⟩ (Nat.le_of_ble_eq_true rfl) (Nat.le_refl _) (Nat.le_refl _) ?_
  refine V_i2l C dL_readAt_7 (by omega) ?_
  refine V_lastH C dL_readAt_8 (by decide) (fun _ => rfl) (by omega) (by decide) ?_
  refine V_goto (tgt := 15) C dL_readAt_9 (by decide) ?_
  refine V_iconst C dL_readAt_15 ?_
  exact V_iret C dL_readAt_16 rfl hZ rfl rfl
set_option maxRecDepth 100000 in
set_option maxHeartbeats 4000000 in
theorem e1_L_readAt (G : GT) (K : Nat → Nat → Int) (r : Nat → Option Nat) (p : Int) (hp : -2147483648 ≤ p ∧ p < 2147483648) (K1 : Nat → Nat → Int) (hc : CtX G yX5_readAt mX5_readAt [rf G 0, .int (iI p)] 34 false (HP G K r) 1 6 "java/lang/IndexOutOfBoundsException" (HP G K1 r)) : CtH G yL_readAt mL_readAt [rf G 0, .int (iI p), rf G 33] 34 false (HP G K r) 1 6 (some (.int (iI 1))) 34 false (HP G K1 r) := by
  refine CtH_of kL_readAt (by decide) [some (rf G 0), some (.int (iI p)), some (rf G 33), none] rfl (Nat.le_of_ble_eq_true rfl) ?_
  intro x C hZ
  have hh : ∀ a : Nat, V G mL_readAt x 12 [some (rf G 0), some (.int (iI p)), some (rf G 33), none] [.ref a] 34 false (HP G K1 r) 0 0 := by
    intro a
    refine V_astore_n (q := a) C dL_readAt_12 rfl (Nat.le_of_ble_eq_true rfl) rfl ?_
    refine V_iconst C dL_readAt_13 ?_
    exact V_iret C dL_readAt_14 rfl hZ rfl rfl
  have hx := VX_catch (E := "java/lang/IndexOutOfBoundsException") (pc := 4) (st := [.int (iI 0), rf G 33]) (kc := 0) (ks := 0) C [] (0, 9, 12, 13) [] rfl (fun z hz => by cases hz) ⟨by decide, by decide⟩ (by decide) nL_13 (by decide +kernel) hh
  refine V_aload_n C dL_readAt_0 rfl rfl ?_
  refine V_iconst C dL_readAt_1 ?_
  refine V_aload_n C dL_readAt_2 rfl rfl ?_
  refine V_iload_n C dL_readAt_3 rfl rfl ?_
  exact V_VX (k2 := 0) (s2 := 0) C dL_readAt_4 lL_103 kX5_readAt (hc) (by decide) (rfl) rfl rfl rfl ⟨Nat.le_of_ble_eq_true rfl, Nat.le_of_ble_eq_true rfl⟩ (Nat.le_of_ble_eq_true rfl) (by omega) (by omega) (hx)
set_option maxRecDepth 100000 in
set_option maxHeartbeats 4000000 in
theorem h_L_readIfTurned (G : GT) (K : Nat → Nat → Int) (r : Nat → Option Nat) (p : Int) (hp : -2147483648 ≤ p ∧ p < 2147483648) (v : Int) (hv : -2147483648 ≤ v ∧ v < 2147483648) (K1 : Nat → Nat → Int) (r1 : Nat → Option Nat) (hc : CtO G yX5_readIfTurned mX5_readIfTurned [rf G 0, .int (iI p)] K r (some (.int (iI v))) K1 r1) : CtH G yL_readIfTurned mL_readIfTurned [rf G 0, .int (iI p), rf G 33] 34 false (HP G K r) 1 6 (some (.int (iI 0))) 34 false (HP G (us K1 33 (us (K1 33) 0 v)) r1) := by
  refine CtH_of kL_readIfTurned (by decide) [some (rf G 0), some (.int (iI p)), some (rf G 33), none] rfl (Nat.le_of_ble_eq_true rfl) ?_
  intro x C hZ
  refine V_aload_n C dL_readIfTurned_0 rfl rfl ?_
  refine V_iconst C dL_readIfTurned_1 ?_
  refine V_aload_n C dL_readIfTurned_2 rfl rfl ?_
  refine V_iload_n C dL_readIfTurned_3 rfl rfl ?_
  refine V_V1 (k2 := 1) (s2 := 6) C dL_readIfTurned_4 lL_106 kX5_readIfTurned (hc) (by decide) (rfl) rfl rfl rfl ⟨Nat.le_of_ble_eq_true rfl, Nat.le_of_ble_eq_true rfl⟩ (Nat.le_of_ble_eq_true rfl) (Nat.le_refl _) (Nat.le_refl _) ?_
  refine V_i2l C dL_readIfTurned_7 (by omega) ?_
  refine V_lastH C dL_readIfTurned_8 (by decide) (fun _ => rfl) (by omega) (by decide) ?_
  refine V_goto (tgt := 15) C dL_readIfTurned_9 (by decide) ?_
  refine V_iconst C dL_readIfTurned_15 ?_
  exact V_iret C dL_readIfTurned_16 rfl hZ rfl rfl
set_option maxRecDepth 100000 in
set_option maxHeartbeats 4000000 in
theorem e1_L_readIfTurned (G : GT) (K : Nat → Nat → Int) (r : Nat → Option Nat) (p : Int) (hp : -2147483648 ≤ p ∧ p < 2147483648) (K1 : Nat → Nat → Int) (hc : CtX G yX5_readIfTurned mX5_readIfTurned [rf G 0, .int (iI p)] 34 false (HP G K r) 1 6 "java/lang/IndexOutOfBoundsException" (HP G K1 r)) : CtH G yL_readIfTurned mL_readIfTurned [rf G 0, .int (iI p), rf G 33] 34 false (HP G K r) 1 6 (some (.int (iI 1))) 34 false (HP G K1 r) := by
  refine CtH_of kL_readIfTurned (by decide) [some (rf G 0), some (.int (iI p)), some (rf G 33), none] rfl (Nat.le_of_ble_eq_true rfl) ?_
  intro x C hZ
  have hh : ∀ a : Nat, V G mL_readIfTurned x 12 [some (rf G 0), some (.int (iI p)), some (rf G 33), none] [.ref a] 34 false (HP G K1 r) 0 0 := by
    intro a
    refine V_astore_n (q := a) C dL_readIfTurned_12 rfl (Nat.le_of_ble_eq_true rfl) rfl ?_
    refine V_iconst C dL_readIfTurned_13 ?_
    exact V_iret C dL_readIfTurned_14 rfl hZ rfl rfl
  have hx := VX_catch (E := "java/lang/IndexOutOfBoundsException") (pc := 4) (st := [.int (iI 0), rf G 33]) (kc := 0) (ks := 0) C [] (0, 9, 12, 13) [] rfl (fun z hz => by cases hz) ⟨by decide, by decide⟩ (by decide) nL_13 (by decide +kernel) hh
  refine V_aload_n C dL_readIfTurned_0 rfl rfl ?_
  refine V_iconst C dL_readIfTurned_1 ?_
  refine V_aload_n C dL_readIfTurned_2 rfl rfl ?_
  refine V_iload_n C dL_readIfTurned_3 rfl rfl ?_
  exact V_VX (k2 := 0) (s2 := 0) C dL_readIfTurned_4 lL_106 kX5_readIfTurned (hc) (by decide) (rfl) rfl rfl rfl ⟨Nat.le_of_ble_eq_true rfl, Nat.le_of_ble_eq_true rfl⟩ (Nat.le_of_ble_eq_true rfl) (by omega) (by omega) (hx)
set_option maxRecDepth 100000 in
set_option maxHeartbeats 4000000 in
theorem h_L_codeLength (G : GT) (K : Nat → Nat → Int) (r : Nat → Option Nat) (p : Int) (hp : -2147483648 ≤ p ∧ p < 2147483648) (v : Int) (hv : -2147483648 ≤ v ∧ v < 2147483648) (K1 : Nat → Nat → Int) (r1 : Nat → Option Nat) (hc : CtO G yX5_codeLength mX5_codeLength [rf G 0, .int (iI p)] K r (some (.int (iI v))) K1 r1) : CtH G yL_codeLength mL_codeLength [rf G 0, .int (iI p), rf G 33] 34 false (HP G K r) 1 6 (some (.int (iI 0))) 34 false (HP G (us K1 33 (us (K1 33) 0 v)) r1) := by
  refine CtH_of kL_codeLength (by decide) [some (rf G 0), some (.int (iI p)), some (rf G 33), none] rfl (Nat.le_of_ble_eq_true rfl) ?_
  intro x C hZ
  refine V_aload_n C dL_codeLength_0 rfl rfl ?_
  refine V_iconst C dL_codeLength_1 ?_
  refine V_aload_n C dL_codeLength_2 rfl rfl ?_
  refine V_iload_n C dL_codeLength_3 rfl rfl ?_
  refine V_V1 (k2 := 1) (s2 := 6) C dL_codeLength_4 lL_109 kX5_codeLength (hc) (by decide) (rfl) rfl rfl rfl ⟨Nat.le_of_ble_eq_true rfl, Nat.le_of_ble_eq_true rfl⟩ (Nat.le_of_ble_eq_true rfl) (Nat.le_refl _) (Nat.le_refl _) ?_
  refine V_i2l C dL_codeLength_7 (by omega) ?_
  refine V_lastH C dL_codeLength_8 (by decide) (fun _ => rfl) (by omega) (by decide) ?_
  refine V_goto (tgt := 15) C dL_codeLength_9 (by decide) ?_
  refine V_iconst C dL_codeLength_15 ?_
  exact V_iret C dL_codeLength_16 rfl hZ rfl rfl
set_option maxRecDepth 100000 in
set_option maxHeartbeats 4000000 in
theorem e1_L_codeLength (G : GT) (K : Nat → Nat → Int) (r : Nat → Option Nat) (p : Int) (hp : -2147483648 ≤ p ∧ p < 2147483648) (K1 : Nat → Nat → Int) (hc : CtX G yX5_codeLength mX5_codeLength [rf G 0, .int (iI p)] 34 false (HP G K r) 1 6 "java/lang/IllegalArgumentException" (HP G K1 r)) : CtH G yL_codeLength mL_codeLength [rf G 0, .int (iI p), rf G 33] 34 false (HP G K r) 1 6 (some (.int (iI 1))) 34 false (HP G K1 r) := by
  refine CtH_of kL_codeLength (by decide) [some (rf G 0), some (.int (iI p)), some (rf G 33), none] rfl (Nat.le_of_ble_eq_true rfl) ?_
  intro x C hZ
  have hh : ∀ a : Nat, V G mL_codeLength x 12 [some (rf G 0), some (.int (iI p)), some (rf G 33), none] [.ref a] 34 false (HP G K1 r) 0 0 := by
    intro a
    refine V_astore_n (q := a) C dL_codeLength_12 rfl (Nat.le_of_ble_eq_true rfl) rfl ?_
    refine V_iconst C dL_codeLength_13 ?_
    exact V_iret C dL_codeLength_14 rfl hZ rfl rfl
  have hx := VX_catch (E := "java/lang/IllegalArgumentException") (pc := 4) (st := [.int (iI 0), rf G 33]) (kc := 0) (ks := 0) C [] (0, 9, 12, 15) [] rfl (fun z hz => by cases hz) ⟨by decide, by decide⟩ (by decide) nL_15 (by decide +kernel) hh
  refine V_aload_n C dL_codeLength_0 rfl rfl ?_
  refine V_iconst C dL_codeLength_1 ?_
  refine V_aload_n C dL_codeLength_2 rfl rfl ?_
  refine V_iload_n C dL_codeLength_3 rfl rfl ?_
  exact V_VX (k2 := 0) (s2 := 0) C dL_codeLength_4 lL_109 kX5_codeLength (hc) (by decide) (rfl) rfl rfl rfl ⟨Nat.le_of_ble_eq_true rfl, Nat.le_of_ble_eq_true rfl⟩ (Nat.le_of_ble_eq_true rfl) (by omega) (by omega) (hx)
