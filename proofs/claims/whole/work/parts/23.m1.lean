set_option maxRecDepth 100000 in
set_option maxHeartbeats 4000000 in
theorem c_X6_thrown (G : GT) (K : Nat → Nat → Int) (r : Nat → Option Nat)  : CtO G yX6_thrown mX6_thrown [rf G 28] K r (some (.int (iI (K 28 3)))) (K) (r) := by
  refine Ct_of kX6_thrown.1.1 (by decide) [some (rf G 28)] rfl (Nat.le_of_ble_eq_true rfl) ?_
  intro x C hZ
  refine V_aload_n C dX6_thrown_0 rfl rfl ?_
  refine V_getH (L := mOl G) C dX6_thrown_1 fX6_22 (by decide) (fun _ => rfl) rfl ?_
  exact V_iret C dX6_thrown_4 rfl hZ (by first | rfl | omega) rfl
def goT (a b c : Bool) : Int := if a = true then (if b = true then (if c = true then 0 else 3) else 2) else 1
theorem goT_0 (a b c : Bool) : goT a b c = 0 ↔ (a && b && c) = true := by cases a <;> cases b <;> cases c <;> decide
theorem goT_r (a b c : Bool) : 0 ≤ goT a b c ∧ goT a b c ≤ 3 := by cases a <;> cases b <;> cases c <;> decide
/-- the reference's note of what it would have thrown -/
def kT (K : Nat → Nat → Int) (v : Int) : Nat → Nat → Int := us K 28 (us (K 28) 3 v)
set_option maxRecDepth 100000 in
set_option maxHeartbeats 4000000 in
theorem c_X6_goes (G : GT) (K : Nat → Nat → Int) (r : Nat → Option Nat) (a b c : Bool) : CtO G yX6_goes mX6_goes [rf G 28, .int (iI (b2 a)), .int (iI (b2 b)), .int (iI (b2 c))] K r (some (.int (iI (b2 (a && b && c))))) (kT K (goT a b c)) (r) := by
  refine Ct_of kX6_goes.1.1 (by decide) [some (rf G 28), some (.int (iI (b2 a))), some (.int (iI (b2 b))), some (.int (iI (b2 c)))] rfl (Nat.le_of_ble_eq_true rfl) ?_
  intro x C hZ
  cases a <;> cases b <;> cases c
  · refine V_aload_n C dX6_goes_0 rfl rfl ?_
    refine V_iload_n C dX6_goes_1 rfl rfl ?_
    refine V_if_ne (tgt := 9) C dX6_goes_2 (by decide) (by first | omega | (simp [b2, us] at * <;> omega)) (fun q2 => by exfalso; first | omega | (simp [b2, us] at * <;> omega)) (fun q2 => ?_)
    refine V_iconst C dX6_goes_5 ?_
    refine V_goto (tgt := 26) C dX6_goes_6 (by decide) ?_
    refine V_putH (L := mOl G) (ty := .int) C dX6_goes_26 fX6_22 (by decide) (fun _ => rfl) rfl (by decide +kernel) (rfl) (rfl) (Nat.le_of_ble_eq_true rfl) rfl ?_
    refine V_aload_n C dX6_goes_29 rfl rfl ?_
    refine V_getH (L := mOl G) C dX6_goes_30 fX6_22 (by decide) (fun _ => rfl) rfl ?_
    refine V_if_ne (tgt := 40) C dX6_goes_33 (by decide) (by first | omega | (simp [b2, us] at * <;> omega)) (fun q33 => ?_) (fun q33 => by exfalso; first | omega | (simp [b2, us] at * <;> omega))
    refine V_iconst C dX6_goes_40 ?_
    exact V_zret C dX6_goes_41 rfl hZ (by decide) rfl rfl
  · refine V_aload_n C dX6_goes_0 rfl rfl ?_
    refine V_iload_n C dX6_goes_1 rfl rfl ?_
    refine V_if_ne (tgt := 9) C dX6_goes_2 (by decide) (by first | omega | (simp [b2, us] at * <;> omega)) (fun q2 => by exfalso; first | omega | (simp [b2, us] at * <;> omega)) (fun q2 => ?_)
    refine V_iconst C dX6_goes_5 ?_
    refine V_goto (tgt := 26) C dX6_goes_6 (by decide) ?_
    refine V_putH (L := mOl G) (ty := .int) C dX6_goes_26 fX6_22 (by decide) (fun _ => rfl) rfl (by decide +kernel) (rfl) (rfl) (Nat.le_of_ble_eq_true rfl) rfl ?_
    refine V_aload_n C dX6_goes_29 rfl rfl ?_
    refine V_getH (L := mOl G) C dX6_goes_30 fX6_22 (by decide) (fun _ => rfl) rfl ?_
    refine V_if_ne (tgt := 40) C dX6_goes_33 (by decide) (by first | omega | (simp [b2, us] at * <;> omega)) (fun q33 => ?_) (fun q33 => by exfalso; first | omega | (simp [b2, us] at * <;> omega))
    refine V_iconst C dX6_goes_40 ?_
    exact V_zret C dX6_goes_41 rfl hZ (by decide) rfl rfl
  · refine V_aload_n C dX6_goes_0 rfl rfl ?_
    refine V_iload_n C dX6_goes_1 rfl rfl ?_
    refine V_if_ne (tgt := 9) C dX6_goes_2 (by decide) (by first | omega | (simp [b2, us] at * <;> omega)) (fun q2 => by exfalso; first | omega | (simp [b2, us] at * <;> omega)) (fun q2 => ?_)
    refine V_iconst C dX6_goes_5 ?_
    refine V_goto (tgt := 26) C dX6_goes_6 (by decide) ?_
    refine V_putH (L := mOl G) (ty := .int) C dX6_goes_26 fX6_22 (by decide) (fun _ => rfl) rfl (by decide +kernel) (rfl) (rfl) (Nat.le_of_ble_eq_true rfl) rfl ?_
    refine V_aload_n C dX6_goes_29 rfl rfl ?_
    refine V_getH (L := mOl G) C dX6_goes_30 fX6_22 (by decide) (fun _ => rfl) rfl ?_
    refine V_if_ne (tgt := 40) C dX6_goes_33 (by decide) (by first | omega | (simp [b2, us] at * <;> omega)) (fun q33 => ?_) (fun q33 => by exfalso; first | omega | (simp [b2, us] at * <;> omega))
    refine V_iconst C dX6_goes_40 ?_
    exact V_zret C dX6_goes_41 rfl hZ (by decide) rfl rfl
  · refine V_aload_n C dX6_goes_0 rfl rfl ?_
    refine V_iload_n C dX6_goes_1 rfl rfl ?_
    refine V_if_ne (tgt := 9) C dX6_goes_2 (by decide) (by first | omega | (simp [b2, us] at * <;> omega)) (fun q2 => by exfalso; first | omega | (simp [b2, us] at * <;> omega)) (fun q2 => ?_)
    refine V_iconst C dX6_goes_5 ?_
    refine V_goto (tgt := 26) C dX6_goes_6 (by decide) ?_
    refine V_putH (L := mOl G) (ty := .int) C dX6_goes_26 fX6_22 (by decide) (fun _ => rfl) rfl (by decide +kernel) (rfl) (rfl) (Nat.le_of_ble_eq_true rfl) rfl ?_
    refine V_aload_n C dX6_goes_29 rfl rfl ?_
    refine V_getH (L := mOl G) C dX6_goes_30 fX6_22 (by decide) (fun _ => rfl) rfl ?_
    refine V_if_ne (tgt := 40) C dX6_goes_33 (by decide) (by first | omega | (simp [b2, us] at * <;> omega)) (fun q33 => ?_) (fun q33 => by exfalso; first | omega | (simp [b2, us] at * <;> omega))
    refine V_iconst C dX6_goes_40 ?_
    exact V_zret C dX6_goes_41 rfl hZ (by decide) rfl rfl
  · refine V_aload_n C dX6_goes_0 rfl rfl ?_
    refine V_iload_n C dX6_goes_1 rfl rfl ?_
    refine V_if_ne (tgt := 9) C dX6_goes_2 (by decide) (by first | omega | (simp [b2, us] at * <;> omega)) (fun q2 => ?_) (fun q2 => by exfalso; first | omega | (simp [b2, us] at * <;> omega))
    refine V_iload_n C dX6_goes_9 rfl rfl ?_
    refine V_if_ne (tgt := 17) C dX6_goes_10 (by decide) (by first | omega | (simp [b2, us] at * <;> omega)) (fun q10 => by exfalso; first | omega | (simp [b2, us] at * <;> omega)) (fun q10 => ?_)
    refine V_iconst C dX6_goes_13 ?_
    refine V_goto (tgt := 26) C dX6_goes_14 (by decide) ?_
    refine V_putH (L := mOl G) (ty := .int) C dX6_goes_26 fX6_22 (by decide) (fun _ => rfl) rfl (by decide +kernel) (rfl) (rfl) (Nat.le_of_ble_eq_true rfl) rfl ?_
    refine V_aload_n C dX6_goes_29 rfl rfl ?_
    refine V_getH (L := mOl G) C dX6_goes_30 fX6_22 (by decide) (fun _ => rfl) rfl ?_
    refine V_if_ne (tgt := 40) C dX6_goes_33 (by decide) (by first | omega | (simp [b2, us] at * <;> omega)) (fun q33 => ?_) (fun q33 => by exfalso; first | omega | (simp [b2, us] at * <;> omega))
    refine V_iconst C dX6_goes_40 ?_
    exact V_zret C dX6_goes_41 rfl hZ (by decide) rfl rfl
  · refine V_aload_n C dX6_goes_0 rfl rfl ?_
    refine V_iload_n C dX6_goes_1 rfl rfl ?_
    refine V_if_ne (tgt := 9) C dX6_goes_2 (by decide) (by first | omega | (simp [b2, us] at * <;> omega)) (fun q2 => ?_) (fun q2 => by exfalso; first | omega | (simp [b2, us] at * <;> omega))
    refine V_iload_n C dX6_goes_9 rfl rfl ?_
    refine V_if_ne (tgt := 17) C dX6_goes_10 (by decide) (by first | omega | (simp [b2, us] at * <;> omega)) (fun q10 => by exfalso; first | omega | (simp [b2, us] at * <;> omega)) (fun q10 => ?_)
    refine V_iconst C dX6_goes_13 ?_
    refine V_goto (tgt := 26) C dX6_goes_14 (by decide) ?_
    refine V_putH (L := mOl G) (ty := .int) C dX6_goes_26 fX6_22 (by decide) (fun _ => rfl) rfl (by decide +kernel) (rfl) (rfl) (Nat.le_of_ble_eq_true rfl) rfl ?_
    refine V_aload_n C dX6_goes_29 rfl rfl ?_
    refine V_getH (L := mOl G) C dX6_goes_30 fX6_22 (by decide) (fun _ => rfl) rfl ?_
    refine V_if_ne (tgt := 40) C dX6_goes_33 (by decide) (by first | omega | (simp [b2, us] at * <;> omega)) (fun q33 => ?_) (fun q33 => by exfalso; first | omega | (simp [b2, us] at * <;> omega))
    refine V_iconst C dX6_goes_40 ?_
    exact V_zret C dX6_goes_41 rfl hZ (by decide) rfl rfl
  · refine V_aload_n C dX6_goes_0 rfl rfl ?_
    refine V_iload_n C dX6_goes_1 rfl rfl ?_
    refine V_if_ne (tgt := 9) C dX6_goes_2 (by decide) (by first | omega | (simp [b2, us] at * <;> omega)) (fun q2 => ?_) (fun q2 => by exfalso; first | omega | (simp [b2, us] at * <;> omega))
    refine V_iload_n C dX6_goes_9 rfl rfl ?_
    refine V_if_ne (tgt := 17) C dX6_goes_10 (by decide) (by first | omega | (simp [b2, us] at * <;> omega)) (fun q10 => ?_) (fun q10 => by exfalso; first | omega | (simp [b2, us] at * <;> omega))
    refine V_iload_n C dX6_goes_17 rfl rfl ?_
    refine V_if_ne (tgt := 25) C dX6_goes_18 (by decide) (by first | omega | (simp [b2, us] at * <;> omega)) (fun q18 => by exfalso; first | omega | (simp [b2, us] at * <;> omega)) (fun q18 => ?_)
    refine V_iconst C dX6_goes_21 ?_
    refine V_goto (tgt := 26) C dX6_goes_22 (by decide) ?_
    refine V_putH (L := mOl G) (ty := .int) C dX6_goes_26 fX6_22 (by decide) (fun _ => rfl) rfl (by decide +kernel) (rfl) (rfl) (Nat.le_of_ble_eq_true rfl) rfl ?_
    refine V_aload_n C dX6_goes_29 rfl rfl ?_
    refine V_getH (L := mOl G) C dX6_goes_30 fX6_22 (by decide) (fun _ => rfl) rfl ?_
    refine V_if_ne (tgt := 40) C dX6_goes_33 (by decide) (by first | omega | (simp [b2, us] at * <;> omega)) (fun q33 => ?_) (fun q33 => by exfalso; first | omega | (simp [b2, us] at * <;> omega))
    refine V_iconst C dX6_goes_40 ?_
    exact V_zret C dX6_goes_41 rfl hZ (by decide) rfl rfl
  · refine V_aload_n C dX6_goes_0 rfl rfl ?_
    refine V_iload_n C dX6_goes_1 rfl rfl ?_
    refine V_if_ne (tgt := 9) C dX6_goes_2 (by decide) (by first | omega | (simp [b2, us] at * <;> omega)) (fun q2 => ?_) (fun q2 => by exfalso; first | omega | (simp [b2, us] at * <;> omega))
    refine V_iload_n C dX6_goes_9 rfl rfl ?_
    refine V_if_ne (tgt := 17) C dX6_goes_10 (by decide) (by first | omega | (simp [b2, us] at * <;> omega)) (fun q10 => ?_) (fun q10 => by exfalso; first | omega | (simp [b2, us] at * <;> omega))
    refine V_iload_n C dX6_goes_17 rfl rfl ?_
    refine V_if_ne (tgt := 25) C dX6_goes_18 (by decide) (by first | omega | (simp [b2, us] at * <;> omega)) (fun q18 => ?_) (fun q18 => by exfalso; first | omega | (simp [b2, us] at * <;> omega))
    refine V_iconst C dX6_goes_25 ?_
    refine V_putH (L := mOl G) (ty := .int) C dX6_goes_26 fX6_22 (by decide) (fun _ => rfl) rfl (by decide +kernel) (rfl) (rfl) (Nat.le_of_ble_eq_true rfl) rfl ?_
    refine V_aload_n C dX6_goes_29 rfl rfl ?_
    refine V_getH (L := mOl G) C dX6_goes_30 fX6_22 (by decide) (fun _ => rfl) rfl ?_
    refine V_if_ne (tgt := 40) C dX6_goes_33 (by decide) (by first | omega | (simp [b2, us] at * <;> omega)) (fun q33 => by exfalso; first | omega | (simp [b2, us] at * <;> omega)) (fun q33 => ?_)
    refine V_iconst C dX6_goes_36 ?_
    refine V_goto (tgt := 41) C dX6_goes_37 (by decide) ?_
    exact V_zret C dX6_goes_41 rfl hZ (by decide) rfl rfl
/-- a slot's first k cells copied -/
def cpS (s : Nat → Int) (fr to k : Nat) : Nat → Int := fun j => if 74 * to ≤ j ∧ j < 74 * to + k then s (j - 74 * to + 74 * fr) else s j
theorem cpS_0 (s : Nat → Int) (fr to : Nat) : cpS s fr to 0 = s := by funext j; simp only [cpS]; rw [if_neg (by omega)]
theorem cpS_s (s : Nat → Int) {fr to k : Nat} (n : fr ≠ to) (hk : k < 74) : us (cpS s fr to k) (74 * to + k) (cpS s fr to k (74 * fr + k)) = cpS s fr to (k + 1) := by
  funext j
  by_cases e : j = 74 * to + k
  · subst e
    rw [us_at]
    simp only [cpS]
    rw [if_neg (by omega), if_pos (by omega)]
    congr 1; omega
  · rw [us_ne _ _ e]
    simp only [cpS]
    by_cases h : 74 * to ≤ j ∧ j < 74 * to + k
    · rw [if_pos h, if_pos (by omega)]
    · rw [if_neg h, if_neg (by omega)]
theorem cpS_at (s : Nat → Int) (fr to : Nat) {i k : Nat} (hk : k < 74) : cpS s fr to 74 (74 * i + k) = if i = to then s (74 * fr + k) else s (74 * i + k) := by
  simp only [cpS]
  by_cases e : i = to
  · subst e; rw [if_pos (by omega), if_pos rfl]; congr 1; omega
  · rw [if_neg (by omega), if_neg e]
set_option maxRecDepth 100000 in
set_option maxHeartbeats 4000000 in
theorem c_X6_copies (G : GT) (K : Nat → Nat → Int) (r : Nat → Option Nat) (fr to : Nat) (hf : fr ≤ 6) (ht : to ≤ 6) (hn : fr ≠ to) : CtO G yX6_copies mX6_copies [rf G 28, .int (iI (fr : Int)), .int (iI (to : Int))] K r (none) (us K 29 (cpS (K 29) fr to 74)) (r) := by
  refine Ct_of kX6_copies.1.1 (by decide) [some (rf G 28), some (.int (iI (fr : Int))), some (.int (iI (to : Int))), none] rfl (Nat.le_of_ble_eq_true rfl) ?_
  intro x C hZ
  have loop : ∀ (n k : Nat), k + n = 74 → V G mX6_copies x 2 [some (rf G 28), some (.int (iI (fr : Int))), some (.int (iI (to : Int))), some (.int (iI (k : Int)))] [] 34 false (HP G (us K 29 (cpS (K 29) fr to k)) r) 0 0 := by
    intro n
    induction n with
    | zero =>
      intro k e
      refine V_iload_n C dX6_copies_2 rfl rfl ?_
      refine V_bipush C dX6_copies_3 (by decide +kernel) ?_
      refine V_icmp_ge (tgt := 36) C dX6_copies_5 (by decide) (by omega) (by omega) (fun q5 => ?_) (fun q5 => by exfalso; omega)
      exact V_vret C dX6_copies_36 rfl hZ (by rw [show k = 74 by omega])
    | succ n ih =>
      intro k e
      have ha : ((74 : Int) * (to : Int) + (k : Int)).toNat = 74 * to + k := by omega
      have hb : ((74 : Int) * (fr : Int) + (k : Int)).toNat = 74 * fr + k := by omega
      refine V_iload_n C dX6_copies_2 rfl rfl ?_
      refine V_bipush C dX6_copies_3 (by decide +kernel) ?_
      refine V_icmp_ge (tgt := 36) C dX6_copies_5 (by decide) (by omega) (by omega) (fun q5 => by exfalso; omega) (fun q5 => ?_)
      refine V_aload_n C dX6_copies_8 rfl rfl ?_
      refine V_getH (L := mOl G) C dX6_copies_9 fX6_7 (by decide) (fun _ => rfl) rfl ?_
      refine V_bipush C dX6_copies_12 (by decide +kernel) ?_
      refine V_iload_n C dX6_copies_14 rfl rfl ?_
      refine V_imul C dX6_copies_15 ?_
      refine V_iload_n C dX6_copies_16 rfl rfl ?_
      refine V_iadd C dX6_copies_17 ?_
      refine V_aload_n C dX6_copies_18 rfl rfl ?_
      refine V_getH (L := mOl G) C dX6_copies_19 fX6_7 (by decide) (fun _ => rfl) rfl ?_
      refine V_bipush C dX6_copies_22 (by decide +kernel) ?_
      refine V_iload_n C dX6_copies_24 rfl rfl ?_
      refine V_imul C dX6_copies_25 ?_
      refine V_iload_n C dX6_copies_26 rfl rfl ?_
      refine V_iadd C dX6_copies_27 ?_
      refine V_ialdH C dX6_copies_28 (by decide) (fun _ => rfl) (by omega) (by decide) ?_
      refine V_iastH C dX6_copies_29 (by decide) (fun _ => rfl) (by omega) (by decide) ?_
      refine V_iinc C dX6_copies_30 rfl (Nat.le_of_ble_eq_true rfl) rfl ?_
      refine V_goto (tgt := 2) C dX6_copies_33 (by decide) ?_
      refine V_hp ?_ (ih (k + 1) (by omega))
      rw [ha, hb, us_at, us_us, cpS_s _ hn (by omega)]
  refine V_iconst C dX6_copies_0 ?_
  refine V_istore_n C dX6_copies_1 rfl (Nat.le_of_ble_eq_true rfl) rfl ?_
  refine V_hp ?_ (loop 74 0 (by omega))
  rw [cpS_0, us_same]
