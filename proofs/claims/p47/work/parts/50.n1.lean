/-! the class's states -/
theorem isS_ne1 {a b : Nat} (ha : isS a = true) (hb : isS b = true) : a + 1 ≠ b := by
  rcases isS_c ha with rfl | rfl | rfl | rfl | rfl | rfl | rfl <;> rcases isS_c hb with rfl | rfl | rfl | rfl | rfl | rfl | rfl <;> decide
def cpN (f g : Nat → Int) (k : Nat) : Nat → Int := fun j => if j < k then g j else f j
theorem cpN_0 (f g : Nat → Int) : cpN f g 0 = f := by funext j; simp [cpN]
theorem cpN_s (f g : Nat → Int) (k : Nat) : us (cpN f g k) k (g k) = cpN f g (k + 1) := by
  funext j
  by_cases e : j = k
  · subst e; rw [us_at]; simp [cpN]
  · rw [us_ne _ _ e]
    simp only [cpN]
    by_cases h : j < k
    · rw [if_pos h, if_pos (by omega)]
    · rw [if_neg h, if_neg (by omega)]
/-- the state at b copied to a -/
def cpK (K : Nat → Nat → Int) (a b : Nat) : Nat → Nat → Int := us (us K (a + 1) (cpN (K (a + 1)) (K (b + 1)) 6)) a (us (us (us (us (K a) 1 (K b 1)) 2 (K b 2)) 3 (K b 3)) 4 (K b 4))
set_option maxRecDepth 100000 in
set_option maxHeartbeats 4000000 in
theorem c_X2_numberIn (G : GT) (K : Nat → Nat → Int) (r : Nat → Option Nat) (a : Nat) (ha : isS a = true) (p : Int) (hp : 0 ≤ p ∧ p ≤ 5)  : CtO G yX2_numberIn mX2_numberIn [rf G a, .int (iI p)] K r (some (.int (iI (K (a + 1) p.toNat)))) (K) (r) := by
  refine Ct_of kX2_numberIn.1.1 (by decide) [some (rf G a), some (.int (iI p))] rfl (Nat.le_of_ble_eq_true rfl) ?_
  intro x C hZ
  refine V_iload_n C dX2_numberIn_0 rfl rfl ?_
  refine V_if_lt (tgt := 22) C dX2_numberIn_1 (by decide) (by omega) (fun q1 => by exfalso; omega) (fun q1 => ?_)
  refine V_iload_n C dX2_numberIn_4 rfl rfl ?_
  refine V_aload_n C dX2_numberIn_5 rfl rfl ?_
  refine V_getH (L := stL G a) C dX2_numberIn_6 fX2_9 (isS_lt ha) ((fun _ => cO_st ha _)) rfl ?_
  refine V_alenH C dX2_numberIn_9 (isS_lt1 ha) ((fun _ => cO_sn ha _)) ?_
  refine V_icmp_ge (tgt := 22) C dX2_numberIn_10 (by decide) (by omega) (by omega) (fun q10 => by exfalso; omega) (fun q10 => ?_)
  refine V_aload_n C dX2_numberIn_13 rfl rfl ?_
  refine V_getH (L := stL G a) C dX2_numberIn_14 fX2_9 (isS_lt ha) ((fun _ => cO_st ha _)) rfl ?_
  refine V_iload_n C dX2_numberIn_17 rfl rfl ?_
  refine V_ialdH C dX2_numberIn_18 (isS_lt1 ha) ((fun _ => cO_sn ha _)) (by omega) (by decide) ?_
  refine V_goto (tgt := 23) C dX2_numberIn_19 (by decide) ?_
  exact V_iret C dX2_numberIn_23 rfl hZ (by first | rfl | omega) rfl
set_option maxRecDepth 100000 in
set_option maxHeartbeats 4000000 in
theorem c_X2_give (G : GT) (K : Nat → Nat → Int) (r : Nat → Option Nat) (a : Nat) (ha : isS a = true) (p : Int) (hp : 0 ≤ p ∧ p ≤ 5) (v : Int) : CtO G yX2_give mX2_give [rf G a, .int (iI p), .int (iI v)] K r (none) (us K (a + 1) (us (K (a + 1)) p.toNat v)) (r) := by
  refine Ct_of kX2_give.1.1 (by decide) [some (rf G a), some (.int (iI p)), some (.int (iI v))] rfl (Nat.le_of_ble_eq_true rfl) ?_
  intro x C hZ
  refine V_iload_n C dX2_give_0 rfl rfl ?_
  refine V_if_lt (tgt := 20) C dX2_give_1 (by decide) (by omega) (fun q1 => by exfalso; omega) (fun q1 => ?_)
  refine V_iload_n C dX2_give_4 rfl rfl ?_
  refine V_aload_n C dX2_give_5 rfl rfl ?_
  refine V_getH (L := stL G a) C dX2_give_6 fX2_9 (isS_lt ha) ((fun _ => cO_st ha _)) rfl ?_
  refine V_alenH C dX2_give_9 (isS_lt1 ha) ((fun _ => cO_sn ha _)) ?_
  refine V_icmp_ge (tgt := 20) C dX2_give_10 (by decide) (by omega) (by omega) (fun q10 => by exfalso; omega) (fun q10 => ?_)
  refine V_aload_n C dX2_give_13 rfl rfl ?_
  refine V_getH (L := stL G a) C dX2_give_14 fX2_9 (isS_lt ha) ((fun _ => cO_st ha _)) rfl ?_
  refine V_iload_n C dX2_give_17 rfl rfl ?_
  refine V_iload_n C dX2_give_18 rfl rfl ?_
  refine V_iastH C dX2_give_19 (isS_lt1 ha) ((fun _ => cO_sn ha _)) (by omega) (by decide) ?_
  exact V_vret C dX2_give_20 rfl hZ rfl
set_option maxRecDepth 100000 in
set_option maxHeartbeats 4000000 in
theorem c_X2_copyOf (G : GT) (K : Nat → Nat → Int) (r : Nat → Option Nat) (a : Nat) (ha : isS a = true) (b : Nat) (hb : isS b = true) (hab : a ≠ b) : CtO G yX2_copyOf mX2_copyOf [rf G a, rf G b] K r (none) (cpK K a b) (r) := by
  refine Ct_of kX2_copyOf.1.1 (by decide) [some (rf G a), some (rf G b), none] rfl (Nat.le_of_ble_eq_true rfl) ?_
  intro x C hZ
  have hba : b ≠ a := Ne.symm hab
  have hba1 : b ≠ a + 1 := fun e => isS_ne1 ha hb e.symm
  have hb1a : b + 1 ≠ a + 1 := by omega
  have haa : a ≠ a + 1 := by omega
  have loop : ∀ (n k : Nat), k + n = 6 → V G mX2_copyOf x 2 [some (rf G a), some (rf G b), some (.int (iI (k : Int)))] [] 28 false (HP G (us K (a + 1) (cpN (K (a + 1)) (K (b + 1)) k)) r) 0 0 := by
    intro n
    induction n with
    | zero =>
      intro k e
      obtain rfl : k = 6 := by omega
      refine V_iload_n C dX2_copyOf_2 rfl rfl ?_
      refine V_bipush C dX2_copyOf_3 (by decide +kernel) ?_
      refine V_icmp_ge (tgt := 24) C dX2_copyOf_5 (by decide) (by omega) (by omega) (fun q5 => ?_) (fun q5 => by exfalso; omega)
      refine V_aload_n C dX2_copyOf_24 rfl rfl ?_
      refine V_aload_n C dX2_copyOf_25 rfl rfl ?_
      refine V_getH (L := stL G b) C dX2_copyOf_26 fX2_30 (isS_lt hb) ((fun _ => cO_st hb _)) rfl ?_
      simp only [us_ne _ _ hba, us_ne _ _ hba1]
      refine V_putH (L := stL G a) (ty := .long) C dX2_copyOf_29 fX2_30 (isS_lt ha) ((fun _ => cO_st ha _)) rfl (by decide +kernel) (rfl) (rfl) (Nat.le_of_ble_eq_true rfl) rfl ?_
      refine V_aload_n C dX2_copyOf_32 rfl rfl ?_
      refine V_aload_n C dX2_copyOf_33 rfl rfl ?_
      refine V_getH (L := stL G b) C dX2_copyOf_34 fX2_34 (isS_lt hb) ((fun _ => cO_st hb _)) rfl ?_
      simp only [us_ne _ _ hba, us_ne _ _ hba1]
      refine V_putH (L := stL G a) (ty := .int) C dX2_copyOf_37 fX2_34 (isS_lt ha) ((fun _ => cO_st ha _)) rfl (by decide +kernel) (rfl) (rfl) (Nat.le_of_ble_eq_true rfl) rfl ?_
      refine V_aload_n C dX2_copyOf_40 rfl rfl ?_
      refine V_aload_n C dX2_copyOf_41 rfl rfl ?_
      refine V_getH (L := stL G b) C dX2_copyOf_42 fX2_15 (isS_lt hb) ((fun _ => cO_st hb _)) rfl ?_
      simp only [us_ne _ _ hba, us_ne _ _ hba1]
      refine V_putH (L := stL G a) (ty := .int) C dX2_copyOf_45 fX2_15 (isS_lt ha) ((fun _ => cO_st ha _)) rfl (by decide +kernel) (rfl) (rfl) (Nat.le_of_ble_eq_true rfl) rfl ?_
      refine V_aload_n C dX2_copyOf_48 rfl rfl ?_
      refine V_aload_n C dX2_copyOf_49 rfl rfl ?_
      refine V_getH (L := stL G b) C dX2_copyOf_50 fX2_19 (isS_lt hb) ((fun _ => cO_st hb _)) rfl ?_
      simp only [us_ne _ _ hba, us_ne _ _ hba1]
      refine V_putH (L := stL G a) (ty := .int) C dX2_copyOf_53 fX2_19 (isS_lt ha) ((fun _ => cO_st ha _)) rfl (by decide +kernel) (rfl) (rfl) (Nat.le_of_ble_eq_true rfl) rfl ?_
      exact V_vret C dX2_copyOf_56 rfl hZ (by simp only [us_at, us_us, us_ne _ _ haa]; try rfl)
    | succ n ih =>
      intro k e
      refine V_iload_n C dX2_copyOf_2 rfl rfl ?_
      refine V_bipush C dX2_copyOf_3 (by decide +kernel) ?_
      refine V_icmp_ge (tgt := 24) C dX2_copyOf_5 (by decide) (by omega) (by omega) (fun q5 => by exfalso; omega) (fun q5 => ?_)
      refine V_aload_n C dX2_copyOf_8 rfl rfl ?_
      refine V_iload_n C dX2_copyOf_9 rfl rfl ?_
      refine V_aload_n C dX2_copyOf_10 rfl rfl ?_
      refine V_iload_n C dX2_copyOf_11 rfl rfl ?_
      refine V_V1 (k2 := 0) (s2 := 0) C dX2_copyOf_12 lX2_22 kX2_numberIn (c_X2_numberIn G _ r b hb (k : Int) (by omega)) (isS_lt hb) ((fun _ => cO_st hb _) _) rfl rfl rfl ⟨Nat.le_of_ble_eq_true rfl, Nat.le_of_ble_eq_true rfl⟩ (Nat.le_of_ble_eq_true rfl) (Nat.le_refl _) (Nat.le_refl _) ?_
      rw [us_ne _ _ hb1a]
      refine V_V0 (k2 := 0) (s2 := 0) C dX2_copyOf_15 lX2_26 kX2_give (c_X2_give G _ r a ha (k : Int) (by omega) _) (isS_lt ha) ((fun _ => cO_st ha _) _) rfl rfl rfl ⟨Nat.le_of_ble_eq_true rfl, Nat.le_of_ble_eq_true rfl⟩ (Nat.le_of_ble_eq_true rfl) (Nat.le_refl _) (Nat.le_refl _) ?_
      refine V_iinc C dX2_copyOf_18 rfl (Nat.le_of_ble_eq_true rfl) rfl ?_
      refine V_goto (tgt := 2) C dX2_copyOf_21 (by decide) ?_
      refine V_hp ?_ (ih (k + 1) (by omega))
      rw [us_at, us_us, tnN, cpN_s]
  refine V_iconst C dX2_copyOf_0 ?_
  refine V_istore_n C dX2_copyOf_1 rfl (Nat.le_of_ble_eq_true rfl) rfl ?_
  refine V_hp ?_ (loop 6 0 (by omega))
  rw [cpN_0, us_same]
set_option maxRecDepth 100000 in
set_option maxHeartbeats 4000000 in
theorem c_X2_sum (G : GT) (K : Nat → Nat → Int) (r : Nat → Option Nat) (a : Nat) (ha : isS a = true)  : CtO G yX2_sum mX2_sum [rf G a] K r (some (.int (iI (su (K (a + 1)) 6)))) (K) (r) := by
  refine Ct_of kX2_sum.1.1 (by decide) [some (rf G a), none, none] rfl (Nat.le_of_ble_eq_true rfl) ?_
  intro x C hZ
  have loop : ∀ (n k : Nat), k + n = 6 → V G mX2_sum x 4 [some (rf G a), some (.int (iI (su (K (a + 1)) k))), some (.int (iI (k : Int)))] [] 28 false (HP G K r) 0 0 := by
    intro n
    induction n with
    | zero =>
      intro k e
      refine V_iload_n C dX2_sum_4 rfl rfl ?_
      refine V_bipush C dX2_sum_5 (by decide +kernel) ?_
      refine V_icmp_ge (tgt := 24) C dX2_sum_7 (by decide) (by omega) (by omega) (fun q7 => ?_) (fun q7 => by exfalso; omega)
      refine V_iload_n C dX2_sum_24 rfl rfl ?_
      exact V_iret C dX2_sum_25 rfl hZ (by rw [show k = 6 by omega]) rfl
    | succ n ih =>
      intro k e
      refine V_iload_n C dX2_sum_4 rfl rfl ?_
      refine V_bipush C dX2_sum_5 (by decide +kernel) ?_
      refine V_icmp_ge (tgt := 24) C dX2_sum_7 (by decide) (by omega) (by omega) (fun q7 => by exfalso; omega) (fun q7 => ?_)
      refine V_iload_n C dX2_sum_10 rfl rfl ?_
      refine V_aload_n C dX2_sum_11 rfl rfl ?_
      refine V_iload_n C dX2_sum_12 rfl rfl ?_
      refine V_V1 (k2 := 0) (s2 := 0) C dX2_sum_13 lX2_22 kX2_numberIn (c_X2_numberIn G K r a ha (k : Int) (by omega)) (isS_lt ha) ((fun _ => cO_st ha _) _) rfl rfl rfl ⟨Nat.le_of_ble_eq_true rfl, Nat.le_of_ble_eq_true rfl⟩ (Nat.le_of_ble_eq_true rfl) (Nat.le_refl _) (Nat.le_refl _) ?_
      rw [tnN]
      refine V_iadd C dX2_sum_16 ?_
      refine V_istore_n C dX2_sum_17 rfl (Nat.le_of_ble_eq_true rfl) rfl ?_
      refine V_iinc C dX2_sum_18 rfl (Nat.le_of_ble_eq_true rfl) rfl ?_
      refine V_goto (tgt := 4) C dX2_sum_21 (by decide) ?_
      exact ih (k + 1) (by omega)
  refine V_iconst C dX2_sum_0 ?_
  refine V_istore_n C dX2_sum_1 rfl (Nat.le_of_ble_eq_true rfl) rfl ?_
  refine V_iconst C dX2_sum_2 ?_
  refine V_istore_n C dX2_sum_3 rfl (Nat.le_of_ble_eq_true rfl) rfl ?_
  exact loop 6 0 (by omega)
set_option maxRecDepth 100000 in
set_option maxHeartbeats 4000000 in
theorem c_X2_hasRoomFor (G : GT) (K : Nat → Nat → Int) (r : Nat → Option Nat) (a : Nat) (ha : isS a = true) (z : Int) (hz : 1 ≤ z ∧ z ≤ 6764) (hL : 0 ≤ K a 2 ∧ K a 2 ≤ 64) : CtO G yX2_hasRoomFor mX2_hasRoomFor [rf G a, .int (iI z)] K r (some (.int (iI (b2 (decide (K a 2 + (hl 18 (gm 18 z.toNat) + 1 : Nat) ≤ 64)))))) (K) (r) := by
  refine Ct_of kX2_hasRoomFor.1.1 (by decide) [some (rf G a), some (.int (iI z))] rfl (Nat.le_of_ble_eq_true rfl) ?_
  intro x C hZ
  have f1 := hl_le 18 (gm 18 z.toNat)
  have f2 := gm_18 z.toNat
  refine V_aload_n C dX2_hasRoomFor_0 rfl rfl ?_
  refine V_getH (L := stL G a) C dX2_hasRoomFor_1 fX2_34 (isS_lt ha) ((fun _ => cO_st ha _)) rfl ?_
  refine V_iload_n C dX2_hasRoomFor_4 rfl rfl ?_
  refine V_SN1 (k2 := 0) (s2 := 0) C dX2_hasRoomFor_5 lX2_37 kX5_greedyMark (i_X5_greedyMark G 28 false (HP G K r) z (by omega)) rfl rfl ⟨Nat.le_of_ble_eq_true rfl, Nat.le_of_ble_eq_true rfl⟩ (Nat.le_of_ble_eq_true rfl) (Nat.le_refl _) (Nat.le_refl _) ?_
  refine V_SN1 (k2 := 0) (s2 := 0) C dX2_hasRoomFor_8 lX2_40 kX5_lengthOfCode (c_X5_lengthOfCode _ (by omega) G 28 false (HP G K r)) rfl rfl ⟨Nat.le_of_ble_eq_true rfl, Nat.le_of_ble_eq_true rfl⟩ (Nat.le_of_ble_eq_true rfl) (Nat.le_refl _) (Nat.le_refl _) ?_
  refine V_iadd C dX2_hasRoomFor_11 ?_
  refine V_bipush C dX2_hasRoomFor_12 (by decide +kernel) ?_
  refine V_icmp_gt (tgt := 21) C dX2_hasRoomFor_14 (by decide) (by omega) (by omega) (fun q14 => ?_) (fun q14 => ?_)
  · refine V_iconst C dX2_hasRoomFor_21 ?_
    exact V_zret C dX2_hasRoomFor_22 rfl hZ (b2_01 _) (by first | exact b2_t _ (by omega) | exact b2_f _ (by omega)) rfl
  · refine V_iconst C dX2_hasRoomFor_17 ?_
    refine V_goto (tgt := 22) C dX2_hasRoomFor_18 (by decide) ?_
    exact V_zret C dX2_hasRoomFor_22 rfl hZ (b2_01 _) (by first | exact b2_t _ (by omega) | exact b2_f _ (by omega)) rfl
set_option maxRecDepth 100000 in
set_option maxHeartbeats 4000000 in
theorem c_X2_putCode (G : GT) (K : Nat → Nat → Int) (r : Nat → Option Nat) (a : Nat) (ha : isS a = true) (z : Int) (hz : 1 ≤ z ∧ z ≤ 6764) (L D : Nat) (hL : K a 2 = L) (hD : K a 1 = D) (hr : L + (hl 18 (gm 18 z.toNat) + 1) ≤ 64) : CtO G yX2_putCode mX2_putCode [rf G a, .int (iI z)] K r (none) (us K a (us (us (K a) 1 ((D ||| (gm 18 z.toNat ||| 1 <<< hl 18 (gm 18 z.toNat)) <<< L : Nat) : Int)) 2 ((L + (hl 18 (gm 18 z.toNat) + 1) : Nat) : Int))) (r) := by
  refine Ct_of kX2_putCode.1.1 (by decide) [some (rf G a), some (.int (iI z)), none, none] rfl (Nat.le_of_ble_eq_true rfl) ?_
  intro x C hZ
  have f1 := hl_le 18 (gm 18 z.toNat)
  have f2 := gm_18 z.toNat
  refine V_iload_n C dX2_putCode_0 rfl rfl ?_
  refine V_SN1 (k2 := 0) (s2 := 0) C dX2_putCode_1 lX2_37 kX5_greedyMark (i_X5_greedyMark G 28 false (HP G K r) z (by omega)) rfl rfl ⟨Nat.le_of_ble_eq_true rfl, Nat.le_of_ble_eq_true rfl⟩ (Nat.le_of_ble_eq_true rfl) (Nat.le_refl _) (Nat.le_refl _) ?_
  refine V_istore_n C dX2_putCode_4 rfl (Nat.le_of_ble_eq_true rfl) rfl ?_
  refine V_iload_n C dX2_putCode_5 rfl rfl ?_
  refine V_SN1 (k2 := 0) (s2 := 0) C dX2_putCode_6 lX2_40 kX5_lengthOfCode (c_X5_lengthOfCode _ (by omega) G 28 false (HP G K r)) rfl rfl ⟨Nat.le_of_ble_eq_true rfl, Nat.le_of_ble_eq_true rfl⟩ (Nat.le_of_ble_eq_true rfl) (Nat.le_refl _) (Nat.le_refl _) ?_
  refine V_istore_n C dX2_putCode_9 rfl (Nat.le_of_ble_eq_true rfl) rfl ?_
  refine V_aload_n C dX2_putCode_10 rfl rfl ?_
  refine V_dup C dX2_putCode_11 rfl ?_
  refine V_getH (L := stL G a) C dX2_putCode_12 fX2_30 (isS_lt ha) ((fun _ => cO_st ha _)) rfl ?_
  rw [hD]
  refine V_iload_n C dX2_putCode_15 rfl rfl ?_
  refine V_i2l C dX2_putCode_16 (by omega) ?_
  refine V_lconst (z := 1) C dX2_putCode_17 (by decide +kernel) ?_
  refine V_iload_n C dX2_putCode_18 rfl rfl ?_
  refine V_iconst C dX2_putCode_19 ?_
  refine V_isub C dX2_putCode_20 ?_
  refine V_lshl C dX2_putCode_21 1 (hl 18 (gm 18 z.toNat)) (by first | rfl | omega) (by first | rfl | omega) (by omega) ?_
  refine V_lor C dX2_putCode_22 (gm 18 z.toNat) (1 <<< hl 18 (gm 18 z.toNat)) (by first | rfl | omega) (by first | rfl | omega) ?_
  refine V_aload_n C dX2_putCode_23 rfl rfl ?_
  refine V_getH (L := stL G a) C dX2_putCode_24 fX2_34 (isS_lt ha) ((fun _ => cO_st ha _)) rfl ?_
  rw [hL]
  refine V_lshl C dX2_putCode_27 (gm 18 z.toNat ||| 1 <<< hl 18 (gm 18 z.toNat)) L (by first | rfl | omega) (by first | rfl | omega) (by omega) ?_
  refine V_lor C dX2_putCode_28 D ((gm 18 z.toNat ||| 1 <<< hl 18 (gm 18 z.toNat)) <<< L) (by first | rfl | omega) (by first | rfl | omega) ?_
  refine V_putH (L := stL G a) (ty := .long) C dX2_putCode_29 fX2_30 (isS_lt ha) ((fun _ => cO_st ha _)) rfl (by decide +kernel) (rfl) (rfl) (Nat.le_of_ble_eq_true rfl) rfl ?_
  refine V_aload_n C dX2_putCode_32 rfl rfl ?_
  refine V_dup C dX2_putCode_33 rfl ?_
  refine V_getH (L := stL G a) C dX2_putCode_34 fX2_34 (isS_lt ha) ((fun _ => cO_st ha _)) rfl ?_
  rw [us_at, us_ne _ _ (show (2 : Nat) ≠ 1 by decide), hL]
  refine V_iload_n C dX2_putCode_37 rfl rfl ?_
  refine V_iadd C dX2_putCode_38 ?_
  refine V_putH (L := stL G a) (ty := .int) C dX2_putCode_39 fX2_34 (isS_lt ha) ((fun _ => cO_st ha _)) rfl (by decide +kernel) (rfl) (rfl) (Nat.le_of_ble_eq_true rfl) rfl ?_
  exact V_vret C dX2_putCode_42 rfl hZ (by simp only [us_at, us_us]; try rfl)
set_option maxRecDepth 100000 in
set_option maxHeartbeats 4000000 in
theorem c_X2_turnDigit (G : GT) (K : Nat → Nat → Int) (r : Nat → Option Nat) (a : Nat) (ha : isS a = true) (p : Int) (hp : 0 ≤ p ∧ p < 64) (D : Nat) (hD : K a 1 = D) : CtO G yX2_turnDigit mX2_turnDigit [rf G a, .int (iI p)] K r (none) (us K a (us (K a) 1 ((D ^^^ 1 <<< p.toNat : Nat) : Int))) (r) := by
  refine Ct_of kX2_turnDigit.1.1 (by decide) [some (rf G a), some (.int (iI p))] rfl (Nat.le_of_ble_eq_true rfl) ?_
  intro x C hZ
  refine V_aload_n C dX2_turnDigit_0 rfl rfl ?_
  refine V_dup C dX2_turnDigit_1 rfl ?_
  refine V_getH (L := stL G a) C dX2_turnDigit_2 fX2_30 (isS_lt ha) ((fun _ => cO_st ha _)) rfl ?_
  rw [hD]
  refine V_lconst (z := 1) C dX2_turnDigit_5 (by decide +kernel) ?_
  refine V_iload_n C dX2_turnDigit_6 rfl rfl ?_
  refine V_lshl C dX2_turnDigit_7 1 p.toNat (by first | rfl | omega) (by first | rfl | omega) (by omega) ?_
  refine V_lxor C dX2_turnDigit_8 D (1 <<< p.toNat) (by first | rfl | omega) (by first | rfl | omega) ?_
  refine V_putH (L := stL G a) (ty := .long) C dX2_turnDigit_9 fX2_30 (isS_lt ha) ((fun _ => cO_st ha _)) rfl (by decide +kernel) (rfl) (rfl) (Nat.le_of_ble_eq_true rfl) rfl ?_
  exact V_vret C dX2_turnDigit_12 rfl hZ rfl
set_option maxRecDepth 100000 in
set_option maxHeartbeats 4000000 in
theorem c_X2_dropFirst (G : GT) (K : Nat → Nat → Int) (r : Nat → Option Nat) (a : Nat) (ha : isS a = true) (p : Int) (hp : 1 ≤ p ∧ p ≤ 64) (D : Nat) (hD : K a 1 = D) (hD2 : D < 18446744073709551616) : CtO G yX2_dropFirst mX2_dropFirst [rf G a, .int (iI p)] K r (none) (us K a (us (us (K a) 1 ((D >>> p.toNat : Nat) : Int)) 2 (K a 2 - p))) (r) := by
  refine Ct_of kX2_dropFirst.1.1 (by decide) [some (rf G a), some (.int (iI p))] rfl (Nat.le_of_ble_eq_true rfl) ?_
  intro x C hZ
  by_cases c : p = 64
  · have e0 : D >>> p.toNat = 0 := by rw [Nat.shiftRight_eq_div_pow, c]; exact Nat.div_eq_of_lt hD2
    rw [e0] at hZ
    refine V_aload_n C dX2_dropFirst_0 rfl rfl ?_
    refine V_iload_n C dX2_dropFirst_1 rfl rfl ?_
    refine V_bipush C dX2_dropFirst_2 (by decide +kernel) ?_
    refine V_icmp_lt (tgt := 11) C dX2_dropFirst_4 (by decide) (by omega) (by omega) (fun q4 => by exfalso; omega) (fun q4 => ?_)
    refine V_lconst (z := 0) C dX2_dropFirst_7 (by decide +kernel) ?_
    refine V_goto (tgt := 17) C dX2_dropFirst_8 (by decide) ?_
    refine V_putH (L := stL G a) (ty := .long) C dX2_dropFirst_17 fX2_30 (isS_lt ha) ((fun _ => cO_st ha _)) rfl (by decide +kernel) (rfl) (rfl) (Nat.le_of_ble_eq_true rfl) rfl ?_
    refine V_aload_n C dX2_dropFirst_20 rfl rfl ?_
    refine V_dup C dX2_dropFirst_21 rfl ?_
    refine V_getH (L := stL G a) C dX2_dropFirst_22 fX2_34 (isS_lt ha) ((fun _ => cO_st ha _)) rfl ?_
    refine V_iload_n C dX2_dropFirst_25 rfl rfl ?_
    refine V_isub C dX2_dropFirst_26 ?_
    refine V_putH (L := stL G a) (ty := .int) C dX2_dropFirst_27 fX2_34 (isS_lt ha) ((fun _ => cO_st ha _)) rfl (by decide +kernel) (rfl) (rfl) (Nat.le_of_ble_eq_true rfl) rfl ?_
    exact V_vret C dX2_dropFirst_30 rfl hZ (by simp only [us_at, us_us, us_ne _ _ (show (2 : Nat) ≠ 1 by decide)]; try rfl)
  · skip
    refine V_aload_n C dX2_dropFirst_0 rfl rfl ?_
    refine V_iload_n C dX2_dropFirst_1 rfl rfl ?_
    refine V_bipush C dX2_dropFirst_2 (by decide +kernel) ?_
    refine V_icmp_lt (tgt := 11) C dX2_dropFirst_4 (by decide) (by omega) (by omega) (fun q4 => ?_) (fun q4 => by exfalso; omega)
    refine V_aload_n C dX2_dropFirst_11 rfl rfl ?_
    refine V_getH (L := stL G a) C dX2_dropFirst_12 fX2_30 (isS_lt ha) ((fun _ => cO_st ha _)) rfl ?_
    rw [hD]
    refine V_iload_n C dX2_dropFirst_15 rfl rfl ?_
    refine V_lushr C dX2_dropFirst_16 D p.toNat (by first | rfl | omega) (by first | rfl | omega) (by omega) (by omega) ?_
    refine V_putH (L := stL G a) (ty := .long) C dX2_dropFirst_17 fX2_30 (isS_lt ha) ((fun _ => cO_st ha _)) rfl (by decide +kernel) (rfl) (rfl) (Nat.le_of_ble_eq_true rfl) rfl ?_
    refine V_aload_n C dX2_dropFirst_20 rfl rfl ?_
    refine V_dup C dX2_dropFirst_21 rfl ?_
    refine V_getH (L := stL G a) C dX2_dropFirst_22 fX2_34 (isS_lt ha) ((fun _ => cO_st ha _)) rfl ?_
    refine V_iload_n C dX2_dropFirst_25 rfl rfl ?_
    refine V_isub C dX2_dropFirst_26 ?_
    refine V_putH (L := stL G a) (ty := .int) C dX2_dropFirst_27 fX2_34 (isS_lt ha) ((fun _ => cO_st ha _)) rfl (by decide +kernel) (rfl) (rfl) (Nat.le_of_ble_eq_true rfl) rfl ?_
    exact V_vret C dX2_dropFirst_30 rfl hZ (by simp only [us_at, us_us, us_ne _ _ (show (2 : Nat) ≠ 1 by decide)]; try rfl)
