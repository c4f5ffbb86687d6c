set_option maxRecDepth 100000 in
set_option maxHeartbeats 4000000 in
theorem c_X6_saves (G : GT) (K : Nat → Nat → Int) (r : Nat → Option Nat) (st : Nat) (hs : st ≤ 5) (hst : K 28 1 = st) : CtO G yX6_saves mX6_saves [rf G 28] K r (none) (us (us K 29 (svS (K 29) st)) 28 (us (K 28) 1 ((if st = 5 then 5 else st + 1 : Nat) : Int))) (r) := by
  refine Ct_of kX6_saves.1.1 (by decide) [some (rf G 28), none] rfl (Nat.le_of_ble_eq_true rfl) ?_
  intro x C hZ
  by_cases e5 : st = 5
  · have loop : ∀ (n k : Nat), k + n = 4 → V G mX6_saves x 10 [some (rf G 28), some (.int (iI ((k + 1 : Nat) : Int)))] [] 34 false (HP G (us K 29 (shS (K 29) k)) r) 0 0 := by
      intro n
      induction n with
      | zero =>
        intro k e
        refine V_iload_n C dX6_saves_10 rfl rfl ?_
        refine V_iconst C dX6_saves_11 ?_
        refine V_icmp_ge (tgt := 29) C dX6_saves_12 (by decide) (by omega) (by omega) (fun q12 => ?_) (fun q12 => by exfalso; omega)
        refine V_aload_n C dX6_saves_29 rfl rfl ?_
        refine V_dup C dX6_saves_30 rfl ?_
        refine V_getH (L := mOl G) C dX6_saves_31 fX6_26 (by decide) (fun _ => rfl) rfl ?_
        rw [show us K 29 (shS (K 29) k) 28 1 = 5 by simp [us, hst, e5]]
        refine V_iconst C dX6_saves_34 ?_
        refine V_isub C dX6_saves_35 ?_
        refine V_putH (L := mOl G) (ty := .int) C dX6_saves_36 fX6_26 (by decide) (fun _ => rfl) rfl (by decide +kernel) (rfl) (rfl) (Nat.le_of_ble_eq_true rfl) rfl ?_
        refine V_aload_n C dX6_saves_39 rfl rfl ?_
        refine V_dup C dX6_saves_40 rfl ?_
        refine V_getH (L := mOl G) C dX6_saves_41 fX6_26 (by decide) (fun _ => rfl) rfl ?_
        rw [show us (us K 29 (shS (K 29) k)) 28 (us (us K 29 (shS (K 29) k) 28) 1 (5 - 1)) 28 1 = 4 by simp [us]]
        refine V_iconst C dX6_saves_44 ?_
        refine V_iadd C dX6_saves_45 ?_
        refine V_putH (L := mOl G) (ty := .int) C dX6_saves_46 fX6_26 (by decide) (fun _ => rfl) rfl (by decide +kernel) (rfl) (rfl) (Nat.le_of_ble_eq_true rfl) rfl ?_
        refine V_aload_n C dX6_saves_49 rfl rfl ?_
        refine V_iconst C dX6_saves_50 ?_
        refine V_aload_n C dX6_saves_51 rfl rfl ?_
        refine V_getH (L := mOl G) C dX6_saves_52 fX6_26 (by decide) (fun _ => rfl) rfl ?_
        refine V_eq rfl rfl (st' := [.int (iI ((5 : Nat) : Int)), .int (iI ((0 : Nat) : Int)), rf G 28]) rfl rfl ?_
        refine V_V0 (k2 := 0) (s2 := 0) C dX6_saves_55 lX6_29 kX6_copies (c_X6_copies G _ r 0 5 (by omega) (by omega) (by omega)) (by decide) (rfl) rfl rfl rfl ⟨Nat.le_of_ble_eq_true rfl, Nat.le_of_ble_eq_true rfl⟩ (Nat.le_of_ble_eq_true rfl) (Nat.le_refl _) (Nat.le_refl _) ?_
        exact V_vret C dX6_saves_58 rfl hZ (by rw [show k = 4 by omega, svS, if_pos e5, if_pos e5]; congr 1; funext q; by_cases e28 : q = 28 <;> by_cases e29 : q = 29 <;> simp_all [us] <;> (funext j; by_cases ej : j = 1 <;> simp_all [us]))
      | succ n ih =>
        intro k e
        refine V_iload_n C dX6_saves_10 rfl rfl ?_
        refine V_iconst C dX6_saves_11 ?_
        refine V_icmp_ge (tgt := 29) C dX6_saves_12 (by decide) (by omega) (by omega) (fun q12 => by exfalso; omega) (fun q12 => ?_)
        refine V_aload_n C dX6_saves_15 rfl rfl ?_
        refine V_iload_n C dX6_saves_16 rfl rfl ?_
        refine V_iconst C dX6_saves_17 ?_
        refine V_iadd C dX6_saves_18 ?_
        refine V_iload_n C dX6_saves_19 rfl rfl ?_
        refine V_eq rfl rfl (st' := [.int (iI ((k + 1 : Nat) : Int)), .int (iI ((k + 2 : Nat) : Int)), rf G 28]) rfl rfl ?_
        refine V_V0 (k2 := 0) (s2 := 0) C dX6_saves_20 lX6_29 kX6_copies (c_X6_copies G _ r (k + 2) (k + 1) (by omega) (by omega) (by omega)) (by decide) (rfl) rfl rfl rfl ⟨Nat.le_of_ble_eq_true rfl, Nat.le_of_ble_eq_true rfl⟩ (Nat.le_of_ble_eq_true rfl) (Nat.le_refl _) (Nat.le_refl _) ?_
        refine V_iinc C dX6_saves_23 rfl (Nat.le_of_ble_eq_true rfl) rfl ?_
        refine V_goto (tgt := 10) C dX6_saves_26 (by decide) ?_
        refine V_hp ?_ (ih (k + 1) (by omega))
        rw [us_us, us_at]; rfl
    refine V_aload_n C dX6_saves_0 rfl rfl ?_
    refine V_getH (L := mOl G) C dX6_saves_1 fX6_26 (by decide) (fun _ => rfl) rfl ?_
    refine V_iconst C dX6_saves_4 ?_
    refine V_icmp_ne (tgt := 39) C dX6_saves_5 (by decide) (by omega) (by omega) (fun q5 => by exfalso; omega) (fun q5 => ?_)
    refine V_iconst C dX6_saves_8 ?_
    refine V_istore_n C dX6_saves_9 rfl (Nat.le_of_ble_eq_true rfl) rfl ?_
    refine V_hp ?_ (loop 4 0 (by omega))
    show _ = HP G (us K 29 (K 29)) r
    rw [us_same]
  ·
    refine V_aload_n C dX6_saves_0 rfl rfl ?_
    refine V_getH (L := mOl G) C dX6_saves_1 fX6_26 (by decide) (fun _ => rfl) rfl ?_
    refine V_iconst C dX6_saves_4 ?_
    refine V_icmp_ne (tgt := 39) C dX6_saves_5 (by decide) (by omega) (by omega) (fun q5 => ?_) (fun q5 => by exfalso; omega)
    refine V_aload_n C dX6_saves_39 rfl rfl ?_
    refine V_dup C dX6_saves_40 rfl ?_
    refine V_getH (L := mOl G) C dX6_saves_41 fX6_26 (by decide) (fun _ => rfl) rfl ?_
    refine V_iconst C dX6_saves_44 ?_
    refine V_iadd C dX6_saves_45 ?_
    refine V_putH (L := mOl G) (ty := .int) C dX6_saves_46 fX6_26 (by decide) (fun _ => rfl) rfl (by decide +kernel) (rfl) (rfl) (Nat.le_of_ble_eq_true rfl) rfl ?_
    refine V_aload_n C dX6_saves_49 rfl rfl ?_
    refine V_iconst C dX6_saves_50 ?_
    refine V_aload_n C dX6_saves_51 rfl rfl ?_
    refine V_getH (L := mOl G) C dX6_saves_52 fX6_26 (by decide) (fun _ => rfl) rfl ?_
    refine V_eq rfl rfl (st' := [.int (iI ((st + 1 : Nat) : Int)), .int (iI ((0 : Nat) : Int)), rf G 28]) (by simp [us, hst]) rfl ?_
    refine V_V0 (k2 := 0) (s2 := 0) C dX6_saves_55 lX6_29 kX6_copies (c_X6_copies G _ r 0 (st + 1) (by omega) (by omega) (by omega)) (by decide) (rfl) rfl rfl rfl ⟨Nat.le_of_ble_eq_true rfl, Nat.le_of_ble_eq_true rfl⟩ (Nat.le_of_ble_eq_true rfl) (Nat.le_refl _) (Nat.le_refl _) ?_
    exact V_vret C dX6_saves_58 rfl hZ (by rw [svS, if_neg e5, if_neg e5]; congr 1; funext q; by_cases e28 : q = 28 <;> by_cases e29 : q = 29 <;> simp_all [us])
set_option maxRecDepth 100000 in
set_option maxHeartbeats 4000000 in
theorem c_X6_isDigit (G : GT) (K : Nat → Nat → Int) (r : Nat → Option Nat) (hG : 0 ≤ K 29 6 ∧ K 29 6 ≤ 64) (p : Int) (hp : -2147483648 ≤ p ∧ p < 2147483648) : CtO G yX6_isDigit mX6_isDigit [rf G 28, .int (iI p)] K r (some (.int (iI (b2 (decide (0 ≤ p ∧ p ≤ K 29 6 - 1)))))) (K) (r) := by
  refine Ct_of kX6_isDigit.1.1 (by decide) [some (rf G 28), some (.int (iI p))] rfl (Nat.le_of_ble_eq_true rfl) ?_
  intro x C hZ
  refine V_iload_n C dX6_isDigit_0 rfl rfl ?_
  refine V_iconst C dX6_isDigit_1 ?_
  refine V_aload_n C dX6_isDigit_2 rfl rfl ?_
  refine V_getH (L := mOl G) C dX6_isDigit_3 fX6_7 (by decide) (fun _ => rfl) rfl ?_
  refine V_bipush C dX6_isDigit_6 (by decide +kernel) ?_
  refine V_ialdH C dX6_isDigit_8 (by decide) (fun _ => rfl) (by omega) (by decide) ?_
  refine V_iconst C dX6_isDigit_9 ?_
  refine V_isub C dX6_isDigit_10 ?_
  refine V_S1 (k2 := 0) (s2 := 0) C dX6_isDigit_11 lX6_57 kX6_in (c_X6_in p 0 (K 29 6 - 1) hp (by omega) (by omega) G 34 false (HP G K r)) rfl rfl ⟨Nat.le_of_ble_eq_true rfl, Nat.le_of_ble_eq_true rfl⟩ (Nat.le_of_ble_eq_true rfl) (Nat.le_refl _) (Nat.le_refl _) ?_
  exact V_zret C dX6_isDigit_14 rfl hZ (b2_01 _) (by first | rfl | omega) rfl
set_option maxRecDepth 100000 in
set_option maxHeartbeats 4000000 in
theorem c_X6_turns (G : GT) (K : Nat → Nat → Int) (r : Nat → Option Nat) (p : Nat) (hp : p < 64) : CtO G yX6_turns mX6_turns [rf G 28, .int (iI (p : Int))] K r (some (.int (iI (1 - K 29 (7 + p))))) (us K 29 (us (K 29) (7 + p) (1 - K 29 (7 + p)))) (r) := by
  refine Ct_of kX6_turns.1.1 (by decide) [some (rf G 28), some (.int (iI (p : Int)))] rfl (Nat.le_of_ble_eq_true rfl) ?_
  intro x C hZ
  have e : ((7 : Int) + (p : Int)).toNat = 7 + p := by omega
  refine V_aload_n C dX6_turns_0 rfl rfl ?_
  refine V_getH (L := mOl G) C dX6_turns_1 fX6_7 (by decide) (fun _ => rfl) rfl ?_
  refine V_bipush C dX6_turns_4 (by decide +kernel) ?_
  refine V_iload_n C dX6_turns_6 rfl rfl ?_
  refine V_iadd C dX6_turns_7 ?_
  refine V_iconst C dX6_turns_8 ?_
  refine V_aload_n C dX6_turns_9 rfl rfl ?_
  refine V_getH (L := mOl G) C dX6_turns_10 fX6_7 (by decide) (fun _ => rfl) rfl ?_
  refine V_bipush C dX6_turns_13 (by decide +kernel) ?_
  refine V_iload_n C dX6_turns_15 rfl rfl ?_
  refine V_iadd C dX6_turns_16 ?_
  refine V_ialdH C dX6_turns_17 (by decide) (fun _ => rfl) (by omega) (by decide) ?_
  refine V_isub C dX6_turns_18 ?_
  refine V_iastH C dX6_turns_19 (by decide) (fun _ => rfl) (by omega) (by decide) ?_
  rw [e]
  refine V_aload_n C dX6_turns_20 rfl rfl ?_
  refine V_getH (L := mOl G) C dX6_turns_21 fX6_7 (by decide) (fun _ => rfl) rfl ?_
  refine V_bipush C dX6_turns_24 (by decide +kernel) ?_
  refine V_iload_n C dX6_turns_26 rfl rfl ?_
  refine V_iadd C dX6_turns_27 ?_
  refine V_ialdH C dX6_turns_28 (by decide) (fun _ => rfl) (by omega) (by decide) ?_
  rw [e]
  exact V_iret C dX6_turns_29 rfl hZ (by simp [us]) rfl
set_option maxRecDepth 100000 in
set_option maxHeartbeats 4000000 in
theorem c_X6_canRaise (G : GT) (K : Nat → Nat → Int) (r : Nat → Option Nat) (j : Nat) (hj : j < 6) (hz : 0 ≤ K 29 j ∧ K 29 j ≤ 6764) : CtO G yX6_canRaise mX6_canRaise [rf G 28, .int (iI (j : Int))] K r (some (.int (iI (b2 (decide (gm 18 (K 29 j).toNat < 131072)))))) (K) (r) := by
  refine Ct_of kX6_canRaise.1.1 (by decide) [some (rf G 28), some (.int (iI (j : Int)))] rfl (Nat.le_of_ble_eq_true rfl) ?_
  intro x C hZ
  have f1 := gm_18 (K 29 j).toNat
  refine V_aload_n C dX6_canRaise_0 rfl rfl ?_
  refine V_getH (L := mOl G) C dX6_canRaise_1 fX6_7 (by decide) (fun _ => rfl) rfl ?_
  refine V_iload_n C dX6_canRaise_4 rfl rfl ?_
  refine V_ialdH C dX6_canRaise_5 (by decide) (fun _ => rfl) (by omega) (by decide) ?_
  refine V_S1 (k2 := 0) (s2 := 0) C dX6_canRaise_6 lX6_40 kX6_said (i_X6_said G 34 false (HP G K r) (K 29 j) hz) rfl rfl ⟨Nat.le_of_ble_eq_true rfl, Nat.le_of_ble_eq_true rfl⟩ (Nat.le_of_ble_eq_true rfl) (Nat.le_refl _) (Nat.le_refl _) ?_
  refine V_ldc (n := 131072) C dX6_canRaise_9 qX6_61 rfl ?_
  refine V_icmp_ge (tgt := 18) C dX6_canRaise_11 (by decide) (by omega) (by omega) (fun q11 => ?_) (fun q11 => ?_)
  · refine V_iconst C dX6_canRaise_18 ?_
    exact V_zret C dX6_canRaise_19 rfl hZ (b2_01 _) (by first | exact b2_t _ (by omega) | exact b2_f _ (by omega)) rfl
  · refine V_iconst C dX6_canRaise_14 ?_
    refine V_goto (tgt := 19) C dX6_canRaise_15 (by decide) ?_
    exact V_zret C dX6_canRaise_19 rfl hZ (b2_01 _) (by first | exact b2_t _ (by omega) | exact b2_f _ (by omega)) rfl
set_option maxRecDepth 100000 in
set_option maxHeartbeats 4000000 in
theorem c_X6_raised (G : GT) (K : Nat → Nat → Int) (r : Nat → Option Nat) (j : Nat) (hj : j < 6) (hz : 0 ≤ K 29 j ∧ K 29 j ≤ 6764) : CtO G yX6_raised mX6_raised [rf G 28, .int (iI (j : Int))] K r (some (.int (iI (wo 22 (gm 18 (K 29 j).toNat <<< 1) : Nat)))) (K) (r) := by
  refine Ct_of kX6_raised.1.1 (by decide) [some (rf G 28), some (.int (iI (j : Int)))] rfl (Nat.le_of_ble_eq_true rfl) ?_
  intro x C hZ
  have f1 := gm_18 (K 29 j).toNat
  have f2 : gm 18 (K 29 j).toNat <<< 1 = gm 18 (K 29 j).toNat * 2 := by rw [Nat.shiftLeft_eq]
  refine V_aload_n C dX6_raised_0 rfl rfl ?_
  refine V_getH (L := mOl G) C dX6_raised_1 fX6_7 (by decide) (fun _ => rfl) rfl ?_
  refine V_iload_n C dX6_raised_4 rfl rfl ?_
  refine V_ialdH C dX6_raised_5 (by decide) (fun _ => rfl) (by omega) (by decide) ?_
  refine V_S1 (k2 := 0) (s2 := 0) C dX6_raised_6 lX6_40 kX6_said (i_X6_said G 34 false (HP G K r) (K 29 j) hz) rfl rfl ⟨Nat.le_of_ble_eq_true rfl, Nat.le_of_ble_eq_true rfl⟩ (Nat.le_of_ble_eq_true rfl) (Nat.le_refl _) (Nat.le_refl _) ?_
  refine V_iconst C dX6_raised_9 ?_
  refine V_ishl C dX6_raised_10 (gm 18 (K 29 j).toNat) 1 (by first | rfl | omega) (by first | rfl | omega) (by omega) (by omega) ?_
  refine V_S1 (k2 := 0) (s2 := 0) C dX6_raised_11 lX6_37 kX6_worths (c_X6_worths (gm 18 (K 29 j).toNat <<< 1) (by omega) G 34 false (HP G K r)) rfl rfl ⟨Nat.le_of_ble_eq_true rfl, Nat.le_of_ble_eq_true rfl⟩ (Nat.le_of_ble_eq_true rfl) (Nat.le_refl _) (Nat.le_refl _) ?_
  exact V_iret C dX6_raised_14 rfl hZ (by first | rfl | omega) rfl
set_option maxRecDepth 100000 in
set_option maxHeartbeats 4000000 in
theorem c_X6_canSend (G : GT) (K : Nat → Nat → Int) (r : Nat → Option Nat) (z : Int) (hz : 1 ≤ z ∧ z ≤ 6764) (hG : 0 ≤ K 29 6 ∧ K 29 6 ≤ 64) : CtO G yX6_canSend mX6_canSend [rf G 28, .int (iI z)] K r (some (.int (iI (b2 (decide (K 29 6 + (hl 18 (gm 18 z.toNat) + 1 : Nat) ≤ 64)))))) (K) (r) := by
  refine Ct_of kX6_canSend.1.1 (by decide) [some (rf G 28), some (.int (iI z))] rfl (Nat.le_of_ble_eq_true rfl) ?_
  intro x C hZ
  have f1 := hl_le 18 (gm 18 z.toNat)
  have e6 : K 29 (6 : Int).toNat = K 29 6 := rfl
  refine V_aload_n C dX6_canSend_0 rfl rfl ?_
  refine V_getH (L := mOl G) C dX6_canSend_1 fX6_7 (by decide) (fun _ => rfl) rfl ?_
  refine V_bipush C dX6_canSend_4 (by decide +kernel) ?_
  refine V_ialdH C dX6_canSend_6 (by decide) (fun _ => rfl) (by omega) (by decide) ?_
  rw [e6]
  refine V_iload_n C dX6_canSend_7 rfl rfl ?_
  refine V_S1 (k2 := 0) (s2 := 0) C dX6_canSend_8 lX6_84 kX6_codeOf (i_X6_codeOf G 34 false (HP G K r) z hz) rfl rfl ⟨Nat.le_of_ble_eq_true rfl, Nat.le_of_ble_eq_true rfl⟩ (Nat.le_of_ble_eq_true rfl) (Nat.le_refl _) (Nat.le_refl _) ?_
  refine V_iadd C dX6_canSend_11 ?_
  refine V_bipush C dX6_canSend_12 (by decide +kernel) ?_
  refine V_icmp_gt (tgt := 21) C dX6_canSend_14 (by decide) (by omega) (by omega) (fun q14 => ?_) (fun q14 => ?_)
  · refine V_iconst C dX6_canSend_21 ?_
    exact V_zret C dX6_canSend_22 rfl hZ (b2_01 _) (by first | exact b2_t _ (by omega) | exact b2_f _ (by omega)) rfl
  · refine V_iconst C dX6_canSend_17 ?_
    refine V_goto (tgt := 22) C dX6_canSend_18 (by decide) ?_
    exact V_zret C dX6_canSend_22 rfl hZ (b2_01 _) (by first | exact b2_t _ (by omega) | exact b2_f _ (by omega)) rfl
set_option maxRecDepth 100000 in
set_option maxHeartbeats 4000000 in
theorem c_X6_sum (G : GT) (K : Nat → Nat → Int) (r : Nat → Option Nat)  : CtO G yX6_sum mX6_sum [rf G 28] K r (some (.int (iI (su (K 29) 6)))) (K) (r) := by
  refine Ct_of kX6_sum.1.1 (by decide) [some (rf G 28), none, none] rfl (Nat.le_of_ble_eq_true rfl) ?_
  intro x C hZ
  have loop : ∀ (n k : Nat), k + n = 6 → V G mX6_sum x 4 [some (rf G 28), some (.int (iI (su (K 29) k))), some (.int (iI (k : Int)))] [] 34 false (HP G K r) 0 0 := by
    intro n
    induction n with
    | zero =>
      intro k e
      refine V_iload_n C dX6_sum_4 rfl rfl ?_
      refine V_bipush C dX6_sum_5 (by decide +kernel) ?_
      refine V_icmp_ge (tgt := 25) C dX6_sum_7 (by decide) (by omega) (by omega) (fun q7 => ?_) (fun q7 => by exfalso; omega)
      refine V_iload_n C dX6_sum_25 rfl rfl ?_
      exact V_iret C dX6_sum_26 rfl hZ (by rw [show k = 6 by omega]) rfl
    | succ n ih =>
      intro k e
      refine V_iload_n C dX6_sum_4 rfl rfl ?_
      refine V_bipush C dX6_sum_5 (by decide +kernel) ?_
      refine V_icmp_ge (tgt := 25) C dX6_sum_7 (by decide) (by omega) (by omega) (fun q7 => by exfalso; omega) (fun q7 => ?_)
      refine V_iload_n C dX6_sum_10 rfl rfl ?_
      refine V_aload_n C dX6_sum_11 rfl rfl ?_
      refine V_getH (L := mOl G) C dX6_sum_12 fX6_7 (by decide) (fun _ => rfl) rfl ?_
      refine V_iload_n C dX6_sum_15 rfl rfl ?_
      refine V_ialdH C dX6_sum_16 (by decide) (fun _ => rfl) (by omega) (by decide) ?_
      refine V_iadd C dX6_sum_17 ?_
      refine V_istore_n C dX6_sum_18 rfl (Nat.le_of_ble_eq_true rfl) rfl ?_
      refine V_iinc C dX6_sum_19 rfl (Nat.le_of_ble_eq_true rfl) rfl ?_
      refine V_goto (tgt := 4) C dX6_sum_22 (by decide) ?_
      exact ih (k + 1) (by omega)
  refine V_iconst C dX6_sum_0 ?_
  refine V_istore_n C dX6_sum_1 rfl (Nat.le_of_ble_eq_true rfl) rfl ?_
  refine V_iconst C dX6_sum_2 ?_
  refine V_istore_n C dX6_sum_3 rfl (Nat.le_of_ble_eq_true rfl) rfl ?_
  exact loop 6 0 (by omega)
set_option maxRecDepth 100000 in
set_option maxHeartbeats 4000000 in
theorem c_X6_rich (G : GT) (K : Nat → Nat → Int) (r : Nat → Option Nat) (hz : ∀ k, k < 6 → 0 ≤ K 29 k ∧ K 29 k ≤ 6764) : CtO G yX6_rich mX6_rich [rf G 28] K r (some (.int (iI (ri (K 29) 5 : Nat)))) (K) (r) := by
  refine Ct_of kX6_rich.1.1 (by decide) [some (rf G 28), none, none] rfl (Nat.le_of_ble_eq_true rfl) ?_
  intro x C hZ
  have loop : ∀ (n k : Nat) (v : Int), k + n = 5 → v = (ri (K 29) k : Nat) → V G mX6_rich x 4 [some (rf G 28), some (.int (iI v)), some (.int (iI ((k + 1 : Nat) : Int)))] [] 34 false (HP G K r) 0 0 := by
    intro n
    induction n with
    | zero =>
      intro k v e e2
      refine V_iload_n C dX6_rich_4 rfl rfl ?_
      refine V_bipush C dX6_rich_5 (by decide +kernel) ?_
      refine V_icmp_ge (tgt := 37) C dX6_rich_7 (by decide) (by omega) (by omega) (fun q7 => ?_) (fun q7 => by exfalso; omega)
      refine V_iload_n C dX6_rich_37 rfl rfl ?_
      exact V_iret C dX6_rich_38 rfl hZ (by rw [e2, show k = 5 by omega]) rfl
    | succ n ih =>
      intro k v e e2
      subst e2
      have f1 := ri_le (K 29) k
      have f2 := hz (k + 1) (by omega)
      have f3 := hz (ri (K 29) k) (by omega)
      refine V_iload_n C dX6_rich_4 rfl rfl ?_
      refine V_bipush C dX6_rich_5 (by decide +kernel) ?_
      refine V_icmp_ge (tgt := 37) C dX6_rich_7 (by decide) (by omega) (by omega) (fun q7 => by exfalso; omega) (fun q7 => ?_)
      refine V_aload_n C dX6_rich_10 rfl rfl ?_
      refine V_getH (L := mOl G) C dX6_rich_11 fX6_7 (by decide) (fun _ => rfl) rfl ?_
      refine V_iload_n C dX6_rich_14 rfl rfl ?_
      refine V_ialdH C dX6_rich_15 (by decide) (fun _ => rfl) (by omega) (by decide) ?_
      refine V_aload_n C dX6_rich_16 rfl rfl ?_
      refine V_getH (L := mOl G) C dX6_rich_17 fX6_7 (by decide) (fun _ => rfl) rfl ?_
      refine V_iload_n C dX6_rich_20 rfl rfl ?_
      refine V_ialdH C dX6_rich_21 (by decide) (fun _ => rfl) (by omega) (by decide) ?_
      have e9 : ((k + 1 : Nat) : Int).toNat = k + 1 := by omega
      have e8 : ((ri (K 29) k : Nat) : Int).toNat = ri (K 29) k := by omega
      rw [e9, e8]
      refine V_icmp_le (tgt := 29) C dX6_rich_22 (by decide) (by omega) (by omega) (fun q22 => ?_) (fun q22 => ?_)
      · refine V_iload_n C dX6_rich_29 rfl rfl ?_
        refine V_istore_n C dX6_rich_30 rfl (Nat.le_of_ble_eq_true rfl) rfl ?_
        refine V_iinc C dX6_rich_31 rfl (Nat.le_of_ble_eq_true rfl) rfl ?_
        refine V_goto (tgt := 4) C dX6_rich_34 (by decide) ?_
        exact ih (k + 1) _ (by omega) (by simp only [ri]; first | (rw [if_pos (by omega)]) | (rw [if_neg (by omega)]))
      · refine V_iload_n C dX6_rich_25 rfl rfl ?_
        refine V_goto (tgt := 30) C dX6_rich_26 (by decide) ?_
        refine V_istore_n C dX6_rich_30 rfl (Nat.le_of_ble_eq_true rfl) rfl ?_
        refine V_iinc C dX6_rich_31 rfl (Nat.le_of_ble_eq_true rfl) rfl ?_
        refine V_goto (tgt := 4) C dX6_rich_34 (by decide) ?_
        exact ih (k + 1) _ (by omega) (by simp only [ri]; first | (rw [if_pos (by omega)]) | (rw [if_neg (by omega)]))
  refine V_iconst C dX6_rich_0 ?_
  refine V_istore_n C dX6_rich_1 rfl (Nat.le_of_ble_eq_true rfl) rfl ?_
  refine V_iconst C dX6_rich_2 ?_
  refine V_istore_n C dX6_rich_3 rfl (Nat.le_of_ble_eq_true rfl) rfl ?_
  exact loop 5 0 _ (by omega) rfl
set_option maxRecDepth 100000 in
set_option maxHeartbeats 4000000 in
theorem c_X6_allSteps (G : GT) (K : Nat → Nat → Int) (r : Nat → Option Nat) (b : Bool) (hz : ∀ k, k < 6 → 0 ≤ K 29 k ∧ K 29 k ≤ 6764) : CtO G yX6_allSteps mX6_allSteps [rf G 28, .int (iI (b2 b))] K r (some (.int (iI (alS (K 29) b 6 : Nat)))) (K) (r) := by
  refine Ct_of kX6_allSteps.1.1 (by decide) [some (rf G 28), some (.int (iI (b2 b))), none, none] rfl (Nat.le_of_ble_eq_true rfl) ?_
  intro x C hZ
  have loop : ∀ (n k : Nat), k + n = 6 → V G mX6_allSteps x 4 [some (rf G 28), some (.int (iI (b2 b))), some (.int (iI (alS (K 29) b k : Nat))), some (.int (iI (k : Int)))] [] 34 false (HP G K r) 0 0 := by
    intro n
    induction n with
    | zero =>
      intro k e
      refine V_iload_n C dX6_allSteps_4 rfl rfl ?_
      refine V_bipush C dX6_allSteps_5 (by decide +kernel) ?_
      refine V_icmp_ge (tgt := 47) C dX6_allSteps_7 (by decide) (by omega) (by omega) (fun q7 => ?_) (fun q7 => by exfalso; omega)
      refine V_iload_n C dX6_allSteps_47 rfl rfl ?_
      exact V_iret C dX6_allSteps_48 rfl hZ (by rw [show k = 6 by omega]) rfl
    | succ n ih =>
      intro k e
      have f2 := hz k (by omega)
      have f3 := gm_18 (K 29 k).toNat
      have f4 := fm_18 (K 29 k).toNat
      cases b
      · refine V_iload_n C dX6_allSteps_4 rfl rfl ?_
        refine V_bipush C dX6_allSteps_5 (by decide +kernel) ?_
        refine V_icmp_ge (tgt := 47) C dX6_allSteps_7 (by decide) (by first | omega | (simp [b2] at *; done) | (simp [b2] at * <;> omega)) (by first | omega | (simp [b2] at *; done) | (simp [b2] at * <;> omega)) (fun q7 => by exfalso; first | omega | (simp [b2] at *; done) | (simp [b2] at * <;> omega)) (fun q7 => ?_)
        refine V_iload_n C dX6_allSteps_10 rfl rfl ?_
        refine V_iload_n C dX6_allSteps_11 rfl rfl ?_
        refine V_if_eq (tgt := 27) C dX6_allSteps_12 (by decide) (by first | omega | (simp [b2] at *; done) | (simp [b2] at * <;> omega)) (fun q12 => ?_) (fun q12 => by exfalso; first | omega | (simp [b2] at *; done) | (simp [b2] at * <;> omega))
        refine V_aload_n C dX6_allSteps_27 rfl rfl ?_
        refine V_getH (L := mOl G) C dX6_allSteps_28 fX6_7 (by decide) (fun _ => rfl) rfl ?_
        refine V_iload_n C dX6_allSteps_31 rfl rfl ?_
        refine V_ialdH C dX6_allSteps_32 (by decide) (fun _ => rfl) (by first | omega | (simp [b2] at *; done) | (simp [b2] at * <;> omega)) (by decide) ?_
        refine V_S1 (k2 := 0) (s2 := 0) C dX6_allSteps_33 lX6_40 kX6_said (i_X6_said G 34 false (HP G K r) (K 29 k) f2) rfl rfl ⟨Nat.le_of_ble_eq_true rfl, Nat.le_of_ble_eq_true rfl⟩ (Nat.le_of_ble_eq_true rfl) (Nat.le_refl _) (Nat.le_refl _) ?_
        refine V_S1 (k2 := 0) (s2 := 0) C dX6_allSteps_36 lX6_47 kX6_many (c_X6_many _ (by omega) G 34 false (HP G K r)) rfl rfl ⟨Nat.le_of_ble_eq_true rfl, Nat.le_of_ble_eq_true rfl⟩ (Nat.le_of_ble_eq_true rfl) (Nat.le_refl _) (Nat.le_refl _) ?_
        refine V_iadd C dX6_allSteps_39 ?_
        refine V_istore_n C dX6_allSteps_40 rfl (Nat.le_of_ble_eq_true rfl) rfl ?_
        refine V_iinc C dX6_allSteps_41 rfl (Nat.le_of_ble_eq_true rfl) rfl ?_
        refine V_goto (tgt := 4) C dX6_allSteps_44 (by decide) ?_
        exact ih (k + 1) (by omega)
      · refine V_iload_n C dX6_allSteps_4 rfl rfl ?_
        refine V_bipush C dX6_allSteps_5 (by decide +kernel) ?_
        refine V_icmp_ge (tgt := 47) C dX6_allSteps_7 (by decide) (by first | omega | (simp [b2] at *; done) | (simp [b2] at * <;> omega)) (by first | omega | (simp [b2] at *; done) | (simp [b2] at * <;> omega)) (fun q7 => by exfalso; first | omega | (simp [b2] at *; done) | (simp [b2] at * <;> omega)) (fun q7 => ?_)
        refine V_iload_n C dX6_allSteps_10 rfl rfl ?_
        refine V_iload_n C dX6_allSteps_11 rfl rfl ?_
        refine V_if_eq (tgt := 27) C dX6_allSteps_12 (by decide) (by first | omega | (simp [b2] at *; done) | (simp [b2] at * <;> omega)) (fun q12 => by exfalso; first | omega | (simp [b2] at *; done) | (simp [b2] at * <;> omega)) (fun q12 => ?_)
        refine V_aload_n C dX6_allSteps_15 rfl rfl ?_
        refine V_getH (L := mOl G) C dX6_allSteps_16 fX6_7 (by decide) (fun _ => rfl) rfl ?_
        refine V_iload_n C dX6_allSteps_19 rfl rfl ?_
        refine V_ialdH C dX6_allSteps_20 (by decide) (fun _ => rfl) (by first | omega | (simp [b2] at *; done) | (simp [b2] at * <;> omega)) (by decide) ?_
        refine V_S1 (k2 := 0) (s2 := 0) C dX6_allSteps_21 lX6_150 kX6_full (i_X6_full G 34 false (HP G K r) (K 29 k) f2) rfl rfl ⟨Nat.le_of_ble_eq_true rfl, Nat.le_of_ble_eq_true rfl⟩ (Nat.le_of_ble_eq_true rfl) (Nat.le_refl _) (Nat.le_refl _) ?_
        refine V_goto (tgt := 36) C dX6_allSteps_24 (by decide) ?_
        refine V_S1 (k2 := 0) (s2 := 0) C dX6_allSteps_36 lX6_47 kX6_many (c_X6_many _ (by omega) G 34 false (HP G K r)) rfl rfl ⟨Nat.le_of_ble_eq_true rfl, Nat.le_of_ble_eq_true rfl⟩ (Nat.le_of_ble_eq_true rfl) (Nat.le_refl _) (Nat.le_refl _) ?_
        refine V_iadd C dX6_allSteps_39 ?_
        refine V_istore_n C dX6_allSteps_40 rfl (Nat.le_of_ble_eq_true rfl) rfl ?_
        refine V_iinc C dX6_allSteps_41 rfl (Nat.le_of_ble_eq_true rfl) rfl ?_
        refine V_goto (tgt := 4) C dX6_allSteps_44 (by decide) ?_
        exact ih (k + 1) (by omega)
  refine V_iconst C dX6_allSteps_0 ?_
  refine V_istore_n C dX6_allSteps_1 rfl (Nat.le_of_ble_eq_true rfl) rfl ?_
  refine V_iconst C dX6_allSteps_2 ?_
  refine V_istore_n C dX6_allSteps_3 rfl (Nat.le_of_ble_eq_true rfl) rfl ?_
  exact loop 6 0 (by omega)
