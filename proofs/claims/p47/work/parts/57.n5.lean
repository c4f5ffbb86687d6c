set_option maxRecDepth 100000 in
set_option maxHeartbeats 4000000 in
theorem c_X3_isStall (G : GT) (K : Nat → Nat → Int) (r : Nat → Option Nat) (c : Int) (hc : 0 ≤ c ∧ c ≤ 200) : CtO G yX3_isStall mX3_isStall [.int (iI c)] K r (some (.int (iI (b2 (decide (48 ≤ c ∧ c ≤ 53)))))) K r := by
  refine Ct_of kX3_isStall.1 (by decide) [some (.int (iI c))] rfl (Nat.le_of_ble_eq_true rfl) ?_
  intro x C hZ
  refine V_iload_n C dX3_isStall_0 rfl rfl ?_
  refine V_bipush C dX3_isStall_1 (by decide +kernel) ?_
  refine V_icmp_lt (tgt := 16) C dX3_isStall_3 (by decide) (by omega) (by omega) (fun q3 => ?_) (fun q3 => ?_)
  · refine V_iconst C dX3_isStall_16 ?_
    exact V_zret C dX3_isStall_17 rfl hZ (b2_01 _) (by first | exact b2_t _ (by omega) | exact b2_f _ (by omega)) rfl
  · refine V_iload_n C dX3_isStall_6 rfl rfl ?_
    refine V_bipush C dX3_isStall_7 (by decide +kernel) ?_
    refine V_icmp_ge (tgt := 16) C dX3_isStall_9 (by decide) (by omega) (by omega) (fun q9 => ?_) (fun q9 => ?_)
    · refine V_iconst C dX3_isStall_16 ?_
      exact V_zret C dX3_isStall_17 rfl hZ (b2_01 _) (by first | exact b2_t _ (by omega) | exact b2_f _ (by omega)) rfl
    · refine V_iconst C dX3_isStall_12 ?_
      refine V_goto (tgt := 17) C dX3_isStall_13 (by decide) ?_
      exact V_zret C dX3_isStall_17 rfl hZ (b2_01 _) (by first | exact b2_t _ (by omega) | exact b2_f _ (by omega)) rfl
set_option maxRecDepth 100000 in
set_option maxHeartbeats 4000000 in
theorem c_X3_isDigit (G : GT) (K : Nat → Nat → Int) (r : Nat → Option Nat) (c : Int) (hc : 0 ≤ c ∧ c ≤ 200) : CtO G yX3_isDigit mX3_isDigit [.int (iI c)] K r (some (.int (iI (b2 (decide (48 ≤ c ∧ c ≤ 57)))))) K r := by
  refine Ct_of kX3_isDigit.1 (by decide) [some (.int (iI c))] rfl (Nat.le_of_ble_eq_true rfl) ?_
  intro x C hZ
  refine V_iload_n C dX3_isDigit_0 rfl rfl ?_
  refine V_bipush C dX3_isDigit_1 (by decide +kernel) ?_
  refine V_icmp_lt (tgt := 16) C dX3_isDigit_3 (by decide) (by omega) (by omega) (fun q3 => ?_) (fun q3 => ?_)
  · refine V_iconst C dX3_isDigit_16 ?_
    exact V_zret C dX3_isDigit_17 rfl hZ (b2_01 _) (by first | exact b2_t _ (by omega) | exact b2_f _ (by omega)) rfl
  · refine V_iload_n C dX3_isDigit_6 rfl rfl ?_
    refine V_bipush C dX3_isDigit_7 (by decide +kernel) ?_
    refine V_icmp_gt (tgt := 16) C dX3_isDigit_9 (by decide) (by omega) (by omega) (fun q9 => ?_) (fun q9 => ?_)
    · refine V_iconst C dX3_isDigit_16 ?_
      exact V_zret C dX3_isDigit_17 rfl hZ (b2_01 _) (by first | exact b2_t _ (by omega) | exact b2_f _ (by omega)) rfl
    · refine V_iconst C dX3_isDigit_12 ?_
      refine V_goto (tgt := 17) C dX3_isDigit_13 (by decide) ?_
      exact V_zret C dX3_isDigit_17 rfl hZ (b2_01 _) (by first | exact b2_t _ (by omega) | exact b2_f _ (by omega)) rfl
set_option maxRecDepth 100000 in
set_option maxHeartbeats 4000000 in
theorem c_X3_start (G : GT) (K : Nat → Nat → Int) (r : Nat → Option Nat)  : CtO G yX3_start mX3_start [rf G 7] K r (none) (us K 7 (us (K 7) 0 0)) (r) := by
  refine Ct_of kX3_start.1.1 (by decide) [some (rf G 7)] rfl (Nat.le_of_ble_eq_true rfl) ?_
  intro x C hZ
  refine V_aload_n C dX3_start_0 rfl rfl ?_
  refine V_iconst C dX3_start_1 ?_
  refine V_putH (L := scL) (ty := .int) C dX3_start_2 fX3_11 (by decide) (fun _ => rfl) rfl (by decide +kernel) (rfl) (rfl) (Nat.le_of_ble_eq_true rfl) rfl ?_
  exact V_vret C dX3_start_5 rfl hZ rfl
set_option maxRecDepth 100000 in
set_option maxHeartbeats 4000000 in
theorem c_X3_isComplete (G : GT) (K : Nat → Nat → Int) (r : Nat → Option Nat) (hI : 0 ≤ K 7 0 ∧ K 7 0 ≤ 5) : CtO G yX3_isComplete mX3_isComplete [rf G 7] K r (some (.int (iI (b2 (decide (K 7 0 = 4 ∨ K 7 0 = 5)))))) (K) (r) := by
  refine Ct_of kX3_isComplete.1.1 (by decide) [some (rf G 7)] rfl (Nat.le_of_ble_eq_true rfl) ?_
  intro x C hZ
  refine V_aload_n C dX3_isComplete_0 rfl rfl ?_
  refine V_getH (L := scL) C dX3_isComplete_1 fX3_11 (by decide) (fun _ => rfl) rfl ?_
  refine V_iconst C dX3_isComplete_4 ?_
  refine V_icmp_eq (tgt := 16) C dX3_isComplete_5 (by decide) (by omega) (by omega) (fun q5 => ?_) (fun q5 => ?_)
  · refine V_iconst C dX3_isComplete_16 ?_
    refine V_goto (tgt := 21) C dX3_isComplete_17 (by decide) ?_
    exact V_zret C dX3_isComplete_21 rfl hZ (b2_01 _) (by first | exact b2_t _ (by omega) | exact b2_f _ (by omega)) rfl
  · refine V_aload_n C dX3_isComplete_8 rfl rfl ?_
    refine V_getH (L := scL) C dX3_isComplete_9 fX3_11 (by decide) (fun _ => rfl) rfl ?_
    refine V_iconst C dX3_isComplete_12 ?_
    refine V_icmp_ne (tgt := 20) C dX3_isComplete_13 (by decide) (by omega) (by omega) (fun q13 => ?_) (fun q13 => ?_)
    · refine V_iconst C dX3_isComplete_20 ?_
      exact V_zret C dX3_isComplete_21 rfl hZ (b2_01 _) (by first | exact b2_t _ (by omega) | exact b2_f _ (by omega)) rfl
    · refine V_iconst C dX3_isComplete_16 ?_
      refine V_goto (tgt := 21) C dX3_isComplete_17 (by decide) ?_
      exact V_zret C dX3_isComplete_21 rfl hZ (b2_01 _) (by first | exact b2_t _ (by omega) | exact b2_f _ (by omega)) rfl
set_option maxRecDepth 100000 in
set_option maxHeartbeats 4000000 in
theorem c_X3_expectNumber (G : GT) (K : Nat → Nat → Int) (r : Nat → Option Nat) (c : Int) (hc : 0 ≤ c ∧ c ≤ 200) (a b : Int) : CtO G yX3_expectNumber mX3_expectNumber [rf G 7, .int (iI c), .int (iI a), .int (iI b)] K r (some (.int (iI 1))) (us K 7 (xpN (K 7) c a b)) (r) := by
  refine Ct_of kX3_expectNumber.1.1 (by decide) [some (rf G 7), some (.int (iI c)), some (.int (iI a)), some (.int (iI b))] rfl (Nat.le_of_ble_eq_true rfl) ?_
  intro x C hZ
  refine V_aload_n C dX3_expectNumber_0 rfl rfl ?_
  refine V_iload_n C dX3_expectNumber_1 rfl rfl ?_
  refine V_putH (L := scL) (ty := .char) C dX3_expectNumber_2 fX3_44 (by decide) (fun _ => rfl) rfl (by decide +kernel) ((narC (show 0 ≤ c ∧ c < 65536 by omega)).1) ((narC (show 0 ≤ c ∧ c < 65536 by omega)).2) (Nat.le_of_ble_eq_true rfl) rfl ?_
  refine V_aload_n C dX3_expectNumber_5 rfl rfl ?_
  refine V_iload_n C dX3_expectNumber_6 rfl rfl ?_
  refine V_putH (L := scL) (ty := .int) C dX3_expectNumber_7 fX3_48 (by decide) (fun _ => rfl) rfl (by decide +kernel) (rfl) (rfl) (Nat.le_of_ble_eq_true rfl) rfl ?_
  refine V_aload_n C dX3_expectNumber_10 rfl rfl ?_
  refine V_iload_n C dX3_expectNumber_11 rfl rfl ?_
  refine V_putH (L := scL) (ty := .int) C dX3_expectNumber_12 fX3_51 (by decide) (fun _ => rfl) rfl (by decide +kernel) (rfl) (rfl) (Nat.le_of_ble_eq_true rfl) rfl ?_
  refine V_aload_n C dX3_expectNumber_15 rfl rfl ?_
  refine V_iconst C dX3_expectNumber_16 ?_
  refine V_putH (L := scL) (ty := .int) C dX3_expectNumber_17 fX3_11 (by decide) (fun _ => rfl) rfl (by decide +kernel) (rfl) (rfl) (Nat.le_of_ble_eq_true rfl) rfl ?_
  refine V_iconst C dX3_expectNumber_20 ?_
  exact V_zret C dX3_expectNumber_21 rfl hZ (by decide) rfl (by simp only [us_at, us_us]; rfl)
set_option maxRecDepth 100000 in
set_option maxHeartbeats 4000000 in
theorem c_X3_takeBegin (G : GT) (K : Nat → Nat → Int) (r : Nat → Option Nat) (c : Int) (hc : 0 ≤ c ∧ c ≤ 200) : CtO G yX3_takeBegin mX3_takeBegin [rf G 7, .int (iI c)] K r (some (.int (iI (b2 (scB0 c))))) (us K 7 (scF0 (K 7) c)) (r) := by
  refine Ct_of kX3_takeBegin.1.1 (by decide) [some (rf G 7), some (.int (iI c))] rfl (Nat.le_of_ble_eq_true rfl) ?_
  intro x C hZ
  rcases (show (c = 115) ∨ (c = 102) ∨ (48 ≤ c ∧ c ≤ 53) ∨ (c ≠ 115 ∧ c ≠ 102 ∧ ¬ (48 ≤ c ∧ c ≤ 53)) by omega) with u | u | u | u
  · skip
    refine V_iload_n C dX3_takeBegin_0 rfl rfl ?_
    refine V_bipush C dX3_takeBegin_1 (by decide +kernel) ?_
    refine V_icmp_ne (tgt := 16) C dX3_takeBegin_3 (by decide) (by omega) (by omega) (fun q3 => by exfalso; omega) (fun q3 => ?_)
    refine V_aload_n C dX3_takeBegin_6 rfl rfl ?_
    refine V_iload_n C dX3_takeBegin_7 rfl rfl ?_
    refine V_iconst C dX3_takeBegin_8 ?_
    refine V_sipush C dX3_takeBegin_9 (by decide +kernel) ?_
    refine V_V1 (k2 := 0) (s2 := 0) C dX3_takeBegin_12 lX3_34 kX3_expectNumber (c_X3_expectNumber G K r c hc 1 6764) (by decide) (rfl) rfl rfl rfl ⟨Nat.le_of_ble_eq_true rfl, Nat.le_of_ble_eq_true rfl⟩ (Nat.le_of_ble_eq_true rfl) (Nat.le_refl _) (Nat.le_refl _) ?_
    exact V_zret C dX3_takeBegin_15 rfl hZ (b2_01 _) (b2_t _ (by omega)) (by unfold scF0; rw [if_pos u])
  · skip
    refine V_iload_n C dX3_takeBegin_0 rfl rfl ?_
    refine V_bipush C dX3_takeBegin_1 (by decide +kernel) ?_
    refine V_icmp_ne (tgt := 16) C dX3_takeBegin_3 (by decide) (by omega) (by omega) (fun q3 => ?_) (fun q3 => by exfalso; omega)
    refine V_iload_n C dX3_takeBegin_16 rfl rfl ?_
    refine V_bipush C dX3_takeBegin_17 (by decide +kernel) ?_
    refine V_icmp_ne (tgt := 31) C dX3_takeBegin_19 (by decide) (by omega) (by omega) (fun q19 => by exfalso; omega) (fun q19 => ?_)
    refine V_aload_n C dX3_takeBegin_22 rfl rfl ?_
    refine V_iload_n C dX3_takeBegin_23 rfl rfl ?_
    refine V_iconst C dX3_takeBegin_24 ?_
    refine V_bipush C dX3_takeBegin_25 (by decide +kernel) ?_
    refine V_V1 (k2 := 0) (s2 := 0) C dX3_takeBegin_27 lX3_34 kX3_expectNumber (c_X3_expectNumber G K r c hc 0 63) (by decide) (rfl) rfl rfl rfl ⟨Nat.le_of_ble_eq_true rfl, Nat.le_of_ble_eq_true rfl⟩ (Nat.le_of_ble_eq_true rfl) (Nat.le_refl _) (Nat.le_refl _) ?_
    exact V_zret C dX3_takeBegin_30 rfl hZ (b2_01 _) (b2_t _ (by omega)) (by unfold scF0; rw [if_neg (by omega), if_pos u])
  · skip
    refine V_iload_n C dX3_takeBegin_0 rfl rfl ?_
    refine V_bipush C dX3_takeBegin_1 (by decide +kernel) ?_
    refine V_icmp_ne (tgt := 16) C dX3_takeBegin_3 (by decide) (by omega) (by omega) (fun q3 => ?_) (fun q3 => by exfalso; omega)
    refine V_iload_n C dX3_takeBegin_16 rfl rfl ?_
    refine V_bipush C dX3_takeBegin_17 (by decide +kernel) ?_
    refine V_icmp_ne (tgt := 31) C dX3_takeBegin_19 (by decide) (by omega) (by omega) (fun q19 => ?_) (fun q19 => by exfalso; omega)
    refine V_iload_n C dX3_takeBegin_31 rfl rfl ?_
    refine V_S1 (k2 := 0) (s2 := 0) C dX3_takeBegin_32 lX3_38 kX3_isStall (Ct_v (b2y (show 48 ≤ c ∧ c ≤ 53 by omega)) (c_X3_isStall G K r c hc)) rfl rfl ⟨Nat.le_of_ble_eq_true rfl, Nat.le_of_ble_eq_true rfl⟩ (Nat.le_of_ble_eq_true rfl) (Nat.le_refl _) (Nat.le_refl _) ?_
    refine V_if_ne (tgt := 40) C dX3_takeBegin_35 (by decide) (by omega) (fun q35 => ?_) (fun q35 => by exfalso; omega)
    refine V_aload_n C dX3_takeBegin_40 rfl rfl ?_
    refine V_iload_n C dX3_takeBegin_41 rfl rfl ?_
    refine V_bipush C dX3_takeBegin_42 (by decide +kernel) ?_
    refine V_isub C dX3_takeBegin_44 ?_
    refine V_putH (L := scL) (ty := .int) C dX3_takeBegin_45 fX3_41 (by decide) (fun _ => rfl) rfl (by decide +kernel) (rfl) (rfl) (Nat.le_of_ble_eq_true rfl) rfl ?_
    refine V_aload_n C dX3_takeBegin_48 rfl rfl ?_
    refine V_iconst C dX3_takeBegin_49 ?_
    refine V_putH (L := scL) (ty := .int) C dX3_takeBegin_50 fX3_11 (by decide) (fun _ => rfl) rfl (by decide +kernel) (rfl) (rfl) (Nat.le_of_ble_eq_true rfl) rfl ?_
    refine V_iconst C dX3_takeBegin_53 ?_
    exact V_zret C dX3_takeBegin_54 rfl hZ (b2_01 _) (b2_t _ (by omega)) (by unfold scF0; rw [if_neg (by omega), if_neg (by omega), if_pos u]; simp only [us_at, us_us])
  · skip
    refine V_iload_n C dX3_takeBegin_0 rfl rfl ?_
    refine V_bipush C dX3_takeBegin_1 (by decide +kernel) ?_
    refine V_icmp_ne (tgt := 16) C dX3_takeBegin_3 (by decide) (by omega) (by omega) (fun q3 => ?_) (fun q3 => by exfalso; omega)
    refine V_iload_n C dX3_takeBegin_16 rfl rfl ?_
    refine V_bipush C dX3_takeBegin_17 (by decide +kernel) ?_
    refine V_icmp_ne (tgt := 31) C dX3_takeBegin_19 (by decide) (by omega) (by omega) (fun q19 => ?_) (fun q19 => by exfalso; omega)
    refine V_iload_n C dX3_takeBegin_31 rfl rfl ?_
    refine V_S1 (k2 := 0) (s2 := 0) C dX3_takeBegin_32 lX3_38 kX3_isStall (Ct_v (b2n (show ¬ (48 ≤ c ∧ c ≤ 53) by omega)) (c_X3_isStall G K r c hc)) rfl rfl ⟨Nat.le_of_ble_eq_true rfl, Nat.le_of_ble_eq_true rfl⟩ (Nat.le_of_ble_eq_true rfl) (Nat.le_refl _) (Nat.le_refl _) ?_
    refine V_if_ne (tgt := 40) C dX3_takeBegin_35 (by decide) (by omega) (fun q35 => by exfalso; omega) (fun q35 => ?_)
    refine V_iconst C dX3_takeBegin_38 ?_
    exact V_zret C dX3_takeBegin_39 rfl hZ (b2_01 _) (b2_f _ (by omega)) (by unfold scF0; rw [if_neg u.1, if_neg u.2.1, if_neg u.2.2, us_same])
set_option maxRecDepth 100000 in
set_option maxHeartbeats 4000000 in
theorem c_X3_takeOperation (G : GT) (K : Nat → Nat → Int) (r : Nat → Option Nat) (c : Int) (hc : 0 ≤ c ∧ c ≤ 200) : CtO G yX3_takeOperation mX3_takeOperation [rf G 7, .int (iI c)] K r (some (.int (iI (b2 (scB1 c))))) (us K 7 (scF1 (K 7) c)) (r) := by
  refine Ct_of kX3_takeOperation.1.1 (by decide) [some (rf G 7), some (.int (iI c))] rfl (Nat.le_of_ble_eq_true rfl) ?_
  intro x C hZ
  rcases (show (c = 61) ∨ (c = 94) ∨ (c = 43) ∨ (c = 45) ∨ (c ≠ 61 ∧ c ≠ 94 ∧ c ≠ 43 ∧ c ≠ 45) by omega) with u | u | u | u | u
  · skip
    refine V_iload_n C dX3_takeOperation_0 rfl rfl ?_
    refine V_bipush C dX3_takeOperation_1 (by decide +kernel) ?_
    refine V_icmp_ne (tgt := 16) C dX3_takeOperation_3 (by decide) (by omega) (by omega) (fun q3 => by exfalso; omega) (fun q3 => ?_)
    refine V_aload_n C dX3_takeOperation_6 rfl rfl ?_
    refine V_iload_n C dX3_takeOperation_7 rfl rfl ?_
    refine V_iconst C dX3_takeOperation_8 ?_
    refine V_sipush C dX3_takeOperation_9 (by decide +kernel) ?_
    refine V_V1 (k2 := 0) (s2 := 0) C dX3_takeOperation_12 lX3_34 kX3_expectNumber (c_X3_expectNumber G K r c hc 0 6764) (by decide) (rfl) rfl rfl rfl ⟨Nat.le_of_ble_eq_true rfl, Nat.le_of_ble_eq_true rfl⟩ (Nat.le_of_ble_eq_true rfl) (Nat.le_refl _) (Nat.le_refl _) ?_
    exact V_zret C dX3_takeOperation_15 rfl hZ (b2_01 _) (b2_t _ (by omega)) (by unfold scF1; rw [if_pos u])
  · skip
    refine V_iload_n C dX3_takeOperation_0 rfl rfl ?_
    refine V_bipush C dX3_takeOperation_1 (by decide +kernel) ?_
    refine V_icmp_ne (tgt := 16) C dX3_takeOperation_3 (by decide) (by omega) (by omega) (fun q3 => ?_) (fun q3 => by exfalso; omega)
    refine V_iload_n C dX3_takeOperation_16 rfl rfl ?_
    refine V_bipush C dX3_takeOperation_17 (by decide +kernel) ?_
    refine V_icmp_eq (tgt := 36) C dX3_takeOperation_19 (by decide) (by omega) (by omega) (fun q19 => by exfalso; omega) (fun q19 => ?_)
    refine V_iload_n C dX3_takeOperation_22 rfl rfl ?_
    refine V_bipush C dX3_takeOperation_23 (by decide +kernel) ?_
    refine V_icmp_eq (tgt := 36) C dX3_takeOperation_25 (by decide) (by omega) (by omega) (fun q25 => by exfalso; omega) (fun q25 => ?_)
    refine V_iload_n C dX3_takeOperation_28 rfl rfl ?_
    refine V_bipush C dX3_takeOperation_29 (by decide +kernel) ?_
    refine V_icmp_eq (tgt := 36) C dX3_takeOperation_31 (by decide) (by omega) (by omega) (fun q31 => ?_) (fun q31 => by exfalso; omega)
    refine V_aload_n C dX3_takeOperation_36 rfl rfl ?_
    refine V_iload_n C dX3_takeOperation_37 rfl rfl ?_
    refine V_putH (L := scL) (ty := .char) C dX3_takeOperation_38 fX3_44 (by decide) (fun _ => rfl) rfl (by decide +kernel) ((narC (show 0 ≤ c ∧ c < 65536 by omega)).1) ((narC (show 0 ≤ c ∧ c < 65536 by omega)).2) (Nat.le_of_ble_eq_true rfl) rfl ?_
    refine V_aload_n C dX3_takeOperation_41 rfl rfl ?_
    refine V_iload_n C dX3_takeOperation_42 rfl rfl ?_
    refine V_bipush C dX3_takeOperation_43 (by decide +kernel) ?_
    refine V_icmp_ne (tgt := 52) C dX3_takeOperation_45 (by decide) (by omega) (by omega) (fun q45 => by exfalso; omega) (fun q45 => ?_)
    refine V_iconst C dX3_takeOperation_48 ?_
    refine V_goto (tgt := 53) C dX3_takeOperation_49 (by decide) ?_
    refine V_putH (L := scL) (ty := .int) C dX3_takeOperation_53 fX3_11 (by decide) (fun _ => rfl) rfl (by decide +kernel) (rfl) (rfl) (Nat.le_of_ble_eq_true rfl) rfl ?_
    refine V_iconst C dX3_takeOperation_56 ?_
    exact V_zret C dX3_takeOperation_57 rfl hZ (b2_01 _) (b2_t _ (by omega)) (by unfold scF1; rw [if_neg (by omega), if_pos u]; simp only [us_at, us_us])
  · skip
    refine V_iload_n C dX3_takeOperation_0 rfl rfl ?_
    refine V_bipush C dX3_takeOperation_1 (by decide +kernel) ?_
    refine V_icmp_ne (tgt := 16) C dX3_takeOperation_3 (by decide) (by omega) (by omega) (fun q3 => ?_) (fun q3 => by exfalso; omega)
    refine V_iload_n C dX3_takeOperation_16 rfl rfl ?_
    refine V_bipush C dX3_takeOperation_17 (by decide +kernel) ?_
    refine V_icmp_eq (tgt := 36) C dX3_takeOperation_19 (by decide) (by omega) (by omega) (fun q19 => ?_) (fun q19 => by exfalso; omega)
    refine V_aload_n C dX3_takeOperation_36 rfl rfl ?_
    refine V_iload_n C dX3_takeOperation_37 rfl rfl ?_
    refine V_putH (L := scL) (ty := .char) C dX3_takeOperation_38 fX3_44 (by decide) (fun _ => rfl) rfl (by decide +kernel) ((narC (show 0 ≤ c ∧ c < 65536 by omega)).1) ((narC (show 0 ≤ c ∧ c < 65536 by omega)).2) (Nat.le_of_ble_eq_true rfl) rfl ?_
    refine V_aload_n C dX3_takeOperation_41 rfl rfl ?_
    refine V_iload_n C dX3_takeOperation_42 rfl rfl ?_
    refine V_bipush C dX3_takeOperation_43 (by decide +kernel) ?_
    refine V_icmp_ne (tgt := 52) C dX3_takeOperation_45 (by decide) (by omega) (by omega) (fun q45 => ?_) (fun q45 => by exfalso; omega)
    refine V_iconst C dX3_takeOperation_52 ?_
    refine V_putH (L := scL) (ty := .int) C dX3_takeOperation_53 fX3_11 (by decide) (fun _ => rfl) rfl (by decide +kernel) (rfl) (rfl) (Nat.le_of_ble_eq_true rfl) rfl ?_
    refine V_iconst C dX3_takeOperation_56 ?_
    exact V_zret C dX3_takeOperation_57 rfl hZ (b2_01 _) (b2_t _ (by omega)) (by unfold scF1; rw [if_neg (by omega), if_neg (by omega), if_pos (by omega)]; simp only [us_at, us_us])
  · skip
    refine V_iload_n C dX3_takeOperation_0 rfl rfl ?_
    refine V_bipush C dX3_takeOperation_1 (by decide +kernel) ?_
    refine V_icmp_ne (tgt := 16) C dX3_takeOperation_3 (by decide) (by omega) (by omega) (fun q3 => ?_) (fun q3 => by exfalso; omega)
    refine V_iload_n C dX3_takeOperation_16 rfl rfl ?_
    refine V_bipush C dX3_takeOperation_17 (by decide +kernel) ?_
    refine V_icmp_eq (tgt := 36) C dX3_takeOperation_19 (by decide) (by omega) (by omega) (fun q19 => by exfalso; omega) (fun q19 => ?_)
    refine V_iload_n C dX3_takeOperation_22 rfl rfl ?_
    refine V_bipush C dX3_takeOperation_23 (by decide +kernel) ?_
    refine V_icmp_eq (tgt := 36) C dX3_takeOperation_25 (by decide) (by omega) (by omega) (fun q25 => ?_) (fun q25 => by exfalso; omega)
    refine V_aload_n C dX3_takeOperation_36 rfl rfl ?_
    refine V_iload_n C dX3_takeOperation_37 rfl rfl ?_
    refine V_putH (L := scL) (ty := .char) C dX3_takeOperation_38 fX3_44 (by decide) (fun _ => rfl) rfl (by decide +kernel) ((narC (show 0 ≤ c ∧ c < 65536 by omega)).1) ((narC (show 0 ≤ c ∧ c < 65536 by omega)).2) (Nat.le_of_ble_eq_true rfl) rfl ?_
    refine V_aload_n C dX3_takeOperation_41 rfl rfl ?_
    refine V_iload_n C dX3_takeOperation_42 rfl rfl ?_
    refine V_bipush C dX3_takeOperation_43 (by decide +kernel) ?_
    refine V_icmp_ne (tgt := 52) C dX3_takeOperation_45 (by decide) (by omega) (by omega) (fun q45 => ?_) (fun q45 => by exfalso; omega)
    refine V_iconst C dX3_takeOperation_52 ?_
    refine V_putH (L := scL) (ty := .int) C dX3_takeOperation_53 fX3_11 (by decide) (fun _ => rfl) rfl (by decide +kernel) (rfl) (rfl) (Nat.le_of_ble_eq_true rfl) rfl ?_
    refine V_iconst C dX3_takeOperation_56 ?_
    exact V_zret C dX3_takeOperation_57 rfl hZ (b2_01 _) (b2_t _ (by omega)) (by unfold scF1; rw [if_neg (by omega), if_neg (by omega), if_pos (by omega)]; simp only [us_at, us_us])
  · skip
    refine V_iload_n C dX3_takeOperation_0 rfl rfl ?_
    refine V_bipush C dX3_takeOperation_1 (by decide +kernel) ?_
    refine V_icmp_ne (tgt := 16) C dX3_takeOperation_3 (by decide) (by omega) (by omega) (fun q3 => ?_) (fun q3 => by exfalso; omega)
    refine V_iload_n C dX3_takeOperation_16 rfl rfl ?_
    refine V_bipush C dX3_takeOperation_17 (by decide +kernel) ?_
    refine V_icmp_eq (tgt := 36) C dX3_takeOperation_19 (by decide) (by omega) (by omega) (fun q19 => by exfalso; omega) (fun q19 => ?_)
    refine V_iload_n C dX3_takeOperation_22 rfl rfl ?_
    refine V_bipush C dX3_takeOperation_23 (by decide +kernel) ?_
    refine V_icmp_eq (tgt := 36) C dX3_takeOperation_25 (by decide) (by omega) (by omega) (fun q25 => by exfalso; omega) (fun q25 => ?_)
    refine V_iload_n C dX3_takeOperation_28 rfl rfl ?_
    refine V_bipush C dX3_takeOperation_29 (by decide +kernel) ?_
    refine V_icmp_eq (tgt := 36) C dX3_takeOperation_31 (by decide) (by omega) (by omega) (fun q31 => by exfalso; omega) (fun q31 => ?_)
    refine V_iconst C dX3_takeOperation_34 ?_
    exact V_zret C dX3_takeOperation_35 rfl hZ (b2_01 _) (b2_f _ (by omega)) (by unfold scF1; rw [if_neg u.1, if_neg u.2.1, if_neg (by omega), us_same])
set_option maxRecDepth 100000 in
set_option maxHeartbeats 4000000 in
theorem c_X3_takeOtherStall (G : GT) (K : Nat → Nat → Int) (r : Nat → Option Nat) (c : Int) (hc : 0 ≤ c ∧ c ≤ 200) : CtO G yX3_takeOtherStall mX3_takeOtherStall [rf G 7, .int (iI c)] K r (some (.int (iI (b2 (scB2 c))))) (us K 7 (scF2 (K 7) c)) (r) := by
  refine Ct_of kX3_takeOtherStall.1.1 (by decide) [some (rf G 7), some (.int (iI c))] rfl (Nat.le_of_ble_eq_true rfl) ?_
  intro x C hZ
  rcases (show (48 ≤ c ∧ c ≤ 53) ∨ (¬ (48 ≤ c ∧ c ≤ 53)) by omega) with u | u
  · skip
    refine V_iload_n C dX3_takeOtherStall_0 rfl rfl ?_
    refine V_S1 (k2 := 0) (s2 := 0) C dX3_takeOtherStall_1 lX3_38 kX3_isStall (Ct_v (b2y (show 48 ≤ c ∧ c ≤ 53 by omega)) (c_X3_isStall G K r c hc)) rfl rfl ⟨Nat.le_of_ble_eq_true rfl, Nat.le_of_ble_eq_true rfl⟩ (Nat.le_of_ble_eq_true rfl) (Nat.le_refl _) (Nat.le_refl _) ?_
    refine V_if_ne (tgt := 9) C dX3_takeOtherStall_4 (by decide) (by omega) (fun q4 => ?_) (fun q4 => by exfalso; omega)
    refine V_aload_n C dX3_takeOtherStall_9 rfl rfl ?_
    refine V_iload_n C dX3_takeOtherStall_10 rfl rfl ?_
    refine V_bipush C dX3_takeOtherStall_11 (by decide +kernel) ?_
    refine V_isub C dX3_takeOtherStall_13 ?_
    refine V_putH (L := scL) (ty := .int) C dX3_takeOtherStall_14 fX3_54 (by decide) (fun _ => rfl) rfl (by decide +kernel) (rfl) (rfl) (Nat.le_of_ble_eq_true rfl) rfl ?_
    refine V_aload_n C dX3_takeOtherStall_17 rfl rfl ?_
    refine V_iconst C dX3_takeOtherStall_18 ?_
    refine V_putH (L := scL) (ty := .int) C dX3_takeOtherStall_19 fX3_11 (by decide) (fun _ => rfl) rfl (by decide +kernel) (rfl) (rfl) (Nat.le_of_ble_eq_true rfl) rfl ?_
    refine V_iconst C dX3_takeOtherStall_22 ?_
    exact V_zret C dX3_takeOtherStall_23 rfl hZ (b2_01 _) (b2_t _ (by omega)) (by unfold scF2; rw [if_pos u]; simp only [us_at, us_us])
  · skip
    refine V_iload_n C dX3_takeOtherStall_0 rfl rfl ?_
    refine V_S1 (k2 := 0) (s2 := 0) C dX3_takeOtherStall_1 lX3_38 kX3_isStall (Ct_v (b2n (show ¬ (48 ≤ c ∧ c ≤ 53) by omega)) (c_X3_isStall G K r c hc)) rfl rfl ⟨Nat.le_of_ble_eq_true rfl, Nat.le_of_ble_eq_true rfl⟩ (Nat.le_of_ble_eq_true rfl) (Nat.le_refl _) (Nat.le_refl _) ?_
    refine V_if_ne (tgt := 9) C dX3_takeOtherStall_4 (by decide) (by omega) (fun q4 => by exfalso; omega) (fun q4 => ?_)
    refine V_iconst C dX3_takeOtherStall_7 ?_
    exact V_zret C dX3_takeOtherStall_8 rfl hZ (b2_01 _) (b2_f _ (by omega)) (by unfold scF2; rw [if_neg u, us_same])
set_option maxRecDepth 100000 in
set_option maxHeartbeats 4000000 in
theorem c_X3_takeFirstDigit (G : GT) (K : Nat → Nat → Int) (r : Nat → Option Nat) (c : Int) (hc : 0 ≤ c ∧ c ≤ 200) (h4 : 0 ≤ K 7 4 ∧ K 7 4 ≤ 1) : CtO G yX3_takeFirstDigit mX3_takeFirstDigit [rf G 7, .int (iI c)] K r (some (.int (iI (b2 (scB3 (K 7) c))))) (us K 7 (scF3 (K 7) c)) (r) := by
  refine Ct_of kX3_takeFirstDigit.1.1 (by decide) [some (rf G 7), some (.int (iI c))] rfl (Nat.le_of_ble_eq_true rfl) ?_
  intro x C hZ
  rcases (show (c = 48 ∧ K 7 4 ≤ 0) ∨ (48 < c ∧ c ≤ 57 ∧ K 7 4 ≤ c - 48) ∨ (48 ≤ c ∧ c ≤ 57 ∧ ¬ K 7 4 ≤ c - 48) ∨ (¬ (48 ≤ c ∧ c ≤ 57)) by omega) with u | u | u | u
  · skip
    refine V_iload_n C dX3_takeFirstDigit_0 rfl rfl ?_
    refine V_S1 (k2 := 0) (s2 := 0) C dX3_takeFirstDigit_1 lX3_57 kX3_isDigit (Ct_v (b2y (show 48 ≤ c ∧ c ≤ 57 by omega)) (c_X3_isDigit G K r c hc)) rfl rfl ⟨Nat.le_of_ble_eq_true rfl, Nat.le_of_ble_eq_true rfl⟩ (Nat.le_of_ble_eq_true rfl) (Nat.le_refl _) (Nat.le_refl _) ?_
    refine V_if_eq (tgt := 18) C dX3_takeFirstDigit_4 (by decide) (by omega) (fun q4 => by exfalso; omega) (fun q4 => ?_)
    refine V_iload_n C dX3_takeFirstDigit_7 rfl rfl ?_
    refine V_bipush C dX3_takeFirstDigit_8 (by decide +kernel) ?_
    refine V_isub C dX3_takeFirstDigit_10 ?_
    refine V_aload_n C dX3_takeFirstDigit_11 rfl rfl ?_
    refine V_getH (L := scL) C dX3_takeFirstDigit_12 fX3_48 (by decide) (fun _ => rfl) rfl ?_
    refine V_icmp_ge (tgt := 20) C dX3_takeFirstDigit_15 (by decide) (by omega) (by omega) (fun q15 => ?_) (fun q15 => by exfalso; omega)
    refine V_aload_n C dX3_takeFirstDigit_20 rfl rfl ?_
    refine V_iload_n C dX3_takeFirstDigit_21 rfl rfl ?_
    refine V_bipush C dX3_takeFirstDigit_22 (by decide +kernel) ?_
    refine V_isub C dX3_takeFirstDigit_24 ?_
    refine V_putH (L := scL) (ty := .int) C dX3_takeFirstDigit_25 fX3_54 (by decide) (fun _ => rfl) rfl (by decide +kernel) (rfl) (rfl) (Nat.le_of_ble_eq_true rfl) rfl ?_
    refine V_aload_n C dX3_takeFirstDigit_28 rfl rfl ?_
    refine V_aload_n C dX3_takeFirstDigit_29 rfl rfl ?_
    refine V_getH (L := scL) C dX3_takeFirstDigit_30 fX3_54 (by decide) (fun _ => rfl) rfl ?_
    rw [us_at, us_at]
    refine V_if_ne (tgt := 40) C dX3_takeFirstDigit_33 (by decide) (by omega) (fun q33 => by exfalso; omega) (fun q33 => ?_)
    refine V_iconst C dX3_takeFirstDigit_36 ?_
    refine V_goto (tgt := 41) C dX3_takeFirstDigit_37 (by decide) ?_
    refine V_putH (L := scL) (ty := .int) C dX3_takeFirstDigit_41 fX3_11 (by decide) (fun _ => rfl) rfl (by decide +kernel) (rfl) (rfl) (Nat.le_of_ble_eq_true rfl) rfl ?_
    refine V_iconst C dX3_takeFirstDigit_44 ?_
    exact V_zret C dX3_takeFirstDigit_45 rfl hZ (b2_01 _) (b2_t _ (by omega)) (by unfold scF3; rw [if_pos (by omega), if_pos u.1]; simp only [us_at, us_us])
  · skip
    refine V_iload_n C dX3_takeFirstDigit_0 rfl rfl ?_
    refine V_S1 (k2 := 0) (s2 := 0) C dX3_takeFirstDigit_1 lX3_57 kX3_isDigit (Ct_v (b2y (show 48 ≤ c ∧ c ≤ 57 by omega)) (c_X3_isDigit G K r c hc)) rfl rfl ⟨Nat.le_of_ble_eq_true rfl, Nat.le_of_ble_eq_true rfl⟩ (Nat.le_of_ble_eq_true rfl) (Nat.le_refl _) (Nat.le_refl _) ?_
    refine V_if_eq (tgt := 18) C dX3_takeFirstDigit_4 (by decide) (by omega) (fun q4 => by exfalso; omega) (fun q4 => ?_)
    refine V_iload_n C dX3_takeFirstDigit_7 rfl rfl ?_
    refine V_bipush C dX3_takeFirstDigit_8 (by decide +kernel) ?_
    refine V_isub C dX3_takeFirstDigit_10 ?_
    refine V_aload_n C dX3_takeFirstDigit_11 rfl rfl ?_
    refine V_getH (L := scL) C dX3_takeFirstDigit_12 fX3_48 (by decide) (fun _ => rfl) rfl ?_
    refine V_icmp_ge (tgt := 20) C dX3_takeFirstDigit_15 (by decide) (by omega) (by omega) (fun q15 => ?_) (fun q15 => by exfalso; omega)
    refine V_aload_n C dX3_takeFirstDigit_20 rfl rfl ?_
    refine V_iload_n C dX3_takeFirstDigit_21 rfl rfl ?_
    refine V_bipush C dX3_takeFirstDigit_22 (by decide +kernel) ?_
    refine V_isub C dX3_takeFirstDigit_24 ?_
    refine V_putH (L := scL) (ty := .int) C dX3_takeFirstDigit_25 fX3_54 (by decide) (fun _ => rfl) rfl (by decide +kernel) (rfl) (rfl) (Nat.le_of_ble_eq_true rfl) rfl ?_
    refine V_aload_n C dX3_takeFirstDigit_28 rfl rfl ?_
    refine V_aload_n C dX3_takeFirstDigit_29 rfl rfl ?_
    refine V_getH (L := scL) C dX3_takeFirstDigit_30 fX3_54 (by decide) (fun _ => rfl) rfl ?_
    rw [us_at, us_at]
    refine V_if_ne (tgt := 40) C dX3_takeFirstDigit_33 (by decide) (by omega) (fun q33 => ?_) (fun q33 => by exfalso; omega)
    refine V_iconst C dX3_takeFirstDigit_40 ?_
    refine V_putH (L := scL) (ty := .int) C dX3_takeFirstDigit_41 fX3_11 (by decide) (fun _ => rfl) rfl (by decide +kernel) (rfl) (rfl) (Nat.le_of_ble_eq_true rfl) rfl ?_
    refine V_iconst C dX3_takeFirstDigit_44 ?_
    exact V_zret C dX3_takeFirstDigit_45 rfl hZ (b2_01 _) (b2_t _ (by omega)) (by unfold scF3; rw [if_pos (by omega), if_neg (by omega)]; simp only [us_at, us_us])
  · skip
    refine V_iload_n C dX3_takeFirstDigit_0 rfl rfl ?_
    refine V_S1 (k2 := 0) (s2 := 0) C dX3_takeFirstDigit_1 lX3_57 kX3_isDigit (Ct_v (b2y (show 48 ≤ c ∧ c ≤ 57 by omega)) (c_X3_isDigit G K r c hc)) rfl rfl ⟨Nat.le_of_ble_eq_true rfl, Nat.le_of_ble_eq_true rfl⟩ (Nat.le_of_ble_eq_true rfl) (Nat.le_refl _) (Nat.le_refl _) ?_
    refine V_if_eq (tgt := 18) C dX3_takeFirstDigit_4 (by decide) (by omega) (fun q4 => by exfalso; omega) (fun q4 => ?_)
    refine V_iload_n C dX3_takeFirstDigit_7 rfl rfl ?_
    refine V_bipush C dX3_takeFirstDigit_8 (by decide +kernel) ?_
    refine V_isub C dX3_takeFirstDigit_10 ?_
    refine V_aload_n C dX3_takeFirstDigit_11 rfl rfl ?_
    refine V_getH (L := scL) C dX3_takeFirstDigit_12 fX3_48 (by decide) (fun _ => rfl) rfl ?_
    refine V_icmp_ge (tgt := 20) C dX3_takeFirstDigit_15 (by decide) (by omega) (by omega) (fun q15 => by exfalso; omega) (fun q15 => ?_)
    refine V_iconst C dX3_takeFirstDigit_18 ?_
    exact V_zret C dX3_takeFirstDigit_19 rfl hZ (b2_01 _) (b2_f _ (by omega)) (by unfold scF3; rw [if_neg (by omega), us_same])
  · skip
    refine V_iload_n C dX3_takeFirstDigit_0 rfl rfl ?_
    refine V_S1 (k2 := 0) (s2 := 0) C dX3_takeFirstDigit_1 lX3_57 kX3_isDigit (Ct_v (b2n (show ¬ (48 ≤ c ∧ c ≤ 57) by omega)) (c_X3_isDigit G K r c hc)) rfl rfl ⟨Nat.le_of_ble_eq_true rfl, Nat.le_of_ble_eq_true rfl⟩ (Nat.le_of_ble_eq_true rfl) (Nat.le_refl _) (Nat.le_refl _) ?_
    refine V_if_eq (tgt := 18) C dX3_takeFirstDigit_4 (by decide) (by omega) (fun q4 => ?_) (fun q4 => by exfalso; omega)
    refine V_iconst C dX3_takeFirstDigit_18 ?_
    exact V_zret C dX3_takeFirstDigit_19 rfl hZ (b2_01 _) (b2_f _ (by omega)) (by unfold scF3; rw [if_neg (by omega), us_same])
set_option maxRecDepth 100000 in
set_option maxHeartbeats 4000000 in
theorem c_X3_takeDigit (G : GT) (K : Nat → Nat → Int) (r : Nat → Option Nat) (c : Int) (hc : 0 ≤ c ∧ c ≤ 200) (h3 : 0 ≤ K 7 3 ∧ K 7 3 ≤ 6764) (h5 : 0 ≤ K 7 5 ∧ K 7 5 ≤ 6764) : CtO G yX3_takeDigit mX3_takeDigit [rf G 7, .int (iI c)] K r (some (.int (iI (b2 (scB4 (K 7) c))))) (us K 7 (scF4 (K 7) c)) (r) := by
  refine Ct_of kX3_takeDigit.1.1 (by decide) [some (rf G 7), some (.int (iI c))] rfl (Nat.le_of_ble_eq_true rfl) ?_
  intro x C hZ
  rcases (show (48 ≤ c ∧ c ≤ 57 ∧ K 7 3 * 10 + c - 48 ≤ K 7 5) ∨ (48 ≤ c ∧ c ≤ 57 ∧ ¬ K 7 3 * 10 + c - 48 ≤ K 7 5) ∨ (¬ (48 ≤ c ∧ c ≤ 57)) by omega) with u | u | u
  · skip
    refine V_iload_n C dX3_takeDigit_0 rfl rfl ?_
    refine V_S1 (k2 := 0) (s2 := 0) C dX3_takeDigit_1 lX3_57 kX3_isDigit (Ct_v (b2y (show 48 ≤ c ∧ c ≤ 57 by omega)) (c_X3_isDigit G K r c hc)) rfl rfl ⟨Nat.le_of_ble_eq_true rfl, Nat.le_of_ble_eq_true rfl⟩ (Nat.le_of_ble_eq_true rfl) (Nat.le_refl _) (Nat.le_refl _) ?_
    refine V_if_eq (tgt := 26) C dX3_takeDigit_4 (by decide) (by omega) (fun q4 => by exfalso; omega) (fun q4 => ?_)
    refine V_aload_n C dX3_takeDigit_7 rfl rfl ?_
    refine V_getH (L := scL) C dX3_takeDigit_8 fX3_54 (by decide) (fun _ => rfl) rfl ?_
    refine V_bipush C dX3_takeDigit_11 (by decide +kernel) ?_
    refine V_imul C dX3_takeDigit_13 ?_
    refine V_iload_n C dX3_takeDigit_14 rfl rfl ?_
    refine V_iadd C dX3_takeDigit_15 ?_
    refine V_bipush C dX3_takeDigit_16 (by decide +kernel) ?_
    refine V_isub C dX3_takeDigit_18 ?_
    refine V_aload_n C dX3_takeDigit_19 rfl rfl ?_
    refine V_getH (L := scL) C dX3_takeDigit_20 fX3_51 (by decide) (fun _ => rfl) rfl ?_
    refine V_icmp_le (tgt := 28) C dX3_takeDigit_23 (by decide) (by omega) (by omega) (fun q23 => ?_) (fun q23 => by exfalso; omega)
    refine V_aload_n C dX3_takeDigit_28 rfl rfl ?_
    refine V_aload_n C dX3_takeDigit_29 rfl rfl ?_
    refine V_getH (L := scL) C dX3_takeDigit_30 fX3_54 (by decide) (fun _ => rfl) rfl ?_
    refine V_bipush C dX3_takeDigit_33 (by decide +kernel) ?_
    refine V_imul C dX3_takeDigit_35 ?_
    refine V_iload_n C dX3_takeDigit_36 rfl rfl ?_
    refine V_iadd C dX3_takeDigit_37 ?_
    refine V_bipush C dX3_takeDigit_38 (by decide +kernel) ?_
    refine V_isub C dX3_takeDigit_40 ?_
    refine V_putH (L := scL) (ty := .int) C dX3_takeDigit_41 fX3_54 (by decide) (fun _ => rfl) rfl (by decide +kernel) (rfl) (rfl) (Nat.le_of_ble_eq_true rfl) rfl ?_
    refine V_iconst C dX3_takeDigit_44 ?_
    exact V_zret C dX3_takeDigit_45 rfl hZ (b2_01 _) (b2_t _ (by omega)) (by unfold scF4; rw [if_pos u])
  · skip
    refine V_iload_n C dX3_takeDigit_0 rfl rfl ?_
    refine V_S1 (k2 := 0) (s2 := 0) C dX3_takeDigit_1 lX3_57 kX3_isDigit (Ct_v (b2y (show 48 ≤ c ∧ c ≤ 57 by omega)) (c_X3_isDigit G K r c hc)) rfl rfl ⟨Nat.le_of_ble_eq_true rfl, Nat.le_of_ble_eq_true rfl⟩ (Nat.le_of_ble_eq_true rfl) (Nat.le_refl _) (Nat.le_refl _) ?_
    refine V_if_eq (tgt := 26) C dX3_takeDigit_4 (by decide) (by omega) (fun q4 => by exfalso; omega) (fun q4 => ?_)
    refine V_aload_n C dX3_takeDigit_7 rfl rfl ?_
    refine V_getH (L := scL) C dX3_takeDigit_8 fX3_54 (by decide) (fun _ => rfl) rfl ?_
    refine V_bipush C dX3_takeDigit_11 (by decide +kernel) ?_
    refine V_imul C dX3_takeDigit_13 ?_
    refine V_iload_n C dX3_takeDigit_14 rfl rfl ?_
    refine V_iadd C dX3_takeDigit_15 ?_
    refine V_bipush C dX3_takeDigit_16 (by decide +kernel) ?_
    refine V_isub C dX3_takeDigit_18 ?_
    refine V_aload_n C dX3_takeDigit_19 rfl rfl ?_
    refine V_getH (L := scL) C dX3_takeDigit_20 fX3_51 (by decide) (fun _ => rfl) rfl ?_
    refine V_icmp_le (tgt := 28) C dX3_takeDigit_23 (by decide) (by omega) (by omega) (fun q23 => by exfalso; omega) (fun q23 => ?_)
    refine V_iconst C dX3_takeDigit_26 ?_
    exact V_zret C dX3_takeDigit_27 rfl hZ (b2_01 _) (b2_f _ (by omega)) (by unfold scF4; rw [if_neg (by omega), us_same])
  · skip
    refine V_iload_n C dX3_takeDigit_0 rfl rfl ?_
    refine V_S1 (k2 := 0) (s2 := 0) C dX3_takeDigit_1 lX3_57 kX3_isDigit (Ct_v (b2n (show ¬ (48 ≤ c ∧ c ≤ 57) by omega)) (c_X3_isDigit G K r c hc)) rfl rfl ⟨Nat.le_of_ble_eq_true rfl, Nat.le_of_ble_eq_true rfl⟩ (Nat.le_of_ble_eq_true rfl) (Nat.le_refl _) (Nat.le_refl _) ?_
    refine V_if_eq (tgt := 26) C dX3_takeDigit_4 (by decide) (by omega) (fun q4 => ?_) (fun q4 => by exfalso; omega)
    refine V_iconst C dX3_takeDigit_26 ?_
    exact V_zret C dX3_takeDigit_27 rfl hZ (b2_01 _) (b2_f _ (by omega)) (by unfold scF4; rw [if_neg (by omega), us_same])
set_option maxRecDepth 100000 in
set_option maxHeartbeats 4000000 in
theorem c_X3_takeSeparator (G : GT) (K : Nat → Nat → Int) (r : Nat → Option Nat) (c : Int) (hc : 0 ≤ c ∧ c ≤ 200) : CtO G yX3_takeSeparator mX3_takeSeparator [rf G 7, .int (iI c)] K r (some (.int (iI (b2 (scB5 c))))) (us K 7 (scF5 (K 7) c)) (r) := by
  refine Ct_of kX3_takeSeparator.1.1 (by decide) [some (rf G 7), some (.int (iI c))] rfl (Nat.le_of_ble_eq_true rfl) ?_
  intro x C hZ
  rcases (show (c = 59) ∨ (c ≠ 59) by omega) with u | u
  · skip
    refine V_iload_n C dX3_takeSeparator_0 rfl rfl ?_
    refine V_bipush C dX3_takeSeparator_1 (by decide +kernel) ?_
    refine V_icmp_eq (tgt := 8) C dX3_takeSeparator_3 (by decide) (by omega) (by omega) (fun q3 => ?_) (fun q3 => by exfalso; omega)
    refine V_aload_n C dX3_takeSeparator_8 rfl rfl ?_
    refine V_iconst C dX3_takeSeparator_9 ?_
    refine V_putH (L := scL) (ty := .int) C dX3_takeSeparator_10 fX3_11 (by decide) (fun _ => rfl) rfl (by decide +kernel) (rfl) (rfl) (Nat.le_of_ble_eq_true rfl) rfl ?_
    refine V_iconst C dX3_takeSeparator_13 ?_
    exact V_zret C dX3_takeSeparator_14 rfl hZ (b2_01 _) (b2_t _ (by omega)) (by unfold scF5; rw [if_pos u])
  · skip
    refine V_iload_n C dX3_takeSeparator_0 rfl rfl ?_
    refine V_bipush C dX3_takeSeparator_1 (by decide +kernel) ?_
    refine V_icmp_eq (tgt := 8) C dX3_takeSeparator_3 (by decide) (by omega) (by omega) (fun q3 => by exfalso; omega) (fun q3 => ?_)
    refine V_iconst C dX3_takeSeparator_6 ?_
    exact V_zret C dX3_takeSeparator_7 rfl hZ (b2_01 _) (b2_f _ (by omega)) (by unfold scF5; rw [if_neg u, us_same])
set_option maxRecDepth 100000 in
set_option maxHeartbeats 4000000 in
theorem c_X3_take (G : GT) (K : Nat → Nat → Int) (r : Nat → Option Nat) (c : Int) (hc : 0 ≤ c ∧ c ≤ 200) (hI : scI (K 7)) : CtO G yX3_take mX3_take [rf G 7, .int (iI c)] K r (some (.int (iI (b2 (scB (K 7) c))))) (us K 7 (scF (K 7) c)) (r) := by
  refine Ct_of kX3_take.1.1 (by decide) [some (rf G 7), some (.int (iI c))] rfl (Nat.le_of_ble_eq_true rfl) ?_
  intro x C hZ
  obtain ⟨h1, h2, h3⟩ := hI
  rcases (show K 7 0 = 0 ∨ K 7 0 = 1 ∨ K 7 0 = 2 ∨ K 7 0 = 3 ∨ K 7 0 = 4 ∨ K 7 0 = 5 by omega) with e | e | e | e | e | e
  · have es : scB (K 7) c = scB0 c := by unfold scB; rw [if_pos e]
    have ef : scF (K 7) c = scF0 (K 7) c := by unfold scF; rw [if_pos e]
    rw [es, ef] at hZ
    refine V_aload_n C dX3_take_0 rfl rfl ?_
    refine V_getH (L := scL) C dX3_take_1 fX3_11 (by decide) (fun _ => rfl) rfl ?_
    refine V_tableIn (tgt := 40) C dX3_take_4 (by omega) (by omega) (by omega) (by rw [e]; rfl) (by decide) ?_
    refine V_aload_n C dX3_take_40 rfl rfl ?_
    refine V_iload_n C dX3_take_41 rfl rfl ?_
    refine V_V1 (k2 := 0) (s2 := 0) C dX3_take_42 lX3_15 kX3_takeBegin (c_X3_takeBegin G K r c hc) (by decide) (rfl) rfl rfl rfl ⟨Nat.le_of_ble_eq_true rfl, Nat.le_of_ble_eq_true rfl⟩ (Nat.le_of_ble_eq_true rfl) (Nat.le_refl _) (Nat.le_refl _) ?_
    exact V_zret C dX3_take_45 rfl hZ (b2_01 _) rfl rfl
  · have es : scB (K 7) c = scB1 c := by unfold scB; rw [if_neg (show ¬ K 7 0 = 0 by omega), if_pos e]
    have ef : scF (K 7) c = scF1 (K 7) c := by unfold scF; rw [if_neg (show ¬ K 7 0 = 0 by omega), if_pos e]
    rw [es, ef] at hZ
    refine V_aload_n C dX3_take_0 rfl rfl ?_
    refine V_getH (L := scL) C dX3_take_1 fX3_11 (by decide) (fun _ => rfl) rfl ?_
    refine V_tableIn (tgt := 46) C dX3_take_4 (by omega) (by omega) (by omega) (by rw [e]; rfl) (by decide) ?_
    refine V_aload_n C dX3_take_46 rfl rfl ?_
    refine V_iload_n C dX3_take_47 rfl rfl ?_
    refine V_V1 (k2 := 0) (s2 := 0) C dX3_take_48 lX3_19 kX3_takeOperation (c_X3_takeOperation G K r c hc) (by decide) (rfl) rfl rfl rfl ⟨Nat.le_of_ble_eq_true rfl, Nat.le_of_ble_eq_true rfl⟩ (Nat.le_of_ble_eq_true rfl) (Nat.le_refl _) (Nat.le_refl _) ?_
    exact V_zret C dX3_take_51 rfl hZ (b2_01 _) rfl rfl
  · have es : scB (K 7) c = scB2 c := by unfold scB; rw [if_neg (show ¬ K 7 0 = 0 by omega), if_neg (show ¬ K 7 0 = 1 by omega), if_pos e]
    have ef : scF (K 7) c = scF2 (K 7) c := by unfold scF; rw [if_neg (show ¬ K 7 0 = 0 by omega), if_neg (show ¬ K 7 0 = 1 by omega), if_pos e]
    rw [es, ef] at hZ
    refine V_aload_n C dX3_take_0 rfl rfl ?_
    refine V_getH (L := scL) C dX3_take_1 fX3_11 (by decide) (fun _ => rfl) rfl ?_
    refine V_tableIn (tgt := 52) C dX3_take_4 (by omega) (by omega) (by omega) (by rw [e]; rfl) (by decide) ?_
    refine V_aload_n C dX3_take_52 rfl rfl ?_
    refine V_iload_n C dX3_take_53 rfl rfl ?_
    refine V_V1 (k2 := 0) (s2 := 0) C dX3_take_54 lX3_22 kX3_takeOtherStall (c_X3_takeOtherStall G K r c hc) (by decide) (rfl) rfl rfl rfl ⟨Nat.le_of_ble_eq_true rfl, Nat.le_of_ble_eq_true rfl⟩ (Nat.le_of_ble_eq_true rfl) (Nat.le_refl _) (Nat.le_refl _) ?_
    exact V_zret C dX3_take_57 rfl hZ (b2_01 _) rfl rfl
  · have es : scB (K 7) c = scB3 (K 7) c := by unfold scB; rw [if_neg (show ¬ K 7 0 = 0 by omega), if_neg (show ¬ K 7 0 = 1 by omega), if_neg (show ¬ K 7 0 = 2 by omega), if_pos e]
    have ef : scF (K 7) c = scF3 (K 7) c := by unfold scF; rw [if_neg (show ¬ K 7 0 = 0 by omega), if_neg (show ¬ K 7 0 = 1 by omega), if_neg (show ¬ K 7 0 = 2 by omega), if_pos e]
    rw [es, ef] at hZ
    refine V_aload_n C dX3_take_0 rfl rfl ?_
    refine V_getH (L := scL) C dX3_take_1 fX3_11 (by decide) (fun _ => rfl) rfl ?_
    refine V_tableIn (tgt := 58) C dX3_take_4 (by omega) (by omega) (by omega) (by rw [e]; rfl) (by decide) ?_
    refine V_aload_n C dX3_take_58 rfl rfl ?_
    refine V_iload_n C dX3_take_59 rfl rfl ?_
    refine V_V1 (k2 := 0) (s2 := 0) C dX3_take_60 lX3_25 kX3_takeFirstDigit (c_X3_takeFirstDigit G K r c hc (h2 (.inl e)).1) (by decide) (rfl) rfl rfl rfl ⟨Nat.le_of_ble_eq_true rfl, Nat.le_of_ble_eq_true rfl⟩ (Nat.le_of_ble_eq_true rfl) (Nat.le_refl _) (Nat.le_refl _) ?_
    exact V_zret C dX3_take_63 rfl hZ (b2_01 _) rfl rfl
  · have es : scB (K 7) c = (scB4 (K 7) c || scB5 c) := by unfold scB; rw [if_neg (show ¬ K 7 0 = 0 by omega), if_neg (show ¬ K 7 0 = 1 by omega), if_neg (show ¬ K 7 0 = 2 by omega), if_neg (show ¬ K 7 0 = 3 by omega), if_pos e]
    have ef : scF (K 7) c = if scB4 (K 7) c = true then scF4 (K 7) c else scF5 (K 7) c := by unfold scF; rw [if_neg (show ¬ K 7 0 = 0 by omega), if_neg (show ¬ K 7 0 = 1 by omega), if_neg (show ¬ K 7 0 = 2 by omega), if_neg (show ¬ K 7 0 = 3 by omega), if_pos e]
    rw [es, ef] at hZ
    have hd := c_X3_takeDigit G K r c hc (h3 e) (h2 (.inr e)).2
    by_cases c4 : scB4 (K 7) c = true
    · rw [c4, if_pos rfl, Bool.true_or] at hZ
      rw [c4] at hd
      refine V_aload_n C dX3_take_0 rfl rfl ?_
      refine V_getH (L := scL) C dX3_take_1 fX3_11 (by decide) (fun _ => rfl) rfl ?_
      refine V_tableIn (tgt := 64) C dX3_take_4 (by omega) (by omega) (by omega) (by rw [e]; rfl) (by decide) ?_
      refine V_aload_n C dX3_take_64 rfl rfl ?_
      refine V_iload_n C dX3_take_65 rfl rfl ?_
      refine V_V1 (k2 := 0) (s2 := 0) C dX3_take_66 lX3_28 kX3_takeDigit (hd) (by decide) (rfl) rfl rfl rfl ⟨Nat.le_of_ble_eq_true rfl, Nat.le_of_ble_eq_true rfl⟩ (Nat.le_of_ble_eq_true rfl) (Nat.le_refl _) (Nat.le_refl _) ?_
      refine V_if_ne (tgt := 80) C dX3_take_69 (by decide) (by first | omega | (simp [b2]; done)) (fun q69 => ?_) (fun q69 => by exfalso; exact absurd q69 (by decide))
      refine V_iconst C dX3_take_80 ?_
      refine V_goto (tgt := 85) C dX3_take_81 (by decide) ?_
      exact V_zret C dX3_take_85 rfl hZ (b2_01 _) rfl rfl
    · have c4' : scB4 (K 7) c = false := by simpa using c4
      have f4 : scF4 (K 7) c = K 7 := by
        unfold scF4
        rw [if_neg (fun w => c4 (decide_eq_true w))]
      rw [c4', if_neg (by decide), Bool.false_or] at hZ
      rw [c4', f4, us_same] at hd
      by_cases c5 : c = 59
      · have s5 : scB5 c = true := decide_eq_true c5
        rw [s5] at hZ
        have hs := c_X3_takeSeparator G K r c hc
        rw [s5] at hs
        refine V_aload_n C dX3_take_0 rfl rfl ?_
        refine V_getH (L := scL) C dX3_take_1 fX3_11 (by decide) (fun _ => rfl) rfl ?_
        refine V_tableIn (tgt := 64) C dX3_take_4 (by omega) (by omega) (by omega) (by rw [e]; rfl) (by decide) ?_
        refine V_aload_n C dX3_take_64 rfl rfl ?_
        refine V_iload_n C dX3_take_65 rfl rfl ?_
        refine V_V1 (k2 := 0) (s2 := 0) C dX3_take_66 lX3_28 kX3_takeDigit (hd) (by decide) (rfl) rfl rfl rfl ⟨Nat.le_of_ble_eq_true rfl, Nat.le_of_ble_eq_true rfl⟩ (Nat.le_of_ble_eq_true rfl) (Nat.le_refl _) (Nat.le_refl _) ?_
        refine V_if_ne (tgt := 80) C dX3_take_69 (by decide) (by first | omega | (simp [b2]; done)) (fun q69 => by exfalso; exact absurd rfl q69) (fun q69 => ?_)
        refine V_aload_n C dX3_take_72 rfl rfl ?_
        refine V_iload_n C dX3_take_73 rfl rfl ?_
        refine V_V1 (k2 := 0) (s2 := 0) C dX3_take_74 lX3_31 kX3_takeSeparator (hs) (by decide) (rfl) rfl rfl rfl ⟨Nat.le_of_ble_eq_true rfl, Nat.le_of_ble_eq_true rfl⟩ (Nat.le_of_ble_eq_true rfl) (Nat.le_refl _) (Nat.le_refl _) ?_
        refine V_if_eq (tgt := 84) C dX3_take_77 (by decide) (by first | omega | (simp [b2]; done)) (fun q77 => by exfalso; exact absurd q77 (by decide)) (fun q77 => ?_)
        refine V_iconst C dX3_take_80 ?_
        refine V_goto (tgt := 85) C dX3_take_81 (by decide) ?_
        exact V_zret C dX3_take_85 rfl hZ (b2_01 _) rfl rfl
      · have s5 : scB5 c = false := decide_eq_false c5
        rw [s5] at hZ
        have hs := c_X3_takeSeparator G K r c hc
        rw [s5] at hs
        refine V_aload_n C dX3_take_0 rfl rfl ?_
        refine V_getH (L := scL) C dX3_take_1 fX3_11 (by decide) (fun _ => rfl) rfl ?_
        refine V_tableIn (tgt := 64) C dX3_take_4 (by omega) (by omega) (by omega) (by rw [e]; rfl) (by decide) ?_
        refine V_aload_n C dX3_take_64 rfl rfl ?_
        refine V_iload_n C dX3_take_65 rfl rfl ?_
        refine V_V1 (k2 := 0) (s2 := 0) C dX3_take_66 lX3_28 kX3_takeDigit (hd) (by decide) (rfl) rfl rfl rfl ⟨Nat.le_of_ble_eq_true rfl, Nat.le_of_ble_eq_true rfl⟩ (Nat.le_of_ble_eq_true rfl) (Nat.le_refl _) (Nat.le_refl _) ?_
        refine V_if_ne (tgt := 80) C dX3_take_69 (by decide) (by first | omega | (simp [b2]; done)) (fun q69 => by exfalso; exact absurd rfl q69) (fun q69 => ?_)
        refine V_aload_n C dX3_take_72 rfl rfl ?_
        refine V_iload_n C dX3_take_73 rfl rfl ?_
        refine V_V1 (k2 := 0) (s2 := 0) C dX3_take_74 lX3_31 kX3_takeSeparator (hs) (by decide) (rfl) rfl rfl rfl ⟨Nat.le_of_ble_eq_true rfl, Nat.le_of_ble_eq_true rfl⟩ (Nat.le_of_ble_eq_true rfl) (Nat.le_refl _) (Nat.le_refl _) ?_
        refine V_if_eq (tgt := 84) C dX3_take_77 (by decide) (by first | omega | (simp [b2]; done)) (fun q77 => ?_) (fun q77 => by exfalso; exact absurd rfl q77)
        refine V_iconst C dX3_take_84 ?_
        exact V_zret C dX3_take_85 rfl hZ (b2_01 _) rfl rfl
  · have es : scB (K 7) c = scB5 c := by unfold scB; rw [if_neg (show ¬ K 7 0 = 0 by omega), if_neg (show ¬ K 7 0 = 1 by omega), if_neg (show ¬ K 7 0 = 2 by omega), if_neg (show ¬ K 7 0 = 3 by omega), if_neg (show ¬ K 7 0 = 4 by omega)]
    have ef : scF (K 7) c = scF5 (K 7) c := by unfold scF; rw [if_neg (show ¬ K 7 0 = 0 by omega), if_neg (show ¬ K 7 0 = 1 by omega), if_neg (show ¬ K 7 0 = 2 by omega), if_neg (show ¬ K 7 0 = 3 by omega), if_neg (show ¬ K 7 0 = 4 by omega)]
    rw [es, ef] at hZ
    refine V_aload_n C dX3_take_0 rfl rfl ?_
    refine V_getH (L := scL) C dX3_take_1 fX3_11 (by decide) (fun _ => rfl) rfl ?_
    refine V_tableOut (tgt := 86) C dX3_take_4 (by omega) (by omega) (by decide) ?_
    refine V_aload_n C dX3_take_86 rfl rfl ?_
    refine V_iload_n C dX3_take_87 rfl rfl ?_
    refine V_V1 (k2 := 0) (s2 := 0) C dX3_take_88 lX3_31 kX3_takeSeparator (c_X3_takeSeparator G K r c hc) (by decide) (rfl) rfl rfl rfl ⟨Nat.le_of_ble_eq_true rfl, Nat.le_of_ble_eq_true rfl⟩ (Nat.le_of_ble_eq_true rfl) (Nat.le_refl _) (Nat.le_refl _) ?_
    exact V_zret C dX3_take_91 rfl hZ (b2_01 _) rfl rfl
