set_option maxRecDepth 100000 in
set_option maxHeartbeats 4000000 in
theorem c_X5_checkStall (G : GT) (K : Nat → Nat → Int) (r : Nat → Option Nat) (p : Int) (hp : -2147483648 ≤ p ∧ p < 2147483648) (hc : 0 ≤ p ∧ p ≤ 5) : CtO G yX5_checkStall mX5_checkStall [.int (iI p)] K r (none) (K) (r) := by
  refine Ct_of kX5_checkStall.1 (by decide) [some (.int (iI p))] rfl (Nat.le_of_ble_eq_true rfl) ?_
  intro x C hZ
  refine V_iload_n C dX5_checkStall_0 rfl rfl ?_
  refine V_if_lt (tgt := 10) C dX5_checkStall_1 (by decide) (by omega) (fun q1 => by exfalso; omega) (fun q1 => ?_)
  refine V_iload_n C dX5_checkStall_4 rfl rfl ?_
  refine V_bipush C dX5_checkStall_5 (by decide +kernel) ?_
  refine V_icmp_lt (tgt := 21) C dX5_checkStall_7 (by decide) (by omega) (by omega) (fun q7 => ?_) (fun q7 => by exfalso; omega)
  exact V_vret C dX5_checkStall_21 rfl hZ rfl
set_option maxRecDepth 100000 in
set_option maxHeartbeats 4000000 in
theorem x_X5_checkStall (G : GT) (K : Nat → Nat → Int) (r : Nat → Option Nat) (p : Int) (hp : -2147483648 ≤ p ∧ p < 2147483648) (hc : ¬ (0 ≤ p ∧ p ≤ 5)) : CtX G yX5_checkStall mX5_checkStall [.int (iI p)] 28 false (HP G K r) 1 6 "java/lang/IndexOutOfBoundsException" (HP G (K) (r)) := by
  refine CtX_of kX5_checkStall.1 (by decide) [some (.int (iI p))] rfl (Nat.le_of_ble_eq_true rfl) ?_
  intro x C hZ
  by_cases c : p < 0
  · skip
    refine V_iload_n C dX5_checkStall_0 rfl rfl ?_
    refine V_if_lt (tgt := 10) C dX5_checkStall_1 (by decide) (by omega) (fun q1 => ?_) (fun q1 => by exfalso; omega)
    exact V_throwW 16 C TH_IOOBE rfl rfl dX5_checkStall_10 dX5_checkStall_13 dX5_checkStall_14 dX5_checkStall_17 dX5_checkStall_20 (Nat.le_of_ble_eq_true rfl) (Nat.le_of_ble_eq_true rfl) hZ rfl (by omega) (by omega)
  · skip
    refine V_iload_n C dX5_checkStall_0 rfl rfl ?_
    refine V_if_lt (tgt := 10) C dX5_checkStall_1 (by decide) (by omega) (fun q1 => by exfalso; omega) (fun q1 => ?_)
    refine V_iload_n C dX5_checkStall_4 rfl rfl ?_
    refine V_bipush C dX5_checkStall_5 (by decide +kernel) ?_
    refine V_icmp_lt (tgt := 21) C dX5_checkStall_7 (by decide) (by omega) (by omega) (fun q7 => by exfalso; omega) (fun q7 => ?_)
    exact V_throwW 16 C TH_IOOBE rfl rfl dX5_checkStall_10 dX5_checkStall_13 dX5_checkStall_14 dX5_checkStall_17 dX5_checkStall_20 (Nat.le_of_ble_eq_true rfl) (Nat.le_of_ble_eq_true rfl) hZ rfl (by omega) (by omega)
set_option maxRecDepth 100000 in
set_option maxHeartbeats 4000000 in
theorem c_X5_checkTribe (G : GT) (K : Nat → Nat → Int) (r : Nat → Option Nat) (p : Int) (hp : -2147483648 ≤ p ∧ p < 2147483648) (hc : 0 ≤ p ∧ p ≤ 2) : CtO G yX5_checkTribe mX5_checkTribe [.int (iI p)] K r (none) (K) (r) := by
  refine Ct_of kX5_checkTribe.1 (by decide) [some (.int (iI p))] rfl (Nat.le_of_ble_eq_true rfl) ?_
  intro x C hZ
  refine V_iload_n C dX5_checkTribe_0 rfl rfl ?_
  refine V_if_lt (tgt := 9) C dX5_checkTribe_1 (by decide) (by omega) (fun q1 => by exfalso; omega) (fun q1 => ?_)
  refine V_iload_n C dX5_checkTribe_4 rfl rfl ?_
  refine V_iconst C dX5_checkTribe_5 ?_
  refine V_icmp_lt (tgt := 20) C dX5_checkTribe_6 (by decide) (by omega) (by omega) (fun q6 => ?_) (fun q6 => by exfalso; omega)
  exact V_vret C dX5_checkTribe_20 rfl hZ rfl
set_option maxRecDepth 100000 in
set_option maxHeartbeats 4000000 in
theorem x_X5_checkTribe (G : GT) (K : Nat → Nat → Int) (r : Nat → Option Nat) (p : Int) (hp : -2147483648 ≤ p ∧ p < 2147483648) (hc : ¬ (0 ≤ p ∧ p ≤ 2)) : CtX G yX5_checkTribe mX5_checkTribe [.int (iI p)] 28 false (HP G K r) 1 6 "java/lang/IndexOutOfBoundsException" (HP G (K) (r)) := by
  refine CtX_of kX5_checkTribe.1 (by decide) [some (.int (iI p))] rfl (Nat.le_of_ble_eq_true rfl) ?_
  intro x C hZ
  by_cases c : p < 0
  · skip
    refine V_iload_n C dX5_checkTribe_0 rfl rfl ?_
    refine V_if_lt (tgt := 9) C dX5_checkTribe_1 (by decide) (by omega) (fun q1 => ?_) (fun q1 => by exfalso; omega)
    exact V_throwW 17 C TH_IOOBE rfl rfl dX5_checkTribe_9 dX5_checkTribe_12 dX5_checkTribe_13 dX5_checkTribe_16 dX5_checkTribe_19 (Nat.le_of_ble_eq_true rfl) (Nat.le_of_ble_eq_true rfl) hZ rfl (by omega) (by omega)
  · skip
    refine V_iload_n C dX5_checkTribe_0 rfl rfl ?_
    refine V_if_lt (tgt := 9) C dX5_checkTribe_1 (by decide) (by omega) (fun q1 => by exfalso; omega) (fun q1 => ?_)
    refine V_iload_n C dX5_checkTribe_4 rfl rfl ?_
    refine V_iconst C dX5_checkTribe_5 ?_
    refine V_icmp_lt (tgt := 20) C dX5_checkTribe_6 (by decide) (by omega) (by omega) (fun q6 => by exfalso; omega) (fun q6 => ?_)
    exact V_throwW 17 C TH_IOOBE rfl rfl dX5_checkTribe_9 dX5_checkTribe_12 dX5_checkTribe_13 dX5_checkTribe_16 dX5_checkTribe_19 (Nat.le_of_ble_eq_true rfl) (Nat.le_of_ble_eq_true rfl) hZ rfl (by omega) (by omega)
set_option maxRecDepth 100000 in
set_option maxHeartbeats 4000000 in
theorem c_X5_checkNumber (G : GT) (K : Nat → Nat → Int) (r : Nat → Option Nat) (p : Int) (hp : -2147483648 ≤ p ∧ p < 2147483648) (hc : 0 ≤ p ∧ p ≤ 6764) : CtO G yX5_checkNumber mX5_checkNumber [.int (iI p)] K r (none) (K) (r) := by
  refine Ct_of kX5_checkNumber.1 (by decide) [some (.int (iI p))] rfl (Nat.le_of_ble_eq_true rfl) ?_
  intro x C hZ
  refine V_iload_n C dX5_checkNumber_0 rfl rfl ?_
  refine V_if_lt (tgt := 11) C dX5_checkNumber_1 (by decide) (by omega) (fun q1 => by exfalso; omega) (fun q1 => ?_)
  refine V_iload_n C dX5_checkNumber_4 rfl rfl ?_
  refine V_sipush C dX5_checkNumber_5 (by decide +kernel) ?_
  refine V_icmp_le (tgt := 22) C dX5_checkNumber_8 (by decide) (by omega) (by omega) (fun q8 => ?_) (fun q8 => by exfalso; omega)
  exact V_vret C dX5_checkNumber_22 rfl hZ rfl
set_option maxRecDepth 100000 in
set_option maxHeartbeats 4000000 in
theorem x_X5_checkNumber (G : GT) (K : Nat → Nat → Int) (r : Nat → Option Nat) (p : Int) (hp : -2147483648 ≤ p ∧ p < 2147483648) (hc : ¬ (0 ≤ p ∧ p ≤ 6764)) : CtX G yX5_checkNumber mX5_checkNumber [.int (iI p)] 28 false (HP G K r) 1 6 "java/lang/IllegalArgumentException" (HP G (K) (r)) := by
  refine CtX_of kX5_checkNumber.1 (by decide) [some (.int (iI p))] rfl (Nat.le_of_ble_eq_true rfl) ?_
  intro x C hZ
  by_cases c : p < 0
  · skip
    refine V_iload_n C dX5_checkNumber_0 rfl rfl ?_
    refine V_if_lt (tgt := 11) C dX5_checkNumber_1 (by decide) (by omega) (fun q1 => ?_) (fun q1 => by exfalso; omega)
    exact V_throwW 18 C TH_IAE rfl rfl dX5_checkNumber_11 dX5_checkNumber_14 dX5_checkNumber_15 dX5_checkNumber_18 dX5_checkNumber_21 (Nat.le_of_ble_eq_true rfl) (Nat.le_of_ble_eq_true rfl) hZ rfl (by omega) (by omega)
  · skip
    refine V_iload_n C dX5_checkNumber_0 rfl rfl ?_
    refine V_if_lt (tgt := 11) C dX5_checkNumber_1 (by decide) (by omega) (fun q1 => by exfalso; omega) (fun q1 => ?_)
    refine V_iload_n C dX5_checkNumber_4 rfl rfl ?_
    refine V_sipush C dX5_checkNumber_5 (by decide +kernel) ?_
    refine V_icmp_le (tgt := 22) C dX5_checkNumber_8 (by decide) (by omega) (by omega) (fun q8 => by exfalso; omega) (fun q8 => ?_)
    exact V_throwW 18 C TH_IAE rfl rfl dX5_checkNumber_11 dX5_checkNumber_14 dX5_checkNumber_15 dX5_checkNumber_18 dX5_checkNumber_21 (Nat.le_of_ble_eq_true rfl) (Nat.le_of_ble_eq_true rfl) hZ rfl (by omega) (by omega)
set_option maxRecDepth 100000 in
set_option maxHeartbeats 4000000 in
theorem c_X5_checkNumberFromOne (G : GT) (K : Nat → Nat → Int) (r : Nat → Option Nat) (p : Int) (hp : -2147483648 ≤ p ∧ p < 2147483648) (hc : 1 ≤ p ∧ p ≤ 6764) : CtO G yX5_checkNumberFromOne mX5_checkNumberFromOne [.int (iI p)] K r (none) (K) (r) := by
  refine Ct_of kX5_checkNumberFromOne.1 (by decide) [some (.int (iI p))] rfl (Nat.le_of_ble_eq_true rfl) ?_
  intro x C hZ
  refine V_iload_n C dX5_checkNumberFromOne_0 rfl rfl ?_
  refine V_iconst C dX5_checkNumberFromOne_1 ?_
  refine V_icmp_lt (tgt := 12) C dX5_checkNumberFromOne_2 (by decide) (by omega) (by omega) (fun q2 => by exfalso; omega) (fun q2 => ?_)
  refine V_iload_n C dX5_checkNumberFromOne_5 rfl rfl ?_
  refine V_sipush C dX5_checkNumberFromOne_6 (by decide +kernel) ?_
  refine V_icmp_le (tgt := 23) C dX5_checkNumberFromOne_9 (by decide) (by omega) (by omega) (fun q9 => ?_) (fun q9 => by exfalso; omega)
  exact V_vret C dX5_checkNumberFromOne_23 rfl hZ rfl
set_option maxRecDepth 100000 in
set_option maxHeartbeats 4000000 in
theorem x_X5_checkNumberFromOne (G : GT) (K : Nat → Nat → Int) (r : Nat → Option Nat) (p : Int) (hp : -2147483648 ≤ p ∧ p < 2147483648) (hc : ¬ (1 ≤ p ∧ p ≤ 6764)) : CtX G yX5_checkNumberFromOne mX5_checkNumberFromOne [.int (iI p)] 28 false (HP G K r) 1 6 "java/lang/IllegalArgumentException" (HP G (K) (r)) := by
  refine CtX_of kX5_checkNumberFromOne.1 (by decide) [some (.int (iI p))] rfl (Nat.le_of_ble_eq_true rfl) ?_
  intro x C hZ
  by_cases c : p < 1
  · skip
    refine V_iload_n C dX5_checkNumberFromOne_0 rfl rfl ?_
    refine V_iconst C dX5_checkNumberFromOne_1 ?_
    refine V_icmp_lt (tgt := 12) C dX5_checkNumberFromOne_2 (by decide) (by omega) (by omega) (fun q2 => ?_) (fun q2 => by exfalso; omega)
    exact V_throwW 19 C TH_IAE rfl rfl dX5_checkNumberFromOne_12 dX5_checkNumberFromOne_15 dX5_checkNumberFromOne_16 dX5_checkNumberFromOne_19 dX5_checkNumberFromOne_22 (Nat.le_of_ble_eq_true rfl) (Nat.le_of_ble_eq_true rfl) hZ rfl (by omega) (by omega)
  · skip
    refine V_iload_n C dX5_checkNumberFromOne_0 rfl rfl ?_
    refine V_iconst C dX5_checkNumberFromOne_1 ?_
    refine V_icmp_lt (tgt := 12) C dX5_checkNumberFromOne_2 (by decide) (by omega) (by omega) (fun q2 => by exfalso; omega) (fun q2 => ?_)
    refine V_iload_n C dX5_checkNumberFromOne_5 rfl rfl ?_
    refine V_sipush C dX5_checkNumberFromOne_6 (by decide +kernel) ?_
    refine V_icmp_le (tgt := 23) C dX5_checkNumberFromOne_9 (by decide) (by omega) (by omega) (fun q9 => by exfalso; omega) (fun q9 => ?_)
    exact V_throwW 19 C TH_IAE rfl rfl dX5_checkNumberFromOne_12 dX5_checkNumberFromOne_15 dX5_checkNumberFromOne_16 dX5_checkNumberFromOne_19 dX5_checkNumberFromOne_22 (Nat.le_of_ble_eq_true rfl) (Nat.le_of_ble_eq_true rfl) hZ rfl (by omega) (by omega)
set_option maxRecDepth 100000 in
set_option maxHeartbeats 4000000 in
theorem c_X5_checkDigit (G : GT) (K : Nat → Nat → Int) (r : Nat → Option Nat) (hL : 0 ≤ K 1 2 ∧ K 1 2 ≤ 64) (p : Int) (hp : -2147483648 ≤ p ∧ p < 2147483648) (hc : 0 ≤ p ∧ p ≤ K 1 2 - 1) : CtO G yX5_checkDigit mX5_checkDigit [rf G 0, .int (iI p)] K r (none) (K) (r) := by
  refine Ct_of kX5_checkDigit.1.1 (by decide) [some (rf G 0), some (.int (iI p))] rfl (Nat.le_of_ble_eq_true rfl) ?_
  intro x C hZ
  refine V_iload_n C dX5_checkDigit_0 rfl rfl ?_
  refine V_if_lt (tgt := 15) C dX5_checkDigit_1 (by decide) (by omega) (fun q1 => by exfalso; omega) (fun q1 => ?_)
  refine V_iload_n C dX5_checkDigit_4 rfl rfl ?_
  refine V_aload_n C dX5_checkDigit_5 rfl rfl ?_
  refine V_getH (L := clL G) C dX5_checkDigit_6 fX5_10 (by decide) (fun _ => rfl) rfl ?_
  refine V_getH (L := stL G 1) C dX5_checkDigit_9 fX5_119 (by decide) (fun _ => rfl) rfl ?_
  refine V_icmp_lt (tgt := 26) C dX5_checkDigit_12 (by decide) (by omega) (by omega) (fun q12 => ?_) (fun q12 => by exfalso; omega)
  exact V_vret C dX5_checkDigit_26 rfl hZ rfl
set_option maxRecDepth 100000 in
set_option maxHeartbeats 4000000 in
theorem x_X5_checkDigit (G : GT) (K : Nat → Nat → Int) (r : Nat → Option Nat) (hL : 0 ≤ K 1 2 ∧ K 1 2 ≤ 64) (p : Int) (hp : -2147483648 ≤ p ∧ p < 2147483648) (hc : ¬ (0 ≤ p ∧ p ≤ K 1 2 - 1)) : CtX G yX5_checkDigit mX5_checkDigit [rf G 0, .int (iI p)] 28 false (HP G K r) 1 6 "java/lang/IndexOutOfBoundsException" (HP G (K) (r)) := by
  refine CtX_of kX5_checkDigit.1.1 (by decide) [some (rf G 0), some (.int (iI p))] rfl (Nat.le_of_ble_eq_true rfl) ?_
  intro x C hZ
  by_cases c : p < 0
  · skip
    refine V_iload_n C dX5_checkDigit_0 rfl rfl ?_
    refine V_if_lt (tgt := 15) C dX5_checkDigit_1 (by decide) (by omega) (fun q1 => ?_) (fun q1 => by exfalso; omega)
    exact V_throwW 20 C TH_IOOBE rfl rfl dX5_checkDigit_15 dX5_checkDigit_18 dX5_checkDigit_19 dX5_checkDigit_22 dX5_checkDigit_25 (Nat.le_of_ble_eq_true rfl) (Nat.le_of_ble_eq_true rfl) hZ rfl (by omega) (by omega)
  · skip
    refine V_iload_n C dX5_checkDigit_0 rfl rfl ?_
    refine V_if_lt (tgt := 15) C dX5_checkDigit_1 (by decide) (by omega) (fun q1 => by exfalso; omega) (fun q1 => ?_)
    refine V_iload_n C dX5_checkDigit_4 rfl rfl ?_
    refine V_aload_n C dX5_checkDigit_5 rfl rfl ?_
    refine V_getH (L := clL G) C dX5_checkDigit_6 fX5_10 (by decide) (fun _ => rfl) rfl ?_
    refine V_getH (L := stL G 1) C dX5_checkDigit_9 fX5_119 (by decide) (fun _ => rfl) rfl ?_
    refine V_icmp_lt (tgt := 26) C dX5_checkDigit_12 (by decide) (by omega) (by omega) (fun q12 => by exfalso; omega) (fun q12 => ?_)
    exact V_throwW 20 C TH_IOOBE rfl rfl dX5_checkDigit_15 dX5_checkDigit_18 dX5_checkDigit_19 dX5_checkDigit_22 dX5_checkDigit_25 (Nat.le_of_ble_eq_true rfl) (Nat.le_of_ble_eq_true rfl) hZ rfl (by omega) (by omega)
set_option maxRecDepth 100000 in
set_option maxHeartbeats 4000000 in
theorem c_X5_checkStopped (G : GT) (K : Nat → Nat → Int) (r : Nat → Option Nat) (hp : -1 ≤ K 1 3 ∧ K 1 3 ≤ 100) (hc : K 1 3 ≠ -1) : CtO G yX5_checkStopped mX5_checkStopped [rf G 0] K r (none) (K) (r) := by
  refine Ct_of kX5_checkStopped.1.1 (by decide) [some (rf G 0)] rfl (Nat.le_of_ble_eq_true rfl) ?_
  intro x C hZ
  refine V_aload_n C dX5_checkStopped_0 rfl rfl ?_
  refine V_getH (L := clL G) C dX5_checkStopped_1 fX5_10 (by decide) (fun _ => rfl) rfl ?_
  refine V_getH (L := stL G 1) C dX5_checkStopped_4 fX5_164 (by decide) (fun _ => rfl) rfl ?_
  refine V_iconst C dX5_checkStopped_7 ?_
  refine V_icmp_ne (tgt := 22) C dX5_checkStopped_8 (by decide) (by omega) (by omega) (fun q8 => ?_) (fun q8 => by exfalso; omega)
  exact V_vret C dX5_checkStopped_22 rfl hZ rfl
set_option maxRecDepth 100000 in
set_option maxHeartbeats 4000000 in
theorem x_X5_checkStopped (G : GT) (K : Nat → Nat → Int) (r : Nat → Option Nat) (hp : -1 ≤ K 1 3 ∧ K 1 3 ≤ 100) (hc : K 1 3 = -1) : CtX G yX5_checkStopped mX5_checkStopped [rf G 0] 28 false (HP G K r) 1 6 "java/lang/IllegalStateException" (HP G (K) (r)) := by
  refine CtX_of kX5_checkStopped.1.1 (by decide) [some (rf G 0)] rfl (Nat.le_of_ble_eq_true rfl) ?_
  intro x C hZ
  refine V_aload_n C dX5_checkStopped_0 rfl rfl ?_
  refine V_getH (L := clL G) C dX5_checkStopped_1 fX5_10 (by decide) (fun _ => rfl) rfl ?_
  refine V_getH (L := stL G 1) C dX5_checkStopped_4 fX5_164 (by decide) (fun _ => rfl) rfl ?_
  refine V_iconst C dX5_checkStopped_7 ?_
  refine V_icmp_ne (tgt := 22) C dX5_checkStopped_8 (by decide) (by omega) (by omega) (fun q8 => by exfalso; omega) (fun q8 => ?_)
  exact V_throwW 21 C TH_ISE rfl rfl dX5_checkStopped_11 dX5_checkStopped_14 dX5_checkStopped_15 dX5_checkStopped_18 dX5_checkStopped_21 (Nat.le_of_ble_eq_true rfl) (Nat.le_of_ble_eq_true rfl) hZ rfl (by omega) (by omega)
set_option maxRecDepth 100000 in
set_option maxHeartbeats 4000000 in
theorem c_X5_copyState (G : GT) (K : Nat → Nat → Int) (r : Nat → Option Nat) (a b : Nat) (ha : isS a = true) (hb : isS b = true) (hab : a ≠ b) : CtO G yX5_copyState mX5_copyState [rf G b, rf G a] K r none (cpK K a b) r := by
  refine Ct_of kX5_copyState.1 (by decide) [some (rf G b), some (rf G a)] rfl (Nat.le_of_ble_eq_true rfl) ?_
  intro x C hZ
  refine V_aload_n C dX5_copyState_0 rfl rfl ?_
  refine V_ifnull C dX5_copyState_1 ?_
  refine V_aload_n C dX5_copyState_4 rfl rfl ?_
  refine V_ifnull C dX5_copyState_5 ?_
  refine V_aload_n C dX5_copyState_8 rfl rfl ?_
  refine V_aload_n C dX5_copyState_9 rfl rfl ?_
  refine V_V0 (k2 := 0) (s2 := 0) C dX5_copyState_10 lX5_310 kX2_copyOf (c_X2_copyOf G K r a ha b hb hab) (isS_lt ha) ((fun _ => cO_st ha _) _) rfl rfl rfl ⟨Nat.le_of_ble_eq_true rfl, Nat.le_of_ble_eq_true rfl⟩ (Nat.le_of_ble_eq_true rfl) (Nat.le_refl _) (Nat.le_refl _) ?_
  exact V_vret C dX5_copyState_13 rfl hZ rfl
set_option maxRecDepth 100000 in
set_option maxHeartbeats 4000000 in
theorem c_X5_dropOldest (G : GT) (K : Nat → Nat → Int) (r : Nat → Option Nat) (hr : PR r) : CtO G yX5_dropOldest mX5_dropOldest [rf G 0] K r (none) (us K 0 (us (K 0) 4 4)) (rotR r) := by
  refine Ct_of kX5_dropOldest.1.1 (by decide) [some (rf G 0), none, none] rfl (Nat.le_of_ble_eq_true rfl) ?_
  intro x C hZ
  obtain ⟨a0, p01, p02, p03⟩ := hr.1 0 (by decide)
  have loop : ∀ (n k : Nat) (o2 : Option Value), k + n = 4 → V G mX5_dropOldest x 2 [some (rf G 0), some (.int (iI ((k + 1 : Nat) : Int))), o2] [] 28 false (HP G K (fun i => if i < k then r (i + 1) else if i = k then r 0 else r i)) 0 0 := by
    intro n
    induction n with
    | zero =>
      intro k o2 e
      obtain rfl : k = 4 := by omega
      refine V_iload_n C dX5_dropOldest_2 rfl rfl ?_
      refine V_aload_n C dX5_dropOldest_3 rfl rfl ?_
      refine V_getH (L := clL G) C dX5_dropOldest_4 fX5_19 (by decide) (fun _ => rfl) rfl ?_
      refine V_alenHr C dX5_dropOldest_7 ?_
      refine V_icmp_ge (tgt := 47) C dX5_dropOldest_8 (by decide) (by omega) (by omega) (fun q8 => ?_) (fun q8 => by exfalso; omega)
      refine V_aload_n C dX5_dropOldest_47 rfl rfl ?_
      refine V_aload_n C dX5_dropOldest_48 rfl rfl ?_
      refine V_getH (L := clL G) C dX5_dropOldest_49 fX5_19 (by decide) (fun _ => rfl) rfl ?_
      refine V_alenHr C dX5_dropOldest_52 ?_
      refine V_iconst C dX5_dropOldest_53 ?_
      refine V_isub C dX5_dropOldest_54 ?_
      refine V_putH (L := clL G) (ty := .int) C dX5_dropOldest_55 fX5_173 (by decide) (fun _ => rfl) rfl (by decide +kernel) (rfl) (rfl) (Nat.le_of_ble_eq_true rfl) rfl ?_
      exact V_vret C dX5_dropOldest_58 rfl hZ (by congr 1)
    | succ n ih =>
      intro k o2 e
      obtain ⟨j, p1, p2, p3⟩ := hr.1 (k + 1) (by omega)
      have ek : (((k + 1 : Nat) : Int)).toNat = k + 1 := by omega
      have ek1 : (((k + 1 : Nat) : Int) - 1).toNat = k := by omega
      refine V_iload_n C dX5_dropOldest_2 rfl rfl ?_
      refine V_aload_n C dX5_dropOldest_3 rfl rfl ?_
      refine V_getH (L := clL G) C dX5_dropOldest_4 fX5_19 (by decide) (fun _ => rfl) rfl ?_
      refine V_alenHr C dX5_dropOldest_7 ?_
      refine V_icmp_ge (tgt := 47) C dX5_dropOldest_8 (by decide) (by omega) (by omega) (fun q8 => by exfalso; omega) (fun q8 => ?_)
      refine V_aload_n C dX5_dropOldest_11 rfl rfl ?_
      refine V_getH (L := clL G) C dX5_dropOldest_12 fX5_19 (by decide) (fun _ => rfl) rfl ?_
      refine V_iload_n C dX5_dropOldest_15 rfl rfl ?_
      refine V_iconst C dX5_dropOldest_16 ?_
      refine V_isub C dX5_dropOldest_17 ?_
      refine V_aaldH C dX5_dropOldest_18 (by omega) (by rw [ek1]; show (if k < k then r (k + 1) else if k = k then r 0 else r k) = some a0; rw [if_neg (by omega), if_pos rfl]; exact p01) ?_
      refine V_astore_nr C dX5_dropOldest_19 rfl (Nat.le_of_ble_eq_true rfl) rfl ?_
      refine V_aload_n C dX5_dropOldest_20 rfl rfl ?_
      refine V_getH (L := clL G) C dX5_dropOldest_21 fX5_19 (by decide) (fun _ => rfl) rfl ?_
      refine V_iload_n C dX5_dropOldest_24 rfl rfl ?_
      refine V_iconst C dX5_dropOldest_25 ?_
      refine V_isub C dX5_dropOldest_26 ?_
      refine V_aload_n C dX5_dropOldest_27 rfl rfl ?_
      refine V_getH (L := clL G) C dX5_dropOldest_28 fX5_19 (by decide) (fun _ => rfl) rfl ?_
      refine V_iload_n C dX5_dropOldest_31 rfl rfl ?_
      refine V_aaldH C dX5_dropOldest_32 (by omega) (by rw [ek]; show (if k + 1 < k then r (k + 1 + 1) else if k + 1 = k then r 0 else r (k + 1)) = some j; rw [if_neg (by omega), if_neg (by omega)]; exact p1) ?_
      refine V_aastH C dX5_dropOldest_33 p2 (by omega) ?_
      refine V_aload_n C dX5_dropOldest_34 rfl rfl ?_
      refine V_getH (L := clL G) C dX5_dropOldest_35 fX5_19 (by decide) (fun _ => rfl) rfl ?_
      refine V_iload_n C dX5_dropOldest_38 rfl rfl ?_
      refine V_aload_n C dX5_dropOldest_39 rfl rfl ?_
      refine V_aastH C dX5_dropOldest_40 p02 (by omega) ?_
      refine V_iinc C dX5_dropOldest_41 rfl (Nat.le_of_ble_eq_true rfl) rfl ?_
      refine V_goto (tgt := 2) C dX5_dropOldest_44 (by decide) ?_
      refine V_hp ?_ (ih (k + 1) _ (by omega))
      congr 1; funext i; rw [ek1, ek]; by_cases c5 : i = k + 1 <;> by_cases c4 : i = k <;> by_cases c : i < k <;> simp [us, c4, c5, c, p1, p01] <;> omega
  refine V_iconst C dX5_dropOldest_0 ?_
  refine V_istore_n C dX5_dropOldest_1 rfl (Nat.le_of_ble_eq_true rfl) rfl ?_
  refine V_hp ?_ (loop 4 0 _ (by omega))
  congr 1; funext i; by_cases c : i = 0 <;> simp [c]
set_option maxRecDepth 100000 in
set_option maxHeartbeats 4000000 in
theorem c_X5_saveNow (G : GT) (K : Nat → Nat → Int) (r : Nat → Option Nat) (s : Nat → Int) (st : Nat) (kp : Int) (t : Nat → Int) (T : Nat) (h : IC K r s st kp t T) (hg : GI s st kp t T) : ∃ K1 r1, CtO G yX5_saveNow mX5_saveNow [rf G 0] K r none K1 r1 ∧ IC K1 r1 (svS s st) (st1 st) kp t T ∧ FR K K1 := by
  have h5 := h.2.2.2.2.2.1
  have h2 := h.2.2.1
  by_cases e : st = 5
  · subst e
    have hd := IC_drop h hg
    obtain ⟨a, p1, p2, p3⟩ := hd.2.2.2.2.2.1.1 4 (by decide)
    have hp := IC_put hd (GI_drop hg) (by decide) p1
    refine ⟨_, rotR r, ?_, by rw [svS_5]; exact hp, ((FR_us (by decide)).tr (FR_cp (isS_28 p2))).tr (FR_us (by decide))⟩
    refine Ct_of kX5_saveNow.1.1 (by decide) [some (rf G 0)] rfl (Nat.le_of_ble_eq_true rfl) ?_
    intro x C hZ
    refine V_aload_n C dX5_saveNow_0 rfl rfl ?_
    refine V_getH (L := clL G) C dX5_saveNow_1 fX5_173 (by decide) (fun _ => rfl) rfl ?_
    rw [h2.2.1]
    refine V_iconst C dX5_saveNow_4 ?_
    refine V_icmp_lt (tgt := 12) C dX5_saveNow_5 (by decide) (by omega) (by omega) (fun q5 => by exfalso; omega) (fun q5 => ?_)
    refine V_aload_n C dX5_saveNow_8 rfl rfl ?_
    refine V_V0 (k2 := 0) (s2 := 0) C dX5_saveNow_9 lX5_307 kX5_dropOldest (c_X5_dropOldest G K r h5) (by decide) (rfl) rfl rfl rfl ⟨Nat.le_of_ble_eq_true rfl, Nat.le_of_ble_eq_true rfl⟩ (Nat.le_of_ble_eq_true rfl) (Nat.le_refl _) (Nat.le_refl _) ?_
    refine V_aload_n C dX5_saveNow_12 rfl rfl ?_
    refine V_getH (L := clL G) C dX5_saveNow_13 fX5_173 (by decide) (fun _ => rfl) rfl ?_
    rw [us_at, us_at]
    refine V_if_lt (tgt := 57) C dX5_saveNow_16 (by decide) (by omega) (fun q16 => by exfalso; omega) (fun q16 => ?_)
    refine V_aload_n C dX5_saveNow_19 rfl rfl ?_
    refine V_getH (L := clL G) C dX5_saveNow_20 fX5_173 (by decide) (fun _ => rfl) rfl ?_
    rw [us_at, us_at]
    refine V_aload_n C dX5_saveNow_23 rfl rfl ?_
    refine V_getH (L := clL G) C dX5_saveNow_24 fX5_19 (by decide) (fun _ => rfl) rfl ?_
    refine V_alenHr C dX5_saveNow_27 ?_
    refine V_icmp_ge (tgt := 57) C dX5_saveNow_28 (by decide) (by omega) (by omega) (fun q28 => by exfalso; omega) (fun q28 => ?_)
    refine V_aload_n C dX5_saveNow_31 rfl rfl ?_
    refine V_getH (L := clL G) C dX5_saveNow_32 fX5_10 (by decide) (fun _ => rfl) rfl ?_
    refine V_aload_n C dX5_saveNow_35 rfl rfl ?_
    refine V_getH (L := clL G) C dX5_saveNow_36 fX5_19 (by decide) (fun _ => rfl) rfl ?_
    refine V_aload_n C dX5_saveNow_39 rfl rfl ?_
    refine V_getH (L := clL G) C dX5_saveNow_40 fX5_173 (by decide) (fun _ => rfl) rfl ?_
    rw [us_at, us_at]
    refine V_aaldH C dX5_saveNow_43 (by omega) (p1) ?_
    refine V_S0 (k2 := 0) (s2 := 0) C dX5_saveNow_44 lX5_178 kX5_copyState (c_X5_copyState G _ (rotR r) a 1 p2 rfl (by omega)) rfl rfl ⟨Nat.le_of_ble_eq_true rfl, Nat.le_of_ble_eq_true rfl⟩ (Nat.le_of_ble_eq_true rfl) (Nat.le_refl _) (Nat.le_refl _) ?_
    refine V_aload_n C dX5_saveNow_47 rfl rfl ?_
    refine V_dup C dX5_saveNow_48 rfl ?_
    refine V_getH (L := clL G) C dX5_saveNow_49 fX5_173 (by decide) (fun _ => rfl) rfl ?_
    rw [cpK_ne (show (0 : Nat) ≠ a by omega) (show (0 : Nat) ≠ a + 1 by omega), us_at, us_at]
    refine V_iconst C dX5_saveNow_52 ?_
    refine V_iadd C dX5_saveNow_53 ?_
    refine V_putH (L := clL G) (ty := .int) C dX5_saveNow_54 fX5_173 (by decide) (fun _ => rfl) rfl (by decide +kernel) (rfl) (rfl) (Nat.le_of_ble_eq_true rfl) rfl ?_
    exact V_vret C dX5_saveNow_57 rfl hZ (by rw [cpK_ne (show (0 : Nat) ≠ a by omega) (show (0 : Nat) ≠ a + 1 by omega)]; rfl)
  · have hst : st < 5 := by have := h.1; omega
    obtain ⟨a, p1, p2, p3⟩ := h5.1 st hst
    have hp := IC_put h hg hst p1
    refine ⟨_, r, ?_, by rw [svS_n e, show st1 st = st + 1 by unfold st1; rw [if_neg e]]; exact hp, (FR_cp (isS_28 p2)).tr (FR_us (by decide))⟩
    refine Ct_of kX5_saveNow.1.1 (by decide) [some (rf G 0)] rfl (Nat.le_of_ble_eq_true rfl) ?_
    intro x C hZ
    refine V_aload_n C dX5_saveNow_0 rfl rfl ?_
    refine V_getH (L := clL G) C dX5_saveNow_1 fX5_173 (by decide) (fun _ => rfl) rfl ?_
    rw [h2.2.1]
    refine V_iconst C dX5_saveNow_4 ?_
    refine V_icmp_lt (tgt := 12) C dX5_saveNow_5 (by decide) (by omega) (by omega) (fun q5 => ?_) (fun q5 => by exfalso; omega)
    refine V_aload_n C dX5_saveNow_12 rfl rfl ?_
    refine V_getH (L := clL G) C dX5_saveNow_13 fX5_173 (by decide) (fun _ => rfl) rfl ?_
    rw [h2.2.1]
    refine V_if_lt (tgt := 57) C dX5_saveNow_16 (by decide) (by omega) (fun q16 => by exfalso; omega) (fun q16 => ?_)
    refine V_aload_n C dX5_saveNow_19 rfl rfl ?_
    refine V_getH (L := clL G) C dX5_saveNow_20 fX5_173 (by decide) (fun _ => rfl) rfl ?_
    rw [h2.2.1]
    refine V_aload_n C dX5_saveNow_23 rfl rfl ?_
    refine V_getH (L := clL G) C dX5_saveNow_24 fX5_19 (by decide) (fun _ => rfl) rfl ?_
    refine V_alenHr C dX5_saveNow_27 ?_
    refine V_icmp_ge (tgt := 57) C dX5_saveNow_28 (by decide) (by omega) (by omega) (fun q28 => by exfalso; omega) (fun q28 => ?_)
    refine V_aload_n C dX5_saveNow_31 rfl rfl ?_
    refine V_getH (L := clL G) C dX5_saveNow_32 fX5_10 (by decide) (fun _ => rfl) rfl ?_
    refine V_aload_n C dX5_saveNow_35 rfl rfl ?_
    refine V_getH (L := clL G) C dX5_saveNow_36 fX5_19 (by decide) (fun _ => rfl) rfl ?_
    refine V_aload_n C dX5_saveNow_39 rfl rfl ?_
    refine V_getH (L := clL G) C dX5_saveNow_40 fX5_173 (by decide) (fun _ => rfl) rfl ?_
    rw [h2.2.1]
    refine V_aaldH C dX5_saveNow_43 (by omega) (by rw [tnN]; exact p1) ?_
    refine V_S0 (k2 := 0) (s2 := 0) C dX5_saveNow_44 lX5_178 kX5_copyState (c_X5_copyState G _ r a 1 p2 rfl (by omega)) rfl rfl ⟨Nat.le_of_ble_eq_true rfl, Nat.le_of_ble_eq_true rfl⟩ (Nat.le_of_ble_eq_true rfl) (Nat.le_refl _) (Nat.le_refl _) ?_
    refine V_aload_n C dX5_saveNow_47 rfl rfl ?_
    refine V_dup C dX5_saveNow_48 rfl ?_
    refine V_getH (L := clL G) C dX5_saveNow_49 fX5_173 (by decide) (fun _ => rfl) rfl ?_
    rw [cpK_ne (show (0 : Nat) ≠ a by omega) (show (0 : Nat) ≠ a + 1 by omega), h2.2.1]
    refine V_iconst C dX5_saveNow_52 ?_
    refine V_iadd C dX5_saveNow_53 ?_
    refine V_putH (L := clL G) (ty := .int) C dX5_saveNow_54 fX5_173 (by decide) (fun _ => rfl) rfl (by decide +kernel) (rfl) (rfl) (Nat.le_of_ble_eq_true rfl) rfl ?_
    exact V_vret C dX5_saveNow_57 rfl hZ (by rw [cpK_ne (show (0 : Nat) ≠ a by omega) (show (0 : Nat) ≠ a + 1 by omega)])
