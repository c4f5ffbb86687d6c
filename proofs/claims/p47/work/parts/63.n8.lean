theorem pt_115 {t : Nat → Int} {T a : Nat} (h : iA t T 115 115 a = true) : (pt t T a).1 = 115 ∨ (pt t T a).1 = 32 := by
  unfold pt
  rw [if_pos h]
  dsimp only
  split
  · exact .inl rfl
  · exact .inr rfl
theorem pt_102 {t : Nat → Int} {T a : Nat} (h : iA t T 102 102 a = true) : (pt t T a).1 = 102 ∨ (pt t T a).1 = 32 := by
  have g := iA_t h
  unfold pt
  rw [if_neg (fun w => by have := iA_t w; omega), if_pos h]
  dsimp only
  split
  · exact .inl rfl
  · exact .inr rfl
set_option maxRecDepth 100000 in
set_option maxHeartbeats 4000000 in
theorem g_X2_numberIn (G : GT) (K : Nat → Nat → Int) (r : Nat → Option Nat) (a : Nat) (ha : isS a = true) (p : Int) : ∃ v : Int, CtO G yX2_numberIn mX2_numberIn [rf G a, .int (iI p)] K r (some (.int (iI v))) K r := by
  obtain ⟨q, hq, e⟩ := iI_ex (iI p)
  rw [e]
  by_cases c : 0 ≤ q ∧ q ≤ 5
  · exact ⟨_, c_X2_numberIn G K r a ha q c⟩
  · refine ⟨0, ?_⟩
    refine Ct_of kX2_numberIn.1.1 (by decide) [some (rf G a), some (.int (iI q))] rfl (Nat.le_of_ble_eq_true rfl) ?_
    intro x C hZ
    by_cases c2 : q < 0
    · skip
      refine V_iload_n C dX2_numberIn_0 rfl rfl ?_
      refine V_if_lt (tgt := 22) C dX2_numberIn_1 (by decide) (by omega) (fun q1 => ?_) (fun q1 => by exfalso; omega)
      refine V_iconst C dX2_numberIn_22 ?_
      exact V_iret C dX2_numberIn_23 rfl hZ (by first | rfl | omega) rfl
    · skip
      refine V_iload_n C dX2_numberIn_0 rfl rfl ?_
      refine V_if_lt (tgt := 22) C dX2_numberIn_1 (by decide) (by omega) (fun q1 => by exfalso; omega) (fun q1 => ?_)
      refine V_iload_n C dX2_numberIn_4 rfl rfl ?_
      refine V_aload_n C dX2_numberIn_5 rfl rfl ?_
      refine V_getH (L := stL G a) C dX2_numberIn_6 fX2_9 (isS_lt ha) ((fun _ => cO_st ha _)) rfl ?_
      refine V_alenH C dX2_numberIn_9 (isS_lt1 ha) ((fun _ => cO_sn ha _)) ?_
      refine V_icmp_ge (tgt := 22) C dX2_numberIn_10 (by decide) (by omega) (by omega) (fun q10 => ?_) (fun q10 => by exfalso; omega)
      refine V_iconst C dX2_numberIn_22 ?_
      exact V_iret C dX2_numberIn_23 rfl hZ (by first | rfl | omega) rfl
set_option maxRecDepth 100000 in
set_option maxHeartbeats 4000000 in
theorem g_X5_giveIfFits (G : GT) (K : Nat → Nat → Int) (r : Nat → Option Nat) (v : Int) (hv : -2147483648 ≤ v ∧ v < 2147483648) (hc : 6764 < v) : CtO G yX5_giveIfFits mX5_giveIfFits [rf G 0, .int (iI v)] K r (some (.int (iI 1))) (K) (r) := by
  refine Ct_of kX5_giveIfFits.1.1 (by decide) [some (rf G 0), some (.int (iI v))] rfl (Nat.le_of_ble_eq_true rfl) ?_
  intro x C hZ
  refine V_iload_n C dX5_giveIfFits_0 rfl rfl ?_
  refine V_sipush C dX5_giveIfFits_1 (by decide +kernel) ?_
  refine V_icmp_le (tgt := 9) C dX5_giveIfFits_4 (by decide) (by omega) (by omega) (fun q4 => by exfalso; omega) (fun q4 => ?_)
  refine V_iconst C dX5_giveIfFits_7 ?_
  exact V_iret C dX5_giveIfFits_8 rfl hZ (by first | rfl | omega) rfl
set_option maxRecDepth 100000 in
set_option maxHeartbeats 4000000 in
theorem n_X5_giveIfFits (G : GT) (K : Nat → Nat → Int) (r : Nat → Option Nat) (v : Int) (hv : -2147483648 ≤ v ∧ v < 2147483648) (hc : v < 0) : CtO G yX5_giveIfFits mX5_giveIfFits [rf G 0, .int (iI v)] K r (some (.int (iI 2))) (K) (r) := by
  refine Ct_of kX5_giveIfFits.1.1 (by decide) [some (rf G 0), some (.int (iI v))] rfl (Nat.le_of_ble_eq_true rfl) ?_
  intro x C hZ
  refine V_iload_n C dX5_giveIfFits_0 rfl rfl ?_
  refine V_sipush C dX5_giveIfFits_1 (by decide +kernel) ?_
  refine V_icmp_le (tgt := 9) C dX5_giveIfFits_4 (by decide) (by omega) (by omega) (fun q4 => ?_) (fun q4 => by exfalso; omega)
  refine V_iload_n C dX5_giveIfFits_9 rfl rfl ?_
  refine V_if_ge (tgt := 15) C dX5_giveIfFits_10 (by decide) (by omega) (fun q10 => by exfalso; omega) (fun q10 => ?_)
  refine V_iconst C dX5_giveIfFits_13 ?_
  exact V_iret C dX5_giveIfFits_14 rfl hZ (by first | rfl | omega) rfl
set_option maxRecDepth 100000 in
set_option maxHeartbeats 4000000 in
theorem c_X5_giveIfFits (G : GT) (K : Nat → Nat → Int) (r : Nat → Option Nat) (hst : 0 ≤ K 7 2 ∧ K 7 2 ≤ 5) (v : Int) (hv : -2147483648 ≤ v ∧ v < 2147483648) (hc : 0 ≤ v ∧ v ≤ 6764) : CtO G yX5_giveIfFits mX5_giveIfFits [rf G 0, .int (iI v)] K r (some (.int (iI 0))) (us K 2 (us (K 2) (K 7 2).toNat v)) (r) := by
  refine Ct_of kX5_giveIfFits.1.1 (by decide) [some (rf G 0), some (.int (iI v))] rfl (Nat.le_of_ble_eq_true rfl) ?_
  intro x C hZ
  refine V_iload_n C dX5_giveIfFits_0 rfl rfl ?_
  refine V_sipush C dX5_giveIfFits_1 (by decide +kernel) ?_
  refine V_icmp_le (tgt := 9) C dX5_giveIfFits_4 (by decide) (by omega) (by omega) (fun q4 => ?_) (fun q4 => by exfalso; omega)
  refine V_iload_n C dX5_giveIfFits_9 rfl rfl ?_
  refine V_if_ge (tgt := 15) C dX5_giveIfFits_10 (by decide) (by omega) (fun q10 => ?_) (fun q10 => by exfalso; omega)
  refine V_aload_n C dX5_giveIfFits_15 rfl rfl ?_
  refine V_getH (L := clL G) C dX5_giveIfFits_16 fX5_10 (by decide) (fun _ => rfl) rfl ?_
  refine V_aload_n C dX5_giveIfFits_19 rfl rfl ?_
  refine V_getH (L := clL G) C dX5_giveIfFits_20 fX5_30 (by decide) (fun _ => rfl) rfl ?_
  refine V_getH (L := scL) C dX5_giveIfFits_23 fX5_354 (by decide) (fun _ => rfl) rfl ?_
  refine V_iload_n C dX5_giveIfFits_26 rfl rfl ?_
  refine V_V0 (k2 := 0) (s2 := 0) C dX5_giveIfFits_27 lX5_72 kX2_give (c_X2_give G K r 1 rfl (K 7 2) hst v) (by decide) (rfl) rfl rfl rfl ⟨Nat.le_of_ble_eq_true rfl, Nat.le_of_ble_eq_true rfl⟩ (Nat.le_of_ble_eq_true rfl) (Nat.le_refl _) (Nat.le_refl _) ?_
  refine V_iconst C dX5_giveIfFits_30 ?_
  exact V_iret C dX5_giveIfFits_31 rfl hZ (by first | rfl | omega) rfl
set_option maxRecDepth 100000 in
set_option maxHeartbeats 4000000 in
theorem n_X5_doRaise (G : GT) (K : Nat → Nat → Int) (r : Nat → Option Nat) (m : Nat) (hm : m < 262144) (hc : ¬ m < 131072) : CtO G yX5_doRaise mX5_doRaise [rf G 0, .int (iI (m : Int))] K r (some (.int (iI 1))) (K) (r) := by
  refine Ct_of kX5_doRaise.1.1 (by decide) [some (rf G 0), some (.int (iI (m : Int)))] rfl (Nat.le_of_ble_eq_true rfl) ?_
  intro x C hZ
  refine V_iload_n C dX5_doRaise_0 rfl rfl ?_
  refine V_S1 (k2 := 0) (s2 := 0) C dX5_doRaise_1 lX5_92 kX5_canRaise (Ct_v (b2n hc) (c_X5_canRaise m (by omega) G 28 false _)) rfl rfl ⟨Nat.le_of_ble_eq_true rfl, Nat.le_of_ble_eq_true rfl⟩ (Nat.le_of_ble_eq_true rfl) (Nat.le_refl _) (Nat.le_refl _) ?_
  refine V_if_ne (tgt := 9) C dX5_doRaise_4 (by decide) (by omega) (fun q4 => by exfalso; omega) (fun q4 => ?_)
  refine V_iconst C dX5_doRaise_7 ?_
  exact V_iret C dX5_doRaise_8 rfl hZ (by first | rfl | omega) rfl
set_option maxRecDepth 100000 in
set_option maxHeartbeats 4000000 in
theorem c_X5_doRaise (G : GT) (K : Nat → Nat → Int) (r : Nat → Option Nat) (hst : 0 ≤ K 7 2 ∧ K 7 2 ≤ 5) (m : Nat) (hc : m < 131072) : CtO G yX5_doRaise mX5_doRaise [rf G 0, .int (iI (m : Int))] K r (some (.int (iI 0))) (us K 2 (us (K 2) (K 7 2).toNat ((wo 18 (m <<< 1) : Nat) : Int))) (r) := by
  refine Ct_of kX5_doRaise.1.1 (by decide) [some (rf G 0), some (.int (iI (m : Int)))] rfl (Nat.le_of_ble_eq_true rfl) ?_
  intro x C hZ
  refine V_iload_n C dX5_doRaise_0 rfl rfl ?_
  refine V_S1 (k2 := 0) (s2 := 0) C dX5_doRaise_1 lX5_92 kX5_canRaise (Ct_v (b2y hc) (c_X5_canRaise m (by omega) G 28 false _)) rfl rfl ⟨Nat.le_of_ble_eq_true rfl, Nat.le_of_ble_eq_true rfl⟩ (Nat.le_of_ble_eq_true rfl) (Nat.le_refl _) (Nat.le_refl _) ?_
  refine V_if_ne (tgt := 9) C dX5_doRaise_4 (by decide) (by omega) (fun q4 => ?_) (fun q4 => by exfalso; omega)
  refine V_aload_n C dX5_doRaise_9 rfl rfl ?_
  refine V_getH (L := clL G) C dX5_doRaise_10 fX5_10 (by decide) (fun _ => rfl) rfl ?_
  refine V_aload_n C dX5_doRaise_13 rfl rfl ?_
  refine V_getH (L := clL G) C dX5_doRaise_14 fX5_30 (by decide) (fun _ => rfl) rfl ?_
  refine V_getH (L := scL) C dX5_doRaise_17 fX5_354 (by decide) (fun _ => rfl) rfl ?_
  refine V_iload_n C dX5_doRaise_20 rfl rfl ?_
  refine V_S1 (k2 := 0) (s2 := 0) C dX5_doRaise_21 lX5_98 kX5_raisedWorth (c_X5_raisedWorth m hc G 28 false _) rfl rfl ⟨Nat.le_of_ble_eq_true rfl, Nat.le_of_ble_eq_true rfl⟩ (Nat.le_of_ble_eq_true rfl) (Nat.le_refl _) (Nat.le_refl _) ?_
  refine V_V0 (k2 := 0) (s2 := 0) C dX5_doRaise_24 lX5_72 kX2_give (c_X2_give G K r 1 rfl (K 7 2) hst _) (by decide) (rfl) rfl rfl rfl ⟨Nat.le_of_ble_eq_true rfl, Nat.le_of_ble_eq_true rfl⟩ (Nat.le_of_ble_eq_true rfl) (Nat.le_refl _) (Nat.le_refl _) ?_
  refine V_iconst C dX5_doRaise_27 ?_
  exact V_iret C dX5_doRaise_28 rfl hZ (by first | rfl | omega) rfl
set_option maxRecDepth 100000 in
set_option maxHeartbeats 4000000 in
theorem n_X5_doSend (G : GT) (K : Nat → Nat → Int) (r : Nat → Option Nat) (p : Int) (hp : 1 ≤ p ∧ p ≤ 6764) (hL : 0 ≤ K 1 2 ∧ K 1 2 ≤ 64) (hc : ¬ K 1 2 + (hl 18 (gm 18 p.toNat) + 1 : Nat) ≤ 64) : CtO G yX5_doSend mX5_doSend [rf G 0, .int (iI p)] K r (some (.int (iI 3))) (K) (r) := by
  refine Ct_of kX5_doSend.1.1 (by decide) [some (rf G 0), some (.int (iI p))] rfl (Nat.le_of_ble_eq_true rfl) ?_
  intro x C hZ
  refine V_aload_n C dX5_doSend_0 rfl rfl ?_
  refine V_getH (L := clL G) C dX5_doSend_1 fX5_10 (by decide) (fun _ => rfl) rfl ?_
  refine V_iload_n C dX5_doSend_4 rfl rfl ?_
  refine V_V1 (k2 := 0) (s2 := 0) C dX5_doSend_5 lX5_111 kX2_hasRoomFor (Ct_v (b2n hc) (c_X2_hasRoomFor G K r 1 rfl p hp hL)) (by decide) (rfl) rfl rfl rfl ⟨Nat.le_of_ble_eq_true rfl, Nat.le_of_ble_eq_true rfl⟩ (Nat.le_of_ble_eq_true rfl) (Nat.le_refl _) (Nat.le_refl _) ?_
  refine V_if_ne (tgt := 13) C dX5_doSend_8 (by decide) (by omega) (fun q8 => by exfalso; omega) (fun q8 => ?_)
  refine V_iconst C dX5_doSend_11 ?_
  exact V_iret C dX5_doSend_12 rfl hZ (by first | rfl | omega) rfl
set_option maxRecDepth 100000 in
set_option maxHeartbeats 4000000 in
theorem c_X5_doSend (G : GT) (K : Nat → Nat → Int) (r : Nat → Option Nat) (p : Int) (hp : 1 ≤ p ∧ p ≤ 6764) (hL : 0 ≤ K 1 2 ∧ K 1 2 ≤ 64) (L D : Nat) (hL2 : K 1 2 = L) (hD : K 1 1 = D) (hc : K 1 2 + (hl 18 (gm 18 p.toNat) + 1 : Nat) ≤ 64) : CtO G yX5_doSend mX5_doSend [rf G 0, .int (iI p)] K r (some (.int (iI 0))) (us K 1 (us (us (K 1) 1 ((D ||| (gm 18 p.toNat ||| 1 <<< hl 18 (gm 18 p.toNat)) <<< L : Nat) : Int)) 2 ((L + (hl 18 (gm 18 p.toNat) + 1) : Nat) : Int))) (r) := by
  refine Ct_of kX5_doSend.1.1 (by decide) [some (rf G 0), some (.int (iI p))] rfl (Nat.le_of_ble_eq_true rfl) ?_
  intro x C hZ
  refine V_aload_n C dX5_doSend_0 rfl rfl ?_
  refine V_getH (L := clL G) C dX5_doSend_1 fX5_10 (by decide) (fun _ => rfl) rfl ?_
  refine V_iload_n C dX5_doSend_4 rfl rfl ?_
  refine V_V1 (k2 := 0) (s2 := 0) C dX5_doSend_5 lX5_111 kX2_hasRoomFor (Ct_v (b2y hc) (c_X2_hasRoomFor G K r 1 rfl p hp hL)) (by decide) (rfl) rfl rfl rfl ⟨Nat.le_of_ble_eq_true rfl, Nat.le_of_ble_eq_true rfl⟩ (Nat.le_of_ble_eq_true rfl) (Nat.le_refl _) (Nat.le_refl _) ?_
  refine V_if_ne (tgt := 13) C dX5_doSend_8 (by decide) (by omega) (fun q8 => ?_) (fun q8 => by exfalso; omega)
  refine V_aload_n C dX5_doSend_13 rfl rfl ?_
  refine V_getH (L := clL G) C dX5_doSend_14 fX5_10 (by decide) (fun _ => rfl) rfl ?_
  refine V_iload_n C dX5_doSend_17 rfl rfl ?_
  refine V_V0 (k2 := 0) (s2 := 0) C dX5_doSend_18 lX5_116 kX2_putCode (c_X2_putCode G K r 1 rfl p hp L D hL2 hD (by omega)) (by decide) (rfl) rfl rfl rfl ⟨Nat.le_of_ble_eq_true rfl, Nat.le_of_ble_eq_true rfl⟩ (Nat.le_of_ble_eq_true rfl) (Nat.le_refl _) (Nat.le_refl _) ?_
  refine V_iconst C dX5_doSend_21 ?_
  exact V_iret C dX5_doSend_22 rfl hZ (by first | rfl | omega) rfl
set_option maxRecDepth 100000 in
set_option maxHeartbeats 4000000 in
theorem n_X5_doTurn (G : GT) (K : Nat → Nat → Int) (r : Nat → Option Nat) (p : Int) (hp : 0 ≤ p ∧ p ≤ 63) (hL : 0 ≤ K 1 2 ∧ K 1 2 ≤ 64) (hc : K 1 2 ≤ p) : CtO G yX5_doTurn mX5_doTurn [rf G 0, .int (iI p)] K r (some (.int (iI 4))) (K) (r) := by
  refine Ct_of kX5_doTurn.1.1 (by decide) [some (rf G 0), some (.int (iI p))] rfl (Nat.le_of_ble_eq_true rfl) ?_
  intro x C hZ
  refine V_iload_n C dX5_doTurn_0 rfl rfl ?_
  refine V_aload_n C dX5_doTurn_1 rfl rfl ?_
  refine V_getH (L := clL G) C dX5_doTurn_2 fX5_10 (by decide) (fun _ => rfl) rfl ?_
  refine V_getH (L := stL G 1) C dX5_doTurn_5 fX5_119 (by decide) (fun _ => rfl) rfl ?_
  refine V_icmp_lt (tgt := 13) C dX5_doTurn_8 (by decide) (by omega) (by omega) (fun q8 => by exfalso; omega) (fun q8 => ?_)
  refine V_iconst C dX5_doTurn_11 ?_
  exact V_iret C dX5_doTurn_12 rfl hZ (by first | rfl | omega) rfl
set_option maxRecDepth 100000 in
set_option maxHeartbeats 4000000 in
theorem c_X5_doTurn (G : GT) (K : Nat → Nat → Int) (r : Nat → Option Nat) (p : Int) (hp : 0 ≤ p ∧ p ≤ 63) (hL : 0 ≤ K 1 2 ∧ K 1 2 ≤ 64) (D : Nat) (hD : K 1 1 = D) (hc : p < K 1 2) : CtO G yX5_doTurn mX5_doTurn [rf G 0, .int (iI p)] K r (some (.int (iI 0))) (us K 1 (us (K 1) 1 ((D ^^^ 1 <<< p.toNat : Nat) : Int))) (r) := by
  refine Ct_of kX5_doTurn.1.1 (by decide) [some (rf G 0), some (.int (iI p))] rfl (Nat.le_of_ble_eq_true rfl) ?_
  intro x C hZ
  refine V_iload_n C dX5_doTurn_0 rfl rfl ?_
  refine V_aload_n C dX5_doTurn_1 rfl rfl ?_
  refine V_getH (L := clL G) C dX5_doTurn_2 fX5_10 (by decide) (fun _ => rfl) rfl ?_
  refine V_getH (L := stL G 1) C dX5_doTurn_5 fX5_119 (by decide) (fun _ => rfl) rfl ?_
  refine V_icmp_lt (tgt := 13) C dX5_doTurn_8 (by decide) (by omega) (by omega) (fun q8 => ?_) (fun q8 => by exfalso; omega)
  refine V_aload_n C dX5_doTurn_13 rfl rfl ?_
  refine V_getH (L := clL G) C dX5_doTurn_14 fX5_10 (by decide) (fun _ => rfl) rfl ?_
  refine V_iload_n C dX5_doTurn_17 rfl rfl ?_
  refine V_V0 (k2 := 0) (s2 := 0) C dX5_doTurn_18 lX5_126 kX2_turnDigit (c_X2_turnDigit G K r 1 rfl p (by omega) D hD) (by decide) (rfl) rfl rfl rfl ⟨Nat.le_of_ble_eq_true rfl, Nat.le_of_ble_eq_true rfl⟩ (Nat.le_of_ble_eq_true rfl) (Nat.le_refl _) (Nat.le_refl _) ?_
  refine V_iconst C dX5_doTurn_21 ?_
  exact V_iret C dX5_doTurn_22 rfl hZ (by first | rfl | omega) rfl
set_option maxRecDepth 100000 in
set_option maxHeartbeats 4000000 in
theorem c_X5_doPart (G : GT) (K : Nat → Nat → Int) (r : Nat → Option Nat) (z : Nat → Int) (hq : RQ K 1 z) (hz : GZ z) (w p q : Int) (hok : pOK w p q) (hw : K 7 1 = w) (h2 : w ≠ 115 → w ≠ 102 → K 7 2 = p ∧ (w ≠ 94 → K 7 3 = q)) (h3 : w = 115 ∨ w = 102 → K 7 3 = p) : ∃ K1, CtO G yX5_doPart mX5_doPart [rf G 0] K r (some (.int (iI (rsn z w p q)))) K1 r ∧ (rsn z w p q = 0 → RQ K1 1 (dos z w p q)) ∧ (¬ rsn z w p q = 0 → K1 = K) ∧ (∀ q, q ≠ 1 → q ≠ 2 → K1 q = K q) ∧ K1 1 3 = K 1 3 ∧ K1 1 4 = K 1 4 := by
  have g6 := hz.2.1
  have gL : 0 ≤ K 1 2 ∧ K 1 2 ≤ 64 := by rw [hq.2.2]; exact g6
  have off2 : ∀ (v : Nat → Int) (q : Nat), q ≠ 1 → q ≠ 2 → us K 2 v q = K q := fun v q _ n => us_ne _ _ n
  have off1 : ∀ (v : Nat → Int) (q : Nat), q ≠ 1 → q ≠ 2 → us K 1 v q = K q := fun v q n _ => us_ne _ _ n
  rcases hok with g | g | g | g | g | g
  · obtain ⟨e, g1, g2⟩ := g
    subst e
    obtain ⟨s2, s3⟩ := h2 (by decide) (by decide)
    have s3 := s3 (by decide)
    have kp := hq.1 p.toNat (by omega)
    have eD : dos z 61 p q = us z p.toNat q := by unfold dos; rw [if_pos rfl]
    have eR : rsn z 61 p q = 0 := by unfold rsn; rw [if_neg (by decide), if_neg (by decide), if_neg (by decide), if_neg (by decide), if_neg (by decide)]
    rw [eD, eR]
    refine ⟨us K 2 (us (K 2) p.toNat q), ?_, fun _ => RQ_give hq g1, fun w => absurd rfl w, off2 _, (by rw [us_ne _ _ (show (1 : Nat) ≠ 2 by decide)]), (by rw [us_ne _ _ (show (1 : Nat) ≠ 2 by decide)])⟩
    refine Ct_of kX5_doPart.1.1 (by decide) [some (rf G 0), none] rfl (Nat.le_of_ble_eq_true rfl) ?_
    intro x C hZ
    refine V_aload_n C dX5_doPart_0 rfl rfl ?_
    refine V_getH (L := clL G) C dX5_doPart_1 fX5_10 (by decide) (fun _ => rfl) rfl ?_
    refine V_aload_n C dX5_doPart_4 rfl rfl ?_
    refine V_getH (L := clL G) C dX5_doPart_5 fX5_30 (by decide) (fun _ => rfl) rfl ?_
    refine V_getH (L := scL) C dX5_doPart_8 fX5_354 (by decide) (fun _ => rfl) rfl ?_
    rw [s2]
    refine V_V1 (k2 := 0) (s2 := 0) C dX5_doPart_11 lX5_65 kX2_numberIn (c_X2_numberIn G K r 1 rfl p (by omega)) (by decide) (rfl) rfl rfl rfl ⟨Nat.le_of_ble_eq_true rfl, Nat.le_of_ble_eq_true rfl⟩ (Nat.le_of_ble_eq_true rfl) (Nat.le_refl _) (Nat.le_refl _) ?_
    rw [kp]
    refine V_istore_n C dX5_doPart_14 rfl (Nat.le_of_ble_eq_true rfl) rfl ?_
    refine V_aload_n C dX5_doPart_15 rfl rfl ?_
    refine V_getH (L := clL G) C dX5_doPart_16 fX5_30 (by decide) (fun _ => rfl) rfl ?_
    refine V_getH (L := scL) C dX5_doPart_19 fX5_357 (by decide) (fun _ => rfl) rfl ?_
    rw [hw]
    refine V_lookup (off := 50) (tgt := 72) C dX5_doPart_22 (by decide +kernel) (by omega) (by decide +kernel) (by decide) ?_
    refine V_aload_n C dX5_doPart_72 rfl rfl ?_
    refine V_aload_n C dX5_doPart_73 rfl rfl ?_
    refine V_getH (L := clL G) C dX5_doPart_74 fX5_30 (by decide) (fun _ => rfl) rfl ?_
    refine V_getH (L := scL) C dX5_doPart_77 fX5_361 (by decide) (fun _ => rfl) rfl ?_
    rw [s3]
    refine V_V1 (k2 := 0) (s2 := 0) C dX5_doPart_80 lX5_364 kX5_giveIfFits (c_X5_giveIfFits G K r (by omega) q (by omega) g2) (by decide) (rfl) rfl rfl rfl ⟨Nat.le_of_ble_eq_true rfl, Nat.le_of_ble_eq_true rfl⟩ (Nat.le_of_ble_eq_true rfl) (Nat.le_refl _) (Nat.le_refl _) ?_
    exact V_iret C dX5_doPart_83 rfl hZ rfl (by rw [s2])
  · obtain ⟨e, g1, g2⟩ := g
    subst e
    obtain ⟨s2, s3⟩ := h2 (by decide) (by decide)
    have s3 := s3 (by decide)
    have kp := hq.1 p.toNat (by omega)
    have kq := hq.1 q.toNat (by omega)
    have z1 := hz.1 p.toNat (by omega)
    have z2 := hz.1 q.toNat (by omega)
    have eD : dos z 43 p q = us z p.toNat (z p.toNat + z q.toNat) := by unfold dos; rw [if_neg (by decide), if_pos rfl]
    have eR : rsn z 43 p q = if 6764 < z p.toNat + z q.toNat then 1 else 0 := by unfold rsn; rw [if_pos rfl]
    rw [eD, eR]
    by_cases c : 6764 < z p.toNat + z q.toNat
    · rw [if_pos c]
      refine ⟨K, ?_, fun w => absurd w (by decide), fun _ => rfl, fun _ _ _ => rfl, rfl, rfl⟩
      refine Ct_of kX5_doPart.1.1 (by decide) [some (rf G 0), none] rfl (Nat.le_of_ble_eq_true rfl) ?_
      intro x C hZ
      refine V_aload_n C dX5_doPart_0 rfl rfl ?_
      refine V_getH (L := clL G) C dX5_doPart_1 fX5_10 (by decide) (fun _ => rfl) rfl ?_
      refine V_aload_n C dX5_doPart_4 rfl rfl ?_
      refine V_getH (L := clL G) C dX5_doPart_5 fX5_30 (by decide) (fun _ => rfl) rfl ?_
      refine V_getH (L := scL) C dX5_doPart_8 fX5_354 (by decide) (fun _ => rfl) rfl ?_
      rw [s2]
      refine V_V1 (k2 := 0) (s2 := 0) C dX5_doPart_11 lX5_65 kX2_numberIn (c_X2_numberIn G K r 1 rfl p (by omega)) (by decide) (rfl) rfl rfl rfl ⟨Nat.le_of_ble_eq_true rfl, Nat.le_of_ble_eq_true rfl⟩ (Nat.le_of_ble_eq_true rfl) (Nat.le_refl _) (Nat.le_refl _) ?_
      rw [kp]
      refine V_istore_n C dX5_doPart_14 rfl (Nat.le_of_ble_eq_true rfl) rfl ?_
      refine V_aload_n C dX5_doPart_15 rfl rfl ?_
      refine V_getH (L := clL G) C dX5_doPart_16 fX5_30 (by decide) (fun _ => rfl) rfl ?_
      refine V_getH (L := scL) C dX5_doPart_19 fX5_357 (by decide) (fun _ => rfl) rfl ?_
      rw [hw]
      refine V_lookup (off := 62) (tgt := 84) C dX5_doPart_22 (by decide +kernel) (by omega) (by decide +kernel) (by decide) ?_
      refine V_aload_n C dX5_doPart_84 rfl rfl ?_
      refine V_iload_n C dX5_doPart_85 rfl rfl ?_
      refine V_aload_n C dX5_doPart_86 rfl rfl ?_
      refine V_getH (L := clL G) C dX5_doPart_87 fX5_10 (by decide) (fun _ => rfl) rfl ?_
      refine V_aload_n C dX5_doPart_90 rfl rfl ?_
      refine V_getH (L := clL G) C dX5_doPart_91 fX5_30 (by decide) (fun _ => rfl) rfl ?_
      refine V_getH (L := scL) C dX5_doPart_94 fX5_361 (by decide) (fun _ => rfl) rfl ?_
      rw [s3]
      refine V_V1 (k2 := 0) (s2 := 0) C dX5_doPart_97 lX5_65 kX2_numberIn (c_X2_numberIn G K r 1 rfl q g2) (by decide) (rfl) rfl rfl rfl ⟨Nat.le_of_ble_eq_true rfl, Nat.le_of_ble_eq_true rfl⟩ (Nat.le_of_ble_eq_true rfl) (Nat.le_refl _) (Nat.le_refl _) ?_
      rw [kq]
      refine V_iadd C dX5_doPart_100 ?_
      refine V_V1 (k2 := 0) (s2 := 0) C dX5_doPart_101 lX5_364 kX5_giveIfFits (g_X5_giveIfFits G K r _ (by omega) (by omega)) (by decide) (rfl) rfl rfl rfl ⟨Nat.le_of_ble_eq_true rfl, Nat.le_of_ble_eq_true rfl⟩ (Nat.le_of_ble_eq_true rfl) (Nat.le_refl _) (Nat.le_refl _) ?_
      exact V_iret C dX5_doPart_104 rfl hZ rfl rfl
    · rw [if_neg c]
      refine ⟨us K 2 (us (K 2) p.toNat (z p.toNat + z q.toNat)), ?_, fun _ => RQ_give hq g1, fun w => absurd rfl w, off2 _, (by rw [us_ne _ _ (show (1 : Nat) ≠ 2 by decide)]), (by rw [us_ne _ _ (show (1 : Nat) ≠ 2 by decide)])⟩
      refine Ct_of kX5_doPart.1.1 (by decide) [some (rf G 0), none] rfl (Nat.le_of_ble_eq_true rfl) ?_
      intro x C hZ
      refine V_aload_n C dX5_doPart_0 rfl rfl ?_
      refine V_getH (L := clL G) C dX5_doPart_1 fX5_10 (by decide) (fun _ => rfl) rfl ?_
      refine V_aload_n C dX5_doPart_4 rfl rfl ?_
      refine V_getH (L := clL G) C dX5_doPart_5 fX5_30 (by decide) (fun _ => rfl) rfl ?_
      refine V_getH (L := scL) C dX5_doPart_8 fX5_354 (by decide) (fun _ => rfl) rfl ?_
      rw [s2]
      refine V_V1 (k2 := 0) (s2 := 0) C dX5_doPart_11 lX5_65 kX2_numberIn (c_X2_numberIn G K r 1 rfl p (by omega)) (by decide) (rfl) rfl rfl rfl ⟨Nat.le_of_ble_eq_true rfl, Nat.le_of_ble_eq_true rfl⟩ (Nat.le_of_ble_eq_true rfl) (Nat.le_refl _) (Nat.le_refl _) ?_
      rw [kp]
      refine V_istore_n C dX5_doPart_14 rfl (Nat.le_of_ble_eq_true rfl) rfl ?_
      refine V_aload_n C dX5_doPart_15 rfl rfl ?_
      refine V_getH (L := clL G) C dX5_doPart_16 fX5_30 (by decide) (fun _ => rfl) rfl ?_
      refine V_getH (L := scL) C dX5_doPart_19 fX5_357 (by decide) (fun _ => rfl) rfl ?_
      rw [hw]
      refine V_lookup (off := 62) (tgt := 84) C dX5_doPart_22 (by decide +kernel) (by omega) (by decide +kernel) (by decide) ?_
      refine V_aload_n C dX5_doPart_84 rfl rfl ?_
      refine V_iload_n C dX5_doPart_85 rfl rfl ?_
      refine V_aload_n C dX5_doPart_86 rfl rfl ?_
      refine V_getH (L := clL G) C dX5_doPart_87 fX5_10 (by decide) (fun _ => rfl) rfl ?_
      refine V_aload_n C dX5_doPart_90 rfl rfl ?_
      refine V_getH (L := clL G) C dX5_doPart_91 fX5_30 (by decide) (fun _ => rfl) rfl ?_
      refine V_getH (L := scL) C dX5_doPart_94 fX5_361 (by decide) (fun _ => rfl) rfl ?_
      rw [s3]
      refine V_V1 (k2 := 0) (s2 := 0) C dX5_doPart_97 lX5_65 kX2_numberIn (c_X2_numberIn G K r 1 rfl q g2) (by decide) (rfl) rfl rfl rfl ⟨Nat.le_of_ble_eq_true rfl, Nat.le_of_ble_eq_true rfl⟩ (Nat.le_of_ble_eq_true rfl) (Nat.le_refl _) (Nat.le_refl _) ?_
      rw [kq]
      refine V_iadd C dX5_doPart_100 ?_
      refine V_V1 (k2 := 0) (s2 := 0) C dX5_doPart_101 lX5_364 kX5_giveIfFits (c_X5_giveIfFits G K r (by omega) _ (by omega) (by omega)) (by decide) (rfl) rfl rfl rfl ⟨Nat.le_of_ble_eq_true rfl, Nat.le_of_ble_eq_true rfl⟩ (Nat.le_of_ble_eq_true rfl) (Nat.le_refl _) (Nat.le_refl _) ?_
      exact V_iret C dX5_doPart_104 rfl hZ rfl (by rw [s2])
  · obtain ⟨e, g1, g2⟩ := g
    subst e
    obtain ⟨s2, s3⟩ := h2 (by decide) (by decide)
    have s3 := s3 (by decide)
    have kp := hq.1 p.toNat (by omega)
    have kq := hq.1 q.toNat (by omega)
    have z1 := hz.1 p.toNat (by omega)
    have z2 := hz.1 q.toNat (by omega)
    have eD : dos z 45 p q = us z p.toNat (z p.toNat - z q.toNat) := by unfold dos; rw [if_neg (by decide), if_neg (by decide), if_pos rfl]
    have eR : rsn z 45 p q = if z p.toNat < z q.toNat then 2 else 0 := by unfold rsn; rw [if_neg (by decide), if_pos rfl]
    rw [eD, eR]
    by_cases c : z p.toNat < z q.toNat
    · rw [if_pos c]
      refine ⟨K, ?_, fun w => absurd w (by decide), fun _ => rfl, fun _ _ _ => rfl, rfl, rfl⟩
      refine Ct_of kX5_doPart.1.1 (by decide) [some (rf G 0), none] rfl (Nat.le_of_ble_eq_true rfl) ?_
      intro x C hZ
      refine V_aload_n C dX5_doPart_0 rfl rfl ?_
      refine V_getH (L := clL G) C dX5_doPart_1 fX5_10 (by decide) (fun _ => rfl) rfl ?_
      refine V_aload_n C dX5_doPart_4 rfl rfl ?_
      refine V_getH (L := clL G) C dX5_doPart_5 fX5_30 (by decide) (fun _ => rfl) rfl ?_
      refine V_getH (L := scL) C dX5_doPart_8 fX5_354 (by decide) (fun _ => rfl) rfl ?_
      rw [s2]
      refine V_V1 (k2 := 0) (s2 := 0) C dX5_doPart_11 lX5_65 kX2_numberIn (c_X2_numberIn G K r 1 rfl p (by omega)) (by decide) (rfl) rfl rfl rfl ⟨Nat.le_of_ble_eq_true rfl, Nat.le_of_ble_eq_true rfl⟩ (Nat.le_of_ble_eq_true rfl) (Nat.le_refl _) (Nat.le_refl _) ?_
      rw [kp]
      refine V_istore_n C dX5_doPart_14 rfl (Nat.le_of_ble_eq_true rfl) rfl ?_
      refine V_aload_n C dX5_doPart_15 rfl rfl ?_
      refine V_getH (L := clL G) C dX5_doPart_16 fX5_30 (by decide) (fun _ => rfl) rfl ?_
      refine V_getH (L := scL) C dX5_doPart_19 fX5_357 (by decide) (fun _ => rfl) rfl ?_
      rw [hw]
      refine V_lookup (off := 83) (tgt := 105) C dX5_doPart_22 (by decide +kernel) (by omega) (by decide +kernel) (by decide) ?_
      refine V_aload_n C dX5_doPart_105 rfl rfl ?_
      refine V_iload_n C dX5_doPart_106 rfl rfl ?_
      refine V_aload_n C dX5_doPart_107 rfl rfl ?_
      refine V_getH (L := clL G) C dX5_doPart_108 fX5_10 (by decide) (fun _ => rfl) rfl ?_
      refine V_aload_n C dX5_doPart_111 rfl rfl ?_
      refine V_getH (L := clL G) C dX5_doPart_112 fX5_30 (by decide) (fun _ => rfl) rfl ?_
      refine V_getH (L := scL) C dX5_doPart_115 fX5_361 (by decide) (fun _ => rfl) rfl ?_
      rw [s3]
      refine V_V1 (k2 := 0) (s2 := 0) C dX5_doPart_118 lX5_65 kX2_numberIn (c_X2_numberIn G K r 1 rfl q g2) (by decide) (rfl) rfl rfl rfl ⟨Nat.le_of_ble_eq_true rfl, Nat.le_of_ble_eq_true rfl⟩ (Nat.le_of_ble_eq_true rfl) (Nat.le_refl _) (Nat.le_refl _) ?_
      rw [kq]
      refine V_isub C dX5_doPart_121 ?_
      refine V_V1 (k2 := 0) (s2 := 0) C dX5_doPart_122 lX5_364 kX5_giveIfFits (n_X5_giveIfFits G K r _ (by omega) (by omega)) (by decide) (rfl) rfl rfl rfl ⟨Nat.le_of_ble_eq_true rfl, Nat.le_of_ble_eq_true rfl⟩ (Nat.le_of_ble_eq_true rfl) (Nat.le_refl _) (Nat.le_refl _) ?_
      exact V_iret C dX5_doPart_125 rfl hZ rfl rfl
    · rw [if_neg c]
      refine ⟨us K 2 (us (K 2) p.toNat (z p.toNat - z q.toNat)), ?_, fun _ => RQ_give hq g1, fun w => absurd rfl w, off2 _, (by rw [us_ne _ _ (show (1 : Nat) ≠ 2 by decide)]), (by rw [us_ne _ _ (show (1 : Nat) ≠ 2 by decide)])⟩
      refine Ct_of kX5_doPart.1.1 (by decide) [some (rf G 0), none] rfl (Nat.le_of_ble_eq_true rfl) ?_
      intro x C hZ
      refine V_aload_n C dX5_doPart_0 rfl rfl ?_
      refine V_getH (L := clL G) C dX5_doPart_1 fX5_10 (by decide) (fun _ => rfl) rfl ?_
      refine V_aload_n C dX5_doPart_4 rfl rfl ?_
      refine V_getH (L := clL G) C dX5_doPart_5 fX5_30 (by decide) (fun _ => rfl) rfl ?_
      refine V_getH (L := scL) C dX5_doPart_8 fX5_354 (by decide) (fun _ => rfl) rfl ?_
      rw [s2]
      refine V_V1 (k2 := 0) (s2 := 0) C dX5_doPart_11 lX5_65 kX2_numberIn (c_X2_numberIn G K r 1 rfl p (by omega)) (by decide) (rfl) rfl rfl rfl ⟨Nat.le_of_ble_eq_true rfl, Nat.le_of_ble_eq_true rfl⟩ (Nat.le_of_ble_eq_true rfl) (Nat.le_refl _) (Nat.le_refl _) ?_
      rw [kp]
      refine V_istore_n C dX5_doPart_14 rfl (Nat.le_of_ble_eq_true rfl) rfl ?_
      refine V_aload_n C dX5_doPart_15 rfl rfl ?_
      refine V_getH (L := clL G) C dX5_doPart_16 fX5_30 (by decide) (fun _ => rfl) rfl ?_
      refine V_getH (L := scL) C dX5_doPart_19 fX5_357 (by decide) (fun _ => rfl) rfl ?_
      rw [hw]
      refine V_lookup (off := 83) (tgt := 105) C dX5_doPart_22 (by decide +kernel) (by omega) (by decide +kernel) (by decide) ?_
      refine V_aload_n C dX5_doPart_105 rfl rfl ?_
      refine V_iload_n C dX5_doPart_106 rfl rfl ?_
      refine V_aload_n C dX5_doPart_107 rfl rfl ?_
      refine V_getH (L := clL G) C dX5_doPart_108 fX5_10 (by decide) (fun _ => rfl) rfl ?_
      refine V_aload_n C dX5_doPart_111 rfl rfl ?_
      refine V_getH (L := clL G) C dX5_doPart_112 fX5_30 (by decide) (fun _ => rfl) rfl ?_
      refine V_getH (L := scL) C dX5_doPart_115 fX5_361 (by decide) (fun _ => rfl) rfl ?_
      rw [s3]
      refine V_V1 (k2 := 0) (s2 := 0) C dX5_doPart_118 lX5_65 kX2_numberIn (c_X2_numberIn G K r 1 rfl q g2) (by decide) (rfl) rfl rfl rfl ⟨Nat.le_of_ble_eq_true rfl, Nat.le_of_ble_eq_true rfl⟩ (Nat.le_of_ble_eq_true rfl) (Nat.le_refl _) (Nat.le_refl _) ?_
      rw [kq]
      refine V_isub C dX5_doPart_121 ?_
      refine V_V1 (k2 := 0) (s2 := 0) C dX5_doPart_122 lX5_364 kX5_giveIfFits (c_X5_giveIfFits G K r (by omega) _ (by omega) (by omega)) (by decide) (rfl) rfl rfl rfl ⟨Nat.le_of_ble_eq_true rfl, Nat.le_of_ble_eq_true rfl⟩ (Nat.le_of_ble_eq_true rfl) (Nat.le_refl _) (Nat.le_refl _) ?_
      exact V_iret C dX5_doPart_125 rfl hZ rfl (by rw [s2])
  · obtain ⟨e, g1⟩ := g
    subst e
    obtain ⟨s2, -⟩ := h2 (by decide) (by decide)
    have kp := hq.1 p.toNat (by omega)
    have z1 := hz.1 p.toNat (by omega)
    have gm1 := gm_18 (z p.toNat).toNat
    have eD : dos z 94 p q = us z p.toNat ((wo 22 (gm 18 (z p.toNat).toNat <<< 1) : Nat) : Int) := by unfold dos; rw [if_neg (by decide), if_neg (by decide), if_neg (by decide), if_pos rfl]
    have eR : rsn z 94 p q = if gm 18 (z p.toNat).toNat < 131072 then 0 else 1 := by unfold rsn; rw [if_neg (by decide), if_neg (by decide), if_pos rfl]
    rw [eD, eR]
    by_cases c : gm 18 (z p.toNat).toNat < 131072
    · rw [if_pos c, (wo_up (n := (z p.toNat).toNat) (by omega) c).1]
      refine ⟨us K 2 (us (K 2) p.toNat ((wo 18 (gm 18 (z p.toNat).toNat <<< 1) : Nat) : Int)), ?_, fun _ => RQ_give hq g1, fun w => absurd rfl w, off2 _, (by rw [us_ne _ _ (show (1 : Nat) ≠ 2 by decide)]), (by rw [us_ne _ _ (show (1 : Nat) ≠ 2 by decide)])⟩
      refine Ct_of kX5_doPart.1.1 (by decide) [some (rf G 0), none] rfl (Nat.le_of_ble_eq_true rfl) ?_
      intro x C hZ
      refine V_aload_n C dX5_doPart_0 rfl rfl ?_
      refine V_getH (L := clL G) C dX5_doPart_1 fX5_10 (by decide) (fun _ => rfl) rfl ?_
      refine V_aload_n C dX5_doPart_4 rfl rfl ?_
      refine V_getH (L := clL G) C dX5_doPart_5 fX5_30 (by decide) (fun _ => rfl) rfl ?_
      refine V_getH (L := scL) C dX5_doPart_8 fX5_354 (by decide) (fun _ => rfl) rfl ?_
      rw [s2]
      refine V_V1 (k2 := 0) (s2 := 0) C dX5_doPart_11 lX5_65 kX2_numberIn (c_X2_numberIn G K r 1 rfl p (by omega)) (by decide) (rfl) rfl rfl rfl ⟨Nat.le_of_ble_eq_true rfl, Nat.le_of_ble_eq_true rfl⟩ (Nat.le_of_ble_eq_true rfl) (Nat.le_refl _) (Nat.le_refl _) ?_
      rw [kp]
      refine V_istore_n C dX5_doPart_14 rfl (Nat.le_of_ble_eq_true rfl) rfl ?_
      refine V_aload_n C dX5_doPart_15 rfl rfl ?_
      refine V_getH (L := clL G) C dX5_doPart_16 fX5_30 (by decide) (fun _ => rfl) rfl ?_
      refine V_getH (L := scL) C dX5_doPart_19 fX5_357 (by decide) (fun _ => rfl) rfl ?_
      rw [hw]
      refine V_lookup (off := 104) (tgt := 126) C dX5_doPart_22 (by decide +kernel) (by omega) (by decide +kernel) (by decide) ?_
      refine V_aload_n C dX5_doPart_126 rfl rfl ?_
      refine V_iload_n C dX5_doPart_127 rfl rfl ?_
      refine V_S1 (k2 := 0) (s2 := 0) C dX5_doPart_128 lX5_89 kX5_greedyMark (i_X5_greedyMark G 28 false _ _ z1) rfl rfl ⟨Nat.le_of_ble_eq_true rfl, Nat.le_of_ble_eq_true rfl⟩ (Nat.le_of_ble_eq_true rfl) (Nat.le_refl _) (Nat.le_refl _) ?_
      refine V_V1 (k2 := 0) (s2 := 0) C dX5_doPart_131 lX5_367 kX5_doRaise (c_X5_doRaise G K r (by omega) _ c) (by decide) (rfl) rfl rfl rfl ⟨Nat.le_of_ble_eq_true rfl, Nat.le_of_ble_eq_true rfl⟩ (Nat.le_of_ble_eq_true rfl) (Nat.le_refl _) (Nat.le_refl _) ?_
      exact V_iret C dX5_doPart_134 rfl hZ rfl (by rw [s2])
    · rw [if_neg c]
      refine ⟨K, ?_, fun w => absurd w (by decide), fun _ => rfl, fun _ _ _ => rfl, rfl, rfl⟩
      refine Ct_of kX5_doPart.1.1 (by decide) [some (rf G 0), none] rfl (Nat.le_of_ble_eq_true rfl) ?_
      intro x C hZ
      refine V_aload_n C dX5_doPart_0 rfl rfl ?_
      refine V_getH (L := clL G) C dX5_doPart_1 fX5_10 (by decide) (fun _ => rfl) rfl ?_
      refine V_aload_n C dX5_doPart_4 rfl rfl ?_
      refine V_getH (L := clL G) C dX5_doPart_5 fX5_30 (by decide) (fun _ => rfl) rfl ?_
      refine V_getH (L := scL) C dX5_doPart_8 fX5_354 (by decide) (fun _ => rfl) rfl ?_
      rw [s2]
      refine V_V1 (k2 := 0) (s2 := 0) C dX5_doPart_11 lX5_65 kX2_numberIn (c_X2_numberIn G K r 1 rfl p (by omega)) (by decide) (rfl) rfl rfl rfl ⟨Nat.le_of_ble_eq_true rfl, Nat.le_of_ble_eq_true rfl⟩ (Nat.le_of_ble_eq_true rfl) (Nat.le_refl _) (Nat.le_refl _) ?_
      rw [kp]
      refine V_istore_n C dX5_doPart_14 rfl (Nat.le_of_ble_eq_true rfl) rfl ?_
      refine V_aload_n C dX5_doPart_15 rfl rfl ?_
      refine V_getH (L := clL G) C dX5_doPart_16 fX5_30 (by decide) (fun _ => rfl) rfl ?_
      refine V_getH (L := scL) C dX5_doPart_19 fX5_357 (by decide) (fun _ => rfl) rfl ?_
      rw [hw]
      refine V_lookup (off := 104) (tgt := 126) C dX5_doPart_22 (by decide +kernel) (by omega) (by decide +kernel) (by decide) ?_
      refine V_aload_n C dX5_doPart_126 rfl rfl ?_
      refine V_iload_n C dX5_doPart_127 rfl rfl ?_
      refine V_S1 (k2 := 0) (s2 := 0) C dX5_doPart_128 lX5_89 kX5_greedyMark (i_X5_greedyMark G 28 false _ _ z1) rfl rfl ⟨Nat.le_of_ble_eq_true rfl, Nat.le_of_ble_eq_true rfl⟩ (Nat.le_of_ble_eq_true rfl) (Nat.le_refl _) (Nat.le_refl _) ?_
      refine V_V1 (k2 := 0) (s2 := 0) C dX5_doPart_131 lX5_367 kX5_doRaise (n_X5_doRaise G K r _ gm1 c) (by decide) (rfl) rfl rfl rfl ⟨Nat.le_of_ble_eq_true rfl, Nat.le_of_ble_eq_true rfl⟩ (Nat.le_of_ble_eq_true rfl) (Nat.le_refl _) (Nat.le_refl _) ?_
      exact V_iret C dX5_doPart_134 rfl hZ rfl rfl
  · obtain ⟨e, g1⟩ := g
    subst e
    have s3 := h3 (.inl rfl)
    obtain ⟨v, hn⟩ := g_X2_numberIn G K r 1 rfl (K 7 2)
    have gm1 := gm_18 p.toNat
    have eD : dos z 115 p q = sdF z (z 6).toNat (gm 18 p.toNat) (cl p) (cl p) := by unfold dos; rw [if_neg (by decide), if_neg (by decide), if_neg (by decide), if_neg (by decide), if_pos rfl]
    have eR : rsn z 115 p q = if z 6 + (cl p : Nat) ≤ 64 then 0 else 3 := by unfold rsn; rw [if_neg (by decide), if_neg (by decide), if_neg (by decide), if_pos rfl]
    have ec : cl p = hl 18 (gm 18 p.toNat) + 1 := rfl
    rw [eD, eR]
    by_cases c : z 6 + (cl p : Nat) ≤ 64
    · rw [if_pos c, ec]
      rw [ec] at c
      refine ⟨_, ?_, fun _ => RQ_send hq hz gm1 (by omega), fun w => absurd rfl w, off1 _, (by rw [us_at, us_ne _ _ (show (3 : Nat) ≠ 2 by decide), us_ne _ _ (show (3 : Nat) ≠ 1 by decide)]), (by rw [us_at, us_ne _ _ (show (4 : Nat) ≠ 2 by decide), us_ne _ _ (show (4 : Nat) ≠ 1 by decide)])⟩
      refine Ct_of kX5_doPart.1.1 (by decide) [some (rf G 0), none] rfl (Nat.le_of_ble_eq_true rfl) ?_
      intro x C hZ
      refine V_aload_n C dX5_doPart_0 rfl rfl ?_
      refine V_getH (L := clL G) C dX5_doPart_1 fX5_10 (by decide) (fun _ => rfl) rfl ?_
      refine V_aload_n C dX5_doPart_4 rfl rfl ?_
      refine V_getH (L := clL G) C dX5_doPart_5 fX5_30 (by decide) (fun _ => rfl) rfl ?_
      refine V_getH (L := scL) C dX5_doPart_8 fX5_354 (by decide) (fun _ => rfl) rfl ?_
      
      refine V_V1 (k2 := 0) (s2 := 0) C dX5_doPart_11 lX5_65 kX2_numberIn (hn) (by decide) (rfl) rfl rfl rfl ⟨Nat.le_of_ble_eq_true rfl, Nat.le_of_ble_eq_true rfl⟩ (Nat.le_of_ble_eq_true rfl) (Nat.le_refl _) (Nat.le_refl _) ?_
      refine V_istore_n C dX5_doPart_14 rfl (Nat.le_of_ble_eq_true rfl) rfl ?_
      refine V_aload_n C dX5_doPart_15 rfl rfl ?_
      refine V_getH (L := clL G) C dX5_doPart_16 fX5_30 (by decide) (fun _ => rfl) rfl ?_
      refine V_getH (L := scL) C dX5_doPart_19 fX5_357 (by decide) (fun _ => rfl) rfl ?_
      rw [hw]
      refine V_lookup (off := 113) (tgt := 135) C dX5_doPart_22 (by decide +kernel) (by omega) (by decide +kernel) (by decide) ?_
      refine V_aload_n C dX5_doPart_135 rfl rfl ?_
      refine V_aload_n C dX5_doPart_136 rfl rfl ?_
      refine V_getH (L := clL G) C dX5_doPart_137 fX5_30 (by decide) (fun _ => rfl) rfl ?_
      refine V_getH (L := scL) C dX5_doPart_140 fX5_361 (by decide) (fun _ => rfl) rfl ?_
      rw [s3]
      refine V_V1 (k2 := 0) (s2 := 0) C dX5_doPart_143 lX5_370 kX5_doSend (c_X5_doSend G K r p g1 gL (z 6).toNat _ (by rw [hq.2.2]; exact (toN g6.1).symm) hq.2.1 (by rw [hq.2.2]; exact c)) (by decide) (rfl) rfl rfl rfl ⟨Nat.le_of_ble_eq_true rfl, Nat.le_of_ble_eq_true rfl⟩ (Nat.le_of_ble_eq_true rfl) (Nat.le_refl _) (Nat.le_refl _) ?_
      exact V_iret C dX5_doPart_146 rfl hZ rfl rfl
    · rw [if_neg c]
      rw [ec] at c
      refine ⟨K, ?_, fun w => absurd w (by decide), fun _ => rfl, fun _ _ _ => rfl, rfl, rfl⟩
      refine Ct_of kX5_doPart.1.1 (by decide) [some (rf G 0), none] rfl (Nat.le_of_ble_eq_true rfl) ?_
      intro x C hZ
      refine V_aload_n C dX5_doPart_0 rfl rfl ?_
      refine V_getH (L := clL G) C dX5_doPart_1 fX5_10 (by decide) (fun _ => rfl) rfl ?_
      refine V_aload_n C dX5_doPart_4 rfl rfl ?_
      refine V_getH (L := clL G) C dX5_doPart_5 fX5_30 (by decide) (fun _ => rfl) rfl ?_
      refine V_getH (L := scL) C dX5_doPart_8 fX5_354 (by decide) (fun _ => rfl) rfl ?_
      
      refine V_V1 (k2 := 0) (s2 := 0) C dX5_doPart_11 lX5_65 kX2_numberIn (hn) (by decide) (rfl) rfl rfl rfl ⟨Nat.le_of_ble_eq_true rfl, Nat.le_of_ble_eq_true rfl⟩ (Nat.le_of_ble_eq_true rfl) (Nat.le_refl _) (Nat.le_refl _) ?_
      refine V_istore_n C dX5_doPart_14 rfl (Nat.le_of_ble_eq_true rfl) rfl ?_
      refine V_aload_n C dX5_doPart_15 rfl rfl ?_
      refine V_getH (L := clL G) C dX5_doPart_16 fX5_30 (by decide) (fun _ => rfl) rfl ?_
      refine V_getH (L := scL) C dX5_doPart_19 fX5_357 (by decide) (fun _ => rfl) rfl ?_
      rw [hw]
      refine V_lookup (off := 113) (tgt := 135) C dX5_doPart_22 (by decide +kernel) (by omega) (by decide +kernel) (by decide) ?_
      refine V_aload_n C dX5_doPart_135 rfl rfl ?_
      refine V_aload_n C dX5_doPart_136 rfl rfl ?_
      refine V_getH (L := clL G) C dX5_doPart_137 fX5_30 (by decide) (fun _ => rfl) rfl ?_
      refine V_getH (L := scL) C dX5_doPart_140 fX5_361 (by decide) (fun _ => rfl) rfl ?_
      rw [s3]
      refine V_V1 (k2 := 0) (s2 := 0) C dX5_doPart_143 lX5_370 kX5_doSend (n_X5_doSend G K r p g1 gL (by rw [hq.2.2]; exact c)) (by decide) (rfl) rfl rfl rfl ⟨Nat.le_of_ble_eq_true rfl, Nat.le_of_ble_eq_true rfl⟩ (Nat.le_of_ble_eq_true rfl) (Nat.le_refl _) (Nat.le_refl _) ?_
      exact V_iret C dX5_doPart_146 rfl hZ rfl rfl
  · obtain ⟨e, g1⟩ := g
    subst e
    have s3 := h3 (.inr rfl)
    obtain ⟨v, hn⟩ := g_X2_numberIn G K r 1 rfl (K 7 2)
    have eD : dos z 102 p q = us z (7 + p.toNat) (1 - z (7 + p.toNat)) := by unfold dos; rw [if_neg (by decide), if_neg (by decide), if_neg (by decide), if_neg (by decide), if_neg (by decide)]
    have eR : rsn z 102 p q = if p ≤ z 6 - 1 then 0 else 4 := by unfold rsn; rw [if_neg (by decide), if_neg (by decide), if_neg (by decide), if_neg (by decide), if_pos rfl]
    rw [eD, eR]
    by_cases c : p ≤ z 6 - 1
    · rw [if_pos c]
      refine ⟨_, ?_, fun _ => RQ_turn (p := p.toNat) hq hz (by omega), fun w => absurd rfl w, off1 _, (by rw [us_at, us_ne _ _ (show (3 : Nat) ≠ 1 by decide)]), (by rw [us_at, us_ne _ _ (show (4 : Nat) ≠ 1 by decide)])⟩
      refine Ct_of kX5_doPart.1.1 (by decide) [some (rf G 0), none] rfl (Nat.le_of_ble_eq_true rfl) ?_
      intro x C hZ
      refine V_aload_n C dX5_doPart_0 rfl rfl ?_
      refine V_getH (L := clL G) C dX5_doPart_1 fX5_10 (by decide) (fun _ => rfl) rfl ?_
      refine V_aload_n C dX5_doPart_4 rfl rfl ?_
      refine V_getH (L := clL G) C dX5_doPart_5 fX5_30 (by decide) (fun _ => rfl) rfl ?_
      refine V_getH (L := scL) C dX5_doPart_8 fX5_354 (by decide) (fun _ => rfl) rfl ?_
      
      refine V_V1 (k2 := 0) (s2 := 0) C dX5_doPart_11 lX5_65 kX2_numberIn (hn) (by decide) (rfl) rfl rfl rfl ⟨Nat.le_of_ble_eq_true rfl, Nat.le_of_ble_eq_true rfl⟩ (Nat.le_of_ble_eq_true rfl) (Nat.le_refl _) (Nat.le_refl _) ?_
      refine V_istore_n C dX5_doPart_14 rfl (Nat.le_of_ble_eq_true rfl) rfl ?_
      refine V_aload_n C dX5_doPart_15 rfl rfl ?_
      refine V_getH (L := clL G) C dX5_doPart_16 fX5_30 (by decide) (fun _ => rfl) rfl ?_
      refine V_getH (L := scL) C dX5_doPart_19 fX5_357 (by decide) (fun _ => rfl) rfl ?_
      rw [hw]
      refine V_lookup (off := 125) (tgt := 147) C dX5_doPart_22 (by decide +kernel) (by omega) (by decide +kernel) (by decide) ?_
      refine V_aload_n C dX5_doPart_147 rfl rfl ?_
      refine V_aload_n C dX5_doPart_148 rfl rfl ?_
      refine V_getH (L := clL G) C dX5_doPart_149 fX5_30 (by decide) (fun _ => rfl) rfl ?_
      refine V_getH (L := scL) C dX5_doPart_152 fX5_361 (by decide) (fun _ => rfl) rfl ?_
      rw [s3]
      refine V_V1 (k2 := 0) (s2 := 0) C dX5_doPart_155 lX5_373 kX5_doTurn (c_X5_doTurn G K r p g1 gL _ hq.2.1 (by rw [hq.2.2]; omega)) (by decide) (rfl) rfl rfl rfl ⟨Nat.le_of_ble_eq_true rfl, Nat.le_of_ble_eq_true rfl⟩ (Nat.le_of_ble_eq_true rfl) (Nat.le_refl _) (Nat.le_refl _) ?_
      exact V_iret C dX5_doPart_158 rfl hZ rfl rfl
    · rw [if_neg c]
      refine ⟨K, ?_, fun w => absurd w (by decide), fun _ => rfl, fun _ _ _ => rfl, rfl, rfl⟩
      refine Ct_of kX5_doPart.1.1 (by decide) [some (rf G 0), none] rfl (Nat.le_of_ble_eq_true rfl) ?_
      intro x C hZ
      refine V_aload_n C dX5_doPart_0 rfl rfl ?_
      refine V_getH (L := clL G) C dX5_doPart_1 fX5_10 (by decide) (fun _ => rfl) rfl ?_
      refine V_aload_n C dX5_doPart_4 rfl rfl ?_
      refine V_getH (L := clL G) C dX5_doPart_5 fX5_30 (by decide) (fun _ => rfl) rfl ?_
      refine V_getH (L := scL) C dX5_doPart_8 fX5_354 (by decide) (fun _ => rfl) rfl ?_
      
      refine V_V1 (k2 := 0) (s2 := 0) C dX5_doPart_11 lX5_65 kX2_numberIn (hn) (by decide) (rfl) rfl rfl rfl ⟨Nat.le_of_ble_eq_true rfl, Nat.le_of_ble_eq_true rfl⟩ (Nat.le_of_ble_eq_true rfl) (Nat.le_refl _) (Nat.le_refl _) ?_
      refine V_istore_n C dX5_doPart_14 rfl (Nat.le_of_ble_eq_true rfl) rfl ?_
      refine V_aload_n C dX5_doPart_15 rfl rfl ?_
      refine V_getH (L := clL G) C dX5_doPart_16 fX5_30 (by decide) (fun _ => rfl) rfl ?_
      refine V_getH (L := scL) C dX5_doPart_19 fX5_357 (by decide) (fun _ => rfl) rfl ?_
      rw [hw]
      refine V_lookup (off := 125) (tgt := 147) C dX5_doPart_22 (by decide +kernel) (by omega) (by decide +kernel) (by decide) ?_
      refine V_aload_n C dX5_doPart_147 rfl rfl ?_
      refine V_aload_n C dX5_doPart_148 rfl rfl ?_
      refine V_getH (L := clL G) C dX5_doPart_149 fX5_30 (by decide) (fun _ => rfl) rfl ?_
      refine V_getH (L := scL) C dX5_doPart_152 fX5_361 (by decide) (fun _ => rfl) rfl ?_
      rw [s3]
      refine V_V1 (k2 := 0) (s2 := 0) C dX5_doPart_155 lX5_373 kX5_doTurn (n_X5_doTurn G K r p g1 gL (by rw [hq.2.2]; omega)) (by decide) (rfl) rfl rfl rfl ⟨Nat.le_of_ble_eq_true rfl, Nat.le_of_ble_eq_true rfl⟩ (Nat.le_of_ble_eq_true rfl) (Nat.le_refl _) (Nat.le_refl _) ?_
      exact V_iret C dX5_doPart_158 rfl hZ rfl rfl
set_option maxRecDepth 100000 in
set_option maxHeartbeats 4000000 in
theorem l_X5_doParts (G : GT) (K : Nat → Nat → Int) (r : Nat → Option Nat) (T : Nat) (hT : K 0 6 = T) (h60 : T ≤ 60) (ht : ∀ j, j < T → 33 ≤ K 6 j ∧ K 6 j ≤ 126) : ∀ (F a m : Nat) (z : Nat → Int) (p q : Int) (KW : Nat → Nat → Int), a ≤ T → T < a + F → m + F ≤ 200 → (wh (K 6) T F a).1 = true → scI (KW 7) → KW 7 0 = 0 → RQ KW 1 z → GZ z → KW 1 3 = -1 → KW 1 4 = 0 → (∀ q, q ≠ 1 → q ≠ 2 → q ≠ 7 → KW q = K q) → ∃ KF, (RQ KF 1 (wk (K 6) T F z p q a m).1 ∧ KF 1 3 = (if 0 < (wk (K 6) T F z p q a m).2.2.1 then ((wk (K 6) T F z p q a m).2.1 : Int) else -1) ∧ KF 1 4 = (wk (K 6) T F z p q a m).2.2.1 ∧ ∀ q, q ≠ 1 → q ≠ 2 → q ≠ 7 → KF q = K q) ∧ ∀ x : CxT, Cx G mX5_doParts x → ZM G x (some (.int (iI ((wk (K 6) T F z p q a m).2.1 : Int)))) 28 false (HP G KF r) → ∀ (o3 o4 : Option Value), V G mX5_doParts x 27 [some (rf G 0), some (.int (iI (m : Int))), some (.int (iI (a : Int))), o3, o4] [] 28 false (HP G KW r) 0 0 := by
  intro F
  induction F with
  | zero => intro a m z p q KW ha hF; omega
  | succ F ihF =>
  intro a m z p q KW ha hF hmF hw hI h0 hq hz h13 h14 hk
  obtain ⟨g1, g2, f', p1, p2, p3, p4, p5, p6, p7, p8⟩ := wh_part ha hF h0 hw
  have hok := pt_pOK ha g2 q
  have hI' : scI f' := pth_I ht (by omega) hI p1
  have h45 := fnS_45 p4
  obtain ⟨E, hE⟩ : ∃ E, E = (pt (K 6) T a).2.2.2 := ⟨_, rfl⟩
  have eE : a + (E - a) = E := by omega
  rw [← hE] at p1 p2 p3 p4 p8
  have qz : ∀ w, (pt (K 6) T a).1 = w → w ≠ 115 → w ≠ 102 → pz (K 6) T q a = (pt (K 6) T a).2.2.1 := by
    intro w e n1 n2
    rcases pt_ok ha g2 with u | u | u | u | u | u
    · exact u.2.2.2.2.2 q
    · exact u.2.2.2.2.2 q
    · exact u.2.2.2.2.2 q
    · unfold pz
      have c1 : ¬ (iA (K 6) T 115 115 a = true ∨ iA (K 6) T 102 102 a = true) := by
        intro v
        rcases v with v | v
        · have := pt_115 v; omega
        · have := pt_102 v; omega
      rw [if_neg c1]
    · omega
    · omega
  have hT9 : us KW 7 f' 0 6 = T := by rw [us_ne _ _ (by decide), hk 0 (by decide) (by decide) (by decide)]; exact hT
  obtain ⟨K1, d1, d2, d3, d4, d5, d6⟩ := c_X5_doPart G (us KW 7 f') r z (RQ_congr (us_ne _ _ (by decide)) (by rw [us_ne _ _ (by decide)]) (by rw [us_ne _ _ (by decide)]) hq) hz (pt (K 6) T a).1 (pt (K 6) T a).2.1 (pz (K 6) T q a) hok (by rw [us_at]; exact p5) (fun n1 n2 => by rw [us_at, qz _ rfl n1 n2]; exact p6 n1 n2) (fun n => by rw [us_at]; exact p7 n)
  rw [us_ne _ _ (show (1 : Nat) ≠ 7 by decide)] at d5 d6
  have k17 : K1 7 = f' := by rw [d4 7 (by decide) (by decide), us_at]
  have k1T : K1 0 6 = T := by rw [d4 0 (by decide) (by decide)]; exact hT9
  have hoff : ∀ q, q ≠ 1 → q ≠ 2 → q ≠ 7 → K1 q = K q := fun q n1 n2 n7 => by rw [d4 q n1 n2, us_ne _ _ n7]; exact hk q n1 n2 n7
  have hk59 := c_X3_take G K1 r 59 (by decide) (by rw [k17]; exact hI')
  rw [k17, fn59 h45] at hk59
  by_cases hr : rsn z (pt (K 6) T a).1 (pt (K 6) T a).2.1 (pz (K 6) T q a) = 0
  · have hq1 := d2 hr
    have hz1 := dos_GZ hz hok hr
    rw [hr] at d1
    rcases p8 with p8 | ⟨p8, c59, F', hF', hw'⟩
    · rw [wk_s g1 hr, wk_e (by rw [← hE]; omega)]
      refine ⟨us K1 7 (us f' 0 0), ⟨RQ_congr (us_ne _ _ (by decide)) (by rw [us_ne _ _ (by decide)]) (by rw [us_ne _ _ (by decide)]) hq1, by rw [us_ne _ _ (by decide), d5, h13]; rfl, by rw [us_ne _ _ (by decide), d6, h14], fun q n1 n2 n7 => by rw [us_ne _ _ n7]; exact hoff q n1 n2 n7⟩, fun x C hZ o3 o4 => ?_⟩
      have path : ∀ (n : Nat) (f f' : Nat → Int) (i : Nat), i + n ≤ T → scI f → pth (K 6) n f i f' → (∀ (o3 o4 : Option Value), V G mX5_doParts x 27 [some (rf G 0), some (.int (iI (m : Int))), some (.int (iI ((i + n : Nat) : Int))), o3, o4] [] 28 false (HP G (us KW 7 f') r) 0 0) → ∀ (o3 o4 : Option Value), V G mX5_doParts x 27 [some (rf G 0), some (.int (iI (m : Int))), some (.int (iI (i : Int))), o3, o4] [] 28 false (HP G (us KW 7 f) r) 0 0 := by
        intro n
        induction n with
        | zero =>
          intro f f' i hn hI pp hV o3 o4
          have e : f' = f := pp
          rw [← e]
          exact hV o3 o4
        | succ n ih =>
          intro f f' i hn hI pp hV o3 o4
          have g := ht i (by omega)
          have g59 := pp.2.1
          have hk2 := c_X3_take G (us KW 7 f) r (K 6 i) (by have := ht i (by omega); omega) (by rw [us_at]; exact hI)
          rw [us_at, us_us, pp.1] at hk2
          refine V_iload_n C dX5_doParts_27 rfl rfl ?_
          refine V_aload_n C dX5_doParts_28 rfl rfl ?_
          refine V_getH (L := clL G) C dX5_doParts_29 fX5_146 (by decide) (fun _ => rfl) rfl ?_
          rw [show us KW 7 f 0 6 = T by rw [us_ne _ _ (by decide), hk 0 (by decide) (by decide) (by decide)]; exact hT]
          refine V_icmp_gt (tgt := 127) C dX5_doParts_32 (by decide) (by omega) (by omega) (fun q32 => by exfalso; omega) (fun q32 => ?_)
          refine V_iload_n C dX5_doParts_35 rfl rfl ?_
          refine V_aload_n C dX5_doParts_36 rfl rfl ?_
          refine V_getH (L := clL G) C dX5_doParts_37 fX5_23 (by decide) (fun _ => rfl) rfl ?_
          refine V_alenHc C dX5_doParts_40 (by decide) (fun _ => rfl) ?_
          refine V_icmp_gt (tgt := 127) C dX5_doParts_41 (by decide) (by omega) (by omega) (fun q41 => by exfalso; omega) (fun q41 => ?_)
          refine V_iload_n C dX5_doParts_44 rfl rfl ?_
          refine V_aload_n C dX5_doParts_45 rfl rfl ?_
          refine V_getH (L := clL G) C dX5_doParts_46 fX5_146 (by decide) (fun _ => rfl) rfl ?_
          rw [show us KW 7 f 0 6 = T by rw [us_ne _ _ (by decide), hk 0 (by decide) (by decide) (by decide)]; exact hT]
          refine V_icmp_ge (tgt := 70) C dX5_doParts_49 (by decide) (by omega) (by omega) (fun q49 => by exfalso; omega) (fun q49 => ?_)
          refine V_iload_n C dX5_doParts_52 rfl rfl ?_
          refine V_aload_n C dX5_doParts_53 rfl rfl ?_
          refine V_getH (L := clL G) C dX5_doParts_54 fX5_23 (by decide) (fun _ => rfl) rfl ?_
          refine V_alenHc C dX5_doParts_57 (by decide) (fun _ => rfl) ?_
          refine V_icmp_ge (tgt := 70) C dX5_doParts_58 (by decide) (by omega) (by omega) (fun q58 => by exfalso; omega) (fun q58 => ?_)
          refine V_aload_n C dX5_doParts_61 rfl rfl ?_
          refine V_getH (L := clL G) C dX5_doParts_62 fX5_23 (by decide) (fun _ => rfl) rfl ?_
          refine V_iload_n C dX5_doParts_65 rfl rfl ?_
          refine V_caldH C dX5_doParts_66 (by decide) (fun _ => rfl) (by omega) (by decide) ?_
          rw [tnN, show us KW 7 f 6 i = K 6 i by rw [us_ne _ _ (by decide), hk 6 (by decide) (by decide) (by decide)]]
          refine V_goto (tgt := 72) C dX5_doParts_67 (by decide) ?_
          refine V_istore_n C dX5_doParts_72 rfl (Nat.le_of_ble_eq_true rfl) rfl ?_
          refine V_iload_n C dX5_doParts_73 rfl rfl ?_
          refine V_bipush C dX5_doParts_74 (by decide +kernel) ?_
          refine V_icmp_ne (tgt := 112) C dX5_doParts_76 (by decide) (by omega) (by omega) (fun q76 => ?_) (fun q76 => by exfalso; omega)
          refine V_aload_n C dX5_doParts_112 rfl rfl ?_
          refine V_getH (L := clL G) C dX5_doParts_113 fX5_30 (by decide) (fun _ => rfl) rfl ?_
          refine V_iload_n C dX5_doParts_116 rfl rfl ?_
          refine V_V1 (k2 := 0) (s2 := 0) C dX5_doParts_117 lX5_347 kX3_take (hk2) (by decide) (rfl) rfl rfl rfl ⟨Nat.le_of_ble_eq_true rfl, Nat.le_of_ble_eq_true rfl⟩ (Nat.le_of_ble_eq_true rfl) (Nat.le_refl _) (Nat.le_refl _) ?_
          refine V_pop C dX5_doParts_120 rfl ?_
          refine V_iinc C dX5_doParts_121 rfl (Nat.le_of_ble_eq_true rfl) rfl ?_
          refine V_goto (tgt := 27) C dX5_doParts_124 (by decide) ?_
          exact ih _ _ (i + 1) (by omega) (scI_F hI (by omega)) pp.2.2 (fun o3 o4 => by rw [show i + 1 + n = i + (n + 1) by omega]; exact hV o3 o4) _ _
      have fin := path (E - a) (KW 7) f' a (by omega) hI p1 (fun o3 o4 => ?_) o3 o4
      · rw [us_same] at fin; exact fin
      · rw [eE]
        refine V_iload_n C dX5_doParts_27 rfl rfl ?_
        refine V_aload_n C dX5_doParts_28 rfl rfl ?_
        refine V_getH (L := clL G) C dX5_doParts_29 fX5_146 (by decide) (fun _ => rfl) rfl ?_
        rw [hT9]
        refine V_icmp_gt (tgt := 127) C dX5_doParts_32 (by decide) (by omega) (by omega) (fun q32 => by exfalso; omega) (fun q32 => ?_)
        refine V_iload_n C dX5_doParts_35 rfl rfl ?_
        refine V_aload_n C dX5_doParts_36 rfl rfl ?_
        refine V_getH (L := clL G) C dX5_doParts_37 fX5_23 (by decide) (fun _ => rfl) rfl ?_
        refine V_alenHc C dX5_doParts_40 (by decide) (fun _ => rfl) ?_
        refine V_icmp_gt (tgt := 127) C dX5_doParts_41 (by decide) (by omega) (by omega) (fun q41 => by exfalso; omega) (fun q41 => ?_)
        refine V_iload_n C dX5_doParts_44 rfl rfl ?_
        refine V_aload_n C dX5_doParts_45 rfl rfl ?_
        refine V_getH (L := clL G) C dX5_doParts_46 fX5_146 (by decide) (fun _ => rfl) rfl ?_
        rw [hT9]
        refine V_icmp_ge (tgt := 70) C dX5_doParts_49 (by decide) (by omega) (by omega) (fun q49 => ?_) (fun q49 => by exfalso; omega)
        refine V_bipush C dX5_doParts_70 (by decide +kernel) ?_
        refine V_istore_n C dX5_doParts_72 rfl (Nat.le_of_ble_eq_true rfl) rfl ?_
        refine V_iload_n C dX5_doParts_73 rfl rfl ?_
        refine V_bipush C dX5_doParts_74 (by decide +kernel) ?_
        refine V_icmp_ne (tgt := 112) C dX5_doParts_76 (by decide) (by omega) (by omega) (fun q76 => by exfalso; omega) (fun q76 => ?_)
        refine V_aload_n C dX5_doParts_79 rfl rfl ?_
        refine V_V1 (k2 := 0) (s2 := 0) C dX5_doParts_80 lX5_351 kX5_doPart (d1) (by decide) (rfl) rfl rfl rfl ⟨Nat.le_of_ble_eq_true rfl, Nat.le_of_ble_eq_true rfl⟩ (Nat.le_of_ble_eq_true rfl) (Nat.le_refl _) (Nat.le_refl _) ?_
        refine V_istore C dX5_doParts_83 (Nat.le_of_ble_eq_true rfl) rfl ?_
        refine V_iload C dX5_doParts_85 rfl ?_
        refine V_if_eq (tgt := 109) C dX5_doParts_87 (by decide) (by omega) (fun q87 => ?_) (fun q87 => by exfalso; omega)
        refine V_iinc C dX5_doParts_109 rfl (Nat.le_of_ble_eq_true rfl) rfl ?_
        refine V_aload_n C dX5_doParts_112 rfl rfl ?_
        refine V_getH (L := clL G) C dX5_doParts_113 fX5_30 (by decide) (fun _ => rfl) rfl ?_
        refine V_iload_n C dX5_doParts_116 rfl rfl ?_
        refine V_V1 (k2 := 0) (s2 := 0) C dX5_doParts_117 lX5_347 kX3_take (hk59) (by decide) (rfl) rfl rfl rfl ⟨Nat.le_of_ble_eq_true rfl, Nat.le_of_ble_eq_true rfl⟩ (Nat.le_of_ble_eq_true rfl) (Nat.le_refl _) (Nat.le_refl _) ?_
        refine V_pop C dX5_doParts_120 rfl ?_
        refine V_iinc C dX5_doParts_121 rfl (Nat.le_of_ble_eq_true rfl) rfl ?_
        refine V_goto (tgt := 27) C dX5_doParts_124 (by decide) ?_
        refine V_iload_n C dX5_doParts_27 rfl rfl ?_
        refine V_aload_n C dX5_doParts_28 rfl rfl ?_
        refine V_getH (L := clL G) C dX5_doParts_29 fX5_146 (by decide) (fun _ => rfl) rfl ?_
        rw [show us K1 7 (us f' 0 0) 0 6 = T by rw [us_ne _ _ (by decide)]; exact k1T]
        refine V_icmp_gt (tgt := 127) C dX5_doParts_32 (by decide) (by omega) (by omega) (fun q32 => ?_) (fun q32 => by exfalso; omega)
        refine V_iload_n C dX5_doParts_127 rfl rfl ?_
        exact V_iret C dX5_doParts_128 rfl hZ rfl rfl
    · have eF : F = F' := by omega
      subst eF
      obtain ⟨KF, hP, hV⟩ := ihF (E + 1) (m + 1) (dos z (pt (K 6) T a).1 (pt (K 6) T a).2.1 (pz (K 6) T q a)) (pt (K 6) T a).2.1 (pz (K 6) T q a) (us K1 7 (us f' 0 0)) (by omega) (by omega) (by omega) hw' (by rw [us_at]; exact us_I (.inl rfl)) (by rw [us_at]; rfl) (RQ_congr (us_ne _ _ (by decide)) (by rw [us_ne _ _ (by decide)]) (by rw [us_ne _ _ (by decide)]) hq1) hz1 (by rw [us_ne _ _ (by decide), d5, h13]) (by rw [us_ne _ _ (by decide), d6, h14]) (fun q n1 n2 n7 => by rw [us_ne _ _ n7]; exact hoff q n1 n2 n7)
      rw [wk_s g1 hr]
      rw [hE] at hP hV
      refine ⟨KF, hP, fun x C hZ o3 o4 => ?_⟩
      have hV2 := hV x C hZ
      rw [← hE] at hV2
      have h69 : us KW 7 f' 6 E = 59 := by rw [us_ne _ _ (by decide), hk 6 (by decide) (by decide) (by decide)]; exact c59
      have path : ∀ (n : Nat) (f f' : Nat → Int) (i : Nat), i + n ≤ T → scI f → pth (K 6) n f i f' → (∀ (o3 o4 : Option Value), V G mX5_doParts x 27 [some (rf G 0), some (.int (iI (m : Int))), some (.int (iI ((i + n : Nat) : Int))), o3, o4] [] 28 false (HP G (us KW 7 f') r) 0 0) → ∀ (o3 o4 : Option Value), V G mX5_doParts x 27 [some (rf G 0), some (.int (iI (m : Int))), some (.int (iI (i : Int))), o3, o4] [] 28 false (HP G (us KW 7 f) r) 0 0 := by
        intro n
        induction n with
        | zero =>
          intro f f' i hn hI pp hV o3 o4
          have e : f' = f := pp
          rw [← e]
          exact hV o3 o4
        | succ n ih =>
          intro f f' i hn hI pp hV o3 o4
          have g := ht i (by omega)
          have g59 := pp.2.1
          have hk2 := c_X3_take G (us KW 7 f) r (K 6 i) (by have := ht i (by omega); omega) (by rw [us_at]; exact hI)
          rw [us_at, us_us, pp.1] at hk2
          refine V_iload_n C dX5_doParts_27 rfl rfl ?_
          refine V_aload_n C dX5_doParts_28 rfl rfl ?_
          refine V_getH (L := clL G) C dX5_doParts_29 fX5_146 (by decide) (fun _ => rfl) rfl ?_
          rw [show us KW 7 f 0 6 = T by rw [us_ne _ _ (by decide), hk 0 (by decide) (by decide) (by decide)]; exact hT]
          refine V_icmp_gt (tgt := 127) C dX5_doParts_32 (by decide) (by omega) (by omega) (fun q32 => by exfalso; omega) (fun q32 => ?_)
          refine V_iload_n C dX5_doParts_35 rfl rfl ?_
          refine V_aload_n C dX5_doParts_36 rfl rfl ?_
          refine V_getH (L := clL G) C dX5_doParts_37 fX5_23 (by decide) (fun _ => rfl) rfl ?_
          refine V_alenHc C dX5_doParts_40 (by decide) (fun _ => rfl) ?_
          refine V_icmp_gt (tgt := 127) C dX5_doParts_41 (by decide) (by omega) (by omega) (fun q41 => by exfalso; omega) (fun q41 => ?_)
          refine V_iload_n C dX5_doParts_44 rfl rfl ?_
          refine V_aload_n C dX5_doParts_45 rfl rfl ?_
          refine V_getH (L := clL G) C dX5_doParts_46 fX5_146 (by decide) (fun _ => rfl) rfl ?_
          rw [show us KW 7 f 0 6 = T by rw [us_ne _ _ (by decide), hk 0 (by decide) (by decide) (by decide)]; exact hT]
          refine V_icmp_ge (tgt := 70) C dX5_doParts_49 (by decide) (by omega) (by omega) (fun q49 => by exfalso; omega) (fun q49 => ?_)
          refine V_iload_n C dX5_doParts_52 rfl rfl ?_
          refine V_aload_n C dX5_doParts_53 rfl rfl ?_
          refine V_getH (L := clL G) C dX5_doParts_54 fX5_23 (by decide) (fun _ => rfl) rfl ?_
          refine V_alenHc C dX5_doParts_57 (by decide) (fun _ => rfl) ?_
          refine V_icmp_ge (tgt := 70) C dX5_doParts_58 (by decide) (by omega) (by omega) (fun q58 => by exfalso; omega) (fun q58 => ?_)
          refine V_aload_n C dX5_doParts_61 rfl rfl ?_
          refine V_getH (L := clL G) C dX5_doParts_62 fX5_23 (by decide) (fun _ => rfl) rfl ?_
          refine V_iload_n C dX5_doParts_65 rfl rfl ?_
          refine V_caldH C dX5_doParts_66 (by decide) (fun _ => rfl) (by omega) (by decide) ?_
          rw [tnN, show us KW 7 f 6 i = K 6 i by rw [us_ne _ _ (by decide), hk 6 (by decide) (by decide) (by decide)]]
          refine V_goto (tgt := 72) C dX5_doParts_67 (by decide) ?_
          refine V_istore_n C dX5_doParts_72 rfl (Nat.le_of_ble_eq_true rfl) rfl ?_
          refine V_iload_n C dX5_doParts_73 rfl rfl ?_
          refine V_bipush C dX5_doParts_74 (by decide +kernel) ?_
          refine V_icmp_ne (tgt := 112) C dX5_doParts_76 (by decide) (by omega) (by omega) (fun q76 => ?_) (fun q76 => by exfalso; omega)
          refine V_aload_n C dX5_doParts_112 rfl rfl ?_
          refine V_getH (L := clL G) C dX5_doParts_113 fX5_30 (by decide) (fun _ => rfl) rfl ?_
          refine V_iload_n C dX5_doParts_116 rfl rfl ?_
          refine V_V1 (k2 := 0) (s2 := 0) C dX5_doParts_117 lX5_347 kX3_take (hk2) (by decide) (rfl) rfl rfl rfl ⟨Nat.le_of_ble_eq_true rfl, Nat.le_of_ble_eq_true rfl⟩ (Nat.le_of_ble_eq_true rfl) (Nat.le_refl _) (Nat.le_refl _) ?_
          refine V_pop C dX5_doParts_120 rfl ?_
          refine V_iinc C dX5_doParts_121 rfl (Nat.le_of_ble_eq_true rfl) rfl ?_
          refine V_goto (tgt := 27) C dX5_doParts_124 (by decide) ?_
          exact ih _ _ (i + 1) (by omega) (scI_F hI (by omega)) pp.2.2 (fun o3 o4 => by rw [show i + 1 + n = i + (n + 1) by omega]; exact hV o3 o4) _ _
      have fin := path (E - a) (KW 7) f' a (by omega) hI p1 (fun o3 o4 => ?_) o3 o4
      · rw [us_same] at fin; exact fin
      · rw [eE]
        refine V_iload_n C dX5_doParts_27 rfl rfl ?_
        refine V_aload_n C dX5_doParts_28 rfl rfl ?_
        refine V_getH (L := clL G) C dX5_doParts_29 fX5_146 (by decide) (fun _ => rfl) rfl ?_
        rw [hT9]
        refine V_icmp_gt (tgt := 127) C dX5_doParts_32 (by decide) (by omega) (by omega) (fun q32 => by exfalso; omega) (fun q32 => ?_)
        refine V_iload_n C dX5_doParts_35 rfl rfl ?_
        refine V_aload_n C dX5_doParts_36 rfl rfl ?_
        refine V_getH (L := clL G) C dX5_doParts_37 fX5_23 (by decide) (fun _ => rfl) rfl ?_
        refine V_alenHc C dX5_doParts_40 (by decide) (fun _ => rfl) ?_
        refine V_icmp_gt (tgt := 127) C dX5_doParts_41 (by decide) (by omega) (by omega) (fun q41 => by exfalso; omega) (fun q41 => ?_)
        refine V_iload_n C dX5_doParts_44 rfl rfl ?_
        refine V_aload_n C dX5_doParts_45 rfl rfl ?_
        refine V_getH (L := clL G) C dX5_doParts_46 fX5_146 (by decide) (fun _ => rfl) rfl ?_
        rw [hT9]
        refine V_icmp_ge (tgt := 70) C dX5_doParts_49 (by decide) (by omega) (by omega) (fun q49 => by exfalso; omega) (fun q49 => ?_)
        refine V_iload_n C dX5_doParts_52 rfl rfl ?_
        refine V_aload_n C dX5_doParts_53 rfl rfl ?_
        refine V_getH (L := clL G) C dX5_doParts_54 fX5_23 (by decide) (fun _ => rfl) rfl ?_
        refine V_alenHc C dX5_doParts_57 (by decide) (fun _ => rfl) ?_
        refine V_icmp_ge (tgt := 70) C dX5_doParts_58 (by decide) (by omega) (by omega) (fun q58 => by exfalso; omega) (fun q58 => ?_)
        refine V_aload_n C dX5_doParts_61 rfl rfl ?_
        refine V_getH (L := clL G) C dX5_doParts_62 fX5_23 (by decide) (fun _ => rfl) rfl ?_
        refine V_iload_n C dX5_doParts_65 rfl rfl ?_
        refine V_caldH C dX5_doParts_66 (by decide) (fun _ => rfl) (by omega) (by decide) ?_
        rw [tnN, h69]
        refine V_goto (tgt := 72) C dX5_doParts_67 (by decide) ?_
        refine V_istore_n C dX5_doParts_72 rfl (Nat.le_of_ble_eq_true rfl) rfl ?_
        refine V_iload_n C dX5_doParts_73 rfl rfl ?_
        refine V_bipush C dX5_doParts_74 (by decide +kernel) ?_
        refine V_icmp_ne (tgt := 112) C dX5_doParts_76 (by decide) (by omega) (by omega) (fun q76 => by exfalso; omega) (fun q76 => ?_)
        refine V_aload_n C dX5_doParts_79 rfl rfl ?_
        refine V_V1 (k2 := 0) (s2 := 0) C dX5_doParts_80 lX5_351 kX5_doPart (d1) (by decide) (rfl) rfl rfl rfl ⟨Nat.le_of_ble_eq_true rfl, Nat.le_of_ble_eq_true rfl⟩ (Nat.le_of_ble_eq_true rfl) (Nat.le_refl _) (Nat.le_refl _) ?_
        refine V_istore C dX5_doParts_83 (Nat.le_of_ble_eq_true rfl) rfl ?_
        refine V_iload C dX5_doParts_85 rfl ?_
        refine V_if_eq (tgt := 109) C dX5_doParts_87 (by decide) (by omega) (fun q87 => ?_) (fun q87 => by exfalso; omega)
        refine V_iinc C dX5_doParts_109 rfl (Nat.le_of_ble_eq_true rfl) rfl ?_
        refine V_aload_n C dX5_doParts_112 rfl rfl ?_
        refine V_getH (L := clL G) C dX5_doParts_113 fX5_30 (by decide) (fun _ => rfl) rfl ?_
        refine V_iload_n C dX5_doParts_116 rfl rfl ?_
        refine V_V1 (k2 := 0) (s2 := 0) C dX5_doParts_117 lX5_347 kX3_take (hk59) (by decide) (rfl) rfl rfl rfl ⟨Nat.le_of_ble_eq_true rfl, Nat.le_of_ble_eq_true rfl⟩ (Nat.le_of_ble_eq_true rfl) (Nat.le_refl _) (Nat.le_refl _) ?_
        refine V_pop C dX5_doParts_120 rfl ?_
        refine V_iinc C dX5_doParts_121 rfl (Nat.le_of_ble_eq_true rfl) rfl ?_
        refine V_goto (tgt := 27) C dX5_doParts_124 (by decide) ?_
        exact hV2 _ _
  · have eK := d3 hr
    rw [wk_n g1 hr]
    have rr := rsn_r z (pt (K 6) T a).1 (pt (K 6) T a).2.1 (pz (K 6) T q a)
    obtain ⟨RR, hRR⟩ : ∃ RR, RR = rsn z (pt (K 6) T a).1 (pt (K 6) T a).2.1 (pz (K 6) T q a) := ⟨_, rfl⟩
    rw [← hRR] at hr rr d1 ⊢
    refine ⟨us K1 1 (us (us (K1 1) 3 (m : Int)) 4 RR), ⟨?_, ?_, ?_, fun q n1 n2 n7 => by rw [us_ne _ _ n1]; exact hoff q n1 n2 n7⟩, fun x C hZ o3 o4 => ?_⟩
    · rw [eK]
      exact RQ_congr (by rw [us_ne _ _ (by decide), us_ne _ _ (by decide)]) (by rw [us_at, us_ne _ _ (by decide), us_ne _ _ (by decide), us_ne _ _ (by decide)]) (by rw [us_at, us_ne _ _ (by decide), us_ne _ _ (by decide), us_ne _ _ (by decide)]) hq
    · rw [us_at, us_ne _ _ (by decide), us_at]
      show (m : Int) = if 0 < RR then (m : Int) else -1
      rw [if_pos (by omega)]
    · rw [us_at, us_at]
    have path : ∀ (n : Nat) (f f' : Nat → Int) (i : Nat), i + n ≤ T → scI f → pth (K 6) n f i f' → (∀ (o3 o4 : Option Value), V G mX5_doParts x 27 [some (rf G 0), some (.int (iI (m : Int))), some (.int (iI ((i + n : Nat) : Int))), o3, o4] [] 28 false (HP G (us KW 7 f') r) 0 0) → ∀ (o3 o4 : Option Value), V G mX5_doParts x 27 [some (rf G 0), some (.int (iI (m : Int))), some (.int (iI (i : Int))), o3, o4] [] 28 false (HP G (us KW 7 f) r) 0 0 := by
      intro n
      induction n with
      | zero =>
        intro f f' i hn hI pp hV o3 o4
        have e : f' = f := pp
        rw [← e]
        exact hV o3 o4
      | succ n ih =>
        intro f f' i hn hI pp hV o3 o4
        have g := ht i (by omega)
        have g59 := pp.2.1
        have hk2 := c_X3_take G (us KW 7 f) r (K 6 i) (by have := ht i (by omega); omega) (by rw [us_at]; exact hI)
        rw [us_at, us_us, pp.1] at hk2
        refine V_iload_n C dX5_doParts_27 rfl rfl ?_
        refine V_aload_n C dX5_doParts_28 rfl rfl ?_
        refine V_getH (L := clL G) C dX5_doParts_29 fX5_146 (by decide) (fun _ => rfl) rfl ?_
        rw [show us KW 7 f 0 6 = T by rw [us_ne _ _ (by decide), hk 0 (by decide) (by decide) (by decide)]; exact hT]
        refine V_icmp_gt (tgt := 127) C dX5_doParts_32 (by decide) (by omega) (by omega) (fun q32 => by exfalso; omega) (fun q32 => ?_)
        refine V_iload_n C dX5_doParts_35 rfl rfl ?_
        refine V_aload_n C dX5_doParts_36 rfl rfl ?_
        refine V_getH (L := clL G) C dX5_doParts_37 fX5_23 (by decide) (fun _ => rfl) rfl ?_
        refine V_alenHc C dX5_doParts_40 (by decide) (fun _ => rfl) ?_
        refine V_icmp_gt (tgt := 127) C dX5_doParts_41 (by decide) (by omega) (by omega) (fun q41 => by exfalso; omega) (fun q41 => ?_)
        refine V_iload_n C dX5_doParts_44 rfl rfl ?_
        refine V_aload_n C dX5_doParts_45 rfl rfl ?_
        refine V_getH (L := clL G) C dX5_doParts_46 fX5_146 (by decide) (fun _ => rfl) rfl ?_
        rw [show us KW 7 f 0 6 = T by rw [us_ne _ _ (by decide), hk 0 (by decide) (by decide) (by decide)]; exact hT]
        refine V_icmp_ge (tgt := 70) C dX5_doParts_49 (by decide) (by omega) (by omega) (fun q49 => by exfalso; omega) (fun q49 => ?_)
        refine V_iload_n C dX5_doParts_52 rfl rfl ?_
        refine V_aload_n C dX5_doParts_53 rfl rfl ?_
        refine V_getH (L := clL G) C dX5_doParts_54 fX5_23 (by decide) (fun _ => rfl) rfl ?_
        refine V_alenHc C dX5_doParts_57 (by decide) (fun _ => rfl) ?_
        refine V_icmp_ge (tgt := 70) C dX5_doParts_58 (by decide) (by omega) (by omega) (fun q58 => by exfalso; omega) (fun q58 => ?_)
        refine V_aload_n C dX5_doParts_61 rfl rfl ?_
        refine V_getH (L := clL G) C dX5_doParts_62 fX5_23 (by decide) (fun _ => rfl) rfl ?_
        refine V_iload_n C dX5_doParts_65 rfl rfl ?_
        refine V_caldH C dX5_doParts_66 (by decide) (fun _ => rfl) (by omega) (by decide) ?_
        rw [tnN, show us KW 7 f 6 i = K 6 i by rw [us_ne _ _ (by decide), hk 6 (by decide) (by decide) (by decide)]]
        refine V_goto (tgt := 72) C dX5_doParts_67 (by decide) ?_
        refine V_istore_n C dX5_doParts_72 rfl (Nat.le_of_ble_eq_true rfl) rfl ?_
        refine V_iload_n C dX5_doParts_73 rfl rfl ?_
        refine V_bipush C dX5_doParts_74 (by decide +kernel) ?_
        refine V_icmp_ne (tgt := 112) C dX5_doParts_76 (by decide) (by omega) (by omega) (fun q76 => ?_) (fun q76 => by exfalso; omega)
        refine V_aload_n C dX5_doParts_112 rfl rfl ?_
        refine V_getH (L := clL G) C dX5_doParts_113 fX5_30 (by decide) (fun _ => rfl) rfl ?_
        refine V_iload_n C dX5_doParts_116 rfl rfl ?_
        refine V_V1 (k2 := 0) (s2 := 0) C dX5_doParts_117 lX5_347 kX3_take (hk2) (by decide) (rfl) rfl rfl rfl ⟨Nat.le_of_ble_eq_true rfl, Nat.le_of_ble_eq_true rfl⟩ (Nat.le_of_ble_eq_true rfl) (Nat.le_refl _) (Nat.le_refl _) ?_
        refine V_pop C dX5_doParts_120 rfl ?_
        refine V_iinc C dX5_doParts_121 rfl (Nat.le_of_ble_eq_true rfl) rfl ?_
        refine V_goto (tgt := 27) C dX5_doParts_124 (by decide) ?_
        exact ih _ _ (i + 1) (by omega) (scI_F hI (by omega)) pp.2.2 (fun o3 o4 => by rw [show i + 1 + n = i + (n + 1) by omega]; exact hV o3 o4) _ _
    have fin := path (E - a) (KW 7) f' a (by omega) hI p1 (fun o3 o4 => ?_) o3 o4
    · rw [us_same] at fin; exact fin
    · rw [eE]
      rcases p8 with p8 | ⟨p8, c59, -⟩
      · skip
        refine V_iload_n C dX5_doParts_27 rfl rfl ?_
        refine V_aload_n C dX5_doParts_28 rfl rfl ?_
        refine V_getH (L := clL G) C dX5_doParts_29 fX5_146 (by decide) (fun _ => rfl) rfl ?_
        rw [hT9]
        refine V_icmp_gt (tgt := 127) C dX5_doParts_32 (by decide) (by omega) (by omega) (fun q32 => by exfalso; omega) (fun q32 => ?_)
        refine V_iload_n C dX5_doParts_35 rfl rfl ?_
        refine V_aload_n C dX5_doParts_36 rfl rfl ?_
        refine V_getH (L := clL G) C dX5_doParts_37 fX5_23 (by decide) (fun _ => rfl) rfl ?_
        refine V_alenHc C dX5_doParts_40 (by decide) (fun _ => rfl) ?_
        refine V_icmp_gt (tgt := 127) C dX5_doParts_41 (by decide) (by omega) (by omega) (fun q41 => by exfalso; omega) (fun q41 => ?_)
        refine V_iload_n C dX5_doParts_44 rfl rfl ?_
        refine V_aload_n C dX5_doParts_45 rfl rfl ?_
        refine V_getH (L := clL G) C dX5_doParts_46 fX5_146 (by decide) (fun _ => rfl) rfl ?_
        rw [hT9]
        refine V_icmp_ge (tgt := 70) C dX5_doParts_49 (by decide) (by omega) (by omega) (fun q49 => ?_) (fun q49 => by exfalso; omega)
        refine V_bipush C dX5_doParts_70 (by decide +kernel) ?_
        refine V_istore_n C dX5_doParts_72 rfl (Nat.le_of_ble_eq_true rfl) rfl ?_
        refine V_iload_n C dX5_doParts_73 rfl rfl ?_
        refine V_bipush C dX5_doParts_74 (by decide +kernel) ?_
        refine V_icmp_ne (tgt := 112) C dX5_doParts_76 (by decide) (by omega) (by omega) (fun q76 => by exfalso; omega) (fun q76 => ?_)
        refine V_aload_n C dX5_doParts_79 rfl rfl ?_
        refine V_V1 (k2 := 0) (s2 := 0) C dX5_doParts_80 lX5_351 kX5_doPart (d1) (by decide) (rfl) rfl rfl rfl ⟨Nat.le_of_ble_eq_true rfl, Nat.le_of_ble_eq_true rfl⟩ (Nat.le_of_ble_eq_true rfl) (Nat.le_refl _) (Nat.le_refl _) ?_
        refine V_istore C dX5_doParts_83 (Nat.le_of_ble_eq_true rfl) rfl ?_
        refine V_iload C dX5_doParts_85 rfl ?_
        refine V_if_eq (tgt := 109) C dX5_doParts_87 (by decide) (by omega) (fun q87 => by exfalso; omega) (fun q87 => ?_)
        refine V_aload_n C dX5_doParts_90 rfl rfl ?_
        refine V_getH (L := clL G) C dX5_doParts_91 fX5_10 (by decide) (fun _ => rfl) rfl ?_
        refine V_iload_n C dX5_doParts_94 rfl rfl ?_
        refine V_putH (L := stL G 1) (ty := .int) C dX5_doParts_95 fX5_164 (by decide) (fun _ => rfl) rfl (by decide +kernel) (rfl) (rfl) (Nat.le_of_ble_eq_true rfl) rfl ?_
        refine V_aload_n C dX5_doParts_98 rfl rfl ?_
        refine V_getH (L := clL G) C dX5_doParts_99 fX5_10 (by decide) (fun _ => rfl) rfl ?_
        refine V_iload C dX5_doParts_102 rfl ?_
        refine V_putH (L := stL G 1) (ty := .int) C dX5_doParts_104 fX5_170 (by decide) (fun _ => rfl) rfl (by decide +kernel) (rfl) (rfl) (Nat.le_of_ble_eq_true rfl) rfl ?_
        refine V_iload_n C dX5_doParts_107 rfl rfl ?_
        exact V_iret C dX5_doParts_108 rfl hZ rfl (by simp only [us_at, us_us]; try rfl)
      · have h69 : us KW 7 f' 6 E = 59 := by rw [us_ne _ _ (by decide), hk 6 (by decide) (by decide) (by decide)]; exact c59
        refine V_iload_n C dX5_doParts_27 rfl rfl ?_
        refine V_aload_n C dX5_doParts_28 rfl rfl ?_
        refine V_getH (L := clL G) C dX5_doParts_29 fX5_146 (by decide) (fun _ => rfl) rfl ?_
        rw [hT9]
        refine V_icmp_gt (tgt := 127) C dX5_doParts_32 (by decide) (by omega) (by omega) (fun q32 => by exfalso; omega) (fun q32 => ?_)
        refine V_iload_n C dX5_doParts_35 rfl rfl ?_
        refine V_aload_n C dX5_doParts_36 rfl rfl ?_
        refine V_getH (L := clL G) C dX5_doParts_37 fX5_23 (by decide) (fun _ => rfl) rfl ?_
        refine V_alenHc C dX5_doParts_40 (by decide) (fun _ => rfl) ?_
        refine V_icmp_gt (tgt := 127) C dX5_doParts_41 (by decide) (by omega) (by omega) (fun q41 => by exfalso; omega) (fun q41 => ?_)
        refine V_iload_n C dX5_doParts_44 rfl rfl ?_
        refine V_aload_n C dX5_doParts_45 rfl rfl ?_
        refine V_getH (L := clL G) C dX5_doParts_46 fX5_146 (by decide) (fun _ => rfl) rfl ?_
        rw [hT9]
        refine V_icmp_ge (tgt := 70) C dX5_doParts_49 (by decide) (by omega) (by omega) (fun q49 => by exfalso; omega) (fun q49 => ?_)
        refine V_iload_n C dX5_doParts_52 rfl rfl ?_
        refine V_aload_n C dX5_doParts_53 rfl rfl ?_
        refine V_getH (L := clL G) C dX5_doParts_54 fX5_23 (by decide) (fun _ => rfl) rfl ?_
        refine V_alenHc C dX5_doParts_57 (by decide) (fun _ => rfl) ?_
        refine V_icmp_ge (tgt := 70) C dX5_doParts_58 (by decide) (by omega) (by omega) (fun q58 => by exfalso; omega) (fun q58 => ?_)
        refine V_aload_n C dX5_doParts_61 rfl rfl ?_
        refine V_getH (L := clL G) C dX5_doParts_62 fX5_23 (by decide) (fun _ => rfl) rfl ?_
        refine V_iload_n C dX5_doParts_65 rfl rfl ?_
        refine V_caldH C dX5_doParts_66 (by decide) (fun _ => rfl) (by omega) (by decide) ?_
        rw [tnN, h69]
        refine V_goto (tgt := 72) C dX5_doParts_67 (by decide) ?_
        refine V_istore_n C dX5_doParts_72 rfl (Nat.le_of_ble_eq_true rfl) rfl ?_
        refine V_iload_n C dX5_doParts_73 rfl rfl ?_
        refine V_bipush C dX5_doParts_74 (by decide +kernel) ?_
        refine V_icmp_ne (tgt := 112) C dX5_doParts_76 (by decide) (by omega) (by omega) (fun q76 => by exfalso; omega) (fun q76 => ?_)
        refine V_aload_n C dX5_doParts_79 rfl rfl ?_
        refine V_V1 (k2 := 0) (s2 := 0) C dX5_doParts_80 lX5_351 kX5_doPart (d1) (by decide) (rfl) rfl rfl rfl ⟨Nat.le_of_ble_eq_true rfl, Nat.le_of_ble_eq_true rfl⟩ (Nat.le_of_ble_eq_true rfl) (Nat.le_refl _) (Nat.le_refl _) ?_
        refine V_istore C dX5_doParts_83 (Nat.le_of_ble_eq_true rfl) rfl ?_
        refine V_iload C dX5_doParts_85 rfl ?_
        refine V_if_eq (tgt := 109) C dX5_doParts_87 (by decide) (by omega) (fun q87 => by exfalso; omega) (fun q87 => ?_)
        refine V_aload_n C dX5_doParts_90 rfl rfl ?_
        refine V_getH (L := clL G) C dX5_doParts_91 fX5_10 (by decide) (fun _ => rfl) rfl ?_
        refine V_iload_n C dX5_doParts_94 rfl rfl ?_
        refine V_putH (L := stL G 1) (ty := .int) C dX5_doParts_95 fX5_164 (by decide) (fun _ => rfl) rfl (by decide +kernel) (rfl) (rfl) (Nat.le_of_ble_eq_true rfl) rfl ?_
        refine V_aload_n C dX5_doParts_98 rfl rfl ?_
        refine V_getH (L := clL G) C dX5_doParts_99 fX5_10 (by decide) (fun _ => rfl) rfl ?_
        refine V_iload C dX5_doParts_102 rfl ?_
        refine V_putH (L := stL G 1) (ty := .int) C dX5_doParts_104 fX5_170 (by decide) (fun _ => rfl) rfl (by decide +kernel) (rfl) (rfl) (Nat.le_of_ble_eq_true rfl) rfl ?_
        refine V_iload_n C dX5_doParts_107 rfl rfl ?_
        exact V_iret C dX5_doParts_108 rfl hZ rfl (by simp only [us_at, us_us]; try rfl)
set_option maxRecDepth 100000 in
set_option maxHeartbeats 4000000 in
theorem c_X5_doParts (G : GT) (K : Nat → Nat → Int) (r : Nat → Option Nat) (T : Nat) (hT : K 0 6 = T) (h60 : T ≤ 60) (ht : ∀ j, j < T → 33 ≤ K 6 j ∧ K 6 j ≤ 126) (z : Nat → Int) (hq : RQ K 1 z) (hz : GZ z) (hw : (wh (K 6) T (T + 1) 0).1 = true) (p q : Int) : ∃ KF, CtO G yX5_doParts mX5_doParts [rf G 0] K r (some (.int (iI ((wk (K 6) T (T + 1) z p q 0 0).2.1 : Int)))) KF r ∧ (RQ KF 1 (wk (K 6) T (T + 1) z p q 0 0).1 ∧ KF 1 3 = (if 0 < (wk (K 6) T (T + 1) z p q 0 0).2.2.1 then ((wk (K 6) T (T + 1) z p q 0 0).2.1 : Int) else -1) ∧ KF 1 4 = (wk (K 6) T (T + 1) z p q 0 0).2.2.1 ∧ ∀ q, q ≠ 1 → q ≠ 2 → q ≠ 7 → KF q = K q) := by
  obtain ⟨KF, hP, hV⟩ := l_X5_doParts G K r T hT h60 ht (T + 1) 0 0 z p q (us (us K 1 (us (us (K 1) 3 (-1)) 4 0)) 7 (us (K 7) 0 0)) (by omega) (by omega) (by omega) hw (by rw [us_at]; exact us_I (.inl rfl)) (by rw [us_at]; rfl) (RQ_congr (by rw [us_ne _ _ (by decide), us_ne _ _ (by decide)]) (by rw [us_ne _ _ (by decide), us_at, us_ne _ _ (by decide), us_ne _ _ (by decide)]) (by rw [us_ne _ _ (by decide), us_at, us_ne _ _ (by decide), us_ne _ _ (by decide)]) hq) hz (by rw [us_ne _ _ (by decide), us_at, us_ne _ _ (by decide), us_at]) (by rw [us_ne _ _ (by decide), us_at, us_at]) (fun q n1 n2 n7 => by rw [us_ne _ _ n7, us_ne _ _ n1])
  refine ⟨KF, ?_, hP⟩
  refine Ct_of kX5_doParts.1.1 (by decide) [some (rf G 0), none, none, none, none] rfl (Nat.le_of_ble_eq_true rfl) ?_
  intro x C hZ
  refine V_aload_n C dX5_doParts_0 rfl rfl ?_
  refine V_getH (L := clL G) C dX5_doParts_1 fX5_10 (by decide) (fun _ => rfl) rfl ?_
  refine V_iconst C dX5_doParts_4 ?_
  refine V_putH (L := stL G 1) (ty := .int) C dX5_doParts_5 fX5_164 (by decide) (fun _ => rfl) rfl (by decide +kernel) (rfl) (rfl) (Nat.le_of_ble_eq_true rfl) rfl ?_
  refine V_aload_n C dX5_doParts_8 rfl rfl ?_
  refine V_getH (L := clL G) C dX5_doParts_9 fX5_10 (by decide) (fun _ => rfl) rfl ?_
  refine V_iconst C dX5_doParts_12 ?_
  refine V_putH (L := stL G 1) (ty := .int) C dX5_doParts_13 fX5_170 (by decide) (fun _ => rfl) rfl (by decide +kernel) (rfl) (rfl) (Nat.le_of_ble_eq_true rfl) rfl ?_
  refine V_iconst C dX5_doParts_16 ?_
  refine V_istore_n C dX5_doParts_17 rfl (Nat.le_of_ble_eq_true rfl) rfl ?_
  refine V_aload_n C dX5_doParts_18 rfl rfl ?_
  refine V_getH (L := clL G) C dX5_doParts_19 fX5_30 (by decide) (fun _ => rfl) rfl ?_
  refine V_V0 (k2 := 0) (s2 := 0) C dX5_doParts_22 lX5_344 kX3_start (c_X3_start G _ r) (by decide) (rfl) rfl rfl rfl ⟨Nat.le_of_ble_eq_true rfl, Nat.le_of_ble_eq_true rfl⟩ (Nat.le_of_ble_eq_true rfl) (Nat.le_refl _) (Nat.le_refl _) ?_
  refine V_iconst C dX5_doParts_25 ?_
  refine V_istore_n C dX5_doParts_26 rfl (Nat.le_of_ble_eq_true rfl) rfl ?_
  refine V_hp ?_ (hV x C hZ none none)
  simp only [us_at, us_us]
  rfl
