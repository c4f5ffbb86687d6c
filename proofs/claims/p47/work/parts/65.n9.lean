set_option maxRecDepth 100000 in
set_option maxHeartbeats 4000000 in
theorem x1_X5_worthOfSet (G : GT) (K : Nat → Nat → Int) (r : Nat → Option Nat) (s : Nat → Int) (st : Nat) (kp : Int) (t : Nat → Int) (T : Nat) (h : IC K r s st kp t T) (hg : GI s st kp t T) (p : Int) (hp : -2147483648 ≤ p ∧ p < 2147483648) (hc : ¬ (0 ≤ p ∧ p ≤ 262143)) : OkX G yX5_worthOfSet mX5_worthOfSet [rf G 0, .int (iI p)] K r "java/lang/IllegalArgumentException" s st kp t T := by
  have hS := h.2.1
  have hQ := hS.1
  have hz := hg.1
  have g5 := hz.1
  have g6 := hz.2.1
  have hI := h.2.2.1
  have gst := hg.2.1
  have gkp := hg.2.2.1
  have gT := hg.2.2.2.1
  have e12 : K 1 2 = s 6 := hQ.2.2
  refine ⟨K, ?_, h, fun _ _ => rfl⟩
  refine CtX_of kX5_worthOfSet.1.1 (by decide) [some (rf G 0), some (.int (iI p))] rfl (Nat.le_of_ble_eq_true rfl) ?_
  intro x C hZ
  by_cases c : p < 0
  · skip
    refine V_iload_n C dX5_worthOfSet_0 rfl rfl ?_
    refine V_if_lt (tgt := 10) C dX5_worthOfSet_1 (by decide) (by omega) (fun q1 => ?_) (fun q1 => by exfalso; omega)
    exact V_throw 13 C TH_IAE rfl rfl dX5_worthOfSet_10 dX5_worthOfSet_13 dX5_worthOfSet_14 dX5_worthOfSet_16 dX5_worthOfSet_19 (Nat.le_of_ble_eq_true rfl) (Nat.le_of_ble_eq_true rfl) hZ rfl (by omega) (by omega)
  · skip
    refine V_iload_n C dX5_worthOfSet_0 rfl rfl ?_
    refine V_if_lt (tgt := 10) C dX5_worthOfSet_1 (by decide) (by omega) (fun q1 => by exfalso; omega) (fun q1 => ?_)
    refine V_iload_n C dX5_worthOfSet_4 rfl rfl ?_
    refine V_ldc (n := 262143) C dX5_worthOfSet_5 qX5_199 rfl ?_
    refine V_icmp_le (tgt := 20) C dX5_worthOfSet_7 (by decide) (by omega) (by omega) (fun q7 => by exfalso; omega) (fun q7 => ?_)
    exact V_throw 13 C TH_IAE rfl rfl dX5_worthOfSet_10 dX5_worthOfSet_13 dX5_worthOfSet_14 dX5_worthOfSet_16 dX5_worthOfSet_19 (Nat.le_of_ble_eq_true rfl) (Nat.le_of_ble_eq_true rfl) hZ rfl (by omega) (by omega)
set_option maxRecDepth 100000 in
set_option maxHeartbeats 4000000 in
theorem o_X5_worthOfSet (G : GT) (K : Nat → Nat → Int) (r : Nat → Option Nat) (s : Nat → Int) (st : Nat) (kp : Int) (t : Nat → Int) (T : Nat) (h : IC K r s st kp t T) (hg : GI s st kp t T) (p : Int) (hp : -2147483648 ≤ p ∧ p < 2147483648) (hc : 0 ≤ p ∧ p ≤ 262143) : OkO G yX5_worthOfSet mX5_worthOfSet [rf G 0, .int (iI p)] K r (.int (iI (wo 22 p.toNat : Nat))) s st kp t T := by
  have hS := h.2.1
  have hQ := hS.1
  have hz := hg.1
  have g5 := hz.1
  have g6 := hz.2.1
  have hI := h.2.2.1
  have gst := hg.2.1
  have gkp := hg.2.2.1
  have gT := hg.2.2.2.1
  have e12 : K 1 2 = s 6 := hQ.2.2
  have hp1 : ((p.toNat : Nat) : Int) = p := by omega
  refine ⟨K, r, ?_, h, fun _ _ => rfl⟩
  refine Ct_of kX5_worthOfSet.1.1 (by decide) [some (rf G 0), some (.int (iI p))] rfl (Nat.le_of_ble_eq_true rfl) ?_
  intro x C hZ
  refine V_iload_n C dX5_worthOfSet_0 rfl rfl ?_
  refine V_if_lt (tgt := 10) C dX5_worthOfSet_1 (by decide) (by omega) (fun q1 => by exfalso; omega) (fun q1 => ?_)
  refine V_iload_n C dX5_worthOfSet_4 rfl rfl ?_
  refine V_ldc (n := 262143) C dX5_worthOfSet_5 qX5_199 rfl ?_
  refine V_icmp_le (tgt := 20) C dX5_worthOfSet_7 (by decide) (by omega) (by omega) (fun q7 => ?_) (fun q7 => by exfalso; omega)
  refine V_iload_n C dX5_worthOfSet_20 rfl rfl ?_
  rw [← hp1]
  refine V_S1 (k2 := 0) (s2 := 0) C dX5_worthOfSet_21 lX5_202 kX5_worthOfMark (c_X5_worthOfMark p.toNat (by omega) G 28 false _) rfl rfl ⟨Nat.le_of_ble_eq_true rfl, Nat.le_of_ble_eq_true rfl⟩ (Nat.le_of_ble_eq_true rfl) (Nat.le_refl _) (Nat.le_refl _) ?_
  exact V_iret C dX5_worthOfSet_24 rfl hZ (by rw [wo_18 (by omega)]) rfl
set_option maxRecDepth 100000 in
set_option maxHeartbeats 4000000 in
theorem x1_X5_say (G : GT) (K : Nat → Nat → Int) (r : Nat → Option Nat) (s : Nat → Int) (st : Nat) (kp : Int) (t : Nat → Int) (T : Nat) (h : IC K r s st kp t T) (hg : GI s st kp t T) (p : Int) (hp : -2147483648 ≤ p ∧ p < 2147483648) (hc : ¬ (0 ≤ p ∧ p ≤ 6764)) : OkX G yX5_say mX5_say [rf G 0, .int (iI p)] K r "java/lang/IllegalArgumentException" s st kp t T := by
  have hS := h.2.1
  have hQ := hS.1
  have hz := hg.1
  have g5 := hz.1
  have g6 := hz.2.1
  have hI := h.2.2.1
  have gst := hg.2.1
  have gkp := hg.2.2.1
  have gT := hg.2.2.2.1
  have e12 : K 1 2 = s 6 := hQ.2.2
  refine ⟨K, ?_, h, fun _ _ => rfl⟩
  refine CtX_of kX5_say.1.1 (by decide) [some (rf G 0), some (.int (iI p))] rfl (Nat.le_of_ble_eq_true rfl) ?_
  intro x C hZ
  refine V_iload_n C dX5_say_0 rfl rfl ?_
  exact V_SX (k2 := 0) (s2 := 0) C dX5_say_1 lX5_62 kX5_checkNumber (x_X5_checkNumber G K r p (by omega) (by omega)) rfl rfl ⟨Nat.le_of_ble_eq_true rfl, Nat.le_of_ble_eq_true rfl⟩ (Nat.le_of_ble_eq_true rfl) (by omega) (by omega) (VX_out C rfl hZ)
set_option maxRecDepth 100000 in
set_option maxHeartbeats 4000000 in
theorem o_X5_say (G : GT) (K : Nat → Nat → Int) (r : Nat → Option Nat) (s : Nat → Int) (st : Nat) (kp : Int) (t : Nat → Int) (T : Nat) (h : IC K r s st kp t T) (hg : GI s st kp t T) (p : Int) (hp : -2147483648 ≤ p ∧ p < 2147483648) (hc : 0 ≤ p ∧ p ≤ 6764) : OkO G yX5_say mX5_say [rf G 0, .int (iI p)] K r (.int (iI (gm 18 p.toNat : Nat))) s st kp t T := by
  have hS := h.2.1
  have hQ := hS.1
  have hz := hg.1
  have g5 := hz.1
  have g6 := hz.2.1
  have hI := h.2.2.1
  have gst := hg.2.1
  have gkp := hg.2.2.1
  have gT := hg.2.2.2.1
  have e12 : K 1 2 = s 6 := hQ.2.2
  refine ⟨K, r, ?_, h, fun _ _ => rfl⟩
  refine Ct_of kX5_say.1.1 (by decide) [some (rf G 0), some (.int (iI p))] rfl (Nat.le_of_ble_eq_true rfl) ?_
  intro x C hZ
  refine V_iload_n C dX5_say_0 rfl rfl ?_
  refine V_S0 (k2 := 0) (s2 := 0) C dX5_say_1 lX5_62 kX5_checkNumber (c_X5_checkNumber G K r p (by omega) (by omega)) rfl rfl ⟨Nat.le_of_ble_eq_true rfl, Nat.le_of_ble_eq_true rfl⟩ (Nat.le_of_ble_eq_true rfl) (Nat.le_refl _) (Nat.le_refl _) ?_
  refine V_iload_n C dX5_say_4 rfl rfl ?_
  refine V_S1 (k2 := 0) (s2 := 0) C dX5_say_5 lX5_89 kX5_greedyMark (i_X5_greedyMark G 28 false _ p hc) rfl rfl ⟨Nat.le_of_ble_eq_true rfl, Nat.le_of_ble_eq_true rfl⟩ (Nat.le_of_ble_eq_true rfl) (Nat.le_refl _) (Nat.le_refl _) ?_
  exact V_iret C dX5_say_8 rfl hZ (by first | rfl | omega) rfl
set_option maxRecDepth 100000 in
set_option maxHeartbeats 4000000 in
theorem x1_X5_sayByCounting (G : GT) (K : Nat → Nat → Int) (r : Nat → Option Nat) (s : Nat → Int) (st : Nat) (kp : Int) (t : Nat → Int) (T : Nat) (h : IC K r s st kp t T) (hg : GI s st kp t T) (p : Int) (hp : -2147483648 ≤ p ∧ p < 2147483648) (hc : ¬ (0 ≤ p ∧ p ≤ 6764)) : OkX G yX5_sayByCounting mX5_sayByCounting [rf G 0, .int (iI p)] K r "java/lang/IllegalArgumentException" s st kp t T := by
  have hS := h.2.1
  have hQ := hS.1
  have hz := hg.1
  have g5 := hz.1
  have g6 := hz.2.1
  have hI := h.2.2.1
  have gst := hg.2.1
  have gkp := hg.2.2.1
  have gT := hg.2.2.2.1
  have e12 : K 1 2 = s 6 := hQ.2.2
  refine ⟨K, ?_, h, fun _ _ => rfl⟩
  refine CtX_of kX5_sayByCounting.1.1 (by decide) [some (rf G 0), some (.int (iI p))] rfl (Nat.le_of_ble_eq_true rfl) ?_
  intro x C hZ
  refine V_iload_n C dX5_sayByCounting_0 rfl rfl ?_
  exact V_SX (k2 := 0) (s2 := 0) C dX5_sayByCounting_1 lX5_62 kX5_checkNumber (x_X5_checkNumber G K r p (by omega) (by omega)) rfl rfl ⟨Nat.le_of_ble_eq_true rfl, Nat.le_of_ble_eq_true rfl⟩ (Nat.le_of_ble_eq_true rfl) (by omega) (by omega) (VX_out C rfl hZ)
set_option maxRecDepth 100000 in
set_option maxHeartbeats 4000000 in
theorem o_X5_sayByCounting (G : GT) (K : Nat → Nat → Int) (r : Nat → Option Nat) (s : Nat → Int) (st : Nat) (kp : Int) (t : Nat → Int) (T : Nat) (h : IC K r s st kp t T) (hg : GI s st kp t T) (p : Int) (hp : -2147483648 ≤ p ∧ p < 2147483648) (hc : 0 ≤ p ∧ p ≤ 6764) : OkO G yX5_sayByCounting mX5_sayByCounting [rf G 0, .int (iI p)] K r (.int (iI (gm 18 p.toNat : Nat))) s st kp t T := by
  have hS := h.2.1
  have hQ := hS.1
  have hz := hg.1
  have g5 := hz.1
  have g6 := hz.2.1
  have hI := h.2.2.1
  have gst := hg.2.1
  have gkp := hg.2.2.1
  have gT := hg.2.2.2.1
  have e12 : K 1 2 = s 6 := hQ.2.2
  refine ⟨K, r, ?_, h, fun _ _ => rfl⟩
  refine Ct_of kX5_sayByCounting.1.1 (by decide) [some (rf G 0), some (.int (iI p))] rfl (Nat.le_of_ble_eq_true rfl) ?_
  intro x C hZ
  refine V_iload_n C dX5_sayByCounting_0 rfl rfl ?_
  refine V_S0 (k2 := 0) (s2 := 0) C dX5_sayByCounting_1 lX5_62 kX5_checkNumber (c_X5_checkNumber G K r p (by omega) (by omega)) rfl rfl ⟨Nat.le_of_ble_eq_true rfl, Nat.le_of_ble_eq_true rfl⟩ (Nat.le_of_ble_eq_true rfl) (Nat.le_refl _) (Nat.le_refl _) ?_
  refine V_iload_n C dX5_sayByCounting_4 rfl rfl ?_
  refine V_S1 (k2 := 0) (s2 := 0) C dX5_sayByCounting_5 lX5_205 kX5_countedMark (i_X5_countedMark G 28 false _ p hc) rfl rfl ⟨Nat.le_of_ble_eq_true rfl, Nat.le_of_ble_eq_true rfl⟩ (Nat.le_of_ble_eq_true rfl) (Nat.le_refl _) (Nat.le_refl _) ?_
  exact V_iret C dX5_sayByCounting_8 rfl hZ (by first | rfl | omega) rfl
set_option maxRecDepth 100000 in
set_option maxHeartbeats 4000000 in
theorem x1_X5_fullSet (G : GT) (K : Nat → Nat → Int) (r : Nat → Option Nat) (s : Nat → Int) (st : Nat) (kp : Int) (t : Nat → Int) (T : Nat) (h : IC K r s st kp t T) (hg : GI s st kp t T) (p : Int) (hp : -2147483648 ≤ p ∧ p < 2147483648) (hc : ¬ (0 ≤ p ∧ p ≤ 6764)) : OkX G yX5_fullSet mX5_fullSet [rf G 0, .int (iI p)] K r "java/lang/IllegalArgumentException" s st kp t T := by
  have hS := h.2.1
  have hQ := hS.1
  have hz := hg.1
  have g5 := hz.1
  have g6 := hz.2.1
  have hI := h.2.2.1
  have gst := hg.2.1
  have gkp := hg.2.2.1
  have gT := hg.2.2.2.1
  have e12 : K 1 2 = s 6 := hQ.2.2
  refine ⟨K, ?_, h, fun _ _ => rfl⟩
  refine CtX_of kX5_fullSet.1.1 (by decide) [some (rf G 0), some (.int (iI p))] rfl (Nat.le_of_ble_eq_true rfl) ?_
  intro x C hZ
  refine V_iload_n C dX5_fullSet_0 rfl rfl ?_
  exact V_SX (k2 := 0) (s2 := 0) C dX5_fullSet_1 lX5_62 kX5_checkNumber (x_X5_checkNumber G K r p (by omega) (by omega)) rfl rfl ⟨Nat.le_of_ble_eq_true rfl, Nat.le_of_ble_eq_true rfl⟩ (Nat.le_of_ble_eq_true rfl) (by omega) (by omega) (VX_out C rfl hZ)
set_option maxRecDepth 100000 in
set_option maxHeartbeats 4000000 in
theorem o_X5_fullSet (G : GT) (K : Nat → Nat → Int) (r : Nat → Option Nat) (s : Nat → Int) (st : Nat) (kp : Int) (t : Nat → Int) (T : Nat) (h : IC K r s st kp t T) (hg : GI s st kp t T) (p : Int) (hp : -2147483648 ≤ p ∧ p < 2147483648) (hc : 0 ≤ p ∧ p ≤ 6764) : OkO G yX5_fullSet mX5_fullSet [rf G 0, .int (iI p)] K r (.int (iI (fm 18 p.toNat : Nat))) s st kp t T := by
  have hS := h.2.1
  have hQ := hS.1
  have hz := hg.1
  have g5 := hz.1
  have g6 := hz.2.1
  have hI := h.2.2.1
  have gst := hg.2.1
  have gkp := hg.2.2.1
  have gT := hg.2.2.2.1
  have e12 : K 1 2 = s 6 := hQ.2.2
  refine ⟨K, r, ?_, h, fun _ _ => rfl⟩
  refine Ct_of kX5_fullSet.1.1 (by decide) [some (rf G 0), some (.int (iI p))] rfl (Nat.le_of_ble_eq_true rfl) ?_
  intro x C hZ
  refine V_iload_n C dX5_fullSet_0 rfl rfl ?_
  refine V_S0 (k2 := 0) (s2 := 0) C dX5_fullSet_1 lX5_62 kX5_checkNumber (c_X5_checkNumber G K r p (by omega) (by omega)) rfl rfl ⟨Nat.le_of_ble_eq_true rfl, Nat.le_of_ble_eq_true rfl⟩ (Nat.le_of_ble_eq_true rfl) (Nat.le_refl _) (Nat.le_refl _) ?_
  refine V_iload_n C dX5_fullSet_4 rfl rfl ?_
  refine V_S1 (k2 := 0) (s2 := 0) C dX5_fullSet_5 lX5_208 kX5_fullMark (i_X5_fullMark G 28 false _ p hc) rfl rfl ⟨Nat.le_of_ble_eq_true rfl, Nat.le_of_ble_eq_true rfl⟩ (Nat.le_of_ble_eq_true rfl) (Nat.le_refl _) (Nat.le_refl _) ?_
  exact V_iret C dX5_fullSet_8 rfl hZ (by first | rfl | omega) rfl
set_option maxRecDepth 100000 in
set_option maxHeartbeats 4000000 in
theorem x1_X5_ways (G : GT) (K : Nat → Nat → Int) (r : Nat → Option Nat) (s : Nat → Int) (st : Nat) (kp : Int) (t : Nat → Int) (T : Nat) (h : IC K r s st kp t T) (hg : GI s st kp t T) (p : Int) (hp : -2147483648 ≤ p ∧ p < 2147483648) (hc : ¬ (0 ≤ p ∧ p ≤ 6764)) : OkX G yX5_ways mX5_ways [rf G 0, .int (iI p)] K r "java/lang/IllegalArgumentException" s st kp t T := by
  have hS := h.2.1
  have hQ := hS.1
  have hz := hg.1
  have g5 := hz.1
  have g6 := hz.2.1
  have hI := h.2.2.1
  have gst := hg.2.1
  have gkp := hg.2.2.1
  have gT := hg.2.2.2.1
  have e12 : K 1 2 = s 6 := hQ.2.2
  refine ⟨K, ?_, h, fun _ _ => rfl⟩
  refine CtX_of kX5_ways.1.1 (by decide) [some (rf G 0), some (.int (iI p))] rfl (Nat.le_of_ble_eq_true rfl) ?_
  intro x C hZ
  refine V_iload_n C dX5_ways_0 rfl rfl ?_
  exact V_SX (k2 := 0) (s2 := 0) C dX5_ways_1 lX5_62 kX5_checkNumber (x_X5_checkNumber G K r p (by omega) (by omega)) rfl rfl ⟨Nat.le_of_ble_eq_true rfl, Nat.le_of_ble_eq_true rfl⟩ (Nat.le_of_ble_eq_true rfl) (by omega) (by omega) (VX_out C rfl hZ)
theorem EqC_tb (K : Nat → Nat → Int) (n : Int) : EqC K (tbW 18 12 15 (putW 12 n 1 (us K 12 (us (K 12) 2 0)))) := fun q hq => by
  rw [tbW_ne (by omega) rfl rfl, putW_ne (by omega) (by omega) (by omega), us_ne _ _ (by omega)]
set_option maxRecDepth 100000 in
set_option maxHeartbeats 4000000 in
theorem o_X5_ways (G : GT) (K : Nat → Nat → Int) (r : Nat → Option Nat) (s : Nat → Int) (st : Nat) (kp : Int) (t : Nat → Int) (T : Nat) (h : IC K r s st kp t T) (hg : GI s st kp t T) (p : Int) (hp : -2147483648 ≤ p ∧ p < 2147483648) (hc : 0 ≤ p ∧ p ≤ 6764) : OkO G yX5_ways mX5_ways [rf G 0, .int (iI p)] K r (.int (iI (cw (gm 18 p.toNat)))) s st kp t T := by
  have hS := h.2.1
  have hQ := hS.1
  have hz := hg.1
  have g5 := hz.1
  have g6 := hz.2.1
  have hI := h.2.2.1
  have gst := hg.2.1
  have gkp := hg.2.2.1
  have gT := hg.2.2.2.1
  have e12 : K 1 2 = s 6 := hQ.2.2
  have hw := c_X5_waysInTable G K r p.toNat (by omega)
  rw [toN hc.1] at hw
  refine ⟨(tbW 18 12 15 (putW 12 p 1 (us K 12 (us (K 12) 2 0)))), r, ?_, IC_C (EqC_tb K p) h, (EqC_tb K p).FR⟩
  refine Ct_of kX5_ways.1.1 (by decide) [some (rf G 0), some (.int (iI p))] rfl (Nat.le_of_ble_eq_true rfl) ?_
  intro x C hZ
  refine V_iload_n C dX5_ways_0 rfl rfl ?_
  refine V_S0 (k2 := 0) (s2 := 0) C dX5_ways_1 lX5_62 kX5_checkNumber (c_X5_checkNumber G K r p (by omega) (by omega)) rfl rfl ⟨Nat.le_of_ble_eq_true rfl, Nat.le_of_ble_eq_true rfl⟩ (Nat.le_of_ble_eq_true rfl) (Nat.le_refl _) (Nat.le_refl _) ?_
  refine V_aload_n C dX5_ways_4 rfl rfl ?_
  refine V_iload_n C dX5_ways_5 rfl rfl ?_
  refine V_V1 (k2 := 0) (s2 := 0) C dX5_ways_6 lX5_211 kX5_waysInTable (hw) (by decide) (rfl) rfl rfl rfl ⟨Nat.le_of_ble_eq_true rfl, Nat.le_of_ble_eq_true rfl⟩ (Nat.le_of_ble_eq_true rfl) (Nat.le_refl _) (Nat.le_refl _) ?_
  exact V_iret C dX5_ways_9 rfl hZ (by first | rfl | omega) rfl
set_option maxRecDepth 100000 in
set_option maxHeartbeats 4000000 in
theorem x1_X5_waysByGaps (G : GT) (K : Nat → Nat → Int) (r : Nat → Option Nat) (s : Nat → Int) (st : Nat) (kp : Int) (t : Nat → Int) (T : Nat) (h : IC K r s st kp t T) (hg : GI s st kp t T) (p : Int) (hp : -2147483648 ≤ p ∧ p < 2147483648) (hc : ¬ (0 ≤ p ∧ p ≤ 6764)) : OkX G yX5_waysByGaps mX5_waysByGaps [rf G 0, .int (iI p)] K r "java/lang/IllegalArgumentException" s st kp t T := by
  have hS := h.2.1
  have hQ := hS.1
  have hz := hg.1
  have g5 := hz.1
  have g6 := hz.2.1
  have hI := h.2.2.1
  have gst := hg.2.1
  have gkp := hg.2.2.1
  have gT := hg.2.2.2.1
  have e12 : K 1 2 = s 6 := hQ.2.2
  refine ⟨K, ?_, h, fun _ _ => rfl⟩
  refine CtX_of kX5_waysByGaps.1.1 (by decide) [some (rf G 0), some (.int (iI p))] rfl (Nat.le_of_ble_eq_true rfl) ?_
  intro x C hZ
  refine V_iload_n C dX5_waysByGaps_0 rfl rfl ?_
  exact V_SX (k2 := 0) (s2 := 0) C dX5_waysByGaps_1 lX5_62 kX5_checkNumber (x_X5_checkNumber G K r p (by omega) (by omega)) rfl rfl ⟨Nat.le_of_ble_eq_true rfl, Nat.le_of_ble_eq_true rfl⟩ (Nat.le_of_ble_eq_true rfl) (by omega) (by omega) (VX_out C rfl hZ)
set_option maxRecDepth 100000 in
set_option maxHeartbeats 4000000 in
theorem o_X5_waysByGaps (G : GT) (K : Nat → Nat → Int) (r : Nat → Option Nat) (s : Nat → Int) (st : Nat) (kp : Int) (t : Nat → Int) (T : Nat) (h : IC K r s st kp t T) (hg : GI s st kp t T) (p : Int) (hp : -2147483648 ≤ p ∧ p < 2147483648) (hc : 0 ≤ p ∧ p ≤ 6764) : OkO G yX5_waysByGaps mX5_waysByGaps [rf G 0, .int (iI p)] K r (.int (iI (cw (gm 18 p.toNat)))) s st kp t T := by
  have hS := h.2.1
  have hQ := hS.1
  have hz := hg.1
  have g5 := hz.1
  have g6 := hz.2.1
  have hI := h.2.2.1
  have gst := hg.2.1
  have gkp := hg.2.2.1
  have gT := hg.2.2.2.1
  have e12 : K 1 2 = s 6 := hQ.2.2
  refine ⟨K, r, ?_, h, fun _ _ => rfl⟩
  refine Ct_of kX5_waysByGaps.1.1 (by decide) [some (rf G 0), some (.int (iI p))] rfl (Nat.le_of_ble_eq_true rfl) ?_
  intro x C hZ
  refine V_iload_n C dX5_waysByGaps_0 rfl rfl ?_
  refine V_S0 (k2 := 0) (s2 := 0) C dX5_waysByGaps_1 lX5_62 kX5_checkNumber (c_X5_checkNumber G K r p (by omega) (by omega)) rfl rfl ⟨Nat.le_of_ble_eq_true rfl, Nat.le_of_ble_eq_true rfl⟩ (Nat.le_of_ble_eq_true rfl) (Nat.le_refl _) (Nat.le_refl _) ?_
  refine V_iload_n C dX5_waysByGaps_4 rfl rfl ?_
  refine V_S1 (k2 := 0) (s2 := 0) C dX5_waysByGaps_5 lX5_89 kX5_greedyMark (i_X5_greedyMark G 28 false _ p hc) rfl rfl ⟨Nat.le_of_ble_eq_true rfl, Nat.le_of_ble_eq_true rfl⟩ (Nat.le_of_ble_eq_true rfl) (Nat.le_refl _) (Nat.le_refl _) ?_
  refine V_S1 (k2 := 0) (s2 := 0) C dX5_waysByGaps_8 lX5_214 kX5_waysOfMark (i_X5_waysOfMark p.toNat (by omega) G 28 false _) rfl rfl ⟨Nat.le_of_ble_eq_true rfl, Nat.le_of_ble_eq_true rfl⟩ (Nat.le_of_ble_eq_true rfl) (Nat.le_refl _) (Nat.le_refl _) ?_
  exact V_iret C dX5_waysByGaps_11 rfl hZ (by first | rfl | omega) rfl
set_option maxRecDepth 100000 in
set_option maxHeartbeats 4000000 in
theorem x1_X5_codeLength (G : GT) (K : Nat → Nat → Int) (r : Nat → Option Nat) (s : Nat → Int) (st : Nat) (kp : Int) (t : Nat → Int) (T : Nat) (h : IC K r s st kp t T) (hg : GI s st kp t T) (p : Int) (hp : -2147483648 ≤ p ∧ p < 2147483648) (hc : ¬ (1 ≤ p ∧ p ≤ 6764)) : OkX G yX5_codeLength mX5_codeLength [rf G 0, .int (iI p)] K r "java/lang/IllegalArgumentException" s st kp t T := by
  have hS := h.2.1
  have hQ := hS.1
  have hz := hg.1
  have g5 := hz.1
  have g6 := hz.2.1
  have hI := h.2.2.1
  have gst := hg.2.1
  have gkp := hg.2.2.1
  have gT := hg.2.2.2.1
  have e12 : K 1 2 = s 6 := hQ.2.2
  refine ⟨K, ?_, h, fun _ _ => rfl⟩
  refine CtX_of kX5_codeLength.1.1 (by decide) [some (rf G 0), some (.int (iI p))] rfl (Nat.le_of_ble_eq_true rfl) ?_
  intro x C hZ
  refine V_iload_n C dX5_codeLength_0 rfl rfl ?_
  exact V_SX (k2 := 0) (s2 := 0) C dX5_codeLength_1 lX5_101 kX5_checkNumberFromOne (x_X5_checkNumberFromOne G K r p (by omega) (by omega)) rfl rfl ⟨Nat.le_of_ble_eq_true rfl, Nat.le_of_ble_eq_true rfl⟩ (Nat.le_of_ble_eq_true rfl) (by omega) (by omega) (VX_out C rfl hZ)
set_option maxRecDepth 100000 in
set_option maxHeartbeats 4000000 in
theorem o_X5_codeLength (G : GT) (K : Nat → Nat → Int) (r : Nat → Option Nat) (s : Nat → Int) (st : Nat) (kp : Int) (t : Nat → Int) (T : Nat) (h : IC K r s st kp t T) (hg : GI s st kp t T) (p : Int) (hp : -2147483648 ≤ p ∧ p < 2147483648) (hc : 1 ≤ p ∧ p ≤ 6764) : OkO G yX5_codeLength mX5_codeLength [rf G 0, .int (iI p)] K r (.int (iI (cl p : Nat))) s st kp t T := by
  have hS := h.2.1
  have hQ := hS.1
  have hz := hg.1
  have g5 := hz.1
  have g6 := hz.2.1
  have hI := h.2.2.1
  have gst := hg.2.1
  have gkp := hg.2.2.1
  have gT := hg.2.2.2.1
  have e12 : K 1 2 = s 6 := hQ.2.2
  refine ⟨K, r, ?_, h, fun _ _ => rfl⟩
  refine Ct_of kX5_codeLength.1.1 (by decide) [some (rf G 0), some (.int (iI p))] rfl (Nat.le_of_ble_eq_true rfl) ?_
  intro x C hZ
  refine V_iload_n C dX5_codeLength_0 rfl rfl ?_
  refine V_S0 (k2 := 0) (s2 := 0) C dX5_codeLength_1 lX5_101 kX5_checkNumberFromOne (c_X5_checkNumberFromOne G K r p (by omega) (by omega)) rfl rfl ⟨Nat.le_of_ble_eq_true rfl, Nat.le_of_ble_eq_true rfl⟩ (Nat.le_of_ble_eq_true rfl) (Nat.le_refl _) (Nat.le_refl _) ?_
  refine V_iload_n C dX5_codeLength_4 rfl rfl ?_
  refine V_S1 (k2 := 0) (s2 := 0) C dX5_codeLength_5 lX5_89 kX5_greedyMark (i_X5_greedyMark G 28 false _ p (by omega)) rfl rfl ⟨Nat.le_of_ble_eq_true rfl, Nat.le_of_ble_eq_true rfl⟩ (Nat.le_of_ble_eq_true rfl) (Nat.le_refl _) (Nat.le_refl _) ?_
  refine V_S1 (k2 := 0) (s2 := 0) C dX5_codeLength_8 lX5_255 kX5_lengthOfCode (c_X5_lengthOfCode _ (by have := gm_18 p.toNat; omega) G 28 false _) rfl rfl ⟨Nat.le_of_ble_eq_true rfl, Nat.le_of_ble_eq_true rfl⟩ (Nat.le_of_ble_eq_true rfl) (Nat.le_refl _) (Nat.le_refl _) ?_
  exact V_iret C dX5_codeLength_11 rfl hZ rfl rfl
set_option maxRecDepth 100000 in
set_option maxHeartbeats 4000000 in
theorem x1_X5_spokenLength (G : GT) (K : Nat → Nat → Int) (r : Nat → Option Nat) (s : Nat → Int) (st : Nat) (kp : Int) (t : Nat → Int) (T : Nat) (h : IC K r s st kp t T) (hg : GI s st kp t T) (p : Int) (hp : -2147483648 ≤ p ∧ p < 2147483648) (q : Int) (hq : -2147483648 ≤ q ∧ q < 2147483648) (hc : ¬ (0 ≤ p ∧ p ≤ 2)) : OkX G yX5_spokenLength mX5_spokenLength [rf G 0, .int (iI p), .int (iI q)] K r "java/lang/IndexOutOfBoundsException" s st kp t T := by
  have hS := h.2.1
  have hQ := hS.1
  have hz := hg.1
  have g5 := hz.1
  have g6 := hz.2.1
  have hI := h.2.2.1
  have gst := hg.2.1
  have gkp := hg.2.2.1
  have gT := hg.2.2.2.1
  have e12 : K 1 2 = s 6 := hQ.2.2
  refine ⟨K, ?_, h, fun _ _ => rfl⟩
  refine CtX_of kX5_spokenLength.1.1 (by decide) [some (rf G 0), some (.int (iI p)), some (.int (iI q))] rfl (Nat.le_of_ble_eq_true rfl) ?_
  intro x C hZ
  refine V_iload_n C dX5_spokenLength_0 rfl rfl ?_
  exact V_SX (k2 := 0) (s2 := 0) C dX5_spokenLength_1 lX5_217 kX5_checkTribe (x_X5_checkTribe G K r p (by omega) (by omega)) rfl rfl ⟨Nat.le_of_ble_eq_true rfl, Nat.le_of_ble_eq_true rfl⟩ (Nat.le_of_ble_eq_true rfl) (by omega) (by omega) (VX_out C rfl hZ)
set_option maxRecDepth 100000 in
set_option maxHeartbeats 4000000 in
theorem x2_X5_spokenLength (G : GT) (K : Nat → Nat → Int) (r : Nat → Option Nat) (s : Nat → Int) (st : Nat) (kp : Int) (t : Nat → Int) (T : Nat) (h : IC K r s st kp t T) (hg : GI s st kp t T) (p : Int) (hp : -2147483648 ≤ p ∧ p < 2147483648) (q : Int) (hq : -2147483648 ≤ q ∧ q < 2147483648) (hc : 0 ≤ p ∧ p ≤ 2) (hd : ¬ (0 ≤ q ∧ q ≤ 6764)) : OkX G yX5_spokenLength mX5_spokenLength [rf G 0, .int (iI p), .int (iI q)] K r "java/lang/IllegalArgumentException" s st kp t T := by
  have hS := h.2.1
  have hQ := hS.1
  have hz := hg.1
  have g5 := hz.1
  have g6 := hz.2.1
  have hI := h.2.2.1
  have gst := hg.2.1
  have gkp := hg.2.2.1
  have gT := hg.2.2.2.1
  have e12 : K 1 2 = s 6 := hQ.2.2
  refine ⟨K, ?_, h, fun _ _ => rfl⟩
  refine CtX_of kX5_spokenLength.1.1 (by decide) [some (rf G 0), some (.int (iI p)), some (.int (iI q))] rfl (Nat.le_of_ble_eq_true rfl) ?_
  intro x C hZ
  refine V_iload_n C dX5_spokenLength_0 rfl rfl ?_
  refine V_S0 (k2 := 1) (s2 := 6) C dX5_spokenLength_1 lX5_217 kX5_checkTribe (c_X5_checkTribe G K r p (by omega) (by omega)) rfl rfl ⟨Nat.le_of_ble_eq_true rfl, Nat.le_of_ble_eq_true rfl⟩ (Nat.le_of_ble_eq_true rfl) (Nat.le_refl _) (Nat.le_refl _) ?_
  refine V_iload_n C dX5_spokenLength_4 rfl rfl ?_
  exact V_SX (k2 := 0) (s2 := 0) C dX5_spokenLength_5 lX5_62 kX5_checkNumber (x_X5_checkNumber G K r q (by omega) (by omega)) rfl rfl ⟨Nat.le_of_ble_eq_true rfl, Nat.le_of_ble_eq_true rfl⟩ (Nat.le_of_ble_eq_true rfl) (by omega) (by omega) (VX_out C rfl hZ)
set_option maxRecDepth 100000 in
set_option maxHeartbeats 4000000 in
theorem o_X5_spokenLength (G : GT) (K : Nat → Nat → Int) (r : Nat → Option Nat) (s : Nat → Int) (st : Nat) (kp : Int) (t : Nat → Int) (T : Nat) (h : IC K r s st kp t T) (hg : GI s st kp t T) (p : Int) (hp : -2147483648 ≤ p ∧ p < 2147483648) (q : Int) (hq : -2147483648 ≤ q ∧ q < 2147483648) (hc : 0 ≤ p ∧ p ≤ 2) (hd : 0 ≤ q ∧ q ≤ 6764) : OkO G yX5_spokenLength mX5_spokenLength [rf G 0, .int (iI p), .int (iI q)] K r (.int (iI (cn 22 (gm 18 q.toNat) : Nat))) s st kp t T := by
  have hS := h.2.1
  have hQ := hS.1
  have hz := hg.1
  have g5 := hz.1
  have g6 := hz.2.1
  have hI := h.2.2.1
  have gst := hg.2.1
  have gkp := hg.2.2.1
  have gT := hg.2.2.2.1
  have e12 : K 1 2 = s 6 := hQ.2.2
  refine ⟨K, r, ?_, h, fun _ _ => rfl⟩
  refine Ct_of kX5_spokenLength.1.1 (by decide) [some (rf G 0), some (.int (iI p)), some (.int (iI q))] rfl (Nat.le_of_ble_eq_true rfl) ?_
  intro x C hZ
  refine V_iload_n C dX5_spokenLength_0 rfl rfl ?_
  refine V_S0 (k2 := 0) (s2 := 0) C dX5_spokenLength_1 lX5_217 kX5_checkTribe (c_X5_checkTribe G K r p (by omega) (by omega)) rfl rfl ⟨Nat.le_of_ble_eq_true rfl, Nat.le_of_ble_eq_true rfl⟩ (Nat.le_of_ble_eq_true rfl) (Nat.le_refl _) (Nat.le_refl _) ?_
  refine V_iload_n C dX5_spokenLength_4 rfl rfl ?_
  refine V_S0 (k2 := 0) (s2 := 0) C dX5_spokenLength_5 lX5_62 kX5_checkNumber (c_X5_checkNumber G K r q (by omega) (by omega)) rfl rfl ⟨Nat.le_of_ble_eq_true rfl, Nat.le_of_ble_eq_true rfl⟩ (Nat.le_of_ble_eq_true rfl) (Nat.le_refl _) (Nat.le_refl _) ?_
  refine V_iload_n C dX5_spokenLength_8 rfl rfl ?_
  refine V_S1 (k2 := 0) (s2 := 0) C dX5_spokenLength_9 lX5_89 kX5_greedyMark (i_X5_greedyMark G 28 false _ q hd) rfl rfl ⟨Nat.le_of_ble_eq_true rfl, Nat.le_of_ble_eq_true rfl⟩ (Nat.le_of_ble_eq_true rfl) (Nat.le_refl _) (Nat.le_refl _) ?_
  refine V_S1 (k2 := 0) (s2 := 0) C dX5_spokenLength_12 lX5_220 kJ6_bitCount_0f7a4 (c_J6_bitCount_0f7a4 (gm 18 q.toNat) (by have := gm_18 q.toNat; omega) G 28 false _) rfl rfl ⟨Nat.le_of_ble_eq_true rfl, Nat.le_of_ble_eq_true rfl⟩ (Nat.le_of_ble_eq_true rfl) (Nat.le_refl _) (Nat.le_refl _) ?_
  exact V_iret C dX5_spokenLength_15 rfl hZ (by rw [bc_22 (by omega)]) rfl
set_option maxRecDepth 100000 in
set_option maxHeartbeats 4000000 in
theorem x1_X5_spokenAt (G : GT) (K : Nat → Nat → Int) (r : Nat → Option Nat) (s : Nat → Int) (st : Nat) (kp : Int) (t : Nat → Int) (T : Nat) (h : IC K r s st kp t T) (hg : GI s st kp t T) (p : Int) (hp : -2147483648 ≤ p ∧ p < 2147483648) (q : Int) (hq : -2147483648 ≤ q ∧ q < 2147483648) (u : Int) (hu : -2147483648 ≤ u ∧ u < 2147483648) (hc : ¬ (0 ≤ p ∧ p ≤ 2)) : OkX G yX5_spokenAt mX5_spokenAt [rf G 0, .int (iI p), .int (iI q), .int (iI u)] K r "java/lang/IndexOutOfBoundsException" s st kp t T := by
  have hS := h.2.1
  have hQ := hS.1
  have hz := hg.1
  have g5 := hz.1
  have g6 := hz.2.1
  have hI := h.2.2.1
  have gst := hg.2.1
  have gkp := hg.2.2.1
  have gT := hg.2.2.2.1
  have e12 : K 1 2 = s 6 := hQ.2.2
  refine ⟨K, ?_, h, fun _ _ => rfl⟩
  refine CtX_of kX5_spokenAt.1.1 (by decide) [some (rf G 0), some (.int (iI p)), some (.int (iI q)), some (.int (iI u)), none] rfl (Nat.le_of_ble_eq_true rfl) ?_
  intro x C hZ
  refine V_iload_n C dX5_spokenAt_0 rfl rfl ?_
  exact V_SX (k2 := 0) (s2 := 0) C dX5_spokenAt_1 lX5_217 kX5_checkTribe (x_X5_checkTribe G K r p (by omega) (by omega)) rfl rfl ⟨Nat.le_of_ble_eq_true rfl, Nat.le_of_ble_eq_true rfl⟩ (Nat.le_of_ble_eq_true rfl) (by omega) (by omega) (VX_out C rfl hZ)
set_option maxRecDepth 100000 in
set_option maxHeartbeats 4000000 in
theorem x2_X5_spokenAt (G : GT) (K : Nat → Nat → Int) (r : Nat → Option Nat) (s : Nat → Int) (st : Nat) (kp : Int) (t : Nat → Int) (T : Nat) (h : IC K r s st kp t T) (hg : GI s st kp t T) (p : Int) (hp : -2147483648 ≤ p ∧ p < 2147483648) (q : Int) (hq : -2147483648 ≤ q ∧ q < 2147483648) (u : Int) (hu : -2147483648 ≤ u ∧ u < 2147483648) (hc : 0 ≤ p ∧ p ≤ 2) (hd : ¬ (0 ≤ q ∧ q ≤ 6764 ∧ 0 ≤ u ∧ u < (cn 22 (gm 18 q.toNat) : Nat))) : OkX G yX5_spokenAt mX5_spokenAt [rf G 0, .int (iI p), .int (iI q), .int (iI u)] K r "java/lang/IllegalArgumentException" s st kp t T := by
  have hS := h.2.1
  have hQ := hS.1
  have hz := hg.1
  have g5 := hz.1
  have g6 := hz.2.1
  have hI := h.2.2.1
  have gst := hg.2.1
  have gkp := hg.2.2.1
  have gT := hg.2.2.2.1
  have e12 : K 1 2 = s 6 := hQ.2.2
  have f4 := gm_18 q.toNat
  have f5 := cn_le 22 (gm 18 q.toNat)
  refine ⟨K, ?_, h, fun _ _ => rfl⟩
  refine CtX_of kX5_spokenAt.1.1 (by decide) [some (rf G 0), some (.int (iI p)), some (.int (iI q)), some (.int (iI u)), none] rfl (Nat.le_of_ble_eq_true rfl) ?_
  intro x C hZ
  by_cases c1 : 0 ≤ q ∧ q ≤ 6764
  · by_cases c2 : u < 0
    · skip
      refine V_iload_n C dX5_spokenAt_0 rfl rfl ?_
      refine V_S0 (k2 := 1) (s2 := 6) C dX5_spokenAt_1 lX5_217 kX5_checkTribe (c_X5_checkTribe G K r p (by omega) (by omega)) rfl rfl ⟨Nat.le_of_ble_eq_true rfl, Nat.le_of_ble_eq_true rfl⟩ (Nat.le_of_ble_eq_true rfl) (Nat.le_refl _) (Nat.le_refl _) ?_
      refine V_iload_n C dX5_spokenAt_4 rfl rfl ?_
      refine V_S0 (k2 := 1) (s2 := 6) C dX5_spokenAt_5 lX5_62 kX5_checkNumber (c_X5_checkNumber G K r q (by omega) (by omega)) rfl rfl ⟨Nat.le_of_ble_eq_true rfl, Nat.le_of_ble_eq_true rfl⟩ (Nat.le_of_ble_eq_true rfl) (Nat.le_refl _) (Nat.le_refl _) ?_
      refine V_iload_n C dX5_spokenAt_8 rfl rfl ?_
      refine V_S1 (k2 := 1) (s2 := 6) C dX5_spokenAt_9 lX5_89 kX5_greedyMark (i_X5_greedyMark G 28 false _ q (by omega)) rfl rfl ⟨Nat.le_of_ble_eq_true rfl, Nat.le_of_ble_eq_true rfl⟩ (Nat.le_of_ble_eq_true rfl) (Nat.le_refl _) (Nat.le_refl _) ?_
      refine V_istore C dX5_spokenAt_12 (Nat.le_of_ble_eq_true rfl) rfl ?_
      refine V_iload_n C dX5_spokenAt_14 rfl rfl ?_
      refine V_if_lt (tgt := 27) C dX5_spokenAt_15 (by decide) (by omega) (fun q15 => ?_) (fun q15 => by exfalso; omega)
      exact V_throw 14 C TH_IAE rfl rfl dX5_spokenAt_27 dX5_spokenAt_30 dX5_spokenAt_31 dX5_spokenAt_33 dX5_spokenAt_36 (Nat.le_of_ble_eq_true rfl) (Nat.le_of_ble_eq_true rfl) hZ rfl (by omega) (by omega)
    · skip
      refine V_iload_n C dX5_spokenAt_0 rfl rfl ?_
      refine V_S0 (k2 := 1) (s2 := 6) C dX5_spokenAt_1 lX5_217 kX5_checkTribe (c_X5_checkTribe G K r p (by omega) (by omega)) rfl rfl ⟨Nat.le_of_ble_eq_true rfl, Nat.le_of_ble_eq_true rfl⟩ (Nat.le_of_ble_eq_true rfl) (Nat.le_refl _) (Nat.le_refl _) ?_
      refine V_iload_n C dX5_spokenAt_4 rfl rfl ?_
      refine V_S0 (k2 := 1) (s2 := 6) C dX5_spokenAt_5 lX5_62 kX5_checkNumber (c_X5_checkNumber G K r q (by omega) (by omega)) rfl rfl ⟨Nat.le_of_ble_eq_true rfl, Nat.le_of_ble_eq_true rfl⟩ (Nat.le_of_ble_eq_true rfl) (Nat.le_refl _) (Nat.le_refl _) ?_
      refine V_iload_n C dX5_spokenAt_8 rfl rfl ?_
      refine V_S1 (k2 := 1) (s2 := 6) C dX5_spokenAt_9 lX5_89 kX5_greedyMark (i_X5_greedyMark G 28 false _ q (by omega)) rfl rfl ⟨Nat.le_of_ble_eq_true rfl, Nat.le_of_ble_eq_true rfl⟩ (Nat.le_of_ble_eq_true rfl) (Nat.le_refl _) (Nat.le_refl _) ?_
      refine V_istore C dX5_spokenAt_12 (Nat.le_of_ble_eq_true rfl) rfl ?_
      refine V_iload_n C dX5_spokenAt_14 rfl rfl ?_
      refine V_if_lt (tgt := 27) C dX5_spokenAt_15 (by decide) (by omega) (fun q15 => by exfalso; omega) (fun q15 => ?_)
      refine V_iload_n C dX5_spokenAt_18 rfl rfl ?_
      refine V_iload C dX5_spokenAt_19 rfl ?_
      refine V_S1 (k2 := 1) (s2 := 6) C dX5_spokenAt_21 lX5_220 kJ6_bitCount_0f7a4 (c_J6_bitCount_0f7a4 (gm 18 q.toNat) (by have := gm_18 q.toNat; omega) G 28 false _) rfl rfl ⟨Nat.le_of_ble_eq_true rfl, Nat.le_of_ble_eq_true rfl⟩ (Nat.le_of_ble_eq_true rfl) (Nat.le_refl _) (Nat.le_refl _) ?_
      rw [bc_22 (by omega)]
      refine V_icmp_lt (tgt := 37) C dX5_spokenAt_24 (by decide) (by omega) (by omega) (fun q24 => by exfalso; omega) (fun q24 => ?_)
      exact V_throw 14 C TH_IAE rfl rfl dX5_spokenAt_27 dX5_spokenAt_30 dX5_spokenAt_31 dX5_spokenAt_33 dX5_spokenAt_36 (Nat.le_of_ble_eq_true rfl) (Nat.le_of_ble_eq_true rfl) hZ rfl (by omega) (by omega)
  · skip
    refine V_iload_n C dX5_spokenAt_0 rfl rfl ?_
    refine V_S0 (k2 := 1) (s2 := 6) C dX5_spokenAt_1 lX5_217 kX5_checkTribe (c_X5_checkTribe G K r p (by omega) (by omega)) rfl rfl ⟨Nat.le_of_ble_eq_true rfl, Nat.le_of_ble_eq_true rfl⟩ (Nat.le_of_ble_eq_true rfl) (Nat.le_refl _) (Nat.le_refl _) ?_
    refine V_iload_n C dX5_spokenAt_4 rfl rfl ?_
    exact V_SX (k2 := 0) (s2 := 0) C dX5_spokenAt_5 lX5_62 kX5_checkNumber (x_X5_checkNumber G K r q (by omega) (by omega)) rfl rfl ⟨Nat.le_of_ble_eq_true rfl, Nat.le_of_ble_eq_true rfl⟩ (Nat.le_of_ble_eq_true rfl) (by omega) (by omega) (VX_out C rfl hZ)
set_option maxRecDepth 100000 in
set_option maxHeartbeats 4000000 in
theorem o_X5_spokenAt (G : GT) (K : Nat → Nat → Int) (r : Nat → Option Nat) (s : Nat → Int) (st : Nat) (kp : Int) (t : Nat → Int) (T : Nat) (h : IC K r s st kp t T) (hg : GI s st kp t T) (p : Int) (hp : -2147483648 ≤ p ∧ p < 2147483648) (q : Int) (hq : -2147483648 ≤ q ∧ q < 2147483648) (u : Int) (hu : -2147483648 ≤ u ∧ u < 2147483648) (hc : 0 ≤ p ∧ p ≤ 2) (hd : 0 ≤ q ∧ q ≤ 6764 ∧ 0 ≤ u ∧ u < (cn 22 (gm 18 q.toNat) : Nat)) : OkO G yX5_spokenAt mX5_spokenAt [rf G 0, .int (iI p), .int (iI q), .int (iI u)] K r (.int (iI (wd (gm 18 q.toNat) p u))) s st kp t T := by
  have hS := h.2.1
  have hQ := hS.1
  have hz := hg.1
  have g5 := hz.1
  have g6 := hz.2.1
  have hI := h.2.2.1
  have gst := hg.2.1
  have gkp := hg.2.2.1
  have gT := hg.2.2.2.1
  have e12 : K 1 2 = s 6 := hQ.2.2
  have f4 := gm_18 q.toNat
  have f5 := cn_le 22 (gm 18 q.toNat)
  refine ⟨K, r, ?_, h, fun _ _ => rfl⟩
  refine Ct_of kX5_spokenAt.1.1 (by decide) [some (rf G 0), some (.int (iI p)), some (.int (iI q)), some (.int (iI u)), none] rfl (Nat.le_of_ble_eq_true rfl) ?_
  intro x C hZ
  refine V_iload_n C dX5_spokenAt_0 rfl rfl ?_
  refine V_S0 (k2 := 0) (s2 := 0) C dX5_spokenAt_1 lX5_217 kX5_checkTribe (c_X5_checkTribe G K r p (by omega) (by omega)) rfl rfl ⟨Nat.le_of_ble_eq_true rfl, Nat.le_of_ble_eq_true rfl⟩ (Nat.le_of_ble_eq_true rfl) (Nat.le_refl _) (Nat.le_refl _) ?_
  refine V_iload_n C dX5_spokenAt_4 rfl rfl ?_
  refine V_S0 (k2 := 0) (s2 := 0) C dX5_spokenAt_5 lX5_62 kX5_checkNumber (c_X5_checkNumber G K r q (by omega) (by omega)) rfl rfl ⟨Nat.le_of_ble_eq_true rfl, Nat.le_of_ble_eq_true rfl⟩ (Nat.le_of_ble_eq_true rfl) (Nat.le_refl _) (Nat.le_refl _) ?_
  refine V_iload_n C dX5_spokenAt_8 rfl rfl ?_
  refine V_S1 (k2 := 0) (s2 := 0) C dX5_spokenAt_9 lX5_89 kX5_greedyMark (i_X5_greedyMark G 28 false _ q (by omega)) rfl rfl ⟨Nat.le_of_ble_eq_true rfl, Nat.le_of_ble_eq_true rfl⟩ (Nat.le_of_ble_eq_true rfl) (Nat.le_refl _) (Nat.le_refl _) ?_
  refine V_istore C dX5_spokenAt_12 (Nat.le_of_ble_eq_true rfl) rfl ?_
  refine V_iload_n C dX5_spokenAt_14 rfl rfl ?_
  refine V_if_lt (tgt := 27) C dX5_spokenAt_15 (by decide) (by omega) (fun q15 => by exfalso; omega) (fun q15 => ?_)
  refine V_iload_n C dX5_spokenAt_18 rfl rfl ?_
  refine V_iload C dX5_spokenAt_19 rfl ?_
  refine V_S1 (k2 := 0) (s2 := 0) C dX5_spokenAt_21 lX5_220 kJ6_bitCount_0f7a4 (c_J6_bitCount_0f7a4 (gm 18 q.toNat) (by have := gm_18 q.toNat; omega) G 28 false _) rfl rfl ⟨Nat.le_of_ble_eq_true rfl, Nat.le_of_ble_eq_true rfl⟩ (Nat.le_of_ble_eq_true rfl) (Nat.le_refl _) (Nat.le_refl _) ?_
  rw [bc_22 (by omega)]
  refine V_icmp_lt (tgt := 37) C dX5_spokenAt_24 (by decide) (by omega) (by omega) (fun q24 => ?_) (fun q24 => by exfalso; omega)
  refine V_iload_n C dX5_spokenAt_37 rfl rfl ?_
  refine V_iload C dX5_spokenAt_38 rfl ?_
  refine V_iload_n C dX5_spokenAt_40 rfl rfl ?_
  refine V_S1 (k2 := 0) (s2 := 0) C dX5_spokenAt_41 lX5_227 kX5_wordAt (c_X5_wordAt p (gm 18 q.toNat) u f4 (bc_gm (by omega)) hc (by omega) G 28 false _) rfl rfl ⟨Nat.le_of_ble_eq_true rfl, Nat.le_of_ble_eq_true rfl⟩ (Nat.le_of_ble_eq_true rfl) (Nat.le_refl _) (Nat.le_refl _) ?_
  exact V_iret C dX5_spokenAt_44 rfl hZ (by first | rfl | omega) rfl
set_option maxRecDepth 100000 in
set_option maxHeartbeats 4000000 in
theorem x1_X5_numberOf (G : GT) (K : Nat → Nat → Int) (r : Nat → Option Nat) (s : Nat → Int) (st : Nat) (kp : Int) (t : Nat → Int) (T : Nat) (h : IC K r s st kp t T) (hg : GI s st kp t T) (p : Int) (hp : -2147483648 ≤ p ∧ p < 2147483648) (hc : ¬ (0 ≤ p ∧ p ≤ 5)) : OkX G yX5_numberOf mX5_numberOf [rf G 0, .int (iI p)] K r "java/lang/IndexOutOfBoundsException" s st kp t T := by
  have hS := h.2.1
  have hQ := hS.1
  have hz := hg.1
  have g5 := hz.1
  have g6 := hz.2.1
  have hI := h.2.2.1
  have gst := hg.2.1
  have gkp := hg.2.2.1
  have gT := hg.2.2.2.1
  have e12 : K 1 2 = s 6 := hQ.2.2
  refine ⟨K, ?_, h, fun _ _ => rfl⟩
  refine CtX_of kX5_numberOf.1.1 (by decide) [some (rf G 0), some (.int (iI p))] rfl (Nat.le_of_ble_eq_true rfl) ?_
  intro x C hZ
  refine V_iload_n C dX5_numberOf_0 rfl rfl ?_
  exact V_SX (k2 := 0) (s2 := 0) C dX5_numberOf_1 lX5_58 kX5_checkStall (x_X5_checkStall G K r p (by omega) (by omega)) rfl rfl ⟨Nat.le_of_ble_eq_true rfl, Nat.le_of_ble_eq_true rfl⟩ (Nat.le_of_ble_eq_true rfl) (by omega) (by omega) (VX_out C rfl hZ)
set_option maxRecDepth 100000 in
set_option maxHeartbeats 4000000 in
theorem o_X5_numberOf (G : GT) (K : Nat → Nat → Int) (r : Nat → Option Nat) (s : Nat → Int) (st : Nat) (kp : Int) (t : Nat → Int) (T : Nat) (h : IC K r s st kp t T) (hg : GI s st kp t T) (p : Int) (hp : -2147483648 ≤ p ∧ p < 2147483648) (hc : 0 ≤ p ∧ p ≤ 5) : OkO G yX5_numberOf mX5_numberOf [rf G 0, .int (iI p)] K r (.int (iI (s p.toNat))) s st kp t T := by
  have hS := h.2.1
  have hQ := hS.1
  have hz := hg.1
  have g5 := hz.1
  have g6 := hz.2.1
  have hI := h.2.2.1
  have gst := hg.2.1
  have gkp := hg.2.2.1
  have gT := hg.2.2.2.1
  have e12 : K 1 2 = s 6 := hQ.2.2
  have kp := hQ.1 p.toNat (by omega)
  have zp := g5 p.toNat (by omega)
  refine ⟨K, r, ?_, h, fun _ _ => rfl⟩
  refine Ct_of kX5_numberOf.1.1 (by decide) [some (rf G 0), some (.int (iI p))] rfl (Nat.le_of_ble_eq_true rfl) ?_
  intro x C hZ
  refine V_iload_n C dX5_numberOf_0 rfl rfl ?_
  refine V_S0 (k2 := 0) (s2 := 0) C dX5_numberOf_1 lX5_58 kX5_checkStall (c_X5_checkStall G K r p (by omega) (by omega)) rfl rfl ⟨Nat.le_of_ble_eq_true rfl, Nat.le_of_ble_eq_true rfl⟩ (Nat.le_of_ble_eq_true rfl) (Nat.le_refl _) (Nat.le_refl _) ?_
  refine V_aload_n C dX5_numberOf_4 rfl rfl ?_
  refine V_getH (L := clL G) C dX5_numberOf_5 fX5_10 (by decide) (fun _ => rfl) rfl ?_
  refine V_iload_n C dX5_numberOf_8 rfl rfl ?_
  refine V_V1 (k2 := 0) (s2 := 0) C dX5_numberOf_9 lX5_65 kX2_numberIn (c_X2_numberIn G K r 1 rfl p hc) (by decide) (rfl) rfl rfl rfl ⟨Nat.le_of_ble_eq_true rfl, Nat.le_of_ble_eq_true rfl⟩ (Nat.le_of_ble_eq_true rfl) (Nat.le_refl _) (Nat.le_refl _) ?_
  exact V_iret C dX5_numberOf_12 rfl hZ kp rfl
set_option maxRecDepth 100000 in
set_option maxHeartbeats 4000000 in
theorem x1_X5_stepsOf (G : GT) (K : Nat → Nat → Int) (r : Nat → Option Nat) (s : Nat → Int) (st : Nat) (kp : Int) (t : Nat → Int) (T : Nat) (h : IC K r s st kp t T) (hg : GI s st kp t T) (p : Int) (hp : -2147483648 ≤ p ∧ p < 2147483648) (hc : ¬ (0 ≤ p ∧ p ≤ 5)) : OkX G yX5_stepsOf mX5_stepsOf [rf G 0, .int (iI p)] K r "java/lang/IndexOutOfBoundsException" s st kp t T := by
  have hS := h.2.1
  have hQ := hS.1
  have hz := hg.1
  have g5 := hz.1
  have g6 := hz.2.1
  have hI := h.2.2.1
  have gst := hg.2.1
  have gkp := hg.2.2.1
  have gT := hg.2.2.2.1
  have e12 : K 1 2 = s 6 := hQ.2.2
  refine ⟨K, ?_, h, fun _ _ => rfl⟩
  refine CtX_of kX5_stepsOf.1.1 (by decide) [some (rf G 0), some (.int (iI p))] rfl (Nat.le_of_ble_eq_true rfl) ?_
  intro x C hZ
  refine V_iload_n C dX5_stepsOf_0 rfl rfl ?_
  exact V_SX (k2 := 0) (s2 := 0) C dX5_stepsOf_1 lX5_58 kX5_checkStall (x_X5_checkStall G K r p (by omega) (by omega)) rfl rfl ⟨Nat.le_of_ble_eq_true rfl, Nat.le_of_ble_eq_true rfl⟩ (Nat.le_of_ble_eq_true rfl) (by omega) (by omega) (VX_out C rfl hZ)
set_option maxRecDepth 100000 in
set_option maxHeartbeats 4000000 in
theorem o_X5_stepsOf (G : GT) (K : Nat → Nat → Int) (r : Nat → Option Nat) (s : Nat → Int) (st : Nat) (kp : Int) (t : Nat → Int) (T : Nat) (h : IC K r s st kp t T) (hg : GI s st kp t T) (p : Int) (hp : -2147483648 ≤ p ∧ p < 2147483648) (hc : 0 ≤ p ∧ p ≤ 5) : OkO G yX5_stepsOf mX5_stepsOf [rf G 0, .int (iI p)] K r (.int (iI (cn 22 (gm 18 (s p.toNat).toNat) : Nat))) s st kp t T := by
  have hS := h.2.1
  have hQ := hS.1
  have hz := hg.1
  have g5 := hz.1
  have g6 := hz.2.1
  have hI := h.2.2.1
  have gst := hg.2.1
  have gkp := hg.2.2.1
  have gT := hg.2.2.2.1
  have e12 : K 1 2 = s 6 := hQ.2.2
  have kp := hQ.1 p.toNat (by omega)
  have zp := g5 p.toNat (by omega)
  refine ⟨K, r, ?_, h, fun _ _ => rfl⟩
  refine Ct_of kX5_stepsOf.1.1 (by decide) [some (rf G 0), some (.int (iI p))] rfl (Nat.le_of_ble_eq_true rfl) ?_
  intro x C hZ
  refine V_iload_n C dX5_stepsOf_0 rfl rfl ?_
  refine V_S0 (k2 := 0) (s2 := 0) C dX5_stepsOf_1 lX5_58 kX5_checkStall (c_X5_checkStall G K r p (by omega) (by omega)) rfl rfl ⟨Nat.le_of_ble_eq_true rfl, Nat.le_of_ble_eq_true rfl⟩ (Nat.le_of_ble_eq_true rfl) (Nat.le_refl _) (Nat.le_refl _) ?_
  refine V_aload_n C dX5_stepsOf_4 rfl rfl ?_
  refine V_getH (L := clL G) C dX5_stepsOf_5 fX5_10 (by decide) (fun _ => rfl) rfl ?_
  refine V_iload_n C dX5_stepsOf_8 rfl rfl ?_
  refine V_V1 (k2 := 0) (s2 := 0) C dX5_stepsOf_9 lX5_65 kX2_numberIn (c_X2_numberIn G K r 1 rfl p hc) (by decide) (rfl) rfl rfl rfl ⟨Nat.le_of_ble_eq_true rfl, Nat.le_of_ble_eq_true rfl⟩ (Nat.le_of_ble_eq_true rfl) (Nat.le_refl _) (Nat.le_refl _) ?_
  rw [kp]
  refine V_S1 (k2 := 0) (s2 := 0) C dX5_stepsOf_12 lX5_89 kX5_greedyMark (i_X5_greedyMark G 28 false _ _ zp) rfl rfl ⟨Nat.le_of_ble_eq_true rfl, Nat.le_of_ble_eq_true rfl⟩ (Nat.le_of_ble_eq_true rfl) (Nat.le_refl _) (Nat.le_refl _) ?_
  refine V_S1 (k2 := 0) (s2 := 0) C dX5_stepsOf_15 lX5_220 kJ6_bitCount_0f7a4 (c_J6_bitCount_0f7a4 (gm 18 (s p.toNat).toNat) (by have := gm_18 (s p.toNat).toNat; omega) G 28 false _) rfl rfl ⟨Nat.le_of_ble_eq_true rfl, Nat.le_of_ble_eq_true rfl⟩ (Nat.le_of_ble_eq_true rfl) (Nat.le_refl _) (Nat.le_refl _) ?_
  exact V_iret C dX5_stepsOf_18 rfl hZ (by rw [bc_22 (by omega)]) rfl
set_option maxRecDepth 100000 in
set_option maxHeartbeats 4000000 in
theorem o_X5_total (G : GT) (K : Nat → Nat → Int) (r : Nat → Option Nat) (s : Nat → Int) (st : Nat) (kp : Int) (t : Nat → Int) (T : Nat) (h : IC K r s st kp t T) (hg : GI s st kp t T)   : OkO G yX5_total mX5_total [rf G 0] K r (.int (iI (su s 6))) s st kp t T := by
  have hS := h.2.1
  have hQ := hS.1
  have hz := hg.1
  have g5 := hz.1
  have g6 := hz.2.1
  have hI := h.2.2.1
  have gst := hg.2.1
  have gkp := hg.2.2.1
  have gT := hg.2.2.2.1
  have e12 : K 1 2 = s 6 := hQ.2.2
  refine ⟨K, r, ?_, h, fun _ _ => rfl⟩
  refine Ct_of kX5_total.1.1 (by decide) [some (rf G 0)] rfl (Nat.le_of_ble_eq_true rfl) ?_
  intro x C hZ
  refine V_aload_n C dX5_total_0 rfl rfl ?_
  refine V_getH (L := clL G) C dX5_total_1 fX5_10 (by decide) (fun _ => rfl) rfl ?_
  refine V_V1 (k2 := 0) (s2 := 0) C dX5_total_4 lX5_186 kX2_sum (c_X2_sum G K r 1 rfl) (by decide) (rfl) rfl rfl rfl ⟨Nat.le_of_ble_eq_true rfl, Nat.le_of_ble_eq_true rfl⟩ (Nat.le_of_ble_eq_true rfl) (Nat.le_refl _) (Nat.le_refl _) ?_
  exact V_iret C dX5_total_7 rfl hZ (su_of hQ.1) rfl
set_option maxRecDepth 100000 in
set_option maxHeartbeats 4000000 in
theorem o_X5_richest (G : GT) (K : Nat → Nat → Int) (r : Nat → Option Nat) (s : Nat → Int) (st : Nat) (kp : Int) (t : Nat → Int) (T : Nat) (h : IC K r s st kp t T) (hg : GI s st kp t T)   : OkO G yX5_richest mX5_richest [rf G 0] K r (.int (iI (ri s 5 : Nat))) s st kp t T := by
  have hS := h.2.1
  have hQ := hS.1
  have hz := hg.1
  have g5 := hz.1
  have g6 := hz.2.1
  have hI := h.2.2.1
  have gst := hg.2.1
  have gkp := hg.2.2.1
  have gT := hg.2.2.2.1
  have e12 : K 1 2 = s 6 := hQ.2.2
  refine ⟨K, r, ?_, h, fun _ _ => rfl⟩
  refine Ct_of kX5_richest.1.1 (by decide) [some (rf G 0), none, none] rfl (Nat.le_of_ble_eq_true rfl) ?_
  intro x C hZ
  have loop : ∀ (n k : Nat) (v : Int), k + n = 5 → v = (ri s k : Nat) → V G mX5_richest x 4 [some (rf G 0), some (.int (iI v)), some (.int (iI ((k + 1 : Nat) : Int)))] [] 28 false (HP G K r) 0 0 := by
    intro n
    induction n with
    | zero =>
      intro k v e e2
      refine V_iload_n C dX5_richest_4 rfl rfl ?_
      refine V_bipush C dX5_richest_5 (by decide +kernel) ?_
      refine V_icmp_ge (tgt := 37) C dX5_richest_7 (by decide) (by omega) (by omega) (fun q7 => ?_) (fun q7 => by exfalso; omega)
      refine V_iload_n C dX5_richest_37 rfl rfl ?_
      exact V_iret C dX5_richest_38 rfl hZ (by rw [e2, show k = 5 by omega]) rfl
    | succ n ih =>
      intro k v e e2
      subst e2
      have f1 := ri_le s k
      have f2 := g5 (k + 1) (by omega)
      have f3 := g5 (ri s k) (by omega)
      have k1 := hQ.1 (k + 1) (by omega)
      have k2 := hQ.1 (ri s k) (by omega)
      by_cases c : s (ri s k) < s (k + 1)
      · skip
        refine V_iload_n C dX5_richest_4 rfl rfl ?_
        refine V_bipush C dX5_richest_5 (by decide +kernel) ?_
        refine V_icmp_ge (tgt := 37) C dX5_richest_7 (by decide) (by omega) (by omega) (fun q7 => by exfalso; omega) (fun q7 => ?_)
        refine V_aload_n C dX5_richest_10 rfl rfl ?_
        refine V_getH (L := clL G) C dX5_richest_11 fX5_10 (by decide) (fun _ => rfl) rfl ?_
        refine V_iload_n C dX5_richest_14 rfl rfl ?_
        refine V_V1 (k2 := 0) (s2 := 0) C dX5_richest_15 lX5_65 kX2_numberIn (c_X2_numberIn G K r 1 rfl ((k + 1 : Nat) : Int) (by omega)) (by decide) (rfl) rfl rfl rfl ⟨Nat.le_of_ble_eq_true rfl, Nat.le_of_ble_eq_true rfl⟩ (Nat.le_of_ble_eq_true rfl) (Nat.le_refl _) (Nat.le_refl _) ?_
        rw [tnN, k1]
        refine V_aload_n C dX5_richest_18 rfl rfl ?_
        refine V_getH (L := clL G) C dX5_richest_19 fX5_10 (by decide) (fun _ => rfl) rfl ?_
        refine V_iload_n C dX5_richest_22 rfl rfl ?_
        refine V_V1 (k2 := 0) (s2 := 0) C dX5_richest_23 lX5_65 kX2_numberIn (c_X2_numberIn G K r 1 rfl ((ri s k : Nat) : Int) (by omega)) (by decide) (rfl) rfl rfl rfl ⟨Nat.le_of_ble_eq_true rfl, Nat.le_of_ble_eq_true rfl⟩ (Nat.le_of_ble_eq_true rfl) (Nat.le_refl _) (Nat.le_refl _) ?_
        rw [tnN, k2]
        refine V_icmp_le (tgt := 31) C dX5_richest_26 (by decide) (by omega) (by omega) (fun q26 => by exfalso; omega) (fun q26 => ?_)
        refine V_iload_n C dX5_richest_29 rfl rfl ?_
        refine V_istore_n C dX5_richest_30 rfl (Nat.le_of_ble_eq_true rfl) rfl ?_
        refine V_iinc C dX5_richest_31 rfl (Nat.le_of_ble_eq_true rfl) rfl ?_
        refine V_goto (tgt := 4) C dX5_richest_34 (by decide) ?_
        exact ih (k + 1) _ (by omega) (by simp only [ri]; rw [if_pos c])
      · skip
        refine V_iload_n C dX5_richest_4 rfl rfl ?_
        refine V_bipush C dX5_richest_5 (by decide +kernel) ?_
        refine V_icmp_ge (tgt := 37) C dX5_richest_7 (by decide) (by omega) (by omega) (fun q7 => by exfalso; omega) (fun q7 => ?_)
        refine V_aload_n C dX5_richest_10 rfl rfl ?_
        refine V_getH (L := clL G) C dX5_richest_11 fX5_10 (by decide) (fun _ => rfl) rfl ?_
        refine V_iload_n C dX5_richest_14 rfl rfl ?_
        refine V_V1 (k2 := 0) (s2 := 0) C dX5_richest_15 lX5_65 kX2_numberIn (c_X2_numberIn G K r 1 rfl ((k + 1 : Nat) : Int) (by omega)) (by decide) (rfl) rfl rfl rfl ⟨Nat.le_of_ble_eq_true rfl, Nat.le_of_ble_eq_true rfl⟩ (Nat.le_of_ble_eq_true rfl) (Nat.le_refl _) (Nat.le_refl _) ?_
        rw [tnN, k1]
        refine V_aload_n C dX5_richest_18 rfl rfl ?_
        refine V_getH (L := clL G) C dX5_richest_19 fX5_10 (by decide) (fun _ => rfl) rfl ?_
        refine V_iload_n C dX5_richest_22 rfl rfl ?_
        refine V_V1 (k2 := 0) (s2 := 0) C dX5_richest_23 lX5_65 kX2_numberIn (c_X2_numberIn G K r 1 rfl ((ri s k : Nat) : Int) (by omega)) (by decide) (rfl) rfl rfl rfl ⟨Nat.le_of_ble_eq_true rfl, Nat.le_of_ble_eq_true rfl⟩ (Nat.le_of_ble_eq_true rfl) (Nat.le_refl _) (Nat.le_refl _) ?_
        rw [tnN, k2]
        refine V_icmp_le (tgt := 31) C dX5_richest_26 (by decide) (by omega) (by omega) (fun q26 => ?_) (fun q26 => by exfalso; omega)
        refine V_iinc C dX5_richest_31 rfl (Nat.le_of_ble_eq_true rfl) rfl ?_
        refine V_goto (tgt := 4) C dX5_richest_34 (by decide) ?_
        exact ih (k + 1) _ (by omega) (by simp only [ri]; rw [if_neg c])
  refine V_iconst C dX5_richest_0 ?_
  refine V_istore_n C dX5_richest_1 rfl (Nat.le_of_ble_eq_true rfl) rfl ?_
  refine V_iconst C dX5_richest_2 ?_
  refine V_istore_n C dX5_richest_3 rfl (Nat.le_of_ble_eq_true rfl) rfl ?_
  exact loop 5 0 _ (by omega) rfl
set_option maxRecDepth 100000 in
set_option maxHeartbeats 4000000 in
theorem x1_X5_sumByCarries (G : GT) (K : Nat → Nat → Int) (r : Nat → Option Nat) (s : Nat → Int) (st : Nat) (kp : Int) (t : Nat → Int) (T : Nat) (h : IC K r s st kp t T) (hg : GI s st kp t T) (p : Int) (hp : -2147483648 ≤ p ∧ p < 2147483648) (q : Int) (hq : -2147483648 ≤ q ∧ q < 2147483648) (hc : ¬ ((0 ≤ p ∧ p ≤ 5) ∧ 0 ≤ q ∧ q ≤ 5)) : OkX G yX5_sumByCarries mX5_sumByCarries [rf G 0, .int (iI p), .int (iI q)] K r "java/lang/IndexOutOfBoundsException" s st kp t T := by
  have hS := h.2.1
  have hQ := hS.1
  have hz := hg.1
  have g5 := hz.1
  have g6 := hz.2.1
  have hI := h.2.2.1
  have gst := hg.2.1
  have gkp := hg.2.2.1
  have gT := hg.2.2.2.1
  have e12 : K 1 2 = s 6 := hQ.2.2
  refine ⟨K, ?_, h, fun _ _ => rfl⟩
  refine CtX_of kX5_sumByCarries.1.1 (by decide) [some (rf G 0), some (.int (iI p)), some (.int (iI q))] rfl (Nat.le_of_ble_eq_true rfl) ?_
  intro x C hZ
  by_cases c1 : 0 ≤ p ∧ p ≤ 5
  · skip
    refine V_iload_n C dX5_sumByCarries_0 rfl rfl ?_
    refine V_S0 (k2 := 1) (s2 := 6) C dX5_sumByCarries_1 lX5_58 kX5_checkStall (c_X5_checkStall G K r p (by omega) (by omega)) rfl rfl ⟨Nat.le_of_ble_eq_true rfl, Nat.le_of_ble_eq_true rfl⟩ (Nat.le_of_ble_eq_true rfl) (Nat.le_refl _) (Nat.le_refl _) ?_
    refine V_iload_n C dX5_sumByCarries_4 rfl rfl ?_
    exact V_SX (k2 := 0) (s2 := 0) C dX5_sumByCarries_5 lX5_58 kX5_checkStall (x_X5_checkStall G K r q (by omega) (by omega)) rfl rfl ⟨Nat.le_of_ble_eq_true rfl, Nat.le_of_ble_eq_true rfl⟩ (Nat.le_of_ble_eq_true rfl) (by omega) (by omega) (VX_out C rfl hZ)
  · skip
    refine V_iload_n C dX5_sumByCarries_0 rfl rfl ?_
    exact V_SX (k2 := 0) (s2 := 0) C dX5_sumByCarries_1 lX5_58 kX5_checkStall (x_X5_checkStall G K r p (by omega) (by omega)) rfl rfl ⟨Nat.le_of_ble_eq_true rfl, Nat.le_of_ble_eq_true rfl⟩ (Nat.le_of_ble_eq_true rfl) (by omega) (by omega) (VX_out C rfl hZ)
theorem cyE_pot : ∀ (f : Nat) (c : Nat → Int), sm wP (cyE f c) 24 ≤ sm wP c 24
  | 0, _ => Int.le_refl _
  | f + 1, c => by
    simp only [cyE]
    rcases h : fk 20 c with _ | k
    · exact Int.le_refl _
    · have hs := fk_some h
      have h1 := cyF_pot c (k := k) (by omega) hs.2
      have h2 := cyE_pot f (cyF c k)
      show sm wP (cyE f (cyF c k)) 24 ≤ sm wP c 24
      omega
theorem adE_10 (m o : Nat) {j : Nat} (hj : j < 24) : adE m o j ≤ 10000 := by
  have h1 := c_le_pot (adE_c0 m o) hj
  have h2 := cyE_pot 3000 (cI m o)
  have h3 := cI_pot m o
  have h4 : adE m o j ≤ sm wP (cyE 3000 (cI m o)) 24 := h1
  omega
set_option maxRecDepth 100000 in
set_option maxHeartbeats 4000000 in
theorem o_X5_sumByCarries (G : GT) (K : Nat → Nat → Int) (r : Nat → Option Nat) (s : Nat → Int) (st : Nat) (kp : Int) (t : Nat → Int) (T : Nat) (h : IC K r s st kp t T) (hg : GI s st kp t T) (p : Int) (hp : -2147483648 ≤ p ∧ p < 2147483648) (q : Int) (hq : -2147483648 ≤ q ∧ q < 2147483648) (hc : (0 ≤ p ∧ p ≤ 5) ∧ 0 ≤ q ∧ q ≤ 5) : OkO G yX5_sumByCarries mX5_sumByCarries [rf G 0, .int (iI p), .int (iI q)] K r (.int (iI (mkN (adE (gm 18 (s p.toNat).toNat) (gm 18 (s q.toNat).toNat)) 22 : Nat))) s st kp t T := by
  have hS := h.2.1
  have hQ := hS.1
  have hz := hg.1
  have g5 := hz.1
  have g6 := hz.2.1
  have hI := h.2.2.1
  have gst := hg.2.1
  have gkp := hg.2.2.1
  have gT := hg.2.2.2.1
  have e12 : K 1 2 = s 6 := hQ.2.2
  have ar : ∀ j, j < 22 → adE (gm 18 (s p.toNat).toNat) (gm 18 (s q.toNat).toNat) j ≤ 10000 := fun j hj => adE_10 _ _ (by omega)
  refine ⟨us K 11 (adE (gm 18 (s p.toNat).toNat) (gm 18 (s q.toNat).toNat)), r, ?_, IC_C (EqC_us (by decide)) h, FR_us (by decide)⟩
  refine Ct_of kX5_sumByCarries.1.1 (by decide) [some (rf G 0), some (.int (iI p)), some (.int (iI q))] rfl (Nat.le_of_ble_eq_true rfl) ?_
  intro x C hZ
  refine V_iload_n C dX5_sumByCarries_0 rfl rfl ?_
  refine V_S0 (k2 := 0) (s2 := 0) C dX5_sumByCarries_1 lX5_58 kX5_checkStall (c_X5_checkStall G K r p (by omega) (by omega)) rfl rfl ⟨Nat.le_of_ble_eq_true rfl, Nat.le_of_ble_eq_true rfl⟩ (Nat.le_of_ble_eq_true rfl) (Nat.le_refl _) (Nat.le_refl _) ?_
  refine V_iload_n C dX5_sumByCarries_4 rfl rfl ?_
  refine V_S0 (k2 := 0) (s2 := 0) C dX5_sumByCarries_5 lX5_58 kX5_checkStall (c_X5_checkStall G K r q (by omega) (by omega)) rfl rfl ⟨Nat.le_of_ble_eq_true rfl, Nat.le_of_ble_eq_true rfl⟩ (Nat.le_of_ble_eq_true rfl) (Nat.le_refl _) (Nat.le_refl _) ?_
  refine V_aload_n C dX5_sumByCarries_8 rfl rfl ?_
  refine V_iload_n C dX5_sumByCarries_9 rfl rfl ?_
  refine V_iload_n C dX5_sumByCarries_10 rfl rfl ?_
  refine V_V1 (k2 := 0) (s2 := 0) C dX5_sumByCarries_11 lX5_83 kX5_carryStalls (c_X5_carryStalls G K r s hQ hz p q hc.1 hc.2) (by decide) (rfl) rfl rfl rfl ⟨Nat.le_of_ble_eq_true rfl, Nat.le_of_ble_eq_true rfl⟩ (Nat.le_of_ble_eq_true rfl) (Nat.le_refl _) (Nat.le_refl _) ?_
  refine V_pop C dX5_sumByCarries_14 rfl ?_
  refine V_aload_n C dX5_sumByCarries_15 rfl rfl ?_
  refine V_getH (L := clL G) C dX5_sumByCarries_16 fX5_44 (by decide) (fun _ => rfl) rfl ?_
  refine V_V1 (k2 := 0) (s2 := 0) C dX5_sumByCarries_19 lX5_231 kX0_toMark (c_X0_toMark G _ r (fun j hj => by rw [us_at]; exact ⟨adE_c0 _ _ j, ar j hj⟩)) (by decide) (rfl) rfl rfl rfl ⟨Nat.le_of_ble_eq_true rfl, Nat.le_of_ble_eq_true rfl⟩ (Nat.le_of_ble_eq_true rfl) (Nat.le_refl _) (Nat.le_refl _) ?_
  exact V_iret C dX5_sumByCarries_22 rfl hZ (by rw [us_at]) rfl
set_option maxRecDepth 100000 in
set_option maxHeartbeats 4000000 in
theorem x1_X5_carries (G : GT) (K : Nat → Nat → Int) (r : Nat → Option Nat) (s : Nat → Int) (st : Nat) (kp : Int) (t : Nat → Int) (T : Nat) (h : IC K r s st kp t T) (hg : GI s st kp t T) (p : Int) (hp : -2147483648 ≤ p ∧ p < 2147483648) (q : Int) (hq : -2147483648 ≤ q ∧ q < 2147483648) (hc : ¬ ((0 ≤ p ∧ p ≤ 5) ∧ 0 ≤ q ∧ q ≤ 5)) : OkX G yX5_carries mX5_carries [rf G 0, .int (iI p), .int (iI q)] K r "java/lang/IndexOutOfBoundsException" s st kp t T := by
  have hS := h.2.1
  have hQ := hS.1
  have hz := hg.1
  have g5 := hz.1
  have g6 := hz.2.1
  have hI := h.2.2.1
  have gst := hg.2.1
  have gkp := hg.2.2.1
  have gT := hg.2.2.2.1
  have e12 : K 1 2 = s 6 := hQ.2.2
  refine ⟨K, ?_, h, fun _ _ => rfl⟩
  refine CtX_of kX5_carries.1.1 (by decide) [some (rf G 0), some (.int (iI p)), some (.int (iI q))] rfl (Nat.le_of_ble_eq_true rfl) ?_
  intro x C hZ
  by_cases c1 : 0 ≤ p ∧ p ≤ 5
  · skip
    refine V_iload_n C dX5_carries_0 rfl rfl ?_
    refine V_S0 (k2 := 1) (s2 := 6) C dX5_carries_1 lX5_58 kX5_checkStall (c_X5_checkStall G K r p (by omega) (by omega)) rfl rfl ⟨Nat.le_of_ble_eq_true rfl, Nat.le_of_ble_eq_true rfl⟩ (Nat.le_of_ble_eq_true rfl) (Nat.le_refl _) (Nat.le_refl _) ?_
    refine V_iload_n C dX5_carries_4 rfl rfl ?_
    exact V_SX (k2 := 0) (s2 := 0) C dX5_carries_5 lX5_58 kX5_checkStall (x_X5_checkStall G K r q (by omega) (by omega)) rfl rfl ⟨Nat.le_of_ble_eq_true rfl, Nat.le_of_ble_eq_true rfl⟩ (Nat.le_of_ble_eq_true rfl) (by omega) (by omega) (VX_out C rfl hZ)
  · skip
    refine V_iload_n C dX5_carries_0 rfl rfl ?_
    exact V_SX (k2 := 0) (s2 := 0) C dX5_carries_1 lX5_58 kX5_checkStall (x_X5_checkStall G K r p (by omega) (by omega)) rfl rfl ⟨Nat.le_of_ble_eq_true rfl, Nat.le_of_ble_eq_true rfl⟩ (Nat.le_of_ble_eq_true rfl) (by omega) (by omega) (VX_out C rfl hZ)
set_option maxRecDepth 100000 in
set_option maxHeartbeats 4000000 in
theorem o_X5_carries (G : GT) (K : Nat → Nat → Int) (r : Nat → Option Nat) (s : Nat → Int) (st : Nat) (kp : Int) (t : Nat → Int) (T : Nat) (h : IC K r s st kp t T) (hg : GI s st kp t T) (p : Int) (hp : -2147483648 ≤ p ∧ p < 2147483648) (q : Int) (hq : -2147483648 ≤ q ∧ q < 2147483648) (hc : (0 ≤ p ∧ p ≤ 5) ∧ 0 ≤ q ∧ q ≤ 5) : OkO G yX5_carries mX5_carries [rf G 0, .int (iI p), .int (iI q)] K r (.int (iI (adC (gm 18 (s p.toNat).toNat) (gm 18 (s q.toNat).toNat) : Nat))) s st kp t T := by
  have hS := h.2.1
  have hQ := hS.1
  have hz := hg.1
  have g5 := hz.1
  have g6 := hz.2.1
  have hI := h.2.2.1
  have gst := hg.2.1
  have gkp := hg.2.2.1
  have gT := hg.2.2.2.1
  have e12 : K 1 2 = s 6 := hQ.2.2
  refine ⟨us K 11 (adE (gm 18 (s p.toNat).toNat) (gm 18 (s q.toNat).toNat)), r, ?_, IC_C (EqC_us (by decide)) h, FR_us (by decide)⟩
  refine Ct_of kX5_carries.1.1 (by decide) [some (rf G 0), some (.int (iI p)), some (.int (iI q))] rfl (Nat.le_of_ble_eq_true rfl) ?_
  intro x C hZ
  refine V_iload_n C dX5_carries_0 rfl rfl ?_
  refine V_S0 (k2 := 0) (s2 := 0) C dX5_carries_1 lX5_58 kX5_checkStall (c_X5_checkStall G K r p (by omega) (by omega)) rfl rfl ⟨Nat.le_of_ble_eq_true rfl, Nat.le_of_ble_eq_true rfl⟩ (Nat.le_of_ble_eq_true rfl) (Nat.le_refl _) (Nat.le_refl _) ?_
  refine V_iload_n C dX5_carries_4 rfl rfl ?_
  refine V_S0 (k2 := 0) (s2 := 0) C dX5_carries_5 lX5_58 kX5_checkStall (c_X5_checkStall G K r q (by omega) (by omega)) rfl rfl ⟨Nat.le_of_ble_eq_true rfl, Nat.le_of_ble_eq_true rfl⟩ (Nat.le_of_ble_eq_true rfl) (Nat.le_refl _) (Nat.le_refl _) ?_
  refine V_aload_n C dX5_carries_8 rfl rfl ?_
  refine V_iload_n C dX5_carries_9 rfl rfl ?_
  refine V_iload_n C dX5_carries_10 rfl rfl ?_
  refine V_V1 (k2 := 0) (s2 := 0) C dX5_carries_11 lX5_83 kX5_carryStalls (c_X5_carryStalls G K r s hQ hz p q hc.1 hc.2) (by decide) (rfl) rfl rfl rfl ⟨Nat.le_of_ble_eq_true rfl, Nat.le_of_ble_eq_true rfl⟩ (Nat.le_of_ble_eq_true rfl) (Nat.le_refl _) (Nat.le_refl _) ?_
  exact V_iret C dX5_carries_14 rfl hZ (by first | rfl | omega) rfl
set_option maxRecDepth 100000 in
set_option maxHeartbeats 4000000 in
theorem o_X5_streamLength (G : GT) (K : Nat → Nat → Int) (r : Nat → Option Nat) (s : Nat → Int) (st : Nat) (kp : Int) (t : Nat → Int) (T : Nat) (h : IC K r s st kp t T) (hg : GI s st kp t T)   : OkO G yX5_streamLength mX5_streamLength [rf G 0] K r (.int (iI (s 6))) s st kp t T := by
  have hS := h.2.1
  have hQ := hS.1
  have hz := hg.1
  have g5 := hz.1
  have g6 := hz.2.1
  have hI := h.2.2.1
  have gst := hg.2.1
  have gkp := hg.2.2.1
  have gT := hg.2.2.2.1
  have e12 : K 1 2 = s 6 := hQ.2.2
  refine ⟨K, r, ?_, h, fun _ _ => rfl⟩
  refine Ct_of kX5_streamLength.1.1 (by decide) [some (rf G 0)] rfl (Nat.le_of_ble_eq_true rfl) ?_
  intro x C hZ
  refine V_aload_n C dX5_streamLength_0 rfl rfl ?_
  refine V_getH (L := clL G) C dX5_streamLength_1 fX5_10 (by decide) (fun _ => rfl) rfl ?_
  refine V_getH (L := stL G 1) C dX5_streamLength_4 fX5_119 (by decide) (fun _ => rfl) rfl ?_
  exact V_iret C dX5_streamLength_7 rfl hZ e12 rfl
set_option maxRecDepth 100000 in
set_option maxHeartbeats 4000000 in
theorem x1_X5_digitAt (G : GT) (K : Nat → Nat → Int) (r : Nat → Option Nat) (s : Nat → Int) (st : Nat) (kp : Int) (t : Nat → Int) (T : Nat) (h : IC K r s st kp t T) (hg : GI s st kp t T) (p : Int) (hp : -2147483648 ≤ p ∧ p < 2147483648) (hc : ¬ (0 ≤ p ∧ p ≤ s 6 - 1)) : OkX G yX5_digitAt mX5_digitAt [rf G 0, .int (iI p)] K r "java/lang/IndexOutOfBoundsException" s st kp t T := by
  have hS := h.2.1
  have hQ := hS.1
  have hz := hg.1
  have g5 := hz.1
  have g6 := hz.2.1
  have hI := h.2.2.1
  have gst := hg.2.1
  have gkp := hg.2.2.1
  have gT := hg.2.2.2.1
  have e12 : K 1 2 = s 6 := hQ.2.2
  refine ⟨K, ?_, h, fun _ _ => rfl⟩
  refine CtX_of kX5_digitAt.1.1 (by decide) [some (rf G 0), some (.int (iI p))] rfl (Nat.le_of_ble_eq_true rfl) ?_
  intro x C hZ
  refine V_aload_n C dX5_digitAt_0 rfl rfl ?_
  refine V_iload_n C dX5_digitAt_1 rfl rfl ?_
  exact V_VX (k2 := 0) (s2 := 0) C dX5_digitAt_2 lX5_123 kX5_checkDigit (x_X5_checkDigit G K r (by omega) p (by omega) (by omega)) (by decide) (rfl) rfl rfl rfl ⟨Nat.le_of_ble_eq_true rfl, Nat.le_of_ble_eq_true rfl⟩ (Nat.le_of_ble_eq_true rfl) (by omega) (by omega) (VX_out C rfl hZ)
set_option maxRecDepth 100000 in
set_option maxHeartbeats 4000000 in
theorem o_X5_digitAt (G : GT) (K : Nat → Nat → Int) (r : Nat → Option Nat) (s : Nat → Int) (st : Nat) (kp : Int) (t : Nat → Int) (T : Nat) (h : IC K r s st kp t T) (hg : GI s st kp t T) (p : Int) (hp : -2147483648 ≤ p ∧ p < 2147483648) (hc : 0 ≤ p ∧ p ≤ s 6 - 1) : OkO G yX5_digitAt mX5_digitAt [rf G 0, .int (iI p)] K r (.int (iI (s (7 + p.toNat)))) s st kp t T := by
  have hS := h.2.1
  have hQ := hS.1
  have hz := hg.1
  have g5 := hz.1
  have g6 := hz.2.1
  have hI := h.2.2.1
  have gst := hg.2.1
  have gkp := hg.2.2.1
  have gT := hg.2.2.2.1
  have e12 : K 1 2 = s 6 := hQ.2.2
  have g7 := hz.2.2.1 (7 + p.toNat) (by omega) (by omega)
  refine ⟨K, r, ?_, h, fun _ _ => rfl⟩
  refine Ct_of kX5_digitAt.1.1 (by decide) [some (rf G 0), some (.int (iI p))] rfl (Nat.le_of_ble_eq_true rfl) ?_
  intro x C hZ
  refine V_aload_n C dX5_digitAt_0 rfl rfl ?_
  refine V_iload_n C dX5_digitAt_1 rfl rfl ?_
  refine V_V0 (k2 := 0) (s2 := 0) C dX5_digitAt_2 lX5_123 kX5_checkDigit (c_X5_checkDigit G K r (by omega) p (by omega) (by omega)) (by decide) (rfl) rfl rfl rfl ⟨Nat.le_of_ble_eq_true rfl, Nat.le_of_ble_eq_true rfl⟩ (Nat.le_of_ble_eq_true rfl) (Nat.le_refl _) (Nat.le_refl _) ?_
  refine V_aload_n C dX5_digitAt_5 rfl rfl ?_
  refine V_getH (L := clL G) C dX5_digitAt_6 fX5_10 (by decide) (fun _ => rfl) rfl ?_
  refine V_getH (L := stL G 1) C dX5_digitAt_9 fX5_129 (by decide) (fun _ => rfl) rfl ?_
  rw [hQ.2.1]
  refine V_iload_n C dX5_digitAt_12 rfl rfl ?_
  refine V_S1 (k2 := 0) (s2 := 0) C dX5_digitAt_13 lX5_133 kX5_digitOf (i_X5_digitOf G 28 false _ _ p (dN_64 _ (by omega)) (by omega)) rfl rfl ⟨Nat.le_of_ble_eq_true rfl, Nat.le_of_ble_eq_true rfl⟩ (Nat.le_of_ble_eq_true rfl) (Nat.le_refl _) (Nat.le_refl _) ?_
  exact V_iret C dX5_digitAt_16 rfl hZ (dN_bit (by omega) g7) rfl
theorem EqC_Rd (K : Nat → Nat → Int) (n w l : Int) (fo : Nat → Int) : EqC K (Rd K n w l fo) := fun q hq => Rd_ne (by omega) (by omega)
set_option maxRecDepth 100000 in
set_option maxHeartbeats 4000000 in
theorem o_X5_readNumbers (G : GT) (K : Nat → Nat → Int) (r : Nat → Option Nat) (s : Nat → Int) (st : Nat) (kp : Int) (t : Nat → Int) (T : Nat) (h : IC K r s st kp t T) (hg : GI s st kp t T)   : OkO G yX5_readNumbers mX5_readNumbers [rf G 0] K r (.int (iI ((rdZ s).2.2.2.length : Nat))) s st kp t T := by
  have hS := h.2.1
  have hQ := hS.1
  have hz := hg.1
  have g5 := hz.1
  have g6 := hz.2.1
  have hI := h.2.2.1
  have gst := hg.2.1
  have gkp := hg.2.2.1
  have gT := hg.2.2.2.1
  have e12 : K 1 2 = s 6 := hQ.2.2
  refine ⟨(Rd K ((rdZ s).2.2.2.length : Nat) ((rdZ s).2.2.1 : Nat) ((rdZ s).2.1 : Nat) (foU (K 9) (rdZ s).2.2.2)), r, ?_, IC_C (EqC_Rd _ _ _ _ _) h, (EqC_Rd _ _ _ _ _).FR⟩
  refine Ct_of kX5_readNumbers.1.1 (by decide) [some (rf G 0)] rfl (Nat.le_of_ble_eq_true rfl) ?_
  intro x C hZ
  refine V_aload_n C dX5_readNumbers_0 rfl rfl ?_
  refine V_getH (L := clL G) C dX5_readNumbers_1 fX5_37 (by decide) (fun _ => rfl) rfl ?_
  refine V_aload_n C dX5_readNumbers_4 rfl rfl ?_
  refine V_getH (L := clL G) C dX5_readNumbers_5 fX5_10 (by decide) (fun _ => rfl) rfl ?_
  refine V_getH (L := stL G 1) C dX5_readNumbers_8 fX5_129 (by decide) (fun _ => rfl) rfl ?_
  rw [hQ.2.1]
  refine V_aload_n C dX5_readNumbers_11 rfl rfl ?_
  refine V_getH (L := clL G) C dX5_readNumbers_12 fX5_10 (by decide) (fun _ => rfl) rfl ?_
  refine V_getH (L := stL G 1) C dX5_readNumbers_15 fX5_119 (by decide) (fun _ => rfl) rfl ?_
  rw [e12]
  refine V_V0 (k2 := 0) (s2 := 0) C dX5_readNumbers_18 lX5_234 kX1_readAll (rd_now G K r s hz) (by decide) (rfl) rfl rfl rfl ⟨Nat.le_of_ble_eq_true rfl, Nat.le_of_ble_eq_true rfl⟩ (Nat.le_of_ble_eq_true rfl) (Nat.le_refl _) (Nat.le_refl _) ?_
  refine V_aload_n C dX5_readNumbers_21 rfl rfl ?_
  refine V_getH (L := clL G) C dX5_readNumbers_22 fX5_37 (by decide) (fun _ => rfl) rfl ?_
  refine V_getH (L := rdL G) C dX5_readNumbers_25 fX5_238 (by decide) (fun _ => rfl) rfl ?_
  exact V_iret C dX5_readNumbers_28 rfl hZ rfl rfl
set_option maxRecDepth 100000 in
set_option maxHeartbeats 4000000 in
theorem o_X5_errors (G : GT) (K : Nat → Nat → Int) (r : Nat → Option Nat) (s : Nat → Int) (st : Nat) (kp : Int) (t : Nat → Int) (T : Nat) (h : IC K r s st kp t T) (hg : GI s st kp t T)   : OkO G yX5_errors mX5_errors [rf G 0] K r (.int (iI ((rdZ s).2.2.1 : Nat))) s st kp t T := by
  have hS := h.2.1
  have hQ := hS.1
  have hz := hg.1
  have g5 := hz.1
  have g6 := hz.2.1
  have hI := h.2.2.1
  have gst := hg.2.1
  have gkp := hg.2.2.1
  have gT := hg.2.2.2.1
  have e12 : K 1 2 = s 6 := hQ.2.2
  refine ⟨(Rd K ((rdZ s).2.2.2.length : Nat) ((rdZ s).2.2.1 : Nat) ((rdZ s).2.1 : Nat) (foU (K 9) (rdZ s).2.2.2)), r, ?_, IC_C (EqC_Rd _ _ _ _ _) h, (EqC_Rd _ _ _ _ _).FR⟩
  refine Ct_of kX5_errors.1.1 (by decide) [some (rf G 0)] rfl (Nat.le_of_ble_eq_true rfl) ?_
  intro x C hZ
  refine V_aload_n C dX5_errors_0 rfl rfl ?_
  refine V_getH (L := clL G) C dX5_errors_1 fX5_37 (by decide) (fun _ => rfl) rfl ?_
  refine V_aload_n C dX5_errors_4 rfl rfl ?_
  refine V_getH (L := clL G) C dX5_errors_5 fX5_10 (by decide) (fun _ => rfl) rfl ?_
  refine V_getH (L := stL G 1) C dX5_errors_8 fX5_129 (by decide) (fun _ => rfl) rfl ?_
  rw [hQ.2.1]
  refine V_aload_n C dX5_errors_11 rfl rfl ?_
  refine V_getH (L := clL G) C dX5_errors_12 fX5_10 (by decide) (fun _ => rfl) rfl ?_
  refine V_getH (L := stL G 1) C dX5_errors_15 fX5_119 (by decide) (fun _ => rfl) rfl ?_
  rw [e12]
  refine V_V0 (k2 := 0) (s2 := 0) C dX5_errors_18 lX5_234 kX1_readAll (rd_now G K r s hz) (by decide) (rfl) rfl rfl rfl ⟨Nat.le_of_ble_eq_true rfl, Nat.le_of_ble_eq_true rfl⟩ (Nat.le_of_ble_eq_true rfl) (Nat.le_refl _) (Nat.le_refl _) ?_
  refine V_aload_n C dX5_errors_21 rfl rfl ?_
  refine V_getH (L := clL G) C dX5_errors_22 fX5_37 (by decide) (fun _ => rfl) rfl ?_
  refine V_getH (L := rdL G) C dX5_errors_25 fX5_246 (by decide) (fun _ => rfl) rfl ?_
  exact V_iret C dX5_errors_28 rfl hZ rfl rfl
set_option maxRecDepth 100000 in
set_option maxHeartbeats 4000000 in
theorem o_X5_looseDigits (G : GT) (K : Nat → Nat → Int) (r : Nat → Option Nat) (s : Nat → Int) (st : Nat) (kp : Int) (t : Nat → Int) (T : Nat) (h : IC K r s st kp t T) (hg : GI s st kp t T)   : OkO G yX5_looseDigits mX5_looseDigits [rf G 0] K r (.int (iI ((rdZ s).2.1 : Nat))) s st kp t T := by
  have hS := h.2.1
  have hQ := hS.1
  have hz := hg.1
  have g5 := hz.1
  have g6 := hz.2.1
  have hI := h.2.2.1
  have gst := hg.2.1
  have gkp := hg.2.2.1
  have gT := hg.2.2.2.1
  have e12 : K 1 2 = s 6 := hQ.2.2
  refine ⟨(Rd K ((rdZ s).2.2.2.length : Nat) ((rdZ s).2.2.1 : Nat) ((rdZ s).2.1 : Nat) (foU (K 9) (rdZ s).2.2.2)), r, ?_, IC_C (EqC_Rd _ _ _ _ _) h, (EqC_Rd _ _ _ _ _).FR⟩
  refine Ct_of kX5_looseDigits.1.1 (by decide) [some (rf G 0)] rfl (Nat.le_of_ble_eq_true rfl) ?_
  intro x C hZ
  refine V_aload_n C dX5_looseDigits_0 rfl rfl ?_
  refine V_getH (L := clL G) C dX5_looseDigits_1 fX5_37 (by decide) (fun _ => rfl) rfl ?_
  refine V_aload_n C dX5_looseDigits_4 rfl rfl ?_
  refine V_getH (L := clL G) C dX5_looseDigits_5 fX5_10 (by decide) (fun _ => rfl) rfl ?_
  refine V_getH (L := stL G 1) C dX5_looseDigits_8 fX5_129 (by decide) (fun _ => rfl) rfl ?_
  rw [hQ.2.1]
  refine V_aload_n C dX5_looseDigits_11 rfl rfl ?_
  refine V_getH (L := clL G) C dX5_looseDigits_12 fX5_10 (by decide) (fun _ => rfl) rfl ?_
  refine V_getH (L := stL G 1) C dX5_looseDigits_15 fX5_119 (by decide) (fun _ => rfl) rfl ?_
  rw [e12]
  refine V_V0 (k2 := 0) (s2 := 0) C dX5_looseDigits_18 lX5_234 kX1_readAll (rd_now G K r s hz) (by decide) (rfl) rfl rfl rfl ⟨Nat.le_of_ble_eq_true rfl, Nat.le_of_ble_eq_true rfl⟩ (Nat.le_of_ble_eq_true rfl) (Nat.le_refl _) (Nat.le_refl _) ?_
  refine V_aload_n C dX5_looseDigits_21 rfl rfl ?_
  refine V_getH (L := clL G) C dX5_looseDigits_22 fX5_37 (by decide) (fun _ => rfl) rfl ?_
  refine V_getH (L := rdL G) C dX5_looseDigits_25 fX5_249 (by decide) (fun _ => rfl) rfl ?_
  exact V_iret C dX5_looseDigits_28 rfl hZ rfl rfl
set_option maxRecDepth 100000 in
set_option maxHeartbeats 4000000 in
theorem x1_X5_readAt (G : GT) (K : Nat → Nat → Int) (r : Nat → Option Nat) (s : Nat → Int) (st : Nat) (kp : Int) (t : Nat → Int) (T : Nat) (h : IC K r s st kp t T) (hg : GI s st kp t T) (p : Int) (hp : -2147483648 ≤ p ∧ p < 2147483648) (hc : ¬ (0 ≤ p ∧ p < ((rdZ s).2.2.2.length : Nat))) : OkX G yX5_readAt mX5_readAt [rf G 0, .int (iI p)] K r "java/lang/IndexOutOfBoundsException" s st kp t T := by
  have hS := h.2.1
  have hQ := hS.1
  have hz := hg.1
  have g5 := hz.1
  have g6 := hz.2.1
  have hI := h.2.2.1
  have gst := hg.2.1
  have gkp := hg.2.2.1
  have gT := hg.2.2.2.1
  have e12 : K 1 2 = s 6 := hQ.2.2
  have rl0 := rdS_le (fun j => s (7 + j)) (s 6).toNat
  have rl : 2 * (rdZ s).2.2.2.length + (rdZ s).2.1 + (rdZ s).2.2.1 ≤ (s 6).toNat := rl0
  refine ⟨(Rd K ((rdZ s).2.2.2.length : Nat) ((rdZ s).2.2.1 : Nat) ((rdZ s).2.1 : Nat) (foU (K 9) (rdZ s).2.2.2)), ?_, IC_C (EqC_Rd _ _ _ _ _) h, (EqC_Rd _ _ _ _ _).FR⟩
  refine CtX_of kX5_readAt.1.1 (by decide) [some (rf G 0), some (.int (iI p))] rfl (Nat.le_of_ble_eq_true rfl) ?_
  intro x C hZ
  by_cases c1 : p < 0
  · skip
    refine V_aload_n C dX5_readAt_0 rfl rfl ?_
    refine V_getH (L := clL G) C dX5_readAt_1 fX5_37 (by decide) (fun _ => rfl) rfl ?_
    refine V_aload_n C dX5_readAt_4 rfl rfl ?_
    refine V_getH (L := clL G) C dX5_readAt_5 fX5_10 (by decide) (fun _ => rfl) rfl ?_
    refine V_getH (L := stL G 1) C dX5_readAt_8 fX5_129 (by decide) (fun _ => rfl) rfl ?_
    rw [hQ.2.1]
    refine V_aload_n C dX5_readAt_11 rfl rfl ?_
    refine V_getH (L := clL G) C dX5_readAt_12 fX5_10 (by decide) (fun _ => rfl) rfl ?_
    refine V_getH (L := stL G 1) C dX5_readAt_15 fX5_119 (by decide) (fun _ => rfl) rfl ?_
    rw [e12]
    refine V_V0 (k2 := 1) (s2 := 6) C dX5_readAt_18 lX5_234 kX1_readAll (rd_now G K r s hz) (by decide) (rfl) rfl rfl rfl ⟨Nat.le_of_ble_eq_true rfl, Nat.le_of_ble_eq_true rfl⟩ (Nat.le_of_ble_eq_true rfl) (Nat.le_refl _) (Nat.le_refl _) ?_
    refine V_iload_n C dX5_readAt_21 rfl rfl ?_
    refine V_if_lt (tgt := 36) C dX5_readAt_22 (by decide) (by omega) (fun q22 => ?_) (fun q22 => by exfalso; omega)
    exact V_throw 15 C TH_IOOBE rfl rfl dX5_readAt_36 dX5_readAt_39 dX5_readAt_40 dX5_readAt_42 dX5_readAt_45 (Nat.le_of_ble_eq_true rfl) (Nat.le_of_ble_eq_true rfl) hZ rfl (by omega) (by omega)
  · skip
    refine V_aload_n C dX5_readAt_0 rfl rfl ?_
    refine V_getH (L := clL G) C dX5_readAt_1 fX5_37 (by decide) (fun _ => rfl) rfl ?_
    refine V_aload_n C dX5_readAt_4 rfl rfl ?_
    refine V_getH (L := clL G) C dX5_readAt_5 fX5_10 (by decide) (fun _ => rfl) rfl ?_
    refine V_getH (L := stL G 1) C dX5_readAt_8 fX5_129 (by decide) (fun _ => rfl) rfl ?_
    rw [hQ.2.1]
    refine V_aload_n C dX5_readAt_11 rfl rfl ?_
    refine V_getH (L := clL G) C dX5_readAt_12 fX5_10 (by decide) (fun _ => rfl) rfl ?_
    refine V_getH (L := stL G 1) C dX5_readAt_15 fX5_119 (by decide) (fun _ => rfl) rfl ?_
    rw [e12]
    refine V_V0 (k2 := 1) (s2 := 6) C dX5_readAt_18 lX5_234 kX1_readAll (rd_now G K r s hz) (by decide) (rfl) rfl rfl rfl ⟨Nat.le_of_ble_eq_true rfl, Nat.le_of_ble_eq_true rfl⟩ (Nat.le_of_ble_eq_true rfl) (Nat.le_refl _) (Nat.le_refl _) ?_
    refine V_iload_n C dX5_readAt_21 rfl rfl ?_
    refine V_if_lt (tgt := 36) C dX5_readAt_22 (by decide) (by omega) (fun q22 => by exfalso; omega) (fun q22 => ?_)
    refine V_iload_n C dX5_readAt_25 rfl rfl ?_
    refine V_aload_n C dX5_readAt_26 rfl rfl ?_
    refine V_getH (L := clL G) C dX5_readAt_27 fX5_37 (by decide) (fun _ => rfl) rfl ?_
    refine V_getH (L := rdL G) C dX5_readAt_30 fX5_238 (by decide) (fun _ => rfl) rfl ?_
    rw [show (Rd K ((rdZ s).2.2.2.length : Nat) ((rdZ s).2.2.1 : Nat) ((rdZ s).2.1 : Nat) (foU (K 9) (rdZ s).2.2.2)) 8 1 = ((rdZ s).2.2.2.length : Nat) from rfl]
    refine V_icmp_lt (tgt := 46) C dX5_readAt_33 (by decide) (by omega) (by omega) (fun q33 => by exfalso; omega) (fun q33 => ?_)
    exact V_throw 15 C TH_IOOBE rfl rfl dX5_readAt_36 dX5_readAt_39 dX5_readAt_40 dX5_readAt_42 dX5_readAt_45 (Nat.le_of_ble_eq_true rfl) (Nat.le_of_ble_eq_true rfl) hZ rfl (by omega) (by omega)
set_option maxRecDepth 100000 in
set_option maxHeartbeats 4000000 in
theorem o_X5_readAt (G : GT) (K : Nat → Nat → Int) (r : Nat → Option Nat) (s : Nat → Int) (st : Nat) (kp : Int) (t : Nat → Int) (T : Nat) (h : IC K r s st kp t T) (hg : GI s st kp t T) (p : Int) (hp : -2147483648 ≤ p ∧ p < 2147483648) (hc : 0 ≤ p ∧ p < ((rdZ s).2.2.2.length : Nat)) : OkO G yX5_readAt mX5_readAt [rf G 0, .int (iI p)] K r (.int (iI (((rdZ s).2.2.2.getD p.toNat 0 : Nat) : Int))) s st kp t T := by
  have hS := h.2.1
  have hQ := hS.1
  have hz := hg.1
  have g5 := hz.1
  have g6 := hz.2.1
  have hI := h.2.2.1
  have gst := hg.2.1
  have gkp := hg.2.2.1
  have gT := hg.2.2.2.1
  have e12 : K 1 2 = s 6 := hQ.2.2
  have rl0 := rdS_le (fun j => s (7 + j)) (s 6).toNat
  have rl : 2 * (rdZ s).2.2.2.length + (rdZ s).2.1 + (rdZ s).2.2.1 ≤ (s 6).toNat := rl0
  refine ⟨(Rd K ((rdZ s).2.2.2.length : Nat) ((rdZ s).2.2.1 : Nat) ((rdZ s).2.1 : Nat) (foU (K 9) (rdZ s).2.2.2)), r, ?_, IC_C (EqC_Rd _ _ _ _ _) h, (EqC_Rd _ _ _ _ _).FR⟩
  refine Ct_of kX5_readAt.1.1 (by decide) [some (rf G 0), some (.int (iI p))] rfl (Nat.le_of_ble_eq_true rfl) ?_
  intro x C hZ
  refine V_aload_n C dX5_readAt_0 rfl rfl ?_
  refine V_getH (L := clL G) C dX5_readAt_1 fX5_37 (by decide) (fun _ => rfl) rfl ?_
  refine V_aload_n C dX5_readAt_4 rfl rfl ?_
  refine V_getH (L := clL G) C dX5_readAt_5 fX5_10 (by decide) (fun _ => rfl) rfl ?_
  refine V_getH (L := stL G 1) C dX5_readAt_8 fX5_129 (by decide) (fun _ => rfl) rfl ?_
  rw [hQ.2.1]
  refine V_aload_n C dX5_readAt_11 rfl rfl ?_
  refine V_getH (L := clL G) C dX5_readAt_12 fX5_10 (by decide) (fun _ => rfl) rfl ?_
  refine V_getH (L := stL G 1) C dX5_readAt_15 fX5_119 (by decide) (fun _ => rfl) rfl ?_
  rw [e12]
  refine V_V0 (k2 := 0) (s2 := 0) C dX5_readAt_18 lX5_234 kX1_readAll (rd_now G K r s hz) (by decide) (rfl) rfl rfl rfl ⟨Nat.le_of_ble_eq_true rfl, Nat.le_of_ble_eq_true rfl⟩ (Nat.le_of_ble_eq_true rfl) (Nat.le_refl _) (Nat.le_refl _) ?_
  refine V_iload_n C dX5_readAt_21 rfl rfl ?_
  refine V_if_lt (tgt := 36) C dX5_readAt_22 (by decide) (by omega) (fun q22 => by exfalso; omega) (fun q22 => ?_)
  refine V_iload_n C dX5_readAt_25 rfl rfl ?_
  refine V_aload_n C dX5_readAt_26 rfl rfl ?_
  refine V_getH (L := clL G) C dX5_readAt_27 fX5_37 (by decide) (fun _ => rfl) rfl ?_
  refine V_getH (L := rdL G) C dX5_readAt_30 fX5_238 (by decide) (fun _ => rfl) rfl ?_
  rw [show (Rd K ((rdZ s).2.2.2.length : Nat) ((rdZ s).2.2.1 : Nat) ((rdZ s).2.1 : Nat) (foU (K 9) (rdZ s).2.2.2)) 8 1 = ((rdZ s).2.2.2.length : Nat) from rfl]
  refine V_icmp_lt (tgt := 46) C dX5_readAt_33 (by decide) (by omega) (by omega) (fun q33 => ?_) (fun q33 => by exfalso; omega)
  refine V_aload_n C dX5_readAt_46 rfl rfl ?_
  refine V_getH (L := clL G) C dX5_readAt_47 fX5_37 (by decide) (fun _ => rfl) rfl ?_
  refine V_iload_n C dX5_readAt_50 rfl rfl ?_
  refine V_V1 (k2 := 0) (s2 := 0) C dX5_readAt_51 lX5_243 kX1_numberAt (c_X1_numberAt G _ r p (by omega)) (by decide) (rfl) rfl rfl rfl ⟨Nat.le_of_ble_eq_true rfl, Nat.le_of_ble_eq_true rfl⟩ (Nat.le_of_ble_eq_true rfl) (Nat.le_refl _) (Nat.le_refl _) ?_
  exact V_iret C dX5_readAt_54 rfl hZ (by rw [Rd_9]; exact if_pos (by omega)) rfl
set_option maxRecDepth 100000 in
set_option maxHeartbeats 4000000 in
theorem o_X5_hasStopped (G : GT) (K : Nat → Nat → Int) (r : Nat → Option Nat) (s : Nat → Int) (st : Nat) (kp : Int) (t : Nat → Int) (T : Nat) (h : IC K r s st kp t T) (hg : GI s st kp t T)   : OkO G yX5_hasStopped mX5_hasStopped [rf G 0] K r (.int (iI (b2 (decide (s 71 = 1))))) s st kp t T := by
  have hS := h.2.1
  have hQ := hS.1
  have hz := hg.1
  have g5 := hz.1
  have g6 := hz.2.1
  have hI := h.2.2.1
  have gst := hg.2.1
  have gkp := hg.2.2.1
  have gT := hg.2.2.2.1
  have e12 : K 1 2 = s 6 := hQ.2.2
  obtain ⟨r3, r4, r5, r6⟩ := stop_r hS hz
  refine ⟨K, r, ?_, h, fun _ _ => rfl⟩
  refine Ct_of kX5_hasStopped.1.1 (by decide) [some (rf G 0)] rfl (Nat.le_of_ble_eq_true rfl) ?_
  intro x C hZ
  by_cases c : s 71 = 1
  · have n3 : K 1 3 ≠ -1 := fun w => (r5.mp w) c
    refine V_aload_n C dX5_hasStopped_0 rfl rfl ?_
    refine V_getH (L := clL G) C dX5_hasStopped_1 fX5_10 (by decide) (fun _ => rfl) rfl ?_
    refine V_getH (L := stL G 1) C dX5_hasStopped_4 fX5_164 (by decide) (fun _ => rfl) rfl ?_
    refine V_iconst C dX5_hasStopped_7 ?_
    refine V_icmp_eq (tgt := 15) C dX5_hasStopped_8 (by decide) (by omega) (by omega) (fun q8 => by exfalso; omega) (fun q8 => ?_)
    refine V_iconst C dX5_hasStopped_11 ?_
    refine V_goto (tgt := 16) C dX5_hasStopped_12 (by decide) ?_
    exact V_zret C dX5_hasStopped_16 rfl hZ (b2_01 _) (by first | exact b2_t _ (by omega) | exact b2_f _ (by omega)) rfl
  · have n3 : K 1 3 = -1 := r5.mpr c
    refine V_aload_n C dX5_hasStopped_0 rfl rfl ?_
    refine V_getH (L := clL G) C dX5_hasStopped_1 fX5_10 (by decide) (fun _ => rfl) rfl ?_
    refine V_getH (L := stL G 1) C dX5_hasStopped_4 fX5_164 (by decide) (fun _ => rfl) rfl ?_
    refine V_iconst C dX5_hasStopped_7 ?_
    refine V_icmp_eq (tgt := 15) C dX5_hasStopped_8 (by decide) (by omega) (by omega) (fun q8 => ?_) (fun q8 => by exfalso; omega)
    refine V_iconst C dX5_hasStopped_15 ?_
    exact V_zret C dX5_hasStopped_16 rfl hZ (b2_01 _) (by first | exact b2_t _ (by omega) | exact b2_f _ (by omega)) rfl
set_option maxRecDepth 100000 in
set_option maxHeartbeats 4000000 in
theorem x1_X5_stoppedPart (G : GT) (K : Nat → Nat → Int) (r : Nat → Option Nat) (s : Nat → Int) (st : Nat) (kp : Int) (t : Nat → Int) (T : Nat) (h : IC K r s st kp t T) (hg : GI s st kp t T)  (hc : s 71 ≠ 1) : OkX G yX5_stoppedPart mX5_stoppedPart [rf G 0] K r "java/lang/IllegalStateException" s st kp t T := by
  have hS := h.2.1
  have hQ := hS.1
  have hz := hg.1
  have g5 := hz.1
  have g6 := hz.2.1
  have hI := h.2.2.1
  have gst := hg.2.1
  have gkp := hg.2.2.1
  have gT := hg.2.2.2.1
  have e12 : K 1 2 = s 6 := hQ.2.2
  obtain ⟨r3, r4, r5, r6⟩ := stop_r hS hz
  refine ⟨K, ?_, h, fun _ _ => rfl⟩
  refine CtX_of kX5_stoppedPart.1.1 (by decide) [some (rf G 0)] rfl (Nat.le_of_ble_eq_true rfl) ?_
  intro x C hZ
  refine V_aload_n C dX5_stoppedPart_0 rfl rfl ?_
  exact V_VX (k2 := 0) (s2 := 0) C dX5_stoppedPart_1 lX5_167 kX5_checkStopped (x_X5_checkStopped G K r r3 (r5.mpr hc)) (by decide) (rfl) rfl rfl rfl ⟨Nat.le_of_ble_eq_true rfl, Nat.le_of_ble_eq_true rfl⟩ (Nat.le_of_ble_eq_true rfl) (by omega) (by omega) (VX_out C rfl hZ)
set_option maxRecDepth 100000 in
set_option maxHeartbeats 4000000 in
theorem o_X5_stoppedPart (G : GT) (K : Nat → Nat → Int) (r : Nat → Option Nat) (s : Nat → Int) (st : Nat) (kp : Int) (t : Nat → Int) (T : Nat) (h : IC K r s st kp t T) (hg : GI s st kp t T)  (hc : s 71 = 1) : OkO G yX5_stoppedPart mX5_stoppedPart [rf G 0] K r (.int (iI (s 72))) s st kp t T := by
  have hS := h.2.1
  have hQ := hS.1
  have hz := hg.1
  have g5 := hz.1
  have g6 := hz.2.1
  have hI := h.2.2.1
  have gst := hg.2.1
  have gkp := hg.2.2.1
  have gT := hg.2.2.2.1
  have e12 : K 1 2 = s 6 := hQ.2.2
  obtain ⟨r3, r4, r5, r6⟩ := stop_r hS hz
  refine ⟨K, r, ?_, h, fun _ _ => rfl⟩
  refine Ct_of kX5_stoppedPart.1.1 (by decide) [some (rf G 0)] rfl (Nat.le_of_ble_eq_true rfl) ?_
  intro x C hZ
  refine V_aload_n C dX5_stoppedPart_0 rfl rfl ?_
  refine V_V0 (k2 := 0) (s2 := 0) C dX5_stoppedPart_1 lX5_167 kX5_checkStopped (c_X5_checkStopped G K r r3 (fun w => (r5.mp w) hc)) (by decide) (rfl) rfl rfl rfl ⟨Nat.le_of_ble_eq_true rfl, Nat.le_of_ble_eq_true rfl⟩ (Nat.le_of_ble_eq_true rfl) (Nat.le_refl _) (Nat.le_refl _) ?_
  refine V_aload_n C dX5_stoppedPart_4 rfl rfl ?_
  refine V_getH (L := clL G) C dX5_stoppedPart_5 fX5_10 (by decide) (fun _ => rfl) rfl ?_
  refine V_getH (L := stL G 1) C dX5_stoppedPart_8 fX5_164 (by decide) (fun _ => rfl) rfl ?_
  exact V_iret C dX5_stoppedPart_11 rfl hZ (r6 hc).1 rfl
set_option maxRecDepth 100000 in
set_option maxHeartbeats 4000000 in
theorem x1_X5_whyStopped (G : GT) (K : Nat → Nat → Int) (r : Nat → Option Nat) (s : Nat → Int) (st : Nat) (kp : Int) (t : Nat → Int) (T : Nat) (h : IC K r s st kp t T) (hg : GI s st kp t T)  (hc : s 71 ≠ 1) : OkX G yX5_whyStopped mX5_whyStopped [rf G 0] K r "java/lang/IllegalStateException" s st kp t T := by
  have hS := h.2.1
  have hQ := hS.1
  have hz := hg.1
  have g5 := hz.1
  have g6 := hz.2.1
  have hI := h.2.2.1
  have gst := hg.2.1
  have gkp := hg.2.2.1
  have gT := hg.2.2.2.1
  have e12 : K 1 2 = s 6 := hQ.2.2
  obtain ⟨r3, r4, r5, r6⟩ := stop_r hS hz
  refine ⟨K, ?_, h, fun _ _ => rfl⟩
  refine CtX_of kX5_whyStopped.1.1 (by decide) [some (rf G 0)] rfl (Nat.le_of_ble_eq_true rfl) ?_
  intro x C hZ
  refine V_aload_n C dX5_whyStopped_0 rfl rfl ?_
  exact V_VX (k2 := 0) (s2 := 0) C dX5_whyStopped_1 lX5_167 kX5_checkStopped (x_X5_checkStopped G K r r3 (r5.mpr hc)) (by decide) (rfl) rfl rfl rfl ⟨Nat.le_of_ble_eq_true rfl, Nat.le_of_ble_eq_true rfl⟩ (Nat.le_of_ble_eq_true rfl) (by omega) (by omega) (VX_out C rfl hZ)
set_option maxRecDepth 100000 in
set_option maxHeartbeats 4000000 in
theorem o_X5_whyStopped (G : GT) (K : Nat → Nat → Int) (r : Nat → Option Nat) (s : Nat → Int) (st : Nat) (kp : Int) (t : Nat → Int) (T : Nat) (h : IC K r s st kp t T) (hg : GI s st kp t T)  (hc : s 71 = 1) : OkO G yX5_whyStopped mX5_whyStopped [rf G 0] K r (.int (iI (s 73))) s st kp t T := by
  have hS := h.2.1
  have hQ := hS.1
  have hz := hg.1
  have g5 := hz.1
  have g6 := hz.2.1
  have hI := h.2.2.1
  have gst := hg.2.1
  have gkp := hg.2.2.1
  have gT := hg.2.2.2.1
  have e12 : K 1 2 = s 6 := hQ.2.2
  obtain ⟨r3, r4, r5, r6⟩ := stop_r hS hz
  refine ⟨K, r, ?_, h, fun _ _ => rfl⟩
  refine Ct_of kX5_whyStopped.1.1 (by decide) [some (rf G 0)] rfl (Nat.le_of_ble_eq_true rfl) ?_
  intro x C hZ
  refine V_aload_n C dX5_whyStopped_0 rfl rfl ?_
  refine V_V0 (k2 := 0) (s2 := 0) C dX5_whyStopped_1 lX5_167 kX5_checkStopped (c_X5_checkStopped G K r r3 (fun w => (r5.mp w) hc)) (by decide) (rfl) rfl rfl rfl ⟨Nat.le_of_ble_eq_true rfl, Nat.le_of_ble_eq_true rfl⟩ (Nat.le_of_ble_eq_true rfl) (Nat.le_refl _) (Nat.le_refl _) ?_
  refine V_aload_n C dX5_whyStopped_4 rfl rfl ?_
  refine V_getH (L := clL G) C dX5_whyStopped_5 fX5_10 (by decide) (fun _ => rfl) rfl ?_
  refine V_getH (L := stL G 1) C dX5_whyStopped_8 fX5_170 (by decide) (fun _ => rfl) rfl ?_
  exact V_iret C dX5_whyStopped_11 rfl hZ (r6 hc).2 rfl
set_option maxRecDepth 100000 in
set_option maxHeartbeats 4000000 in
theorem o_X5_savedStates (G : GT) (K : Nat → Nat → Int) (r : Nat → Option Nat) (s : Nat → Int) (st : Nat) (kp : Int) (t : Nat → Int) (T : Nat) (h : IC K r s st kp t T) (hg : GI s st kp t T)   : OkO G yX5_savedStates mX5_savedStates [rf G 0] K r (.int (iI (st : Int))) s st kp t T := by
  have hS := h.2.1
  have hQ := hS.1
  have hz := hg.1
  have g5 := hz.1
  have g6 := hz.2.1
  have hI := h.2.2.1
  have gst := hg.2.1
  have gkp := hg.2.2.1
  have gT := hg.2.2.2.1
  have e12 : K 1 2 = s 6 := hQ.2.2
  refine ⟨K, r, ?_, h, fun _ _ => rfl⟩
  refine Ct_of kX5_savedStates.1.1 (by decide) [some (rf G 0)] rfl (Nat.le_of_ble_eq_true rfl) ?_
  intro x C hZ
  refine V_aload_n C dX5_savedStates_0 rfl rfl ?_
  refine V_getH (L := clL G) C dX5_savedStates_1 fX5_173 (by decide) (fun _ => rfl) rfl ?_
  exact V_iret C dX5_savedStates_4 rfl hZ hI.2.1 rfl
