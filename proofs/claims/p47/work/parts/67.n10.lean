set_option maxRecDepth 100000 in
set_option maxHeartbeats 4000000 in
theorem x1_X5_set (G : GT) (K : Nat → Nat → Int) (r : Nat → Option Nat) (s : Nat → Int) (st : Nat) (kp : Int) (t : Nat → Int) (T : Nat) (h : IC K r s st kp t T) (hg : GI s st kp t T) (p : Int) (hp : -2147483648 ≤ p ∧ p < 2147483648) (q : Int) (hq : -2147483648 ≤ q ∧ q < 2147483648) (hc : ¬ (0 ≤ p ∧ p ≤ 5)) : OkX G yX5_set mX5_set [rf G 0, .int (iI p), .int (iI q)] K r "java/lang/IndexOutOfBoundsException" s st kp t T := by
  have hS := h.2.1
  have hQ := hS.1
  have hz := hg.1
  have g5 := hz.1
  have g6 := hz.2.1
  have hI := h.2.2.1
  have gst := hg.2.1
  have gkp := hg.2.2.1
  have gT := hg.2.2.2.1
  have e12 : K 1 2 = s 6 := hQ.2.2
  refine ⟨K, ?_, h, fun _ _ => rfl⟩
  refine CtX_of kX5_set.1.1 (by decide) [some (rf G 0), some (.int (iI p)), some (.int (iI q)), none] rfl (Nat.le_of_ble_eq_true rfl) ?_
  intro x C hZ
  refine V_iload_n C dX5_set_0 rfl rfl ?_
  exact V_SX (k2 := 0) (s2 := 0) C dX5_set_1 lX5_58 kX5_checkStall (x_X5_checkStall G K r p (by omega) (by omega)) rfl rfl ⟨Nat.le_of_ble_eq_true rfl, Nat.le_of_ble_eq_true rfl⟩ (Nat.le_of_ble_eq_true rfl) (by omega) (by omega) (VX_out C rfl hZ)
set_option maxRecDepth 100000 in
set_option maxHeartbeats 4000000 in
theorem x2_X5_set (G : GT) (K : Nat → Nat → Int) (r : Nat → Option Nat) (s : Nat → Int) (st : Nat) (kp : Int) (t : Nat → Int) (T : Nat) (h : IC K r s st kp t T) (hg : GI s st kp t T) (p : Int) (hp : -2147483648 ≤ p ∧ p < 2147483648) (q : Int) (hq : -2147483648 ≤ q ∧ q < 2147483648) (hc : 0 ≤ p ∧ p ≤ 5) (hd : ¬ (0 ≤ q ∧ q ≤ 6764)) : OkX G yX5_set mX5_set [rf G 0, .int (iI p), .int (iI q)] K r "java/lang/IllegalArgumentException" s st kp t T := by
  have hS := h.2.1
  have hQ := hS.1
  have hz := hg.1
  have g5 := hz.1
  have g6 := hz.2.1
  have hI := h.2.2.1
  have gst := hg.2.1
  have gkp := hg.2.2.1
  have gT := hg.2.2.2.1
  have e12 : K 1 2 = s 6 := hQ.2.2
  refine ⟨K, ?_, h, fun _ _ => rfl⟩
  refine CtX_of kX5_set.1.1 (by decide) [some (rf G 0), some (.int (iI p)), some (.int (iI q)), none] rfl (Nat.le_of_ble_eq_true rfl) ?_
  intro x C hZ
  refine V_iload_n C dX5_set_0 rfl rfl ?_
  refine V_S0 (k2 := 1) (s2 := 6) C dX5_set_1 lX5_58 kX5_checkStall (c_X5_checkStall G K r p (by omega) (by omega)) rfl rfl ⟨Nat.le_of_ble_eq_true rfl, Nat.le_of_ble_eq_true rfl⟩ (Nat.le_of_ble_eq_true rfl) (Nat.le_refl _) (Nat.le_refl _) ?_
  refine V_iload_n C dX5_set_4 rfl rfl ?_
  exact V_SX (k2 := 0) (s2 := 0) C dX5_set_5 lX5_62 kX5_checkNumber (x_X5_checkNumber G K r q (by omega) (by omega)) rfl rfl ⟨Nat.le_of_ble_eq_true rfl, Nat.le_of_ble_eq_true rfl⟩ (Nat.le_of_ble_eq_true rfl) (by omega) (by omega) (VX_out C rfl hZ)
set_option maxRecDepth 100000 in
set_option maxHeartbeats 4000000 in
theorem o_X5_set (G : GT) (K : Nat → Nat → Int) (r : Nat → Option Nat) (s : Nat → Int) (st : Nat) (kp : Int) (t : Nat → Int) (T : Nat) (h : IC K r s st kp t T) (hg : GI s st kp t T) (p : Int) (hp : -2147483648 ≤ p ∧ p < 2147483648) (q : Int) (hq : -2147483648 ≤ q ∧ q < 2147483648) (hc : 0 ≤ p ∧ p ≤ 5) (hd : 0 ≤ q ∧ q ≤ 6764) : OkO G yX5_set mX5_set [rf G 0, .int (iI p), .int (iI q)] K r (.int (iI (s p.toNat))) (us (svS s st) p.toNat q) (st1 st) kp t T := by
  have hS := h.2.1
  have hQ := hS.1
  have hz := hg.1
  have g5 := hz.1
  have g6 := hz.2.1
  have hI := h.2.2.1
  have gst := hg.2.1
  have gkp := hg.2.2.1
  have gT := hg.2.2.2.1
  have e12 : K 1 2 = s 6 := hQ.2.2
  have kpp := hQ.1 p.toNat (by omega)
  have zp := g5 p.toNat (by omega)
  obtain ⟨K1, r1, hsv, hi, hf⟩ := c_X5_saveNow G K r s st kp t T h hg
  have hg1 := GI_save hg
  have hS1 := hi.2.1
  have hQ1 := hS1.1
  have e112 : K1 1 2 = svS s st 6 := hQ1.2.2
  have z6 : svS s st 6 = s 6 := svS_0 (by decide)
  refine ⟨us K1 2 (us (K1 2) p.toNat q), r1, ?_, IC_now hi (fun q n1 n2 _ => us_ne _ _ n2) (RS_give hS1 hc) (fun j hj => us_ne _ _ (by omega)), hf.tr (FR_us (by decide))⟩
  refine Ct_of kX5_set.1.1 (by decide) [some (rf G 0), some (.int (iI p)), some (.int (iI q)), none] rfl (Nat.le_of_ble_eq_true rfl) ?_
  intro x C hZ
  refine V_iload_n C dX5_set_0 rfl rfl ?_
  refine V_S0 (k2 := 0) (s2 := 0) C dX5_set_1 lX5_58 kX5_checkStall (c_X5_checkStall G K r p (by omega) (by omega)) rfl rfl ⟨Nat.le_of_ble_eq_true rfl, Nat.le_of_ble_eq_true rfl⟩ (Nat.le_of_ble_eq_true rfl) (Nat.le_refl _) (Nat.le_refl _) ?_
  refine V_iload_n C dX5_set_4 rfl rfl ?_
  refine V_S0 (k2 := 0) (s2 := 0) C dX5_set_5 lX5_62 kX5_checkNumber (c_X5_checkNumber G K r q (by omega) (by omega)) rfl rfl ⟨Nat.le_of_ble_eq_true rfl, Nat.le_of_ble_eq_true rfl⟩ (Nat.le_of_ble_eq_true rfl) (Nat.le_refl _) (Nat.le_refl _) ?_
  refine V_aload_n C dX5_set_8 rfl rfl ?_
  refine V_getH (L := clL G) C dX5_set_9 fX5_10 (by decide) (fun _ => rfl) rfl ?_
  refine V_iload_n C dX5_set_12 rfl rfl ?_
  refine V_V1 (k2 := 0) (s2 := 0) C dX5_set_13 lX5_65 kX2_numberIn (c_X2_numberIn G K r 1 rfl p (by omega)) (by decide) (rfl) rfl rfl rfl ⟨Nat.le_of_ble_eq_true rfl, Nat.le_of_ble_eq_true rfl⟩ (Nat.le_of_ble_eq_true rfl) (Nat.le_refl _) (Nat.le_refl _) ?_
  refine V_istore_n C dX5_set_16 rfl (Nat.le_of_ble_eq_true rfl) rfl ?_
  refine V_aload_n C dX5_set_17 rfl rfl ?_
  refine V_V0 (k2 := 0) (s2 := 0) C dX5_set_18 lX5_69 kX5_saveNow (hsv) (by decide) (rfl) rfl rfl rfl ⟨Nat.le_of_ble_eq_true rfl, Nat.le_of_ble_eq_true rfl⟩ (Nat.le_of_ble_eq_true rfl) (Nat.le_refl _) (Nat.le_refl _) ?_
  refine V_aload_n C dX5_set_21 rfl rfl ?_
  refine V_getH (L := clL G) C dX5_set_22 fX5_10 (by decide) (fun _ => rfl) rfl ?_
  refine V_iload_n C dX5_set_25 rfl rfl ?_
  refine V_iload_n C dX5_set_26 rfl rfl ?_
  refine V_V0 (k2 := 0) (s2 := 0) C dX5_set_27 lX5_72 kX2_give (c_X2_give G K1 r1 1 rfl p (by omega) q) (by decide) (rfl) rfl rfl rfl ⟨Nat.le_of_ble_eq_true rfl, Nat.le_of_ble_eq_true rfl⟩ (Nat.le_of_ble_eq_true rfl) (Nat.le_refl _) (Nat.le_refl _) ?_
  refine V_iload_n C dX5_set_30 rfl rfl ?_
  exact V_iret C dX5_set_31 rfl hZ kpp rfl
theorem gi_set (s : Nat → Int) (st : Nat) (kp : Int) (t : Nat → Int) (T : Nat) (hg : GI s st kp t T) (p : Int) (hp : -2147483648 ≤ p ∧ p < 2147483648) (q : Int) (hq : -2147483648 ≤ q ∧ q < 2147483648) (hc : 0 ≤ p ∧ p ≤ 5) (hd : 0 ≤ q ∧ q ≤ 6764) : GI (us (svS s st) p.toNat q) (st1 st) kp t T := by
  exact GI_now (GI_save hg) (GZ_num (GI_save hg).1 (by omega) hd) (fun j hj => us_ne _ _ (by omega))
set_option maxRecDepth 100000 in
set_option maxHeartbeats 4000000 in
theorem x1_X5_add (G : GT) (K : Nat → Nat → Int) (r : Nat → Option Nat) (s : Nat → Int) (st : Nat) (kp : Int) (t : Nat → Int) (T : Nat) (h : IC K r s st kp t T) (hg : GI s st kp t T) (p : Int) (hp : -2147483648 ≤ p ∧ p < 2147483648) (q : Int) (hq : -2147483648 ≤ q ∧ q < 2147483648) (hc : ¬ ((0 ≤ p ∧ p ≤ 5) ∧ 0 ≤ q ∧ q ≤ 5)) : OkX G yX5_add mX5_add [rf G 0, .int (iI p), .int (iI q)] K r "java/lang/IndexOutOfBoundsException" s st kp t T := by
  have hS := h.2.1
  have hQ := hS.1
  have hz := hg.1
  have g5 := hz.1
  have g6 := hz.2.1
  have hI := h.2.2.1
  have gst := hg.2.1
  have gkp := hg.2.2.1
  have gT := hg.2.2.2.1
  have e12 : K 1 2 = s 6 := hQ.2.2
  refine ⟨K, ?_, h, fun _ _ => rfl⟩
  refine CtX_of kX5_add.1.1 (by decide) [some (rf G 0), some (.int (iI p)), some (.int (iI q)), none, none] rfl (Nat.le_of_ble_eq_true rfl) ?_
  intro x C hZ
  by_cases c1 : 0 ≤ p ∧ p ≤ 5
  · skip
    refine V_iload_n C dX5_add_0 rfl rfl ?_
    refine V_S0 (k2 := 1) (s2 := 6) C dX5_add_1 lX5_58 kX5_checkStall (c_X5_checkStall G K r p (by omega) (by omega)) rfl rfl ⟨Nat.le_of_ble_eq_true rfl, Nat.le_of_ble_eq_true rfl⟩ (Nat.le_of_ble_eq_true rfl) (Nat.le_refl _) (Nat.le_refl _) ?_
    refine V_iload_n C dX5_add_4 rfl rfl ?_
    exact V_SX (k2 := 0) (s2 := 0) C dX5_add_5 lX5_58 kX5_checkStall (x_X5_checkStall G K r q (by omega) (by omega)) rfl rfl ⟨Nat.le_of_ble_eq_true rfl, Nat.le_of_ble_eq_true rfl⟩ (Nat.le_of_ble_eq_true rfl) (by omega) (by omega) (VX_out C rfl hZ)
  · skip
    refine V_iload_n C dX5_add_0 rfl rfl ?_
    exact V_SX (k2 := 0) (s2 := 0) C dX5_add_1 lX5_58 kX5_checkStall (x_X5_checkStall G K r p (by omega) (by omega)) rfl rfl ⟨Nat.le_of_ble_eq_true rfl, Nat.le_of_ble_eq_true rfl⟩ (Nat.le_of_ble_eq_true rfl) (by omega) (by omega) (VX_out C rfl hZ)
set_option maxRecDepth 100000 in
set_option maxHeartbeats 4000000 in
theorem x2_X5_add (G : GT) (K : Nat → Nat → Int) (r : Nat → Option Nat) (s : Nat → Int) (st : Nat) (kp : Int) (t : Nat → Int) (T : Nat) (h : IC K r s st kp t T) (hg : GI s st kp t T) (p : Int) (hp : -2147483648 ≤ p ∧ p < 2147483648) (q : Int) (hq : -2147483648 ≤ q ∧ q < 2147483648) (hc : (0 ≤ p ∧ p ≤ 5) ∧ 0 ≤ q ∧ q ≤ 5) (hd : ¬ (s p.toNat + s q.toNat ≤ 6764)) : OkX G yX5_add mX5_add [rf G 0, .int (iI p), .int (iI q)] K r "java/lang/IllegalStateException" s st kp t T := by
  have hS := h.2.1
  have hQ := hS.1
  have hz := hg.1
  have g5 := hz.1
  have g6 := hz.2.1
  have hI := h.2.2.1
  have gst := hg.2.1
  have gkp := hg.2.2.1
  have gT := hg.2.2.2.1
  have e12 : K 1 2 = s 6 := hQ.2.2
  have kpp := hQ.1 p.toNat (by omega)
  have zp := g5 p.toNat (by omega)
  have kq := hQ.1 q.toNat (by omega)
  have zq := g5 q.toNat (by omega)
  refine ⟨K, ?_, h, fun _ _ => rfl⟩
  refine CtX_of kX5_add.1.1 (by decide) [some (rf G 0), some (.int (iI p)), some (.int (iI q)), none, none] rfl (Nat.le_of_ble_eq_true rfl) ?_
  intro x C hZ
  refine V_iload_n C dX5_add_0 rfl rfl ?_
  refine V_S0 (k2 := 1) (s2 := 6) C dX5_add_1 lX5_58 kX5_checkStall (c_X5_checkStall G K r p (by omega) (by omega)) rfl rfl ⟨Nat.le_of_ble_eq_true rfl, Nat.le_of_ble_eq_true rfl⟩ (Nat.le_of_ble_eq_true rfl) (Nat.le_refl _) (Nat.le_refl _) ?_
  refine V_iload_n C dX5_add_4 rfl rfl ?_
  refine V_S0 (k2 := 1) (s2 := 6) C dX5_add_5 lX5_58 kX5_checkStall (c_X5_checkStall G K r q (by omega) (by omega)) rfl rfl ⟨Nat.le_of_ble_eq_true rfl, Nat.le_of_ble_eq_true rfl⟩ (Nat.le_of_ble_eq_true rfl) (Nat.le_refl _) (Nat.le_refl _) ?_
  refine V_aload_n C dX5_add_8 rfl rfl ?_
  refine V_getH (L := clL G) C dX5_add_9 fX5_10 (by decide) (fun _ => rfl) rfl ?_
  refine V_iload_n C dX5_add_12 rfl rfl ?_
  refine V_V1 (k2 := 1) (s2 := 6) C dX5_add_13 lX5_65 kX2_numberIn (c_X2_numberIn G K r 1 rfl p (by omega)) (by decide) (rfl) rfl rfl rfl ⟨Nat.le_of_ble_eq_true rfl, Nat.le_of_ble_eq_true rfl⟩ (Nat.le_of_ble_eq_true rfl) (Nat.le_refl _) (Nat.le_refl _) ?_
  rw [kpp]
  refine V_aload_n C dX5_add_16 rfl rfl ?_
  refine V_getH (L := clL G) C dX5_add_17 fX5_10 (by decide) (fun _ => rfl) rfl ?_
  refine V_iload_n C dX5_add_20 rfl rfl ?_
  refine V_V1 (k2 := 1) (s2 := 6) C dX5_add_21 lX5_65 kX2_numberIn (c_X2_numberIn G K r 1 rfl q (by omega)) (by decide) (rfl) rfl rfl rfl ⟨Nat.le_of_ble_eq_true rfl, Nat.le_of_ble_eq_true rfl⟩ (Nat.le_of_ble_eq_true rfl) (Nat.le_refl _) (Nat.le_refl _) ?_
  rw [kq]
  refine V_iadd C dX5_add_24 ?_
  refine V_istore_n C dX5_add_25 rfl (Nat.le_of_ble_eq_true rfl) rfl ?_
  refine V_iload_n C dX5_add_26 rfl rfl ?_
  refine V_sipush C dX5_add_27 (by decide +kernel) ?_
  refine V_icmp_le (tgt := 43) C dX5_add_30 (by decide) (by omega) (by omega) (fun q30 => by exfalso; omega) (fun q30 => ?_)
  exact V_throw 0 C TH_ISE rfl rfl dX5_add_33 dX5_add_36 dX5_add_37 dX5_add_39 dX5_add_42 (Nat.le_of_ble_eq_true rfl) (Nat.le_of_ble_eq_true rfl) hZ rfl (by omega) (by omega)
set_option maxRecDepth 100000 in
set_option maxHeartbeats 4000000 in
theorem o_X5_add (G : GT) (K : Nat → Nat → Int) (r : Nat → Option Nat) (s : Nat → Int) (st : Nat) (kp : Int) (t : Nat → Int) (T : Nat) (h : IC K r s st kp t T) (hg : GI s st kp t T) (p : Int) (hp : -2147483648 ≤ p ∧ p < 2147483648) (q : Int) (hq : -2147483648 ≤ q ∧ q < 2147483648) (hc : (0 ≤ p ∧ p ≤ 5) ∧ 0 ≤ q ∧ q ≤ 5) (hd : s p.toNat + s q.toNat ≤ 6764) : OkO G yX5_add mX5_add [rf G 0, .int (iI p), .int (iI q)] K r (.int (iI (adC (gm 18 (s p.toNat).toNat) (gm 18 (s q.toNat).toNat) : Nat))) (us (svS s st) p.toNat (s p.toNat + s q.toNat)) (st1 st) kp t T := by
  have hS := h.2.1
  have hQ := hS.1
  have hz := hg.1
  have g5 := hz.1
  have g6 := hz.2.1
  have hI := h.2.2.1
  have gst := hg.2.1
  have gkp := hg.2.2.1
  have gT := hg.2.2.2.1
  have e12 : K 1 2 = s 6 := hQ.2.2
  have kpp := hQ.1 p.toNat (by omega)
  have zp := g5 p.toNat (by omega)
  have kq := hQ.1 q.toNat (by omega)
  have zq := g5 q.toNat (by omega)
  obtain ⟨K1, r1, hsv, hi, hf⟩ := c_X5_saveNow G (us K 11 (adE (gm 18 (s p.toNat).toNat) (gm 18 (s q.toNat).toNat))) r s st kp t T (IC_C (EqC_us (by decide)) h) hg
  have hS1 := hi.2.1
  refine ⟨us K1 2 (us (K1 2) p.toNat (s p.toNat + s q.toNat)), r1, ?_, IC_now hi (fun q n1 n2 _ => us_ne _ _ n2) (RS_give hS1 hc.1) (fun j hj => us_ne _ _ (by omega)), (FR.tr (FR_us (by decide)) hf).tr (FR_us (by decide))⟩
  refine Ct_of kX5_add.1.1 (by decide) [some (rf G 0), some (.int (iI p)), some (.int (iI q)), none, none] rfl (Nat.le_of_ble_eq_true rfl) ?_
  intro x C hZ
  refine V_iload_n C dX5_add_0 rfl rfl ?_
  refine V_S0 (k2 := 0) (s2 := 0) C dX5_add_1 lX5_58 kX5_checkStall (c_X5_checkStall G K r p (by omega) (by omega)) rfl rfl ⟨Nat.le_of_ble_eq_true rfl, Nat.le_of_ble_eq_true rfl⟩ (Nat.le_of_ble_eq_true rfl) (Nat.le_refl _) (Nat.le_refl _) ?_
  refine V_iload_n C dX5_add_4 rfl rfl ?_
  refine V_S0 (k2 := 0) (s2 := 0) C dX5_add_5 lX5_58 kX5_checkStall (c_X5_checkStall G K r q (by omega) (by omega)) rfl rfl ⟨Nat.le_of_ble_eq_true rfl, Nat.le_of_ble_eq_true rfl⟩ (Nat.le_of_ble_eq_true rfl) (Nat.le_refl _) (Nat.le_refl _) ?_
  refine V_aload_n C dX5_add_8 rfl rfl ?_
  refine V_getH (L := clL G) C dX5_add_9 fX5_10 (by decide) (fun _ => rfl) rfl ?_
  refine V_iload_n C dX5_add_12 rfl rfl ?_
  refine V_V1 (k2 := 0) (s2 := 0) C dX5_add_13 lX5_65 kX2_numberIn (c_X2_numberIn G K r 1 rfl p (by omega)) (by decide) (rfl) rfl rfl rfl ⟨Nat.le_of_ble_eq_true rfl, Nat.le_of_ble_eq_true rfl⟩ (Nat.le_of_ble_eq_true rfl) (Nat.le_refl _) (Nat.le_refl _) ?_
  rw [kpp]
  refine V_aload_n C dX5_add_16 rfl rfl ?_
  refine V_getH (L := clL G) C dX5_add_17 fX5_10 (by decide) (fun _ => rfl) rfl ?_
  refine V_iload_n C dX5_add_20 rfl rfl ?_
  refine V_V1 (k2 := 0) (s2 := 0) C dX5_add_21 lX5_65 kX2_numberIn (c_X2_numberIn G K r 1 rfl q (by omega)) (by decide) (rfl) rfl rfl rfl ⟨Nat.le_of_ble_eq_true rfl, Nat.le_of_ble_eq_true rfl⟩ (Nat.le_of_ble_eq_true rfl) (Nat.le_refl _) (Nat.le_refl _) ?_
  rw [kq]
  refine V_iadd C dX5_add_24 ?_
  refine V_istore_n C dX5_add_25 rfl (Nat.le_of_ble_eq_true rfl) rfl ?_
  refine V_iload_n C dX5_add_26 rfl rfl ?_
  refine V_sipush C dX5_add_27 (by decide +kernel) ?_
  refine V_icmp_le (tgt := 43) C dX5_add_30 (by decide) (by omega) (by omega) (fun q30 => ?_) (fun q30 => by exfalso; omega)
  refine V_aload_n C dX5_add_43 rfl rfl ?_
  refine V_iload_n C dX5_add_44 rfl rfl ?_
  refine V_iload_n C dX5_add_45 rfl rfl ?_
  refine V_V1 (k2 := 0) (s2 := 0) C dX5_add_46 lX5_83 kX5_carryStalls (c_X5_carryStalls G K r s hQ hz p q hc.1 hc.2) (by decide) (rfl) rfl rfl rfl ⟨Nat.le_of_ble_eq_true rfl, Nat.le_of_ble_eq_true rfl⟩ (Nat.le_of_ble_eq_true rfl) (Nat.le_refl _) (Nat.le_refl _) ?_
  refine V_istore C dX5_add_49 (Nat.le_of_ble_eq_true rfl) rfl ?_
  refine V_aload_n C dX5_add_51 rfl rfl ?_
  refine V_V0 (k2 := 0) (s2 := 0) C dX5_add_52 lX5_69 kX5_saveNow (hsv) (by decide) (rfl) rfl rfl rfl ⟨Nat.le_of_ble_eq_true rfl, Nat.le_of_ble_eq_true rfl⟩ (Nat.le_of_ble_eq_true rfl) (Nat.le_refl _) (Nat.le_refl _) ?_
  refine V_aload_n C dX5_add_55 rfl rfl ?_
  refine V_getH (L := clL G) C dX5_add_56 fX5_10 (by decide) (fun _ => rfl) rfl ?_
  refine V_iload_n C dX5_add_59 rfl rfl ?_
  refine V_iload_n C dX5_add_60 rfl rfl ?_
  refine V_V0 (k2 := 0) (s2 := 0) C dX5_add_61 lX5_72 kX2_give (c_X2_give G K1 r1 1 rfl p (by omega) (s p.toNat + s q.toNat)) (by decide) (rfl) rfl rfl rfl ⟨Nat.le_of_ble_eq_true rfl, Nat.le_of_ble_eq_true rfl⟩ (Nat.le_of_ble_eq_true rfl) (Nat.le_refl _) (Nat.le_refl _) ?_
  refine V_iload C dX5_add_64 rfl ?_
  exact V_iret C dX5_add_66 rfl hZ rfl rfl
theorem gi_add (s : Nat → Int) (st : Nat) (kp : Int) (t : Nat → Int) (T : Nat) (hg : GI s st kp t T) (p : Int) (hp : -2147483648 ≤ p ∧ p < 2147483648) (q : Int) (hq : -2147483648 ≤ q ∧ q < 2147483648) (hc : (0 ≤ p ∧ p ≤ 5) ∧ 0 ≤ q ∧ q ≤ 5) (hd : s p.toNat + s q.toNat ≤ 6764) : GI (us (svS s st) p.toNat (s p.toNat + s q.toNat)) (st1 st) kp t T := by
  have zp := hg.1.1 p.toNat (by omega)
  have zq := hg.1.1 q.toNat (by omega)
  exact GI_now (GI_save hg) (GZ_num (GI_save hg).1 (by omega) ⟨by omega, by omega⟩) (fun j hj => us_ne _ _ (by omega))
set_option maxRecDepth 100000 in
set_option maxHeartbeats 4000000 in
theorem x1_X5_takeAway (G : GT) (K : Nat → Nat → Int) (r : Nat → Option Nat) (s : Nat → Int) (st : Nat) (kp : Int) (t : Nat → Int) (T : Nat) (h : IC K r s st kp t T) (hg : GI s st kp t T) (p : Int) (hp : -2147483648 ≤ p ∧ p < 2147483648) (q : Int) (hq : -2147483648 ≤ q ∧ q < 2147483648) (hc : ¬ ((0 ≤ p ∧ p ≤ 5) ∧ 0 ≤ q ∧ q ≤ 5)) : OkX G yX5_takeAway mX5_takeAway [rf G 0, .int (iI p), .int (iI q)] K r "java/lang/IndexOutOfBoundsException" s st kp t T := by
  have hS := h.2.1
  have hQ := hS.1
  have hz := hg.1
  have g5 := hz.1
  have g6 := hz.2.1
  have hI := h.2.2.1
  have gst := hg.2.1
  have gkp := hg.2.2.1
  have gT := hg.2.2.2.1
  have e12 : K 1 2 = s 6 := hQ.2.2
  refine ⟨K, ?_, h, fun _ _ => rfl⟩
  refine CtX_of kX5_takeAway.1.1 (by decide) [some (rf G 0), some (.int (iI p)), some (.int (iI q)), none] rfl (Nat.le_of_ble_eq_true rfl) ?_
  intro x C hZ
  by_cases c1 : 0 ≤ p ∧ p ≤ 5
  · skip
    refine V_iload_n C dX5_takeAway_0 rfl rfl ?_
    refine V_S0 (k2 := 1) (s2 := 6) C dX5_takeAway_1 lX5_58 kX5_checkStall (c_X5_checkStall G K r p (by omega) (by omega)) rfl rfl ⟨Nat.le_of_ble_eq_true rfl, Nat.le_of_ble_eq_true rfl⟩ (Nat.le_of_ble_eq_true rfl) (Nat.le_refl _) (Nat.le_refl _) ?_
    refine V_iload_n C dX5_takeAway_4 rfl rfl ?_
    exact V_SX (k2 := 0) (s2 := 0) C dX5_takeAway_5 lX5_58 kX5_checkStall (x_X5_checkStall G K r q (by omega) (by omega)) rfl rfl ⟨Nat.le_of_ble_eq_true rfl, Nat.le_of_ble_eq_true rfl⟩ (Nat.le_of_ble_eq_true rfl) (by omega) (by omega) (VX_out C rfl hZ)
  · skip
    refine V_iload_n C dX5_takeAway_0 rfl rfl ?_
    exact V_SX (k2 := 0) (s2 := 0) C dX5_takeAway_1 lX5_58 kX5_checkStall (x_X5_checkStall G K r p (by omega) (by omega)) rfl rfl ⟨Nat.le_of_ble_eq_true rfl, Nat.le_of_ble_eq_true rfl⟩ (Nat.le_of_ble_eq_true rfl) (by omega) (by omega) (VX_out C rfl hZ)
set_option maxRecDepth 100000 in
set_option maxHeartbeats 4000000 in
theorem x2_X5_takeAway (G : GT) (K : Nat → Nat → Int) (r : Nat → Option Nat) (s : Nat → Int) (st : Nat) (kp : Int) (t : Nat → Int) (T : Nat) (h : IC K r s st kp t T) (hg : GI s st kp t T) (p : Int) (hp : -2147483648 ≤ p ∧ p < 2147483648) (q : Int) (hq : -2147483648 ≤ q ∧ q < 2147483648) (hc : (0 ≤ p ∧ p ≤ 5) ∧ 0 ≤ q ∧ q ≤ 5) (hd : ¬ (s q.toNat ≤ s p.toNat)) : OkX G yX5_takeAway mX5_takeAway [rf G 0, .int (iI p), .int (iI q)] K r "java/lang/IllegalStateException" s st kp t T := by
  have hS := h.2.1
  have hQ := hS.1
  have hz := hg.1
  have g5 := hz.1
  have g6 := hz.2.1
  have hI := h.2.2.1
  have gst := hg.2.1
  have gkp := hg.2.2.1
  have gT := hg.2.2.2.1
  have e12 : K 1 2 = s 6 := hQ.2.2
  have kpp := hQ.1 p.toNat (by omega)
  have zp := g5 p.toNat (by omega)
  have kq := hQ.1 q.toNat (by omega)
  have zq := g5 q.toNat (by omega)
  refine ⟨K, ?_, h, fun _ _ => rfl⟩
  refine CtX_of kX5_takeAway.1.1 (by decide) [some (rf G 0), some (.int (iI p)), some (.int (iI q)), none] rfl (Nat.le_of_ble_eq_true rfl) ?_
  intro x C hZ
  refine V_iload_n C dX5_takeAway_0 rfl rfl ?_
  refine V_S0 (k2 := 1) (s2 := 6) C dX5_takeAway_1 lX5_58 kX5_checkStall (c_X5_checkStall G K r p (by omega) (by omega)) rfl rfl ⟨Nat.le_of_ble_eq_true rfl, Nat.le_of_ble_eq_true rfl⟩ (Nat.le_of_ble_eq_true rfl) (Nat.le_refl _) (Nat.le_refl _) ?_
  refine V_iload_n C dX5_takeAway_4 rfl rfl ?_
  refine V_S0 (k2 := 1) (s2 := 6) C dX5_takeAway_5 lX5_58 kX5_checkStall (c_X5_checkStall G K r q (by omega) (by omega)) rfl rfl ⟨Nat.le_of_ble_eq_true rfl, Nat.le_of_ble_eq_true rfl⟩ (Nat.le_of_ble_eq_true rfl) (Nat.le_refl _) (Nat.le_refl _) ?_
  refine V_aload_n C dX5_takeAway_8 rfl rfl ?_
  refine V_getH (L := clL G) C dX5_takeAway_9 fX5_10 (by decide) (fun _ => rfl) rfl ?_
  refine V_iload_n C dX5_takeAway_12 rfl rfl ?_
  refine V_V1 (k2 := 1) (s2 := 6) C dX5_takeAway_13 lX5_65 kX2_numberIn (c_X2_numberIn G K r 1 rfl p (by omega)) (by decide) (rfl) rfl rfl rfl ⟨Nat.le_of_ble_eq_true rfl, Nat.le_of_ble_eq_true rfl⟩ (Nat.le_of_ble_eq_true rfl) (Nat.le_refl _) (Nat.le_refl _) ?_
  rw [kpp]
  refine V_aload_n C dX5_takeAway_16 rfl rfl ?_
  refine V_getH (L := clL G) C dX5_takeAway_17 fX5_10 (by decide) (fun _ => rfl) rfl ?_
  refine V_iload_n C dX5_takeAway_20 rfl rfl ?_
  refine V_V1 (k2 := 1) (s2 := 6) C dX5_takeAway_21 lX5_65 kX2_numberIn (c_X2_numberIn G K r 1 rfl q (by omega)) (by decide) (rfl) rfl rfl rfl ⟨Nat.le_of_ble_eq_true rfl, Nat.le_of_ble_eq_true rfl⟩ (Nat.le_of_ble_eq_true rfl) (Nat.le_refl _) (Nat.le_refl _) ?_
  rw [kq]
  refine V_isub C dX5_takeAway_24 ?_
  refine V_istore_n C dX5_takeAway_25 rfl (Nat.le_of_ble_eq_true rfl) rfl ?_
  refine V_iload_n C dX5_takeAway_26 rfl rfl ?_
  refine V_if_ge (tgt := 40) C dX5_takeAway_27 (by decide) (by omega) (fun q27 => by exfalso; omega) (fun q27 => ?_)
  exact V_throw 1 C TH_ISE rfl rfl dX5_takeAway_30 dX5_takeAway_33 dX5_takeAway_34 dX5_takeAway_36 dX5_takeAway_39 (Nat.le_of_ble_eq_true rfl) (Nat.le_of_ble_eq_true rfl) hZ rfl (by omega) (by omega)
set_option maxRecDepth 100000 in
set_option maxHeartbeats 4000000 in
theorem o_X5_takeAway (G : GT) (K : Nat → Nat → Int) (r : Nat → Option Nat) (s : Nat → Int) (st : Nat) (kp : Int) (t : Nat → Int) (T : Nat) (h : IC K r s st kp t T) (hg : GI s st kp t T) (p : Int) (hp : -2147483648 ≤ p ∧ p < 2147483648) (q : Int) (hq : -2147483648 ≤ q ∧ q < 2147483648) (hc : (0 ≤ p ∧ p ≤ 5) ∧ 0 ≤ q ∧ q ≤ 5) (hd : s q.toNat ≤ s p.toNat) : OkO G yX5_takeAway mX5_takeAway [rf G 0, .int (iI p), .int (iI q)] K r (.int (iI (s p.toNat - s q.toNat))) (us (svS s st) p.toNat (s p.toNat - s q.toNat)) (st1 st) kp t T := by
  have hS := h.2.1
  have hQ := hS.1
  have hz := hg.1
  have g5 := hz.1
  have g6 := hz.2.1
  have hI := h.2.2.1
  have gst := hg.2.1
  have gkp := hg.2.2.1
  have gT := hg.2.2.2.1
  have e12 : K 1 2 = s 6 := hQ.2.2
  have kpp := hQ.1 p.toNat (by omega)
  have zp := g5 p.toNat (by omega)
  have kq := hQ.1 q.toNat (by omega)
  have zq := g5 q.toNat (by omega)
  obtain ⟨K1, r1, hsv, hi, hf⟩ := c_X5_saveNow G K r s st kp t T h hg
  have hg1 := GI_save hg
  have hS1 := hi.2.1
  have hQ1 := hS1.1
  have e112 : K1 1 2 = svS s st 6 := hQ1.2.2
  have z6 : svS s st 6 = s 6 := svS_0 (by decide)
  refine ⟨us K1 2 (us (K1 2) p.toNat (s p.toNat - s q.toNat)), r1, ?_, IC_now hi (fun q n1 n2 _ => us_ne _ _ n2) (RS_give hS1 hc.1) (fun j hj => us_ne _ _ (by omega)), hf.tr (FR_us (by decide))⟩
  refine Ct_of kX5_takeAway.1.1 (by decide) [some (rf G 0), some (.int (iI p)), some (.int (iI q)), none] rfl (Nat.le_of_ble_eq_true rfl) ?_
  intro x C hZ
  refine V_iload_n C dX5_takeAway_0 rfl rfl ?_
  refine V_S0 (k2 := 0) (s2 := 0) C dX5_takeAway_1 lX5_58 kX5_checkStall (c_X5_checkStall G K r p (by omega) (by omega)) rfl rfl ⟨Nat.le_of_ble_eq_true rfl, Nat.le_of_ble_eq_true rfl⟩ (Nat.le_of_ble_eq_true rfl) (Nat.le_refl _) (Nat.le_refl _) ?_
  refine V_iload_n C dX5_takeAway_4 rfl rfl ?_
  refine V_S0 (k2 := 0) (s2 := 0) C dX5_takeAway_5 lX5_58 kX5_checkStall (c_X5_checkStall G K r q (by omega) (by omega)) rfl rfl ⟨Nat.le_of_ble_eq_true rfl, Nat.le_of_ble_eq_true rfl⟩ (Nat.le_of_ble_eq_true rfl) (Nat.le_refl _) (Nat.le_refl _) ?_
  refine V_aload_n C dX5_takeAway_8 rfl rfl ?_
  refine V_getH (L := clL G) C dX5_takeAway_9 fX5_10 (by decide) (fun _ => rfl) rfl ?_
  refine V_iload_n C dX5_takeAway_12 rfl rfl ?_
  refine V_V1 (k2 := 0) (s2 := 0) C dX5_takeAway_13 lX5_65 kX2_numberIn (c_X2_numberIn G K r 1 rfl p (by omega)) (by decide) (rfl) rfl rfl rfl ⟨Nat.le_of_ble_eq_true rfl, Nat.le_of_ble_eq_true rfl⟩ (Nat.le_of_ble_eq_true rfl) (Nat.le_refl _) (Nat.le_refl _) ?_
  rw [kpp]
  refine V_aload_n C dX5_takeAway_16 rfl rfl ?_
  refine V_getH (L := clL G) C dX5_takeAway_17 fX5_10 (by decide) (fun _ => rfl) rfl ?_
  refine V_iload_n C dX5_takeAway_20 rfl rfl ?_
  refine V_V1 (k2 := 0) (s2 := 0) C dX5_takeAway_21 lX5_65 kX2_numberIn (c_X2_numberIn G K r 1 rfl q (by omega)) (by decide) (rfl) rfl rfl rfl ⟨Nat.le_of_ble_eq_true rfl, Nat.le_of_ble_eq_true rfl⟩ (Nat.le_of_ble_eq_true rfl) (Nat.le_refl _) (Nat.le_refl _) ?_
  rw [kq]
  refine V_isub C dX5_takeAway_24 ?_
  refine V_istore_n C dX5_takeAway_25 rfl (Nat.le_of_ble_eq_true rfl) rfl ?_
  refine V_iload_n C dX5_takeAway_26 rfl rfl ?_
  refine V_if_ge (tgt := 40) C dX5_takeAway_27 (by decide) (by omega) (fun q27 => ?_) (fun q27 => by exfalso; omega)
  refine V_aload_n C dX5_takeAway_40 rfl rfl ?_
  refine V_V0 (k2 := 0) (s2 := 0) C dX5_takeAway_41 lX5_69 kX5_saveNow (hsv) (by decide) (rfl) rfl rfl rfl ⟨Nat.le_of_ble_eq_true rfl, Nat.le_of_ble_eq_true rfl⟩ (Nat.le_of_ble_eq_true rfl) (Nat.le_refl _) (Nat.le_refl _) ?_
  refine V_aload_n C dX5_takeAway_44 rfl rfl ?_
  refine V_getH (L := clL G) C dX5_takeAway_45 fX5_10 (by decide) (fun _ => rfl) rfl ?_
  refine V_iload_n C dX5_takeAway_48 rfl rfl ?_
  refine V_iload_n C dX5_takeAway_49 rfl rfl ?_
  refine V_V0 (k2 := 0) (s2 := 0) C dX5_takeAway_50 lX5_72 kX2_give (c_X2_give G K1 r1 1 rfl p (by omega) (s p.toNat - s q.toNat)) (by decide) (rfl) rfl rfl rfl ⟨Nat.le_of_ble_eq_true rfl, Nat.le_of_ble_eq_true rfl⟩ (Nat.le_of_ble_eq_true rfl) (Nat.le_refl _) (Nat.le_refl _) ?_
  refine V_iload_n C dX5_takeAway_53 rfl rfl ?_
  exact V_iret C dX5_takeAway_54 rfl hZ rfl rfl
theorem gi_takeAway (s : Nat → Int) (st : Nat) (kp : Int) (t : Nat → Int) (T : Nat) (hg : GI s st kp t T) (p : Int) (hp : -2147483648 ≤ p ∧ p < 2147483648) (q : Int) (hq : -2147483648 ≤ q ∧ q < 2147483648) (hc : (0 ≤ p ∧ p ≤ 5) ∧ 0 ≤ q ∧ q ≤ 5) (hd : s q.toNat ≤ s p.toNat) : GI (us (svS s st) p.toNat (s p.toNat - s q.toNat)) (st1 st) kp t T := by
  have zp := hg.1.1 p.toNat (by omega)
  have zq := hg.1.1 q.toNat (by omega)
  exact GI_now (GI_save hg) (GZ_num (GI_save hg).1 (by omega) ⟨by omega, by omega⟩) (fun j hj => us_ne _ _ (by omega))
set_option maxRecDepth 100000 in
set_option maxHeartbeats 4000000 in
theorem x1_X5_raise (G : GT) (K : Nat → Nat → Int) (r : Nat → Option Nat) (s : Nat → Int) (st : Nat) (kp : Int) (t : Nat → Int) (T : Nat) (h : IC K r s st kp t T) (hg : GI s st kp t T) (p : Int) (hp : -2147483648 ≤ p ∧ p < 2147483648) (hc : ¬ (0 ≤ p ∧ p ≤ 5)) : OkX G yX5_raise mX5_raise [rf G 0, .int (iI p)] K r "java/lang/IndexOutOfBoundsException" s st kp t T := by
  have hS := h.2.1
  have hQ := hS.1
  have hz := hg.1
  have g5 := hz.1
  have g6 := hz.2.1
  have hI := h.2.2.1
  have gst := hg.2.1
  have gkp := hg.2.2.1
  have gT := hg.2.2.2.1
  have e12 : K 1 2 = s 6 := hQ.2.2
  refine ⟨K, ?_, h, fun _ _ => rfl⟩
  refine CtX_of kX5_raise.1.1 (by decide) [some (rf G 0), some (.int (iI p)), none] rfl (Nat.le_of_ble_eq_true rfl) ?_
  intro x C hZ
  refine V_iload_n C dX5_raise_0 rfl rfl ?_
  exact V_SX (k2 := 0) (s2 := 0) C dX5_raise_1 lX5_58 kX5_checkStall (x_X5_checkStall G K r p (by omega) (by omega)) rfl rfl ⟨Nat.le_of_ble_eq_true rfl, Nat.le_of_ble_eq_true rfl⟩ (Nat.le_of_ble_eq_true rfl) (by omega) (by omega) (VX_out C rfl hZ)
set_option maxRecDepth 100000 in
set_option maxHeartbeats 4000000 in
theorem x2_X5_raise (G : GT) (K : Nat → Nat → Int) (r : Nat → Option Nat) (s : Nat → Int) (st : Nat) (kp : Int) (t : Nat → Int) (T : Nat) (h : IC K r s st kp t T) (hg : GI s st kp t T) (p : Int) (hp : -2147483648 ≤ p ∧ p < 2147483648) (hc : 0 ≤ p ∧ p ≤ 5) (hd : ¬ (gm 18 (s p.toNat).toNat < 131072)) : OkX G yX5_raise mX5_raise [rf G 0, .int (iI p)] K r "java/lang/IllegalStateException" s st kp t T := by
  have hS := h.2.1
  have hQ := hS.1
  have hz := hg.1
  have g5 := hz.1
  have g6 := hz.2.1
  have hI := h.2.2.1
  have gst := hg.2.1
  have gkp := hg.2.2.1
  have gT := hg.2.2.2.1
  have e12 : K 1 2 = s 6 := hQ.2.2
  have kpp := hQ.1 p.toNat (by omega)
  have zp := g5 p.toNat (by omega)
  have gm1 := gm_18 (s p.toNat).toNat
  refine ⟨K, ?_, h, fun _ _ => rfl⟩
  refine CtX_of kX5_raise.1.1 (by decide) [some (rf G 0), some (.int (iI p)), none] rfl (Nat.le_of_ble_eq_true rfl) ?_
  intro x C hZ
  refine V_iload_n C dX5_raise_0 rfl rfl ?_
  refine V_S0 (k2 := 1) (s2 := 6) C dX5_raise_1 lX5_58 kX5_checkStall (c_X5_checkStall G K r p (by omega) (by omega)) rfl rfl ⟨Nat.le_of_ble_eq_true rfl, Nat.le_of_ble_eq_true rfl⟩ (Nat.le_of_ble_eq_true rfl) (Nat.le_refl _) (Nat.le_refl _) ?_
  refine V_aload_n C dX5_raise_4 rfl rfl ?_
  refine V_getH (L := clL G) C dX5_raise_5 fX5_10 (by decide) (fun _ => rfl) rfl ?_
  refine V_iload_n C dX5_raise_8 rfl rfl ?_
  refine V_V1 (k2 := 1) (s2 := 6) C dX5_raise_9 lX5_65 kX2_numberIn (c_X2_numberIn G K r 1 rfl p (by omega)) (by decide) (rfl) rfl rfl rfl ⟨Nat.le_of_ble_eq_true rfl, Nat.le_of_ble_eq_true rfl⟩ (Nat.le_of_ble_eq_true rfl) (Nat.le_refl _) (Nat.le_refl _) ?_
  rw [kpp]
  refine V_S1 (k2 := 1) (s2 := 6) C dX5_raise_12 lX5_89 kX5_greedyMark (i_X5_greedyMark G 28 false _ _ zp) rfl rfl ⟨Nat.le_of_ble_eq_true rfl, Nat.le_of_ble_eq_true rfl⟩ (Nat.le_of_ble_eq_true rfl) (Nat.le_refl _) (Nat.le_refl _) ?_
  refine V_istore_n C dX5_raise_15 rfl (Nat.le_of_ble_eq_true rfl) rfl ?_
  refine V_iload_n C dX5_raise_16 rfl rfl ?_
  refine V_S1 (k2 := 1) (s2 := 6) C dX5_raise_17 lX5_92 kX5_canRaise (Ct_v (b2n hd) (c_X5_canRaise _ gm1 G 28 false _)) rfl rfl ⟨Nat.le_of_ble_eq_true rfl, Nat.le_of_ble_eq_true rfl⟩ (Nat.le_of_ble_eq_true rfl) (Nat.le_refl _) (Nat.le_refl _) ?_
  refine V_if_ne (tgt := 33) C dX5_raise_20 (by decide) (by omega) (fun q20 => by exfalso; omega) (fun q20 => ?_)
  exact V_throw 2 C TH_ISE rfl rfl dX5_raise_23 dX5_raise_26 dX5_raise_27 dX5_raise_29 dX5_raise_32 (Nat.le_of_ble_eq_true rfl) (Nat.le_of_ble_eq_true rfl) hZ rfl (by omega) (by omega)
set_option maxRecDepth 100000 in
set_option maxHeartbeats 4000000 in
theorem o_X5_raise (G : GT) (K : Nat → Nat → Int) (r : Nat → Option Nat) (s : Nat → Int) (st : Nat) (kp : Int) (t : Nat → Int) (T : Nat) (h : IC K r s st kp t T) (hg : GI s st kp t T) (p : Int) (hp : -2147483648 ≤ p ∧ p < 2147483648) (hc : 0 ≤ p ∧ p ≤ 5) (hd : gm 18 (s p.toNat).toNat < 131072) : OkO G yX5_raise mX5_raise [rf G 0, .int (iI p)] K r (.int (iI ((wo 22 (gm 18 (s p.toNat).toNat <<< 1) : Nat) : Int))) (us (svS s st) p.toNat ((wo 22 (gm 18 (s p.toNat).toNat <<< 1) : Nat) : Int)) (st1 st) kp t T := by
  have hS := h.2.1
  have hQ := hS.1
  have hz := hg.1
  have g5 := hz.1
  have g6 := hz.2.1
  have hI := h.2.2.1
  have gst := hg.2.1
  have gkp := hg.2.2.1
  have gT := hg.2.2.2.1
  have e12 : K 1 2 = s 6 := hQ.2.2
  have kpp := hQ.1 p.toNat (by omega)
  have zp := g5 p.toNat (by omega)
  have gm1 := gm_18 (s p.toNat).toNat
  obtain ⟨K1, r1, hsv, hi, hf⟩ := c_X5_saveNow G K r s st kp t T h hg
  have hg1 := GI_save hg
  have hS1 := hi.2.1
  have hQ1 := hS1.1
  have e112 : K1 1 2 = svS s st 6 := hQ1.2.2
  have z6 : svS s st 6 = s 6 := svS_0 (by decide)
  have up := wo_up (n := (s p.toNat).toNat) (by omega) hd
  rw [up.1]
  refine ⟨us K1 2 (us (K1 2) p.toNat ((wo 18 (gm 18 (s p.toNat).toNat <<< 1) : Nat) : Int)), r1, ?_, IC_now hi (fun q n1 n2 _ => us_ne _ _ n2) (RS_give hS1 hc) (fun j hj => us_ne _ _ (by omega)), hf.tr (FR_us (by decide))⟩
  refine Ct_of kX5_raise.1.1 (by decide) [some (rf G 0), some (.int (iI p)), none] rfl (Nat.le_of_ble_eq_true rfl) ?_
  intro x C hZ
  refine V_iload_n C dX5_raise_0 rfl rfl ?_
  refine V_S0 (k2 := 0) (s2 := 0) C dX5_raise_1 lX5_58 kX5_checkStall (c_X5_checkStall G K r p (by omega) (by omega)) rfl rfl ⟨Nat.le_of_ble_eq_true rfl, Nat.le_of_ble_eq_true rfl⟩ (Nat.le_of_ble_eq_true rfl) (Nat.le_refl _) (Nat.le_refl _) ?_
  refine V_aload_n C dX5_raise_4 rfl rfl ?_
  refine V_getH (L := clL G) C dX5_raise_5 fX5_10 (by decide) (fun _ => rfl) rfl ?_
  refine V_iload_n C dX5_raise_8 rfl rfl ?_
  refine V_V1 (k2 := 0) (s2 := 0) C dX5_raise_9 lX5_65 kX2_numberIn (c_X2_numberIn G K r 1 rfl p (by omega)) (by decide) (rfl) rfl rfl rfl ⟨Nat.le_of_ble_eq_true rfl, Nat.le_of_ble_eq_true rfl⟩ (Nat.le_of_ble_eq_true rfl) (Nat.le_refl _) (Nat.le_refl _) ?_
  rw [kpp]
  refine V_S1 (k2 := 0) (s2 := 0) C dX5_raise_12 lX5_89 kX5_greedyMark (i_X5_greedyMark G 28 false _ _ zp) rfl rfl ⟨Nat.le_of_ble_eq_true rfl, Nat.le_of_ble_eq_true rfl⟩ (Nat.le_of_ble_eq_true rfl) (Nat.le_refl _) (Nat.le_refl _) ?_
  refine V_istore_n C dX5_raise_15 rfl (Nat.le_of_ble_eq_true rfl) rfl ?_
  refine V_iload_n C dX5_raise_16 rfl rfl ?_
  refine V_S1 (k2 := 0) (s2 := 0) C dX5_raise_17 lX5_92 kX5_canRaise (Ct_v (b2y hd) (c_X5_canRaise _ gm1 G 28 false _)) rfl rfl ⟨Nat.le_of_ble_eq_true rfl, Nat.le_of_ble_eq_true rfl⟩ (Nat.le_of_ble_eq_true rfl) (Nat.le_refl _) (Nat.le_refl _) ?_
  refine V_if_ne (tgt := 33) C dX5_raise_20 (by decide) (by omega) (fun q20 => ?_) (fun q20 => by exfalso; omega)
  refine V_aload_n C dX5_raise_33 rfl rfl ?_
  refine V_V0 (k2 := 0) (s2 := 0) C dX5_raise_34 lX5_69 kX5_saveNow (hsv) (by decide) (rfl) rfl rfl rfl ⟨Nat.le_of_ble_eq_true rfl, Nat.le_of_ble_eq_true rfl⟩ (Nat.le_of_ble_eq_true rfl) (Nat.le_refl _) (Nat.le_refl _) ?_
  refine V_aload_n C dX5_raise_37 rfl rfl ?_
  refine V_getH (L := clL G) C dX5_raise_38 fX5_10 (by decide) (fun _ => rfl) rfl ?_
  refine V_iload_n C dX5_raise_41 rfl rfl ?_
  refine V_iload_n C dX5_raise_42 rfl rfl ?_
  refine V_S1 (k2 := 0) (s2 := 0) C dX5_raise_43 lX5_98 kX5_raisedWorth (c_X5_raisedWorth _ hd G 28 false _) rfl rfl ⟨Nat.le_of_ble_eq_true rfl, Nat.le_of_ble_eq_true rfl⟩ (Nat.le_of_ble_eq_true rfl) (Nat.le_refl _) (Nat.le_refl _) ?_
  refine V_V0 (k2 := 0) (s2 := 0) C dX5_raise_46 lX5_72 kX2_give (c_X2_give G K1 r1 1 rfl p (by omega) ((wo 18 (gm 18 (s p.toNat).toNat <<< 1) : Nat) : Int)) (by decide) (rfl) rfl rfl rfl ⟨Nat.le_of_ble_eq_true rfl, Nat.le_of_ble_eq_true rfl⟩ (Nat.le_of_ble_eq_true rfl) (Nat.le_refl _) (Nat.le_refl _) ?_
  refine V_aload_n C dX5_raise_49 rfl rfl ?_
  refine V_getH (L := clL G) C dX5_raise_50 fX5_10 (by decide) (fun _ => rfl) rfl ?_
  refine V_iload_n C dX5_raise_53 rfl rfl ?_
  refine V_V1 (k2 := 0) (s2 := 0) C dX5_raise_54 lX5_65 kX2_numberIn (c_X2_numberIn G _ r1 1 rfl p (by omega)) (by decide) (rfl) rfl rfl rfl ⟨Nat.le_of_ble_eq_true rfl, Nat.le_of_ble_eq_true rfl⟩ (Nat.le_of_ble_eq_true rfl) (Nat.le_refl _) (Nat.le_refl _) ?_
  rw [us_at, us_at]
  exact V_iret C dX5_raise_57 rfl hZ rfl rfl
theorem gi_raise (s : Nat → Int) (st : Nat) (kp : Int) (t : Nat → Int) (T : Nat) (hg : GI s st kp t T) (p : Int) (hp : -2147483648 ≤ p ∧ p < 2147483648) (hc : 0 ≤ p ∧ p ≤ 5) (hd : gm 18 (s p.toNat).toNat < 131072) : GI (us (svS s st) p.toNat ((wo 22 (gm 18 (s p.toNat).toNat <<< 1) : Nat) : Int)) (st1 st) kp t T := by
  have zp := hg.1.1 p.toNat (by omega)
  have up := wo_up (n := (s p.toNat).toNat) (by omega) hd
  exact GI_now (GI_save hg) (GZ_num (GI_save hg).1 (by omega) ⟨by omega, by omega⟩) (fun j hj => us_ne _ _ (by omega))
set_option maxRecDepth 100000 in
set_option maxHeartbeats 4000000 in
theorem x1_X5_pay (G : GT) (K : Nat → Nat → Int) (r : Nat → Option Nat) (s : Nat → Int) (st : Nat) (kp : Int) (t : Nat → Int) (T : Nat) (h : IC K r s st kp t T) (hg : GI s st kp t T) (p : Int) (hp : -2147483648 ≤ p ∧ p < 2147483648) (q : Int) (hq : -2147483648 ≤ q ∧ q < 2147483648) (u : Int) (hu : -2147483648 ≤ u ∧ u < 2147483648) (hc : ¬ ((0 ≤ p ∧ p ≤ 5) ∧ 0 ≤ q ∧ q ≤ 5)) : OkX G yX5_pay mX5_pay [rf G 0, .int (iI p), .int (iI q), .int (iI u)] K r "java/lang/IndexOutOfBoundsException" s st kp t T := by
  have hS := h.2.1
  have hQ := hS.1
  have hz := hg.1
  have g5 := hz.1
  have g6 := hz.2.1
  have hI := h.2.2.1
  have gst := hg.2.1
  have gkp := hg.2.2.1
  have gT := hg.2.2.2.1
  have e12 : K 1 2 = s 6 := hQ.2.2
  refine ⟨K, ?_, h, fun _ _ => rfl⟩
  refine CtX_of kX5_pay.1.1 (by decide) [some (rf G 0), some (.int (iI p)), some (.int (iI q)), some (.int (iI u)), none, none] rfl (Nat.le_of_ble_eq_true rfl) ?_
  intro x C hZ
  by_cases c1 : 0 ≤ p ∧ p ≤ 5
  · skip
    refine V_iload_n C dX5_pay_0 rfl rfl ?_
    refine V_S0 (k2 := 1) (s2 := 6) C dX5_pay_1 lX5_58 kX5_checkStall (c_X5_checkStall G K r p (by omega) (by omega)) rfl rfl ⟨Nat.le_of_ble_eq_true rfl, Nat.le_of_ble_eq_true rfl⟩ (Nat.le_of_ble_eq_true rfl) (Nat.le_refl _) (Nat.le_refl _) ?_
    refine V_iload_n C dX5_pay_4 rfl rfl ?_
    exact V_SX (k2 := 0) (s2 := 0) C dX5_pay_5 lX5_58 kX5_checkStall (x_X5_checkStall G K r q (by omega) (by omega)) rfl rfl ⟨Nat.le_of_ble_eq_true rfl, Nat.le_of_ble_eq_true rfl⟩ (Nat.le_of_ble_eq_true rfl) (by omega) (by omega) (VX_out C rfl hZ)
  · skip
    refine V_iload_n C dX5_pay_0 rfl rfl ?_
    exact V_SX (k2 := 0) (s2 := 0) C dX5_pay_1 lX5_58 kX5_checkStall (x_X5_checkStall G K r p (by omega) (by omega)) rfl rfl ⟨Nat.le_of_ble_eq_true rfl, Nat.le_of_ble_eq_true rfl⟩ (Nat.le_of_ble_eq_true rfl) (by omega) (by omega) (VX_out C rfl hZ)
set_option maxRecDepth 100000 in
set_option maxHeartbeats 4000000 in
theorem x2_X5_pay (G : GT) (K : Nat → Nat → Int) (r : Nat → Option Nat) (s : Nat → Int) (st : Nat) (kp : Int) (t : Nat → Int) (T : Nat) (h : IC K r s st kp t T) (hg : GI s st kp t T) (p : Int) (hp : -2147483648 ≤ p ∧ p < 2147483648) (q : Int) (hq : -2147483648 ≤ q ∧ q < 2147483648) (u : Int) (hu : -2147483648 ≤ u ∧ u < 2147483648) (hc : (0 ≤ p ∧ p ≤ 5) ∧ 0 ≤ q ∧ q ≤ 5) (hd : ¬ (p ≠ q ∧ 1 ≤ u ∧ u ≤ 6764)) : OkX G yX5_pay mX5_pay [rf G 0, .int (iI p), .int (iI q), .int (iI u)] K r "java/lang/IllegalArgumentException" s st kp t T := by
  have hS := h.2.1
  have hQ := hS.1
  have hz := hg.1
  have g5 := hz.1
  have g6 := hz.2.1
  have hI := h.2.2.1
  have gst := hg.2.1
  have gkp := hg.2.2.1
  have gT := hg.2.2.2.1
  have e12 : K 1 2 = s 6 := hQ.2.2
  refine ⟨K, ?_, h, fun _ _ => rfl⟩
  refine CtX_of kX5_pay.1.1 (by decide) [some (rf G 0), some (.int (iI p)), some (.int (iI q)), some (.int (iI u)), none, none] rfl (Nat.le_of_ble_eq_true rfl) ?_
  intro x C hZ
  by_cases c1 : 1 ≤ u ∧ u ≤ 6764
  · skip
    refine V_iload_n C dX5_pay_0 rfl rfl ?_
    refine V_S0 (k2 := 1) (s2 := 6) C dX5_pay_1 lX5_58 kX5_checkStall (c_X5_checkStall G K r p (by omega) (by omega)) rfl rfl ⟨Nat.le_of_ble_eq_true rfl, Nat.le_of_ble_eq_true rfl⟩ (Nat.le_of_ble_eq_true rfl) (Nat.le_refl _) (Nat.le_refl _) ?_
    refine V_iload_n C dX5_pay_4 rfl rfl ?_
    refine V_S0 (k2 := 1) (s2 := 6) C dX5_pay_5 lX5_58 kX5_checkStall (c_X5_checkStall G K r q (by omega) (by omega)) rfl rfl ⟨Nat.le_of_ble_eq_true rfl, Nat.le_of_ble_eq_true rfl⟩ (Nat.le_of_ble_eq_true rfl) (Nat.le_refl _) (Nat.le_refl _) ?_
    refine V_iload_n C dX5_pay_8 rfl rfl ?_
    refine V_S0 (k2 := 1) (s2 := 6) C dX5_pay_9 lX5_101 kX5_checkNumberFromOne (c_X5_checkNumberFromOne G K r u (by omega) (by omega)) rfl rfl ⟨Nat.le_of_ble_eq_true rfl, Nat.le_of_ble_eq_true rfl⟩ (Nat.le_of_ble_eq_true rfl) (Nat.le_refl _) (Nat.le_refl _) ?_
    refine V_iload_n C dX5_pay_12 rfl rfl ?_
    refine V_iload_n C dX5_pay_13 rfl rfl ?_
    refine V_icmp_ne (tgt := 27) C dX5_pay_14 (by decide) (by omega) (by omega) (fun q14 => by exfalso; omega) (fun q14 => ?_)
    exact V_throw 3 C TH_IAE rfl rfl dX5_pay_17 dX5_pay_20 dX5_pay_21 dX5_pay_23 dX5_pay_26 (Nat.le_of_ble_eq_true rfl) (Nat.le_of_ble_eq_true rfl) hZ rfl (by omega) (by omega)
  · skip
    refine V_iload_n C dX5_pay_0 rfl rfl ?_
    refine V_S0 (k2 := 1) (s2 := 6) C dX5_pay_1 lX5_58 kX5_checkStall (c_X5_checkStall G K r p (by omega) (by omega)) rfl rfl ⟨Nat.le_of_ble_eq_true rfl, Nat.le_of_ble_eq_true rfl⟩ (Nat.le_of_ble_eq_true rfl) (Nat.le_refl _) (Nat.le_refl _) ?_
    refine V_iload_n C dX5_pay_4 rfl rfl ?_
    refine V_S0 (k2 := 1) (s2 := 6) C dX5_pay_5 lX5_58 kX5_checkStall (c_X5_checkStall G K r q (by omega) (by omega)) rfl rfl ⟨Nat.le_of_ble_eq_true rfl, Nat.le_of_ble_eq_true rfl⟩ (Nat.le_of_ble_eq_true rfl) (Nat.le_refl _) (Nat.le_refl _) ?_
    refine V_iload_n C dX5_pay_8 rfl rfl ?_
    exact V_SX (k2 := 0) (s2 := 0) C dX5_pay_9 lX5_101 kX5_checkNumberFromOne (x_X5_checkNumberFromOne G K r u (by omega) (by omega)) rfl rfl ⟨Nat.le_of_ble_eq_true rfl, Nat.le_of_ble_eq_true rfl⟩ (Nat.le_of_ble_eq_true rfl) (by omega) (by omega) (VX_out C rfl hZ)
set_option maxRecDepth 100000 in
set_option maxHeartbeats 4000000 in
theorem x3_X5_pay (G : GT) (K : Nat → Nat → Int) (r : Nat → Option Nat) (s : Nat → Int) (st : Nat) (kp : Int) (t : Nat → Int) (T : Nat) (h : IC K r s st kp t T) (hg : GI s st kp t T) (p : Int) (hp : -2147483648 ≤ p ∧ p < 2147483648) (q : Int) (hq : -2147483648 ≤ q ∧ q < 2147483648) (u : Int) (hu : -2147483648 ≤ u ∧ u < 2147483648) (hc : (0 ≤ p ∧ p ≤ 5) ∧ 0 ≤ q ∧ q ≤ 5) (hd : p ≠ q ∧ 1 ≤ u ∧ u ≤ 6764) (he : ¬ (u ≤ s p.toNat ∧ s q.toNat + u ≤ 6764)) : OkX G yX5_pay mX5_pay [rf G 0, .int (iI p), .int (iI q), .int (iI u)] K r "java/lang/IllegalStateException" s st kp t T := by
  have hS := h.2.1
  have hQ := hS.1
  have hz := hg.1
  have g5 := hz.1
  have g6 := hz.2.1
  have hI := h.2.2.1
  have gst := hg.2.1
  have gkp := hg.2.2.1
  have gT := hg.2.2.2.1
  have e12 : K 1 2 = s 6 := hQ.2.2
  have kpp := hQ.1 p.toNat (by omega)
  have zp := g5 p.toNat (by omega)
  have kq := hQ.1 q.toNat (by omega)
  have zq := g5 q.toNat (by omega)
  refine ⟨K, ?_, h, fun _ _ => rfl⟩
  refine CtX_of kX5_pay.1.1 (by decide) [some (rf G 0), some (.int (iI p)), some (.int (iI q)), some (.int (iI u)), none, none] rfl (Nat.le_of_ble_eq_true rfl) ?_
  intro x C hZ
  by_cases c1 : s p.toNat < u
  · skip
    refine V_iload_n C dX5_pay_0 rfl rfl ?_
    refine V_S0 (k2 := 1) (s2 := 6) C dX5_pay_1 lX5_58 kX5_checkStall (c_X5_checkStall G K r p (by omega) (by omega)) rfl rfl ⟨Nat.le_of_ble_eq_true rfl, Nat.le_of_ble_eq_true rfl⟩ (Nat.le_of_ble_eq_true rfl) (Nat.le_refl _) (Nat.le_refl _) ?_
    refine V_iload_n C dX5_pay_4 rfl rfl ?_
    refine V_S0 (k2 := 1) (s2 := 6) C dX5_pay_5 lX5_58 kX5_checkStall (c_X5_checkStall G K r q (by omega) (by omega)) rfl rfl ⟨Nat.le_of_ble_eq_true rfl, Nat.le_of_ble_eq_true rfl⟩ (Nat.le_of_ble_eq_true rfl) (Nat.le_refl _) (Nat.le_refl _) ?_
    refine V_iload_n C dX5_pay_8 rfl rfl ?_
    refine V_S0 (k2 := 1) (s2 := 6) C dX5_pay_9 lX5_101 kX5_checkNumberFromOne (c_X5_checkNumberFromOne G K r u (by omega) (by omega)) rfl rfl ⟨Nat.le_of_ble_eq_true rfl, Nat.le_of_ble_eq_true rfl⟩ (Nat.le_of_ble_eq_true rfl) (Nat.le_refl _) (Nat.le_refl _) ?_
    refine V_iload_n C dX5_pay_12 rfl rfl ?_
    refine V_iload_n C dX5_pay_13 rfl rfl ?_
    refine V_icmp_ne (tgt := 27) C dX5_pay_14 (by decide) (by omega) (by omega) (fun q14 => ?_) (fun q14 => by exfalso; omega)
    refine V_aload_n C dX5_pay_27 rfl rfl ?_
    refine V_getH (L := clL G) C dX5_pay_28 fX5_10 (by decide) (fun _ => rfl) rfl ?_
    refine V_iload_n C dX5_pay_31 rfl rfl ?_
    refine V_V1 (k2 := 1) (s2 := 6) C dX5_pay_32 lX5_65 kX2_numberIn (c_X2_numberIn G K r 1 rfl p (by omega)) (by decide) (rfl) rfl rfl rfl ⟨Nat.le_of_ble_eq_true rfl, Nat.le_of_ble_eq_true rfl⟩ (Nat.le_of_ble_eq_true rfl) (Nat.le_refl _) (Nat.le_refl _) ?_
    rw [kpp]
    refine V_iload_n C dX5_pay_35 rfl rfl ?_
    refine V_isub C dX5_pay_36 ?_
    refine V_istore C dX5_pay_37 (Nat.le_of_ble_eq_true rfl) rfl ?_
    refine V_aload_n C dX5_pay_39 rfl rfl ?_
    refine V_getH (L := clL G) C dX5_pay_40 fX5_10 (by decide) (fun _ => rfl) rfl ?_
    refine V_iload_n C dX5_pay_43 rfl rfl ?_
    refine V_V1 (k2 := 1) (s2 := 6) C dX5_pay_44 lX5_65 kX2_numberIn (c_X2_numberIn G K r 1 rfl q (by omega)) (by decide) (rfl) rfl rfl rfl ⟨Nat.le_of_ble_eq_true rfl, Nat.le_of_ble_eq_true rfl⟩ (Nat.le_of_ble_eq_true rfl) (Nat.le_refl _) (Nat.le_refl _) ?_
    rw [kq]
    refine V_iload_n C dX5_pay_47 rfl rfl ?_
    refine V_iadd C dX5_pay_48 ?_
    refine V_istore C dX5_pay_49 (Nat.le_of_ble_eq_true rfl) rfl ?_
    refine V_iload C dX5_pay_51 rfl ?_
    refine V_if_lt (tgt := 64) C dX5_pay_53 (by decide) (by omega) (fun q53 => ?_) (fun q53 => by exfalso; omega)
    exact V_throw 4 C TH_ISE rfl rfl dX5_pay_64 dX5_pay_67 dX5_pay_68 dX5_pay_70 dX5_pay_73 (Nat.le_of_ble_eq_true rfl) (Nat.le_of_ble_eq_true rfl) hZ rfl (by omega) (by omega)
  · skip
    refine V_iload_n C dX5_pay_0 rfl rfl ?_
    refine V_S0 (k2 := 1) (s2 := 6) C dX5_pay_1 lX5_58 kX5_checkStall (c_X5_checkStall G K r p (by omega) (by omega)) rfl rfl ⟨Nat.le_of_ble_eq_true rfl, Nat.le_of_ble_eq_true rfl⟩ (Nat.le_of_ble_eq_true rfl) (Nat.le_refl _) (Nat.le_refl _) ?_
    refine V_iload_n C dX5_pay_4 rfl rfl ?_
    refine V_S0 (k2 := 1) (s2 := 6) C dX5_pay_5 lX5_58 kX5_checkStall (c_X5_checkStall G K r q (by omega) (by omega)) rfl rfl ⟨Nat.le_of_ble_eq_true rfl, Nat.le_of_ble_eq_true rfl⟩ (Nat.le_of_ble_eq_true rfl) (Nat.le_refl _) (Nat.le_refl _) ?_
    refine V_iload_n C dX5_pay_8 rfl rfl ?_
    refine V_S0 (k2 := 1) (s2 := 6) C dX5_pay_9 lX5_101 kX5_checkNumberFromOne (c_X5_checkNumberFromOne G K r u (by omega) (by omega)) rfl rfl ⟨Nat.le_of_ble_eq_true rfl, Nat.le_of_ble_eq_true rfl⟩ (Nat.le_of_ble_eq_true rfl) (Nat.le_refl _) (Nat.le_refl _) ?_
    refine V_iload_n C dX5_pay_12 rfl rfl ?_
    refine V_iload_n C dX5_pay_13 rfl rfl ?_
    refine V_icmp_ne (tgt := 27) C dX5_pay_14 (by decide) (by omega) (by omega) (fun q14 => ?_) (fun q14 => by exfalso; omega)
    refine V_aload_n C dX5_pay_27 rfl rfl ?_
    refine V_getH (L := clL G) C dX5_pay_28 fX5_10 (by decide) (fun _ => rfl) rfl ?_
    refine V_iload_n C dX5_pay_31 rfl rfl ?_
    refine V_V1 (k2 := 1) (s2 := 6) C dX5_pay_32 lX5_65 kX2_numberIn (c_X2_numberIn G K r 1 rfl p (by omega)) (by decide) (rfl) rfl rfl rfl ⟨Nat.le_of_ble_eq_true rfl, Nat.le_of_ble_eq_true rfl⟩ (Nat.le_of_ble_eq_true rfl) (Nat.le_refl _) (Nat.le_refl _) ?_
    rw [kpp]
    refine V_iload_n C dX5_pay_35 rfl rfl ?_
    refine V_isub C dX5_pay_36 ?_
    refine V_istore C dX5_pay_37 (Nat.le_of_ble_eq_true rfl) rfl ?_
    refine V_aload_n C dX5_pay_39 rfl rfl ?_
    refine V_getH (L := clL G) C dX5_pay_40 fX5_10 (by decide) (fun _ => rfl) rfl ?_
    refine V_iload_n C dX5_pay_43 rfl rfl ?_
    refine V_V1 (k2 := 1) (s2 := 6) C dX5_pay_44 lX5_65 kX2_numberIn (c_X2_numberIn G K r 1 rfl q (by omega)) (by decide) (rfl) rfl rfl rfl ⟨Nat.le_of_ble_eq_true rfl, Nat.le_of_ble_eq_true rfl⟩ (Nat.le_of_ble_eq_true rfl) (Nat.le_refl _) (Nat.le_refl _) ?_
    rw [kq]
    refine V_iload_n C dX5_pay_47 rfl rfl ?_
    refine V_iadd C dX5_pay_48 ?_
    refine V_istore C dX5_pay_49 (Nat.le_of_ble_eq_true rfl) rfl ?_
    refine V_iload C dX5_pay_51 rfl ?_
    refine V_if_lt (tgt := 64) C dX5_pay_53 (by decide) (by omega) (fun q53 => by exfalso; omega) (fun q53 => ?_)
    refine V_iload C dX5_pay_56 rfl ?_
    refine V_sipush C dX5_pay_58 (by decide +kernel) ?_
    refine V_icmp_le (tgt := 74) C dX5_pay_61 (by decide) (by omega) (by omega) (fun q61 => by exfalso; omega) (fun q61 => ?_)
    exact V_throw 4 C TH_ISE rfl rfl dX5_pay_64 dX5_pay_67 dX5_pay_68 dX5_pay_70 dX5_pay_73 (Nat.le_of_ble_eq_true rfl) (Nat.le_of_ble_eq_true rfl) hZ rfl (by omega) (by omega)
set_option maxRecDepth 100000 in
set_option maxHeartbeats 4000000 in
theorem o_X5_pay (G : GT) (K : Nat → Nat → Int) (r : Nat → Option Nat) (s : Nat → Int) (st : Nat) (kp : Int) (t : Nat → Int) (T : Nat) (h : IC K r s st kp t T) (hg : GI s st kp t T) (p : Int) (hp : -2147483648 ≤ p ∧ p < 2147483648) (q : Int) (hq : -2147483648 ≤ q ∧ q < 2147483648) (u : Int) (hu : -2147483648 ≤ u ∧ u < 2147483648) (hc : (0 ≤ p ∧ p ≤ 5) ∧ 0 ≤ q ∧ q ≤ 5) (hd : p ≠ q ∧ 1 ≤ u ∧ u ≤ 6764) (he : u ≤ s p.toNat ∧ s q.toNat + u ≤ 6764) : OkO G yX5_pay mX5_pay [rf G 0, .int (iI p), .int (iI q), .int (iI u)] K r (.int (iI (s p.toNat - u))) (us (us (svS s st) p.toNat (s p.toNat - u)) q.toNat (s q.toNat + u)) (st1 st) kp t T := by
  have hS := h.2.1
  have hQ := hS.1
  have hz := hg.1
  have g5 := hz.1
  have g6 := hz.2.1
  have hI := h.2.2.1
  have gst := hg.2.1
  have gkp := hg.2.2.1
  have gT := hg.2.2.2.1
  have e12 : K 1 2 = s 6 := hQ.2.2
  have kpp := hQ.1 p.toNat (by omega)
  have zp := g5 p.toNat (by omega)
  have kq := hQ.1 q.toNat (by omega)
  have zq := g5 q.toNat (by omega)
  obtain ⟨K1, r1, hsv, hi, hf⟩ := c_X5_saveNow G K r s st kp t T h hg
  have hg1 := GI_save hg
  have hS1 := hi.2.1
  have hQ1 := hS1.1
  have e112 : K1 1 2 = svS s st 6 := hQ1.2.2
  have z6 : svS s st 6 = s 6 := svS_0 (by decide)
  have hS2 := RS_give (p := p) (v := (s p.toNat - u)) hS1 hc.1
  refine ⟨us (us K1 2 (us (K1 2) p.toNat (s p.toNat - u))) 2 (us ((us K1 2 (us (K1 2) p.toNat (s p.toNat - u))) 2) q.toNat (s q.toNat + u)), r1, ?_, IC_now hi (fun q n1 n2 _ => by rw [us_ne _ _ n2, us_ne _ _ n2]) (RS_give hS2 hc.2) (fun j hj => by rw [us_ne _ _ (by omega), us_ne _ _ (by omega)]), (hf.tr (FR_us (by decide))).tr (FR_us (by decide))⟩
  refine Ct_of kX5_pay.1.1 (by decide) [some (rf G 0), some (.int (iI p)), some (.int (iI q)), some (.int (iI u)), none, none] rfl (Nat.le_of_ble_eq_true rfl) ?_
  intro x C hZ
  refine V_iload_n C dX5_pay_0 rfl rfl ?_
  refine V_S0 (k2 := 0) (s2 := 0) C dX5_pay_1 lX5_58 kX5_checkStall (c_X5_checkStall G K r p (by omega) (by omega)) rfl rfl ⟨Nat.le_of_ble_eq_true rfl, Nat.le_of_ble_eq_true rfl⟩ (Nat.le_of_ble_eq_true rfl) (Nat.le_refl _) (Nat.le_refl _) ?_
  refine V_iload_n C dX5_pay_4 rfl rfl ?_
  refine V_S0 (k2 := 0) (s2 := 0) C dX5_pay_5 lX5_58 kX5_checkStall (c_X5_checkStall G K r q (by omega) (by omega)) rfl rfl ⟨Nat.le_of_ble_eq_true rfl, Nat.le_of_ble_eq_true rfl⟩ (Nat.le_of_ble_eq_true rfl) (Nat.le_refl _) (Nat.le_refl _) ?_
  refine V_iload_n C dX5_pay_8 rfl rfl ?_
  refine V_S0 (k2 := 0) (s2 := 0) C dX5_pay_9 lX5_101 kX5_checkNumberFromOne (c_X5_checkNumberFromOne G K r u (by omega) (by omega)) rfl rfl ⟨Nat.le_of_ble_eq_true rfl, Nat.le_of_ble_eq_true rfl⟩ (Nat.le_of_ble_eq_true rfl) (Nat.le_refl _) (Nat.le_refl _) ?_
  refine V_iload_n C dX5_pay_12 rfl rfl ?_
  refine V_iload_n C dX5_pay_13 rfl rfl ?_
  refine V_icmp_ne (tgt := 27) C dX5_pay_14 (by decide) (by omega) (by omega) (fun q14 => ?_) (fun q14 => by exfalso; omega)
  refine V_aload_n C dX5_pay_27 rfl rfl ?_
  refine V_getH (L := clL G) C dX5_pay_28 fX5_10 (by decide) (fun _ => rfl) rfl ?_
  refine V_iload_n C dX5_pay_31 rfl rfl ?_
  refine V_V1 (k2 := 0) (s2 := 0) C dX5_pay_32 lX5_65 kX2_numberIn (c_X2_numberIn G K r 1 rfl p (by omega)) (by decide) (rfl) rfl rfl rfl ⟨Nat.le_of_ble_eq_true rfl, Nat.le_of_ble_eq_true rfl⟩ (Nat.le_of_ble_eq_true rfl) (Nat.le_refl _) (Nat.le_refl _) ?_
  rw [kpp]
  refine V_iload_n C dX5_pay_35 rfl rfl ?_
  refine V_isub C dX5_pay_36 ?_
  refine V_istore C dX5_pay_37 (Nat.le_of_ble_eq_true rfl) rfl ?_
  refine V_aload_n C dX5_pay_39 rfl rfl ?_
  refine V_getH (L := clL G) C dX5_pay_40 fX5_10 (by decide) (fun _ => rfl) rfl ?_
  refine V_iload_n C dX5_pay_43 rfl rfl ?_
  refine V_V1 (k2 := 0) (s2 := 0) C dX5_pay_44 lX5_65 kX2_numberIn (c_X2_numberIn G K r 1 rfl q (by omega)) (by decide) (rfl) rfl rfl rfl ⟨Nat.le_of_ble_eq_true rfl, Nat.le_of_ble_eq_true rfl⟩ (Nat.le_of_ble_eq_true rfl) (Nat.le_refl _) (Nat.le_refl _) ?_
  rw [kq]
  refine V_iload_n C dX5_pay_47 rfl rfl ?_
  refine V_iadd C dX5_pay_48 ?_
  refine V_istore C dX5_pay_49 (Nat.le_of_ble_eq_true rfl) rfl ?_
  refine V_iload C dX5_pay_51 rfl ?_
  refine V_if_lt (tgt := 64) C dX5_pay_53 (by decide) (by omega) (fun q53 => by exfalso; omega) (fun q53 => ?_)
  refine V_iload C dX5_pay_56 rfl ?_
  refine V_sipush C dX5_pay_58 (by decide +kernel) ?_
  refine V_icmp_le (tgt := 74) C dX5_pay_61 (by decide) (by omega) (by omega) (fun q61 => ?_) (fun q61 => by exfalso; omega)
  refine V_aload_n C dX5_pay_74 rfl rfl ?_
  refine V_V0 (k2 := 0) (s2 := 0) C dX5_pay_75 lX5_69 kX5_saveNow (hsv) (by decide) (rfl) rfl rfl rfl ⟨Nat.le_of_ble_eq_true rfl, Nat.le_of_ble_eq_true rfl⟩ (Nat.le_of_ble_eq_true rfl) (Nat.le_refl _) (Nat.le_refl _) ?_
  refine V_aload_n C dX5_pay_78 rfl rfl ?_
  refine V_getH (L := clL G) C dX5_pay_79 fX5_10 (by decide) (fun _ => rfl) rfl ?_
  refine V_iload_n C dX5_pay_82 rfl rfl ?_
  refine V_iload C dX5_pay_83 rfl ?_
  refine V_V0 (k2 := 0) (s2 := 0) C dX5_pay_85 lX5_72 kX2_give (c_X2_give G K1 r1 1 rfl p (by omega) (s p.toNat - u)) (by decide) (rfl) rfl rfl rfl ⟨Nat.le_of_ble_eq_true rfl, Nat.le_of_ble_eq_true rfl⟩ (Nat.le_of_ble_eq_true rfl) (Nat.le_refl _) (Nat.le_refl _) ?_
  refine V_aload_n C dX5_pay_88 rfl rfl ?_
  refine V_getH (L := clL G) C dX5_pay_89 fX5_10 (by decide) (fun _ => rfl) rfl ?_
  refine V_iload_n C dX5_pay_92 rfl rfl ?_
  refine V_iload C dX5_pay_93 rfl ?_
  refine V_V0 (k2 := 0) (s2 := 0) C dX5_pay_95 lX5_72 kX2_give (c_X2_give G _ r1 1 rfl q (by omega) (s q.toNat + u)) (by decide) (rfl) rfl rfl rfl ⟨Nat.le_of_ble_eq_true rfl, Nat.le_of_ble_eq_true rfl⟩ (Nat.le_of_ble_eq_true rfl) (Nat.le_refl _) (Nat.le_refl _) ?_
  refine V_iload C dX5_pay_98 rfl ?_
  exact V_iret C dX5_pay_100 rfl hZ rfl rfl
theorem gi_pay (s : Nat → Int) (st : Nat) (kp : Int) (t : Nat → Int) (T : Nat) (hg : GI s st kp t T) (p : Int) (hp : -2147483648 ≤ p ∧ p < 2147483648) (q : Int) (hq : -2147483648 ≤ q ∧ q < 2147483648) (u : Int) (hu : -2147483648 ≤ u ∧ u < 2147483648) (hc : (0 ≤ p ∧ p ≤ 5) ∧ 0 ≤ q ∧ q ≤ 5) (hd : p ≠ q ∧ 1 ≤ u ∧ u ≤ 6764) (he : u ≤ s p.toNat ∧ s q.toNat + u ≤ 6764) : GI (us (us (svS s st) p.toNat (s p.toNat - u)) q.toNat (s q.toNat + u)) (st1 st) kp t T := by
  have zp := hg.1.1 p.toNat (by omega)
  have zq := hg.1.1 q.toNat (by omega)
  exact GI_now (GI_save hg) (GZ_num (GZ_num (GI_save hg).1 (by omega) ⟨by omega, by omega⟩) (by omega) ⟨by omega, by omega⟩) (fun j hj => by rw [us_ne _ _ (by omega), us_ne _ _ (by omega)])
set_option maxRecDepth 100000 in
set_option maxHeartbeats 4000000 in
theorem x1_X5_send (G : GT) (K : Nat → Nat → Int) (r : Nat → Option Nat) (s : Nat → Int) (st : Nat) (kp : Int) (t : Nat → Int) (T : Nat) (h : IC K r s st kp t T) (hg : GI s st kp t T) (p : Int) (hp : -2147483648 ≤ p ∧ p < 2147483648) (hc : ¬ (1 ≤ p ∧ p ≤ 6764)) : OkX G yX5_send mX5_send [rf G 0, .int (iI p)] K r "java/lang/IllegalArgumentException" s st kp t T := by
  have hS := h.2.1
  have hQ := hS.1
  have hz := hg.1
  have g5 := hz.1
  have g6 := hz.2.1
  have hI := h.2.2.1
  have gst := hg.2.1
  have gkp := hg.2.2.1
  have gT := hg.2.2.2.1
  have e12 : K 1 2 = s 6 := hQ.2.2
  refine ⟨K, ?_, h, fun _ _ => rfl⟩
  refine CtX_of kX5_send.1.1 (by decide) [some (rf G 0), some (.int (iI p))] rfl (Nat.le_of_ble_eq_true rfl) ?_
  intro x C hZ
  refine V_iload_n C dX5_send_0 rfl rfl ?_
  exact V_SX (k2 := 0) (s2 := 0) C dX5_send_1 lX5_101 kX5_checkNumberFromOne (x_X5_checkNumberFromOne G K r p (by omega) (by omega)) rfl rfl ⟨Nat.le_of_ble_eq_true rfl, Nat.le_of_ble_eq_true rfl⟩ (Nat.le_of_ble_eq_true rfl) (by omega) (by omega) (VX_out C rfl hZ)
set_option maxRecDepth 100000 in
set_option maxHeartbeats 4000000 in
theorem x2_X5_send (G : GT) (K : Nat → Nat → Int) (r : Nat → Option Nat) (s : Nat → Int) (st : Nat) (kp : Int) (t : Nat → Int) (T : Nat) (h : IC K r s st kp t T) (hg : GI s st kp t T) (p : Int) (hp : -2147483648 ≤ p ∧ p < 2147483648) (hc : 1 ≤ p ∧ p ≤ 6764) (hd : ¬ (s 6 + (cl p : Nat) ≤ 64)) : OkX G yX5_send mX5_send [rf G 0, .int (iI p)] K r "java/lang/IllegalStateException" s st kp t T := by
  have hS := h.2.1
  have hQ := hS.1
  have hz := hg.1
  have g5 := hz.1
  have g6 := hz.2.1
  have hI := h.2.2.1
  have gst := hg.2.1
  have gkp := hg.2.2.1
  have gT := hg.2.2.2.1
  have e12 : K 1 2 = s 6 := hQ.2.2
  have ecl : cl p = hl 18 (gm 18 p.toNat) + 1 := rfl
  have hd2 : ¬ (K 1 2 + (hl 18 (gm 18 p.toNat) + 1 : Nat) ≤ 64) := by rw [e12]; exact hd
  refine ⟨K, ?_, h, fun _ _ => rfl⟩
  refine CtX_of kX5_send.1.1 (by decide) [some (rf G 0), some (.int (iI p))] rfl (Nat.le_of_ble_eq_true rfl) ?_
  intro x C hZ
  refine V_iload_n C dX5_send_0 rfl rfl ?_
  refine V_S0 (k2 := 1) (s2 := 6) C dX5_send_1 lX5_101 kX5_checkNumberFromOne (c_X5_checkNumberFromOne G K r p (by omega) (by omega)) rfl rfl ⟨Nat.le_of_ble_eq_true rfl, Nat.le_of_ble_eq_true rfl⟩ (Nat.le_of_ble_eq_true rfl) (Nat.le_refl _) (Nat.le_refl _) ?_
  refine V_aload_n C dX5_send_4 rfl rfl ?_
  refine V_getH (L := clL G) C dX5_send_5 fX5_10 (by decide) (fun _ => rfl) rfl ?_
  refine V_iload_n C dX5_send_8 rfl rfl ?_
  refine V_V1 (k2 := 1) (s2 := 6) C dX5_send_9 lX5_111 kX2_hasRoomFor (Ct_v (b2n hd2) (c_X2_hasRoomFor G K r 1 rfl p hc (by omega))) (by decide) (rfl) rfl rfl rfl ⟨Nat.le_of_ble_eq_true rfl, Nat.le_of_ble_eq_true rfl⟩ (Nat.le_of_ble_eq_true rfl) (Nat.le_refl _) (Nat.le_refl _) ?_
  refine V_if_ne (tgt := 25) C dX5_send_12 (by decide) (by omega) (fun q12 => by exfalso; omega) (fun q12 => ?_)
  exact V_throw 5 C TH_ISE rfl rfl dX5_send_15 dX5_send_18 dX5_send_19 dX5_send_21 dX5_send_24 (Nat.le_of_ble_eq_true rfl) (Nat.le_of_ble_eq_true rfl) hZ rfl (by omega) (by omega)
set_option maxRecDepth 100000 in
set_option maxHeartbeats 4000000 in
theorem o_X5_send (G : GT) (K : Nat → Nat → Int) (r : Nat → Option Nat) (s : Nat → Int) (st : Nat) (kp : Int) (t : Nat → Int) (T : Nat) (h : IC K r s st kp t T) (hg : GI s st kp t T) (p : Int) (hp : -2147483648 ≤ p ∧ p < 2147483648) (hc : 1 ≤ p ∧ p ≤ 6764) (hd : s 6 + (cl p : Nat) ≤ 64) : OkO G yX5_send mX5_send [rf G 0, .int (iI p)] K r (.int (iI (((s 6).toNat + cl p : Nat) : Int))) (sdF (svS s st) (s 6).toNat (gm 18 p.toNat) (cl p) (cl p)) (st1 st) kp t T := by
  have hS := h.2.1
  have hQ := hS.1
  have hz := hg.1
  have g5 := hz.1
  have g6 := hz.2.1
  have hI := h.2.2.1
  have gst := hg.2.1
  have gkp := hg.2.2.1
  have gT := hg.2.2.2.1
  have e12 : K 1 2 = s 6 := hQ.2.2
  have ecl : cl p = hl 18 (gm 18 p.toNat) + 1 := rfl
  have hd2 : K 1 2 + (hl 18 (gm 18 p.toNat) + 1 : Nat) ≤ 64 := by rw [e12]; exact hd
  obtain ⟨K1, r1, hsv, hi, hf⟩ := c_X5_saveNow G K r s st kp t T h hg
  have hg1 := GI_save hg
  have hS1 := hi.2.1
  have hQ1 := hS1.1
  have e112 : K1 1 2 = svS s st 6 := hQ1.2.2
  have z6 : svS s st 6 = s 6 := svS_0 (by decide)
  have gm1 := gm_18 p.toNat
  have d1 : K1 1 1 = (dN (fun j => svS s st (7 + j)) (s 6).toNat : Nat) := by have := hQ1.2.1; rwa [z6] at this
  have d2 : K1 1 2 = ((s 6).toNat : Nat) := by rw [e112, z6]; exact (toN g6.1).symm
  have hN := RQ_send (m := gm 18 p.toNat) hQ1 hg1.1 gm1 (by rw [z6]; omega)
  rw [z6] at hN
  refine ⟨us K1 1 (us (us (K1 1) 1 ((dN (fun j => svS s st (7 + j)) (s 6).toNat ||| (gm 18 p.toNat ||| 1 <<< hl 18 (gm 18 p.toNat)) <<< (s 6).toNat : Nat) : Int)) 2 (((s 6).toNat + (hl 18 (gm 18 p.toNat) + 1) : Nat) : Int)), r1, ?_, IC_now hi (fun q n1 n2 _ => us_ne _ _ n1) ⟨hN, RT_71 (by rw [us_at, us_ne _ _ (show (3 : Nat) ≠ 2 by decide), us_ne _ _ (show (3 : Nat) ≠ 1 by decide)]) (by rw [us_at, us_ne _ _ (show (4 : Nat) ≠ 2 by decide), us_ne _ _ (show (4 : Nat) ≠ 1 by decide)]) (sdF_ne (by decide) (by omega)) (sdF_ne (by decide) (by omega)) (sdF_ne (by decide) (by omega)) hS1.2⟩ (fun j hj => sdF_ne (by omega) (by omega)), hf.tr (FR_us (by decide))⟩
  refine Ct_of kX5_send.1.1 (by decide) [some (rf G 0), some (.int (iI p))] rfl (Nat.le_of_ble_eq_true rfl) ?_
  intro x C hZ
  refine V_iload_n C dX5_send_0 rfl rfl ?_
  refine V_S0 (k2 := 0) (s2 := 0) C dX5_send_1 lX5_101 kX5_checkNumberFromOne (c_X5_checkNumberFromOne G K r p (by omega) (by omega)) rfl rfl ⟨Nat.le_of_ble_eq_true rfl, Nat.le_of_ble_eq_true rfl⟩ (Nat.le_of_ble_eq_true rfl) (Nat.le_refl _) (Nat.le_refl _) ?_
  refine V_aload_n C dX5_send_4 rfl rfl ?_
  refine V_getH (L := clL G) C dX5_send_5 fX5_10 (by decide) (fun _ => rfl) rfl ?_
  refine V_iload_n C dX5_send_8 rfl rfl ?_
  refine V_V1 (k2 := 0) (s2 := 0) C dX5_send_9 lX5_111 kX2_hasRoomFor (Ct_v (b2y hd2) (c_X2_hasRoomFor G K r 1 rfl p hc (by omega))) (by decide) (rfl) rfl rfl rfl ⟨Nat.le_of_ble_eq_true rfl, Nat.le_of_ble_eq_true rfl⟩ (Nat.le_of_ble_eq_true rfl) (Nat.le_refl _) (Nat.le_refl _) ?_
  refine V_if_ne (tgt := 25) C dX5_send_12 (by decide) (by omega) (fun q12 => ?_) (fun q12 => by exfalso; omega)
  refine V_aload_n C dX5_send_25 rfl rfl ?_
  refine V_V0 (k2 := 0) (s2 := 0) C dX5_send_26 lX5_69 kX5_saveNow (hsv) (by decide) (rfl) rfl rfl rfl ⟨Nat.le_of_ble_eq_true rfl, Nat.le_of_ble_eq_true rfl⟩ (Nat.le_of_ble_eq_true rfl) (Nat.le_refl _) (Nat.le_refl _) ?_
  refine V_aload_n C dX5_send_29 rfl rfl ?_
  refine V_getH (L := clL G) C dX5_send_30 fX5_10 (by decide) (fun _ => rfl) rfl ?_
  refine V_iload_n C dX5_send_33 rfl rfl ?_
  refine V_V0 (k2 := 0) (s2 := 0) C dX5_send_34 lX5_116 kX2_putCode (c_X2_putCode G K1 r1 1 rfl p hc _ _ d2 d1 (by omega)) (by decide) (rfl) rfl rfl rfl ⟨Nat.le_of_ble_eq_true rfl, Nat.le_of_ble_eq_true rfl⟩ (Nat.le_of_ble_eq_true rfl) (Nat.le_refl _) (Nat.le_refl _) ?_
  refine V_aload_n C dX5_send_37 rfl rfl ?_
  refine V_getH (L := clL G) C dX5_send_38 fX5_10 (by decide) (fun _ => rfl) rfl ?_
  refine V_getH (L := stL G 1) C dX5_send_41 fX5_119 (by decide) (fun _ => rfl) rfl ?_
  rw [us_at, us_at]
  exact V_iret C dX5_send_44 rfl hZ rfl rfl
theorem gi_send (s : Nat → Int) (st : Nat) (kp : Int) (t : Nat → Int) (T : Nat) (hg : GI s st kp t T) (p : Int) (hp : -2147483648 ≤ p ∧ p < 2147483648) (hc : 1 ≤ p ∧ p ≤ 6764) (hd : s 6 + (cl p : Nat) ≤ 64) : GI (sdF (svS s st) (s 6).toNat (gm 18 p.toNat) (cl p) (cl p)) (st1 st) kp t T := by
  have g6 := hg.1.2.1
  exact GI_now (GI_save hg) (GZ_send (GI_save hg).1 (by omega)) (fun j hj => sdF_ne (by omega) (by omega))
set_option maxRecDepth 100000 in
set_option maxHeartbeats 4000000 in
theorem x1_X5_turn (G : GT) (K : Nat → Nat → Int) (r : Nat → Option Nat) (s : Nat → Int) (st : Nat) (kp : Int) (t : Nat → Int) (T : Nat) (h : IC K r s st kp t T) (hg : GI s st kp t T) (p : Int) (hp : -2147483648 ≤ p ∧ p < 2147483648) (hc : ¬ (0 ≤ p ∧ p ≤ s 6 - 1)) : OkX G yX5_turn mX5_turn [rf G 0, .int (iI p)] K r "java/lang/IndexOutOfBoundsException" s st kp t T := by
  have hS := h.2.1
  have hQ := hS.1
  have hz := hg.1
  have g5 := hz.1
  have g6 := hz.2.1
  have hI := h.2.2.1
  have gst := hg.2.1
  have gkp := hg.2.2.1
  have gT := hg.2.2.2.1
  have e12 : K 1 2 = s 6 := hQ.2.2
  refine ⟨K, ?_, h, fun _ _ => rfl⟩
  refine CtX_of kX5_turn.1.1 (by decide) [some (rf G 0), some (.int (iI p))] rfl (Nat.le_of_ble_eq_true rfl) ?_
  intro x C hZ
  refine V_aload_n C dX5_turn_0 rfl rfl ?_
  refine V_iload_n C dX5_turn_1 rfl rfl ?_
  exact V_VX (k2 := 0) (s2 := 0) C dX5_turn_2 lX5_123 kX5_checkDigit (x_X5_checkDigit G K r (by omega) p (by omega) (by omega)) (by decide) (rfl) rfl rfl rfl ⟨Nat.le_of_ble_eq_true rfl, Nat.le_of_ble_eq_true rfl⟩ (Nat.le_of_ble_eq_true rfl) (by omega) (by omega) (VX_out C rfl hZ)
set_option maxRecDepth 100000 in
set_option maxHeartbeats 4000000 in
theorem o_X5_turn (G : GT) (K : Nat → Nat → Int) (r : Nat → Option Nat) (s : Nat → Int) (st : Nat) (kp : Int) (t : Nat → Int) (T : Nat) (h : IC K r s st kp t T) (hg : GI s st kp t T) (p : Int) (hp : -2147483648 ≤ p ∧ p < 2147483648) (hc : 0 ≤ p ∧ p ≤ s 6 - 1) : OkO G yX5_turn mX5_turn [rf G 0, .int (iI p)] K r (.int (iI (1 - s (7 + p.toNat)))) (us (svS s st) (7 + p.toNat) (1 - s (7 + p.toNat))) (st1 st) kp t T := by
  have hS := h.2.1
  have hQ := hS.1
  have hz := hg.1
  have g5 := hz.1
  have g6 := hz.2.1
  have hI := h.2.2.1
  have gst := hg.2.1
  have gkp := hg.2.2.1
  have gT := hg.2.2.2.1
  have e12 : K 1 2 = s 6 := hQ.2.2
  obtain ⟨K1, r1, hsv, hi, hf⟩ := c_X5_saveNow G K r s st kp t T h hg
  have hg1 := GI_save hg
  have hS1 := hi.2.1
  have hQ1 := hS1.1
  have e112 : K1 1 2 = svS s st 6 := hQ1.2.2
  have z6 : svS s st 6 = s 6 := svS_0 (by decide)
  have g7 := hz.2.2.1 (7 + p.toNat) (by omega) (by omega)
  have z7 : svS s st (7 + p.toNat) = s (7 + p.toNat) := svS_0 (by omega)
  have d1 : K1 1 1 = (dN (fun j => svS s st (7 + j)) (svS s st 6).toNat : Nat) := hQ1.2.1
  have hN := RQ_turn (p := p.toNat) hQ1 hg1.1 (by rw [z6]; omega)
  rw [z7] at hN
  have n6 : us (svS s st) (7 + p.toNat) (1 - s (7 + p.toNat)) 6 = s 6 := by rw [us_ne _ _ (by omega), z6]
  have n7 : us (svS s st) (7 + p.toNat) (1 - s (7 + p.toNat)) (7 + p.toNat) = 1 - s (7 + p.toNat) := us_at _ _ _
  refine ⟨us K1 1 (us (K1 1) 1 ((dN (fun j => svS s st (7 + j)) (svS s st 6).toNat ^^^ 1 <<< p.toNat : Nat) : Int)), r1, ?_, IC_now hi (fun q n1 n2 _ => us_ne _ _ n1) ⟨hN, RT_71 (by rw [us_at, us_ne _ _ (show (3 : Nat) ≠ 1 by decide)]) (by rw [us_at, us_ne _ _ (show (4 : Nat) ≠ 1 by decide)]) (us_ne _ _ (by omega)) (us_ne _ _ (by omega)) (us_ne _ _ (by omega)) hS1.2⟩ (fun j hj => us_ne _ _ (by omega)), hf.tr (FR_us (by decide))⟩
  refine Ct_of kX5_turn.1.1 (by decide) [some (rf G 0), some (.int (iI p))] rfl (Nat.le_of_ble_eq_true rfl) ?_
  intro x C hZ
  refine V_aload_n C dX5_turn_0 rfl rfl ?_
  refine V_iload_n C dX5_turn_1 rfl rfl ?_
  refine V_V0 (k2 := 0) (s2 := 0) C dX5_turn_2 lX5_123 kX5_checkDigit (c_X5_checkDigit G K r (by omega) p (by omega) (by omega)) (by decide) (rfl) rfl rfl rfl ⟨Nat.le_of_ble_eq_true rfl, Nat.le_of_ble_eq_true rfl⟩ (Nat.le_of_ble_eq_true rfl) (Nat.le_refl _) (Nat.le_refl _) ?_
  refine V_aload_n C dX5_turn_5 rfl rfl ?_
  refine V_V0 (k2 := 0) (s2 := 0) C dX5_turn_6 lX5_69 kX5_saveNow (hsv) (by decide) (rfl) rfl rfl rfl ⟨Nat.le_of_ble_eq_true rfl, Nat.le_of_ble_eq_true rfl⟩ (Nat.le_of_ble_eq_true rfl) (Nat.le_refl _) (Nat.le_refl _) ?_
  refine V_aload_n C dX5_turn_9 rfl rfl ?_
  refine V_getH (L := clL G) C dX5_turn_10 fX5_10 (by decide) (fun _ => rfl) rfl ?_
  refine V_iload_n C dX5_turn_13 rfl rfl ?_
  refine V_V0 (k2 := 0) (s2 := 0) C dX5_turn_14 lX5_126 kX2_turnDigit (c_X2_turnDigit G K1 r1 1 rfl p (by omega) _ d1) (by decide) (rfl) rfl rfl rfl ⟨Nat.le_of_ble_eq_true rfl, Nat.le_of_ble_eq_true rfl⟩ (Nat.le_of_ble_eq_true rfl) (Nat.le_refl _) (Nat.le_refl _) ?_
  refine V_aload_n C dX5_turn_17 rfl rfl ?_
  refine V_getH (L := clL G) C dX5_turn_18 fX5_10 (by decide) (fun _ => rfl) rfl ?_
  refine V_getH (L := stL G 1) C dX5_turn_21 fX5_129 (by decide) (fun _ => rfl) rfl ?_
  rw [hN.2.1]
  refine V_iload_n C dX5_turn_24 rfl rfl ?_
  refine V_S1 (k2 := 0) (s2 := 0) C dX5_turn_25 lX5_133 kX5_digitOf (i_X5_digitOf G 28 false _ _ p (dN_64 _ (by rw [n6]; omega)) (by omega)) rfl rfl ⟨Nat.le_of_ble_eq_true rfl, Nat.le_of_ble_eq_true rfl⟩ (Nat.le_of_ble_eq_true rfl) (Nat.le_refl _) (Nat.le_refl _) ?_
  exact V_iret C dX5_turn_28 rfl hZ (by rw [dN_bit (by rw [n6]; omega) (by rw [n7]; omega), n7]) rfl
theorem gi_turn (s : Nat → Int) (st : Nat) (kp : Int) (t : Nat → Int) (T : Nat) (hg : GI s st kp t T) (p : Int) (hp : -2147483648 ≤ p ∧ p < 2147483648) (hc : 0 ≤ p ∧ p ≤ s 6 - 1) : GI (us (svS s st) (7 + p.toNat) (1 - s (7 + p.toNat))) (st1 st) kp t T := by
  have g6 := hg.1.2.1
  have z7 : svS s st (7 + p.toNat) = s (7 + p.toNat) := svS_0 (by omega)
  have hN := GZ_turn (j := p.toNat) (GI_save hg).1 (by omega)
  rw [z7] at hN
  exact GI_now (GI_save hg) hN (fun j hj => us_ne _ _ (by omega))
set_option maxRecDepth 100000 in
set_option maxHeartbeats 4000000 in
theorem x1_X5_cut (G : GT) (K : Nat → Nat → Int) (r : Nat → Option Nat) (s : Nat → Int) (st : Nat) (kp : Int) (t : Nat → Int) (T : Nat) (h : IC K r s st kp t T) (hg : GI s st kp t T) (p : Int) (hp : -2147483648 ≤ p ∧ p < 2147483648) (hc : ¬ (1 ≤ p ∧ p ≤ 64)) : OkX G yX5_cut mX5_cut [rf G 0, .int (iI p)] K r "java/lang/IllegalArgumentException" s st kp t T := by
  have hS := h.2.1
  have hQ := hS.1
  have hz := hg.1
  have g5 := hz.1
  have g6 := hz.2.1
  have hI := h.2.2.1
  have gst := hg.2.1
  have gkp := hg.2.2.1
  have gT := hg.2.2.2.1
  have e12 : K 1 2 = s 6 := hQ.2.2
  refine ⟨K, ?_, h, fun _ _ => rfl⟩
  refine CtX_of kX5_cut.1.1 (by decide) [some (rf G 0), some (.int (iI p))] rfl (Nat.le_of_ble_eq_true rfl) ?_
  intro x C hZ
  by_cases c1 : p < 1
  · skip
    refine V_iload_n C dX5_cut_0 rfl rfl ?_
    refine V_iconst C dX5_cut_1 ?_
    refine V_icmp_lt (tgt := 11) C dX5_cut_2 (by decide) (by omega) (by omega) (fun q2 => ?_) (fun q2 => by exfalso; omega)
    exact V_throw 6 C TH_IAE rfl rfl dX5_cut_11 dX5_cut_14 dX5_cut_15 dX5_cut_17 dX5_cut_20 (Nat.le_of_ble_eq_true rfl) (Nat.le_of_ble_eq_true rfl) hZ rfl (by omega) (by omega)
  · skip
    refine V_iload_n C dX5_cut_0 rfl rfl ?_
    refine V_iconst C dX5_cut_1 ?_
    refine V_icmp_lt (tgt := 11) C dX5_cut_2 (by decide) (by omega) (by omega) (fun q2 => by exfalso; omega) (fun q2 => ?_)
    refine V_iload_n C dX5_cut_5 rfl rfl ?_
    refine V_bipush C dX5_cut_6 (by decide +kernel) ?_
    refine V_icmp_le (tgt := 21) C dX5_cut_8 (by decide) (by omega) (by omega) (fun q8 => by exfalso; omega) (fun q8 => ?_)
    exact V_throw 6 C TH_IAE rfl rfl dX5_cut_11 dX5_cut_14 dX5_cut_15 dX5_cut_17 dX5_cut_20 (Nat.le_of_ble_eq_true rfl) (Nat.le_of_ble_eq_true rfl) hZ rfl (by omega) (by omega)
set_option maxRecDepth 100000 in
set_option maxHeartbeats 4000000 in
theorem x2_X5_cut (G : GT) (K : Nat → Nat → Int) (r : Nat → Option Nat) (s : Nat → Int) (st : Nat) (kp : Int) (t : Nat → Int) (T : Nat) (h : IC K r s st kp t T) (hg : GI s st kp t T) (p : Int) (hp : -2147483648 ≤ p ∧ p < 2147483648) (hc : 1 ≤ p ∧ p ≤ 64) (hd : ¬ (p ≤ s 6)) : OkX G yX5_cut mX5_cut [rf G 0, .int (iI p)] K r "java/lang/IllegalStateException" s st kp t T := by
  have hS := h.2.1
  have hQ := hS.1
  have hz := hg.1
  have g5 := hz.1
  have g6 := hz.2.1
  have hI := h.2.2.1
  have gst := hg.2.1
  have gkp := hg.2.2.1
  have gT := hg.2.2.2.1
  have e12 : K 1 2 = s 6 := hQ.2.2
  refine ⟨K, ?_, h, fun _ _ => rfl⟩
  refine CtX_of kX5_cut.1.1 (by decide) [some (rf G 0), some (.int (iI p))] rfl (Nat.le_of_ble_eq_true rfl) ?_
  intro x C hZ
  refine V_iload_n C dX5_cut_0 rfl rfl ?_
  refine V_iconst C dX5_cut_1 ?_
  refine V_icmp_lt (tgt := 11) C dX5_cut_2 (by decide) (by omega) (by omega) (fun q2 => by exfalso; omega) (fun q2 => ?_)
  refine V_iload_n C dX5_cut_5 rfl rfl ?_
  refine V_bipush C dX5_cut_6 (by decide +kernel) ?_
  refine V_icmp_le (tgt := 21) C dX5_cut_8 (by decide) (by omega) (by omega) (fun q8 => ?_) (fun q8 => by exfalso; omega)
  refine V_iload_n C dX5_cut_21 rfl rfl ?_
  refine V_aload_n C dX5_cut_22 rfl rfl ?_
  refine V_getH (L := clL G) C dX5_cut_23 fX5_10 (by decide) (fun _ => rfl) rfl ?_
  refine V_getH (L := stL G 1) C dX5_cut_26 fX5_119 (by decide) (fun _ => rfl) rfl ?_
  refine V_icmp_le (tgt := 42) C dX5_cut_29 (by decide) (by omega) (by omega) (fun q29 => by exfalso; omega) (fun q29 => ?_)
  exact V_throw 7 C TH_ISE rfl rfl dX5_cut_32 dX5_cut_35 dX5_cut_36 dX5_cut_38 dX5_cut_41 (Nat.le_of_ble_eq_true rfl) (Nat.le_of_ble_eq_true rfl) hZ rfl (by omega) (by omega)
set_option maxRecDepth 100000 in
set_option maxHeartbeats 4000000 in
theorem o_X5_cut (G : GT) (K : Nat → Nat → Int) (r : Nat → Option Nat) (s : Nat → Int) (st : Nat) (kp : Int) (t : Nat → Int) (T : Nat) (h : IC K r s st kp t T) (hg : GI s st kp t T) (p : Int) (hp : -2147483648 ≤ p ∧ p < 2147483648) (hc : 1 ≤ p ∧ p ≤ 64) (hd : p ≤ s 6) : OkO G yX5_cut mX5_cut [rf G 0, .int (iI p)] K r (.int (iI (s 6 - p))) (ctF (svS s st) p.toNat (s 6 - p).toNat (s 6 - p).toNat) (st1 st) kp t T := by
  have hS := h.2.1
  have hQ := hS.1
  have hz := hg.1
  have g5 := hz.1
  have g6 := hz.2.1
  have hI := h.2.2.1
  have gst := hg.2.1
  have gkp := hg.2.2.1
  have gT := hg.2.2.2.1
  have e12 : K 1 2 = s 6 := hQ.2.2
  obtain ⟨K1, r1, hsv, hi, hf⟩ := c_X5_saveNow G K r s st kp t T h hg
  have hg1 := GI_save hg
  have hS1 := hi.2.1
  have hQ1 := hS1.1
  have e112 : K1 1 2 = svS s st 6 := hQ1.2.2
  have z6 : svS s st 6 = s 6 := svS_0 (by decide)
  have hp1 : ((p.toNat : Nat) : Int) = p := by omega
  have eL : (s 6 - p).toNat = (s 6).toNat - p.toNat := by omega
  have d1 : K1 1 1 = (dN (fun j => svS s st (7 + j)) (s 6).toNat : Nat) := by have := hQ1.2.1; rwa [z6] at this
  have hN := RQ_cut (n := p.toNat) hQ1 hg1.1 (by rw [z6]; omega)
  rw [z6, hp1, ← eL] at hN
  refine ⟨us K1 1 (us (us (K1 1) 1 ((dN (fun j => svS s st (7 + j)) (s 6).toNat >>> p.toNat : Nat) : Int)) 2 (K1 1 2 - p)), r1, ?_, IC_now hi (fun q n1 n2 _ => us_ne _ _ n1) ⟨hN, RT_71 (by rw [us_at, us_ne _ _ (show (3 : Nat) ≠ 2 by decide), us_ne _ _ (show (3 : Nat) ≠ 1 by decide)]) (by rw [us_at, us_ne _ _ (show (4 : Nat) ≠ 2 by decide), us_ne _ _ (show (4 : Nat) ≠ 1 by decide)]) (ctF_up (by omega)) (ctF_up (by omega)) (ctF_up (by omega)) hS1.2⟩ (fun j hj => ctF_up (by omega)), hf.tr (FR_us (by decide))⟩
  refine Ct_of kX5_cut.1.1 (by decide) [some (rf G 0), some (.int (iI p))] rfl (Nat.le_of_ble_eq_true rfl) ?_
  intro x C hZ
  refine V_iload_n C dX5_cut_0 rfl rfl ?_
  refine V_iconst C dX5_cut_1 ?_
  refine V_icmp_lt (tgt := 11) C dX5_cut_2 (by decide) (by omega) (by omega) (fun q2 => by exfalso; omega) (fun q2 => ?_)
  refine V_iload_n C dX5_cut_5 rfl rfl ?_
  refine V_bipush C dX5_cut_6 (by decide +kernel) ?_
  refine V_icmp_le (tgt := 21) C dX5_cut_8 (by decide) (by omega) (by omega) (fun q8 => ?_) (fun q8 => by exfalso; omega)
  refine V_iload_n C dX5_cut_21 rfl rfl ?_
  refine V_aload_n C dX5_cut_22 rfl rfl ?_
  refine V_getH (L := clL G) C dX5_cut_23 fX5_10 (by decide) (fun _ => rfl) rfl ?_
  refine V_getH (L := stL G 1) C dX5_cut_26 fX5_119 (by decide) (fun _ => rfl) rfl ?_
  refine V_icmp_le (tgt := 42) C dX5_cut_29 (by decide) (by omega) (by omega) (fun q29 => ?_) (fun q29 => by exfalso; omega)
  refine V_aload_n C dX5_cut_42 rfl rfl ?_
  refine V_V0 (k2 := 0) (s2 := 0) C dX5_cut_43 lX5_69 kX5_saveNow (hsv) (by decide) (rfl) rfl rfl rfl ⟨Nat.le_of_ble_eq_true rfl, Nat.le_of_ble_eq_true rfl⟩ (Nat.le_of_ble_eq_true rfl) (Nat.le_refl _) (Nat.le_refl _) ?_
  refine V_aload_n C dX5_cut_46 rfl rfl ?_
  refine V_getH (L := clL G) C dX5_cut_47 fX5_10 (by decide) (fun _ => rfl) rfl ?_
  refine V_iload_n C dX5_cut_50 rfl rfl ?_
  refine V_V0 (k2 := 0) (s2 := 0) C dX5_cut_51 lX5_141 kX2_dropFirst (c_X2_dropFirst G K1 r1 1 rfl p hc _ d1 (dN_64 _ (by omega))) (by decide) (rfl) rfl rfl rfl ⟨Nat.le_of_ble_eq_true rfl, Nat.le_of_ble_eq_true rfl⟩ (Nat.le_of_ble_eq_true rfl) (Nat.le_refl _) (Nat.le_refl _) ?_
  refine V_aload_n C dX5_cut_54 rfl rfl ?_
  refine V_getH (L := clL G) C dX5_cut_55 fX5_10 (by decide) (fun _ => rfl) rfl ?_
  refine V_getH (L := stL G 1) C dX5_cut_58 fX5_119 (by decide) (fun _ => rfl) rfl ?_
  rw [us_at, us_at]
  exact V_iret C dX5_cut_61 rfl hZ (by rw [e112, z6]) rfl
theorem gi_cut (s : Nat → Int) (st : Nat) (kp : Int) (t : Nat → Int) (T : Nat) (hg : GI s st kp t T) (p : Int) (hp : -2147483648 ≤ p ∧ p < 2147483648) (hc : 1 ≤ p ∧ p ≤ 64) (hd : p ≤ s 6) : GI (ctF (svS s st) p.toNat (s 6 - p).toNat (s 6 - p).toNat) (st1 st) kp t T := by
  have g6 := hg.1.2.1
  exact GI_now (GI_save hg) (GZ_cut (GI_save hg).1 (by omega) (by omega)) (fun j hj => ctF_up (by omega))
set_option maxRecDepth 100000 in
set_option maxHeartbeats 4000000 in
theorem x1_X5_append (G : GT) (K : Nat → Nat → Int) (r : Nat → Option Nat) (s : Nat → Int) (st : Nat) (kp : Int) (t : Nat → Int) (T : Nat) (h : IC K r s st kp t T) (hg : GI s st kp t T) (p : Int) (hp : -2147483648 ≤ p ∧ p < 2147483648) (hc : ¬ (33 ≤ p ∧ p ≤ 126)) : OkX G yX5_append mX5_append [rf G 0, .int (iI p)] K r "java/lang/IllegalArgumentException" s st kp t T := by
  have hS := h.2.1
  have hQ := hS.1
  have hz := hg.1
  have g5 := hz.1
  have g6 := hz.2.1
  have hI := h.2.2.1
  have gst := hg.2.1
  have gkp := hg.2.2.1
  have gT := hg.2.2.2.1
  have e12 : K 1 2 = s 6 := hQ.2.2
  refine ⟨K, ?_, h, fun _ _ => rfl⟩
  refine CtX_of kX5_append.1.1 (by decide) [some (rf G 0), some (.int (iI p))] rfl (Nat.le_of_ble_eq_true rfl) ?_
  intro x C hZ
  by_cases c1 : p < 33
  · skip
    refine V_iload_n C dX5_append_0 rfl rfl ?_
    refine V_bipush C dX5_append_1 (by decide +kernel) ?_
    refine V_icmp_lt (tgt := 12) C dX5_append_3 (by decide) (by omega) (by omega) (fun q3 => ?_) (fun q3 => by exfalso; omega)
    exact V_throw 8 C TH_IAE rfl rfl dX5_append_12 dX5_append_15 dX5_append_16 dX5_append_18 dX5_append_21 (Nat.le_of_ble_eq_true rfl) (Nat.le_of_ble_eq_true rfl) hZ rfl (by omega) (by omega)
  · skip
    refine V_iload_n C dX5_append_0 rfl rfl ?_
    refine V_bipush C dX5_append_1 (by decide +kernel) ?_
    refine V_icmp_lt (tgt := 12) C dX5_append_3 (by decide) (by omega) (by omega) (fun q3 => by exfalso; omega) (fun q3 => ?_)
    refine V_iload_n C dX5_append_6 rfl rfl ?_
    refine V_bipush C dX5_append_7 (by decide +kernel) ?_
    refine V_icmp_le (tgt := 22) C dX5_append_9 (by decide) (by omega) (by omega) (fun q9 => by exfalso; omega) (fun q9 => ?_)
    exact V_throw 8 C TH_IAE rfl rfl dX5_append_12 dX5_append_15 dX5_append_16 dX5_append_18 dX5_append_21 (Nat.le_of_ble_eq_true rfl) (Nat.le_of_ble_eq_true rfl) hZ rfl (by omega) (by omega)
set_option maxRecDepth 100000 in
set_option maxHeartbeats 4000000 in
theorem x2_X5_append (G : GT) (K : Nat → Nat → Int) (r : Nat → Option Nat) (s : Nat → Int) (st : Nat) (kp : Int) (t : Nat → Int) (T : Nat) (h : IC K r s st kp t T) (hg : GI s st kp t T) (p : Int) (hp : -2147483648 ≤ p ∧ p < 2147483648) (hc : 33 ≤ p ∧ p ≤ 126) (hd : ¬ (T < 60)) : OkX G yX5_append mX5_append [rf G 0, .int (iI p)] K r "java/lang/IllegalStateException" s st kp t T := by
  have hS := h.2.1
  have hQ := hS.1
  have hz := hg.1
  have g5 := hz.1
  have g6 := hz.2.1
  have hI := h.2.2.1
  have gst := hg.2.1
  have gkp := hg.2.2.1
  have gT := hg.2.2.2.1
  have e12 : K 1 2 = s 6 := hQ.2.2
  have hT9 : K 0 6 = T := hI.2.2
  refine ⟨K, ?_, h, fun _ _ => rfl⟩
  refine CtX_of kX5_append.1.1 (by decide) [some (rf G 0), some (.int (iI p))] rfl (Nat.le_of_ble_eq_true rfl) ?_
  intro x C hZ
  refine V_iload_n C dX5_append_0 rfl rfl ?_
  refine V_bipush C dX5_append_1 (by decide +kernel) ?_
  refine V_icmp_lt (tgt := 12) C dX5_append_3 (by decide) (by omega) (by omega) (fun q3 => by exfalso; omega) (fun q3 => ?_)
  refine V_iload_n C dX5_append_6 rfl rfl ?_
  refine V_bipush C dX5_append_7 (by decide +kernel) ?_
  refine V_icmp_le (tgt := 22) C dX5_append_9 (by decide) (by omega) (by omega) (fun q9 => ?_) (fun q9 => by exfalso; omega)
  refine V_aload_n C dX5_append_22 rfl rfl ?_
  refine V_getH (L := clL G) C dX5_append_23 fX5_146 (by decide) (fun _ => rfl) rfl ?_
  rw [hT9]
  refine V_if_lt (tgt := 41) C dX5_append_26 (by decide) (by omega) (fun q26 => by exfalso; omega) (fun q26 => ?_)
  refine V_aload_n C dX5_append_29 rfl rfl ?_
  refine V_getH (L := clL G) C dX5_append_30 fX5_146 (by decide) (fun _ => rfl) rfl ?_
  rw [hT9]
  refine V_aload_n C dX5_append_33 rfl rfl ?_
  refine V_getH (L := clL G) C dX5_append_34 fX5_23 (by decide) (fun _ => rfl) rfl ?_
  refine V_alenHc C dX5_append_37 (by decide) (fun _ => rfl) ?_
  refine V_icmp_lt (tgt := 51) C dX5_append_38 (by decide) (by omega) (by omega) (fun q38 => by exfalso; omega) (fun q38 => ?_)
  exact V_throw 9 C TH_ISE rfl rfl dX5_append_41 dX5_append_44 dX5_append_45 dX5_append_47 dX5_append_50 (Nat.le_of_ble_eq_true rfl) (Nat.le_of_ble_eq_true rfl) hZ rfl (by omega) (by omega)
set_option maxRecDepth 100000 in
set_option maxHeartbeats 4000000 in
theorem o_X5_append (G : GT) (K : Nat → Nat → Int) (r : Nat → Option Nat) (s : Nat → Int) (st : Nat) (kp : Int) (t : Nat → Int) (T : Nat) (h : IC K r s st kp t T) (hg : GI s st kp t T) (p : Int) (hp : -2147483648 ≤ p ∧ p < 2147483648) (hc : 33 ≤ p ∧ p ≤ 126) (hd : T < 60) : OkO G yX5_append mX5_append [rf G 0, .int (iI p)] K r (.int (iI ((T : Int) + 1))) s st kp (us t T p) (T + 1) := by
  have hS := h.2.1
  have hQ := hS.1
  have hz := hg.1
  have g5 := hz.1
  have g6 := hz.2.1
  have hI := h.2.2.1
  have gst := hg.2.1
  have gkp := hg.2.2.1
  have gT := hg.2.2.2.1
  have e12 : K 1 2 = s 6 := hQ.2.2
  have hT9 : K 0 6 = T := hI.2.2
  have hik := IC_len (T' := T + 1) (IC_txt (v := us (K 6) T p) h)
  have e6 : K 6 = t := h.2.2.2.1
  rw [← e6]
  refine ⟨us (us K 6 (us (K 6) T p)) 0 (us ((us K 6 (us (K 6) T p)) 0) 6 ((T + 1 : Nat) : Int)), r, ?_, hik, (FR.tr (FR_us (by decide)) (FR_us (by decide)))⟩
  refine Ct_of kX5_append.1.1 (by decide) [some (rf G 0), some (.int (iI p))] rfl (Nat.le_of_ble_eq_true rfl) ?_
  intro x C hZ
  refine V_iload_n C dX5_append_0 rfl rfl ?_
  refine V_bipush C dX5_append_1 (by decide +kernel) ?_
  refine V_icmp_lt (tgt := 12) C dX5_append_3 (by decide) (by omega) (by omega) (fun q3 => by exfalso; omega) (fun q3 => ?_)
  refine V_iload_n C dX5_append_6 rfl rfl ?_
  refine V_bipush C dX5_append_7 (by decide +kernel) ?_
  refine V_icmp_le (tgt := 22) C dX5_append_9 (by decide) (by omega) (by omega) (fun q9 => ?_) (fun q9 => by exfalso; omega)
  refine V_aload_n C dX5_append_22 rfl rfl ?_
  refine V_getH (L := clL G) C dX5_append_23 fX5_146 (by decide) (fun _ => rfl) rfl ?_
  rw [hT9]
  refine V_if_lt (tgt := 41) C dX5_append_26 (by decide) (by omega) (fun q26 => by exfalso; omega) (fun q26 => ?_)
  refine V_aload_n C dX5_append_29 rfl rfl ?_
  refine V_getH (L := clL G) C dX5_append_30 fX5_146 (by decide) (fun _ => rfl) rfl ?_
  rw [hT9]
  refine V_aload_n C dX5_append_33 rfl rfl ?_
  refine V_getH (L := clL G) C dX5_append_34 fX5_23 (by decide) (fun _ => rfl) rfl ?_
  refine V_alenHc C dX5_append_37 (by decide) (fun _ => rfl) ?_
  refine V_icmp_lt (tgt := 51) C dX5_append_38 (by decide) (by omega) (by omega) (fun q38 => ?_) (fun q38 => by exfalso; omega)
  refine V_aload_n C dX5_append_51 rfl rfl ?_
  refine V_getH (L := clL G) C dX5_append_52 fX5_23 (by decide) (fun _ => rfl) rfl ?_
  refine V_aload_n C dX5_append_55 rfl rfl ?_
  refine V_getH (L := clL G) C dX5_append_56 fX5_146 (by decide) (fun _ => rfl) rfl ?_
  rw [hT9]
  refine V_iload_n C dX5_append_59 rfl rfl ?_
  refine V_i2c C dX5_append_60 (by omega) ?_
  refine V_castH C dX5_append_61 (by decide) (fun _ => rfl) (by omega) (by decide) (by omega) ?_
  rw [tnN]
  refine V_aload_n C dX5_append_62 rfl rfl ?_
  refine V_dup C dX5_append_63 rfl ?_
  refine V_getH (L := clL G) C dX5_append_64 fX5_146 (by decide) (fun _ => rfl) rfl ?_
  rw [show us K 6 (us (K 6) T p) 0 6 = T from hT9]
  refine V_iconst C dX5_append_67 ?_
  refine V_iadd C dX5_append_68 ?_
  refine V_putH (L := clL G) (ty := .int) C dX5_append_69 fX5_146 (by decide) (fun _ => rfl) rfl (by decide +kernel) (rfl) (rfl) (Nat.le_of_ble_eq_true rfl) rfl ?_
  refine V_aload_n C dX5_append_72 rfl rfl ?_
  refine V_getH (L := clL G) C dX5_append_73 fX5_146 (by decide) (fun _ => rfl) rfl ?_
  rw [us_at, us_at]
  exact V_iret C dX5_append_76 rfl hZ rfl rfl
theorem gi_append (s : Nat → Int) (st : Nat) (kp : Int) (t : Nat → Int) (T : Nat) (hg : GI s st kp t T) (p : Int) (hp : -2147483648 ≤ p ∧ p < 2147483648) (hc : 33 ≤ p ∧ p ≤ 126) (hd : T < 60) : GI s st kp (us t T p) (T + 1) := GI_app hg hc hd
set_option maxRecDepth 100000 in
set_option maxHeartbeats 4000000 in
theorem o_X5_clearBuffer (G : GT) (K : Nat → Nat → Int) (r : Nat → Option Nat) (s : Nat → Int) (st : Nat) (kp : Int) (t : Nat → Int) (T : Nat) (h : IC K r s st kp t T) (hg : GI s st kp t T)   : OkO G yX5_clearBuffer mX5_clearBuffer [rf G 0] K r (.int (iI (T : Int))) s st kp t 0 := by
  have hS := h.2.1
  have hQ := hS.1
  have hz := hg.1
  have g5 := hz.1
  have g6 := hz.2.1
  have hI := h.2.2.1
  have gst := hg.2.1
  have gkp := hg.2.2.1
  have gT := hg.2.2.2.1
  have e12 : K 1 2 = s 6 := hQ.2.2
  have hT9 : K 0 6 = T := hI.2.2
  refine ⟨us K 0 (us (K 0) 6 ((0 : Nat) : Int)), r, ?_, IC_len (T' := 0) h, FR_us (by decide)⟩
  refine Ct_of kX5_clearBuffer.1.1 (by decide) [some (rf G 0), none] rfl (Nat.le_of_ble_eq_true rfl) ?_
  intro x C hZ
  refine V_aload_n C dX5_clearBuffer_0 rfl rfl ?_
  refine V_getH (L := clL G) C dX5_clearBuffer_1 fX5_146 (by decide) (fun _ => rfl) rfl ?_
  rw [hT9]
  refine V_istore_n C dX5_clearBuffer_4 rfl (Nat.le_of_ble_eq_true rfl) rfl ?_
  refine V_aload_n C dX5_clearBuffer_5 rfl rfl ?_
  refine V_iconst C dX5_clearBuffer_6 ?_
  refine V_putH (L := clL G) (ty := .int) C dX5_clearBuffer_7 fX5_146 (by decide) (fun _ => rfl) rfl (by decide +kernel) (rfl) (rfl) (Nat.le_of_ble_eq_true rfl) rfl ?_
  refine V_iload_n C dX5_clearBuffer_10 rfl rfl ?_
  exact V_iret C dX5_clearBuffer_11 rfl hZ rfl rfl
set_option maxRecDepth 100000 in
set_option maxHeartbeats 4000000 in
theorem x1_X5_work (G : GT) (K : Nat → Nat → Int) (r : Nat → Option Nat) (s : Nat → Int) (st : Nat) (kp : Int) (t : Nat → Int) (T : Nat) (h : IC K r s st kp t T) (hg : GI s st kp t T)  (hw : (wh t T (T + 1) 0).1 = false) : OkX G yX5_work mX5_work [rf G 0] K r "java/lang/IllegalArgumentException" s st kp t T := by
  have hS := h.2.1
  have hQ := hS.1
  have hz := hg.1
  have g5 := hz.1
  have g6 := hz.2.1
  have hI := h.2.2.1
  have gst := hg.2.1
  have gkp := hg.2.2.1
  have gT := hg.2.2.2.1
  have e12 : K 1 2 = s 6 := hQ.2.2
  have ht : ∀ j, j < T → 33 ≤ t j ∧ t j ≤ 126 := hg.2.2.2.2.1
  have e6 : K 6 = t := h.2.2.2.1
  have hT9 : K 0 6 = T := hI.2.2
  have hsc := c_X5_scanText G K r T hT9 gT (by rw [e6]; exact ht)
  obtain ⟨w1, w2⟩ := sc_wh (t := t) (T := T) (K 7)
  have wI := sc_I (t := t) (T := T) (K 7) ht
  rw [e6] at hsc
  rw [w1] at hsc w2
  have ls := scR_le t T (us (K 7) 0 0) 0
  rw [w1] at ls
  refine ⟨(us K 7 (scR t T (us (K 7) 0 0) 0).1), ?_, IC_C (EqC_us (by decide)) h, FR_us (by decide)⟩
  refine CtX_of kX5_work.1.1 (by decide) [some (rf G 0), none] rfl (Nat.le_of_ble_eq_true rfl) ?_
  intro x C hZ
  by_cases c1 : (wh t T (T + 1) 0).2 < T
  · skip
    refine V_aload_n C dX5_work_0 rfl rfl ?_
    refine V_V1 (k2 := 1) (s2 := 6) C dX5_work_1 lX5_151 kX5_scanText (hsc) (by decide) (rfl) rfl rfl rfl ⟨Nat.le_of_ble_eq_true rfl, Nat.le_of_ble_eq_true rfl⟩ (Nat.le_of_ble_eq_true rfl) (Nat.le_refl _) (Nat.le_refl _) ?_
    refine V_aload_n C dX5_work_4 rfl rfl ?_
    refine V_getH (L := clL G) C dX5_work_5 fX5_146 (by decide) (fun _ => rfl) rfl ?_
    rw [show (us K 7 (scR t T (us (K 7) 0 0) 0).1) 0 6 = T from hT9]
    refine V_icmp_lt (tgt := 21) C dX5_work_8 (by decide) (by omega) (by omega) (fun q8 => ?_) (fun q8 => by exfalso; omega)
    exact V_throw 10 C TH_IAE rfl rfl dX5_work_21 dX5_work_24 dX5_work_25 dX5_work_27 dX5_work_30 (Nat.le_of_ble_eq_true rfl) (Nat.le_of_ble_eq_true rfl) hZ rfl (by omega) (by omega)
  · have w4 : ¬ ((scR t T (us (K 7) 0 0) 0).1 0 = 4 ∨ (scR t T (us (K 7) 0 0) 0).1 0 = 5) := fun w => by
      have := w2.mpr ⟨by omega, w⟩
      rw [hw] at this; cases this
    refine V_aload_n C dX5_work_0 rfl rfl ?_
    refine V_V1 (k2 := 1) (s2 := 6) C dX5_work_1 lX5_151 kX5_scanText (hsc) (by decide) (rfl) rfl rfl rfl ⟨Nat.le_of_ble_eq_true rfl, Nat.le_of_ble_eq_true rfl⟩ (Nat.le_of_ble_eq_true rfl) (Nat.le_refl _) (Nat.le_refl _) ?_
    refine V_aload_n C dX5_work_4 rfl rfl ?_
    refine V_getH (L := clL G) C dX5_work_5 fX5_146 (by decide) (fun _ => rfl) rfl ?_
    rw [show (us K 7 (scR t T (us (K 7) 0 0) 0).1) 0 6 = T from hT9]
    refine V_icmp_lt (tgt := 21) C dX5_work_8 (by decide) (by omega) (by omega) (fun q8 => by exfalso; omega) (fun q8 => ?_)
    refine V_aload_n C dX5_work_11 rfl rfl ?_
    refine V_getH (L := clL G) C dX5_work_12 fX5_30 (by decide) (fun _ => rfl) rfl ?_
    refine V_V1 (k2 := 1) (s2 := 6) C dX5_work_15 lX5_155 kX3_isComplete (Ct_v (b2n (by rw [us_at]; exact w4)) (c_X3_isComplete G (us K 7 (scR t T (us (K 7) 0 0) 0).1) r (by rw [us_at]; exact wI.1))) (by decide) (rfl) rfl rfl rfl ⟨Nat.le_of_ble_eq_true rfl, Nat.le_of_ble_eq_true rfl⟩ (Nat.le_of_ble_eq_true rfl) (Nat.le_refl _) (Nat.le_refl _) ?_
    refine V_if_ne (tgt := 31) C dX5_work_18 (by decide) (by omega) (fun q18 => by exfalso; omega) (fun q18 => ?_)
    exact V_throw 10 C TH_IAE rfl rfl dX5_work_21 dX5_work_24 dX5_work_25 dX5_work_27 dX5_work_30 (Nat.le_of_ble_eq_true rfl) (Nat.le_of_ble_eq_true rfl) hZ rfl (by omega) (by omega)
set_option maxRecDepth 100000 in
set_option maxHeartbeats 4000000 in
theorem o_X5_work (G : GT) (K : Nat → Nat → Int) (r : Nat → Option Nat) (s : Nat → Int) (st : Nat) (kp : Int) (t : Nat → Int) (T : Nat) (h : IC K r s st kp t T) (hg : GI s st kp t T)  (hw : (wh t T (T + 1) 0).1 = true) (p0 q0 : Int) : OkO G yX5_work mX5_work [rf G 0] K r (.int (iI ((wk t T (T + 1) (svS s st) p0 q0 0 0).2.1 : Int))) (stS (wk t T (T + 1) (svS s st) p0 q0 0 0).1 (wk t T (T + 1) (svS s st) p0 q0 0 0).2.2.1 (wk t T (T + 1) (svS s st) p0 q0 0 0).2.1) (st1 st) kp t 0 := by
  have hS := h.2.1
  have hQ := hS.1
  have hz := hg.1
  have g5 := hz.1
  have g6 := hz.2.1
  have hI := h.2.2.1
  have gst := hg.2.1
  have gkp := hg.2.2.1
  have gT := hg.2.2.2.1
  have e12 : K 1 2 = s 6 := hQ.2.2
  have ht : ∀ j, j < T → 33 ≤ t j ∧ t j ≤ 126 := hg.2.2.2.2.1
  have e6 : K 6 = t := h.2.2.2.1
  have hT9 : K 0 6 = T := hI.2.2
  have hsc := c_X5_scanText G K r T hT9 gT (by rw [e6]; exact ht)
  obtain ⟨w1, w2⟩ := sc_wh (t := t) (T := T) (K 7)
  have wI := sc_I (t := t) (T := T) (K 7) ht
  rw [e6] at hsc
  rw [w1] at hsc w2
  have ls := scR_le t T (us (K 7) 0 0) 0
  rw [w1] at ls
  have w3 := w2.mp hw
  obtain ⟨K1, r1, hsv, hi, hf⟩ := c_X5_saveNow G (us K 7 (scR t T (us (K 7) 0 0) 0).1) r s st kp t T (IC_C (EqC_us (by decide)) h) hg
  have hg1 := GI_save hg
  have e61 : K1 6 = t := hi.2.2.2.1
  have hT1 : K1 0 6 = T := hi.2.2.1.2.2
  obtain ⟨KF, hdp, f1, f2, f3, f4⟩ := c_X5_doParts G K1 r1 T hT1 gT (by rw [e61]; exact ht) (svS s st) hi.2.1.1 hg1.1 (by rw [e61]; exact hw) p0 q0
  rw [e61] at hdp f1 f2 f3
  obtain ⟨o1, o2, o3, o4, o5⟩ := wk_ok (t := t) (T := T) (T + 1) (svS s st) p0 q0 0 0 (Nat.zero_le _) (by omega) hw hg1.1
  obtain ⟨R, hR⟩ : ∃ R, R = (wk t T (T + 1) (svS s st) p0 q0 0 0) := ⟨_, rfl⟩
  rw [← hR] at hdp f1 f2 f3 o1 o2 o3 o4 o5 ⊢
  have hk1 : IC KF r1 (stS R.1 R.2.2.1 R.2.1) (st1 st) kp t T := by
    refine IC_now hi (fun q n1 n2 n3 => f4 q n1 n2 (by omega)) ⟨RQ_z o1.2.1.2 (fun j hj => stS_lo hj) f1, RT_st o4 f2 f3⟩ (fun j hj => ?_)
    rw [stS_hi hj, o2 j (by omega)]
  have hf9 : FR K1 KF := fun q hq => f4 q (by omega) (by omega) (by omega)
  refine ⟨us KF 0 (us (KF 0) 6 ((0 : Nat) : Int)), r1, ?_, IC_len (T' := 0) hk1, ((FR.tr (FR_us (by decide)) hf).tr hf9).tr (FR_us (by decide))⟩
  refine Ct_of kX5_work.1.1 (by decide) [some (rf G 0), none] rfl (Nat.le_of_ble_eq_true rfl) ?_
  intro x C hZ
  refine V_aload_n C dX5_work_0 rfl rfl ?_
  refine V_V1 (k2 := 0) (s2 := 0) C dX5_work_1 lX5_151 kX5_scanText (hsc) (by decide) (rfl) rfl rfl rfl ⟨Nat.le_of_ble_eq_true rfl, Nat.le_of_ble_eq_true rfl⟩ (Nat.le_of_ble_eq_true rfl) (Nat.le_refl _) (Nat.le_refl _) ?_
  refine V_aload_n C dX5_work_4 rfl rfl ?_
  refine V_getH (L := clL G) C dX5_work_5 fX5_146 (by decide) (fun _ => rfl) rfl ?_
  rw [show (us K 7 (scR t T (us (K 7) 0 0) 0).1) 0 6 = T from hT9]
  refine V_icmp_lt (tgt := 21) C dX5_work_8 (by decide) (by omega) (by omega) (fun q8 => by exfalso; omega) (fun q8 => ?_)
  refine V_aload_n C dX5_work_11 rfl rfl ?_
  refine V_getH (L := clL G) C dX5_work_12 fX5_30 (by decide) (fun _ => rfl) rfl ?_
  refine V_V1 (k2 := 0) (s2 := 0) C dX5_work_15 lX5_155 kX3_isComplete (Ct_v (b2y (by rw [us_at]; exact w3.2)) (c_X3_isComplete G (us K 7 (scR t T (us (K 7) 0 0) 0).1) r (by rw [us_at]; exact wI.1))) (by decide) (rfl) rfl rfl rfl ⟨Nat.le_of_ble_eq_true rfl, Nat.le_of_ble_eq_true rfl⟩ (Nat.le_of_ble_eq_true rfl) (Nat.le_refl _) (Nat.le_refl _) ?_
  refine V_if_ne (tgt := 31) C dX5_work_18 (by decide) (by omega) (fun q18 => ?_) (fun q18 => by exfalso; omega)
  refine V_aload_n C dX5_work_31 rfl rfl ?_
  refine V_V0 (k2 := 0) (s2 := 0) C dX5_work_32 lX5_69 kX5_saveNow (hsv) (by decide) (rfl) rfl rfl rfl ⟨Nat.le_of_ble_eq_true rfl, Nat.le_of_ble_eq_true rfl⟩ (Nat.le_of_ble_eq_true rfl) (Nat.le_refl _) (Nat.le_refl _) ?_
  refine V_aload_n C dX5_work_35 rfl rfl ?_
  refine V_V1 (k2 := 0) (s2 := 0) C dX5_work_36 lX5_161 kX5_doParts (hdp) (by decide) (rfl) rfl rfl rfl ⟨Nat.le_of_ble_eq_true rfl, Nat.le_of_ble_eq_true rfl⟩ (Nat.le_of_ble_eq_true rfl) (Nat.le_refl _) (Nat.le_refl _) ?_
  refine V_istore_n C dX5_work_39 rfl (Nat.le_of_ble_eq_true rfl) rfl ?_
  refine V_aload_n C dX5_work_40 rfl rfl ?_
  refine V_iconst C dX5_work_41 ?_
  refine V_putH (L := clL G) (ty := .int) C dX5_work_42 fX5_146 (by decide) (fun _ => rfl) rfl (by decide +kernel) (rfl) (rfl) (Nat.le_of_ble_eq_true rfl) rfl ?_
  refine V_iload_n C dX5_work_45 rfl rfl ?_
  exact V_iret C dX5_work_46 rfl hZ rfl rfl
theorem gi_work (s : Nat → Int) (st : Nat) (kp : Int) (t : Nat → Int) (T : Nat) (hg : GI s st kp t T) (hw : (wh t T (T + 1) 0).1 = true) (p0 q0 : Int) : GI (stS (wk t T (T + 1) (svS s st) p0 q0 0 0).1 (wk t T (T + 1) (svS s st) p0 q0 0 0).2.2.1 (wk t T (T + 1) (svS s st) p0 q0 0 0).2.1) (st1 st) kp t 0 := by
  have hg1 := GI_save hg
  have gT := hg.2.2.2.1
  obtain ⟨o1, o2, o3, o4, o5⟩ := wk_ok (t := t) (T := T) (T + 1) (svS s st) p0 q0 0 0 (Nat.zero_le _) (by omega) hw hg1.1
  refine GI_clear (GI_now hg1 (stS_GZ o1 ⟨o4, o5⟩ (by omega)) (fun j hj => ?_))
  rw [stS_hi hj, o2 j (by omega)]
set_option maxRecDepth 100000 in
set_option maxHeartbeats 4000000 in
theorem x1_X5_undo (G : GT) (K : Nat → Nat → Int) (r : Nat → Option Nat) (s : Nat → Int) (st : Nat) (kp : Int) (t : Nat → Int) (T : Nat) (h : IC K r s st kp t T) (hg : GI s st kp t T)  (hc : st = 0) : OkX G yX5_undo mX5_undo [rf G 0] K r "java/lang/IllegalStateException" s st kp t T := by
  have hS := h.2.1
  have hQ := hS.1
  have hz := hg.1
  have g5 := hz.1
  have g6 := hz.2.1
  have hI := h.2.2.1
  have gst := hg.2.1
  have gkp := hg.2.2.1
  have gT := hg.2.2.2.1
  have e12 : K 1 2 = s 6 := hQ.2.2
  have e4 : K 0 4 = st := hI.2.1
  refine ⟨K, ?_, h, fun _ _ => rfl⟩
  refine CtX_of kX5_undo.1.1 (by decide) [some (rf G 0)] rfl (Nat.le_of_ble_eq_true rfl) ?_
  intro x C hZ
  refine V_aload_n C dX5_undo_0 rfl rfl ?_
  refine V_getH (L := clL G) C dX5_undo_1 fX5_173 (by decide) (fun _ => rfl) rfl ?_
  rw [e4]
  refine V_iconst C dX5_undo_4 ?_
  refine V_icmp_lt (tgt := 20) C dX5_undo_5 (by decide) (by omega) (by omega) (fun q5 => ?_) (fun q5 => by exfalso; omega)
  exact V_throw 11 C TH_ISE rfl rfl dX5_undo_20 dX5_undo_23 dX5_undo_24 dX5_undo_26 dX5_undo_29 (Nat.le_of_ble_eq_true rfl) (Nat.le_of_ble_eq_true rfl) hZ rfl (by omega) (by omega)
set_option maxRecDepth 100000 in
set_option maxHeartbeats 4000000 in
theorem o_X5_undo (G : GT) (K : Nat → Nat → Int) (r : Nat → Option Nat) (s : Nat → Int) (st : Nat) (kp : Int) (t : Nat → Int) (T : Nat) (h : IC K r s st kp t T) (hg : GI s st kp t T)  (hc : 0 < st) : OkO G yX5_undo mX5_undo [rf G 0] K r (.int (iI ((st : Int) - 1))) (cpS s st 0 74) (st - 1) kp t T := by
  have hS := h.2.1
  have hQ := hS.1
  have hz := hg.1
  have g5 := hz.1
  have g6 := hz.2.1
  have hI := h.2.2.1
  have gst := hg.2.1
  have gkp := hg.2.2.1
  have gT := hg.2.2.2.1
  have e12 : K 1 2 = s 6 := hQ.2.2
  have e4 : K 0 4 = st := hI.2.1
  obtain ⟨a, q1, q2⟩ := h.2.2.2.2.2.2 (st - 1) (by omega)
  obtain ⟨b, p1, p2, p3⟩ := h.2.2.2.2.2.1.1 (st - 1) (by omega)
  cases Option.some.inj (q1.symm.trans p1)
  rw [show st - 1 + 1 = st by omega] at q2
  have gz := hg.2.2.2.2.2.2 (st - 1) (by omega)
  rw [show st - 1 + 1 = st by omega] at gz
  have hd := IC_dec h hc
  have hb := IC_back hd (a := a) (n := st) (RS_congr (us_ne _ _ (by omega)) (us_ne _ _ (by omega)) q2) gz (by omega)
  refine ⟨cpK (us K 0 (us (K 0) 4 ((st : Int) - 1))) 1 a, r, ?_, hb, FR.tr (FR_us (by decide)) (FR_cp (by decide))⟩
  refine Ct_of kX5_undo.1.1 (by decide) [some (rf G 0)] rfl (Nat.le_of_ble_eq_true rfl) ?_
  intro x C hZ
  refine V_aload_n C dX5_undo_0 rfl rfl ?_
  refine V_getH (L := clL G) C dX5_undo_1 fX5_173 (by decide) (fun _ => rfl) rfl ?_
  rw [e4]
  refine V_iconst C dX5_undo_4 ?_
  refine V_icmp_lt (tgt := 20) C dX5_undo_5 (by decide) (by omega) (by omega) (fun q5 => by exfalso; omega) (fun q5 => ?_)
  refine V_aload_n C dX5_undo_8 rfl rfl ?_
  refine V_getH (L := clL G) C dX5_undo_9 fX5_173 (by decide) (fun _ => rfl) rfl ?_
  rw [e4]
  refine V_aload_n C dX5_undo_12 rfl rfl ?_
  refine V_getH (L := clL G) C dX5_undo_13 fX5_19 (by decide) (fun _ => rfl) rfl ?_
  refine V_alenHr C dX5_undo_16 ?_
  refine V_icmp_le (tgt := 30) C dX5_undo_17 (by decide) (by omega) (by omega) (fun q17 => ?_) (fun q17 => by exfalso; omega)
  refine V_aload_n C dX5_undo_30 rfl rfl ?_
  refine V_dup C dX5_undo_31 rfl ?_
  refine V_getH (L := clL G) C dX5_undo_32 fX5_173 (by decide) (fun _ => rfl) rfl ?_
  rw [e4]
  refine V_iconst C dX5_undo_35 ?_
  refine V_isub C dX5_undo_36 ?_
  refine V_putH (L := clL G) (ty := .int) C dX5_undo_37 fX5_173 (by decide) (fun _ => rfl) rfl (by decide +kernel) (rfl) (rfl) (Nat.le_of_ble_eq_true rfl) rfl ?_
  refine V_aload_n C dX5_undo_40 rfl rfl ?_
  refine V_getH (L := clL G) C dX5_undo_41 fX5_19 (by decide) (fun _ => rfl) rfl ?_
  refine V_aload_n C dX5_undo_44 rfl rfl ?_
  refine V_getH (L := clL G) C dX5_undo_45 fX5_173 (by decide) (fun _ => rfl) rfl ?_
  rw [show (us K 0 (us (K 0) 4 ((st : Int) - 1))) 0 4 = (st : Int) - 1 from rfl]
  refine V_aaldH C dX5_undo_48 (by omega) (by rw [show ((st : Int) - 1).toNat = st - 1 by omega]; exact q1) ?_
  refine V_aload_n C dX5_undo_49 rfl rfl ?_
  refine V_getH (L := clL G) C dX5_undo_50 fX5_10 (by decide) (fun _ => rfl) rfl ?_
  refine V_S0 (k2 := 0) (s2 := 0) C dX5_undo_53 lX5_178 kX5_copyState (c_X5_copyState G _ r 1 a rfl p2 (by omega)) rfl rfl ⟨Nat.le_of_ble_eq_true rfl, Nat.le_of_ble_eq_true rfl⟩ (Nat.le_of_ble_eq_true rfl) (Nat.le_refl _) (Nat.le_refl _) ?_
  refine V_aload_n C dX5_undo_56 rfl rfl ?_
  refine V_getH (L := clL G) C dX5_undo_57 fX5_173 (by decide) (fun _ => rfl) rfl ?_
  rw [cpK_ne (show (0 : Nat) ≠ 1 by decide) (show (0 : Nat) ≠ 1 + 1 by decide), show (us K 0 (us (K 0) 4 ((st : Int) - 1))) 0 4 = (st : Int) - 1 from rfl]
  exact V_iret C dX5_undo_60 rfl hZ rfl rfl
theorem gi_undo (s : Nat → Int) (st : Nat) (kp : Int) (t : Nat → Int) (T : Nat) (hg : GI s st kp t T) (hc : 0 < st) : GI (cpS s st 0 74) (st - 1) kp t T := by
  have gz := hg.2.2.2.2.2.2 (st - 1) (by omega)
  rw [show st - 1 + 1 = st by omega] at gz
  exact GI_back (GI_dec hg) gz
set_option maxRecDepth 100000 in
set_option maxHeartbeats 4000000 in
theorem o_X5_keep (G : GT) (K : Nat → Nat → Int) (r : Nat → Option Nat) (s : Nat → Int) (st : Nat) (kp : Int) (t : Nat → Int) (T : Nat) (h : IC K r s st kp t T) (hg : GI s st kp t T)   : OkO G yX5_keep mX5_keep [rf G 0] K r (.int (iI (su s 6))) (cpS s 0 6 74) st 1 t T := by
  have hS := h.2.1
  have hQ := hS.1
  have hz := hg.1
  have g5 := hz.1
  have g6 := hz.2.1
  have hI := h.2.2.1
  have gst := hg.2.1
  have gkp := hg.2.2.1
  have gT := hg.2.2.2.1
  have e12 : K 1 2 = s 6 := hQ.2.2
  have hk := IC_keep h hg
  refine ⟨us (cpK K 3 1) 0 (us ((cpK K 3 1) 0) 2 1), r, ?_, hk, FR.tr (FR_cp (by decide)) (FR_us (by decide))⟩
  refine Ct_of kX5_keep.1.1 (by decide) [some (rf G 0)] rfl (Nat.le_of_ble_eq_true rfl) ?_
  intro x C hZ
  refine V_aload_n C dX5_keep_0 rfl rfl ?_
  refine V_getH (L := clL G) C dX5_keep_1 fX5_10 (by decide) (fun _ => rfl) rfl ?_
  refine V_aload_n C dX5_keep_4 rfl rfl ?_
  refine V_getH (L := clL G) C dX5_keep_5 fX5_16 (by decide) (fun _ => rfl) rfl ?_
  refine V_S0 (k2 := 0) (s2 := 0) C dX5_keep_8 lX5_178 kX5_copyState (c_X5_copyState G K r 3 1 rfl rfl (by decide)) rfl rfl ⟨Nat.le_of_ble_eq_true rfl, Nat.le_of_ble_eq_true rfl⟩ (Nat.le_of_ble_eq_true rfl) (Nat.le_refl _) (Nat.le_refl _) ?_
  refine V_aload_n C dX5_keep_11 rfl rfl ?_
  refine V_iconst C dX5_keep_12 ?_
  refine V_putH (L := clL G) (ty := .boolean) C dX5_keep_13 fX5_182 (by decide) (fun _ => rfl) rfl (by decide +kernel) (by decide) (by decide) (Nat.le_of_ble_eq_true rfl) rfl ?_
  refine V_aload_n C dX5_keep_16 rfl rfl ?_
  refine V_getH (L := clL G) C dX5_keep_17 fX5_10 (by decide) (fun _ => rfl) rfl ?_
  refine V_V1 (k2 := 0) (s2 := 0) C dX5_keep_20 lX5_186 kX2_sum (c_X2_sum G _ r 1 rfl) (by decide) (rfl) rfl rfl rfl ⟨Nat.le_of_ble_eq_true rfl, Nat.le_of_ble_eq_true rfl⟩ (Nat.le_of_ble_eq_true rfl) (Nat.le_refl _) (Nat.le_refl _) ?_
  exact V_iret C dX5_keep_23 rfl hZ (su_of (fun k hk2 => hk.2.1.1.1 k hk2 |>.trans (cpS_ne (by omega)))) rfl
set_option maxRecDepth 100000 in
set_option maxHeartbeats 4000000 in
theorem x1_X5_restore (G : GT) (K : Nat → Nat → Int) (r : Nat → Option Nat) (s : Nat → Int) (st : Nat) (kp : Int) (t : Nat → Int) (T : Nat) (h : IC K r s st kp t T) (hg : GI s st kp t T)  (hc : kp = 0) : OkX G yX5_restore mX5_restore [rf G 0] K r "java/lang/IllegalStateException" s st kp t T := by
  have hS := h.2.1
  have hQ := hS.1
  have hz := hg.1
  have g5 := hz.1
  have g6 := hz.2.1
  have hI := h.2.2.1
  have gst := hg.2.1
  have gkp := hg.2.2.1
  have gT := hg.2.2.2.1
  have e12 : K 1 2 = s 6 := hQ.2.2
  refine ⟨K, ?_, h, fun _ _ => rfl⟩
  refine CtX_of kX5_restore.1.1 (by decide) [some (rf G 0)] rfl (Nat.le_of_ble_eq_true rfl) ?_
  intro x C hZ
  refine V_aload_n C dX5_restore_0 rfl rfl ?_
  refine V_getH (L := clL G) C dX5_restore_1 fX5_182 (by decide) (fun _ => rfl) rfl ?_
  rw [hI.1, hc]
  refine V_if_ne (tgt := 17) C dX5_restore_4 (by decide) (by omega) (fun q4 => by exfalso; omega) (fun q4 => ?_)
  exact V_throw 12 C TH_ISE rfl rfl dX5_restore_7 dX5_restore_10 dX5_restore_11 dX5_restore_13 dX5_restore_16 (Nat.le_of_ble_eq_true rfl) (Nat.le_of_ble_eq_true rfl) hZ rfl (by omega) (by omega)
set_option maxRecDepth 100000 in
set_option maxHeartbeats 4000000 in
theorem o_X5_restore (G : GT) (K : Nat → Nat → Int) (r : Nat → Option Nat) (s : Nat → Int) (st : Nat) (kp : Int) (t : Nat → Int) (T : Nat) (h : IC K r s st kp t T) (hg : GI s st kp t T)  (hc : kp = 1) : OkO G yX5_restore mX5_restore [rf G 0] K r (.int (iI (su (cpS (svS s st) 6 0 74) 6))) (cpS (svS s st) 6 0 74) (st1 st) kp t T := by
  have hS := h.2.1
  have hQ := hS.1
  have hz := hg.1
  have g5 := hz.1
  have g6 := hz.2.1
  have hI := h.2.2.1
  have gst := hg.2.1
  have gkp := hg.2.2.1
  have gT := hg.2.2.2.1
  have e12 : K 1 2 = s 6 := hQ.2.2
  obtain ⟨K1, r1, hsv, hi, hf⟩ := c_X5_saveNow G K r s st kp t T h hg
  have hg1 := GI_save hg
  have hS1 := hi.2.1
  have hQ1 := hS1.1
  have e112 : K1 1 2 = svS s st 6 := hQ1.2.2
  have z6 : svS s st 6 = s 6 := svS_0 (by decide)
  have gz : GZ (slot (svS s st) 6) := hg1.2.2.2.2.2.1 hc
  have hb := IC_back hi (a := 3) (n := 6) (hi.2.2.2.2.1 hc) gz (by decide)
  refine ⟨cpK K1 1 3, r1, ?_, hb, hf.tr (FR_cp (by decide))⟩
  refine Ct_of kX5_restore.1.1 (by decide) [some (rf G 0)] rfl (Nat.le_of_ble_eq_true rfl) ?_
  intro x C hZ
  refine V_aload_n C dX5_restore_0 rfl rfl ?_
  refine V_getH (L := clL G) C dX5_restore_1 fX5_182 (by decide) (fun _ => rfl) rfl ?_
  rw [hI.1, hc]
  refine V_if_ne (tgt := 17) C dX5_restore_4 (by decide) (by omega) (fun q4 => ?_) (fun q4 => by exfalso; omega)
  refine V_aload_n C dX5_restore_17 rfl rfl ?_
  refine V_V0 (k2 := 0) (s2 := 0) C dX5_restore_18 lX5_69 kX5_saveNow (hsv) (by decide) (rfl) rfl rfl rfl ⟨Nat.le_of_ble_eq_true rfl, Nat.le_of_ble_eq_true rfl⟩ (Nat.le_of_ble_eq_true rfl) (Nat.le_refl _) (Nat.le_refl _) ?_
  refine V_aload_n C dX5_restore_21 rfl rfl ?_
  refine V_getH (L := clL G) C dX5_restore_22 fX5_16 (by decide) (fun _ => rfl) rfl ?_
  refine V_aload_n C dX5_restore_25 rfl rfl ?_
  refine V_getH (L := clL G) C dX5_restore_26 fX5_10 (by decide) (fun _ => rfl) rfl ?_
  refine V_S0 (k2 := 0) (s2 := 0) C dX5_restore_29 lX5_178 kX5_copyState (c_X5_copyState G K1 r1 1 3 rfl rfl (by decide)) rfl rfl ⟨Nat.le_of_ble_eq_true rfl, Nat.le_of_ble_eq_true rfl⟩ (Nat.le_of_ble_eq_true rfl) (Nat.le_refl _) (Nat.le_refl _) ?_
  refine V_aload_n C dX5_restore_32 rfl rfl ?_
  refine V_getH (L := clL G) C dX5_restore_33 fX5_10 (by decide) (fun _ => rfl) rfl ?_
  refine V_V1 (k2 := 0) (s2 := 0) C dX5_restore_36 lX5_186 kX2_sum (c_X2_sum G _ r1 1 rfl) (by decide) (rfl) rfl rfl rfl ⟨Nat.le_of_ble_eq_true rfl, Nat.le_of_ble_eq_true rfl⟩ (Nat.le_of_ble_eq_true rfl) (Nat.le_refl _) (Nat.le_refl _) ?_
  exact V_iret C dX5_restore_39 rfl hZ (su_of hb.2.1.1.1) rfl
theorem gi_restore (s : Nat → Int) (st : Nat) (kp : Int) (t : Nat → Int) (T : Nat) (hg : GI s st kp t T) (hc : kp = 1) : GI (cpS (svS s st) 6 0 74) (st1 st) kp t T := GI_back (GI_save hg) ((GI_save hg).2.2.2.2.2.1 hc)
