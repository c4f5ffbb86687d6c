set_option maxRecDepth 100000 in
set_option maxHeartbeats 4000000 in
theorem c_X5_sparseShare (G : GT) (K : Nat → Nat → Int) (r : Nat → Option Nat) (z : Nat → Int) (hq : RQ K 1 z) (hz : GZ z)  : CtO G yX5_sparseShare mX5_sparseShare [rf G 0] K r (some (.double (shV z))) (K) (r) := by
  refine Ct_of kX5_sparseShare.1.1 (by decide) [some (rf G 0), none, none, none] rfl (Nat.le_of_ble_eq_true rfl) ?_
  intro x C hZ
  have loop : ∀ (n k : Nat), k + n = 6 → V G mX5_sparseShare x 6 [some (rf G 0), some (.int (iI (alS z false k : Nat))), some (.int (iI (alS z true k : Nat))), some (.int (iI (k : Int)))] [] 28 false (HP G K r) 0 0 := by
    intro n
    induction n with
    | zero =>
      intro k e
      obtain rfl : k = 6 := by omega
      have b := alS_b 6 hz.1
      unfold shV at hZ
      by_cases c : alS z true 6 = 0
      · rw [if_pos c] at hZ
        refine V_iload_n C dX5_sparseShare_6 rfl rfl ?_
        refine V_bipush C dX5_sparseShare_7 (by decide +kernel) ?_
        refine V_icmp_ge (tgt := 52) C dX5_sparseShare_9 (by decide) (by omega) (by omega) (fun q9 => ?_) (fun q9 => by exfalso; omega)
        refine V_iload_n C dX5_sparseShare_52 rfl rfl ?_
        refine V_if_ne (tgt := 58) C dX5_sparseShare_53 (by decide) (by omega) (fun q53 => by exfalso; omega) (fun q53 => ?_)
        refine V_dconst1 C dX5_sparseShare_56 ?_
        exact V_dret C dX5_sparseShare_57 rfl hZ rfl rfl
      · rw [if_neg c] at hZ
        refine V_iload_n C dX5_sparseShare_6 rfl rfl ?_
        refine V_bipush C dX5_sparseShare_7 (by decide +kernel) ?_
        refine V_icmp_ge (tgt := 52) C dX5_sparseShare_9 (by decide) (by omega) (by omega) (fun q9 => ?_) (fun q9 => by exfalso; omega)
        refine V_iload_n C dX5_sparseShare_52 rfl rfl ?_
        refine V_if_ne (tgt := 58) C dX5_sparseShare_53 (by decide) (by omega) (fun q53 => ?_) (fun q53 => by exfalso; omega)
        refine V_iload_n C dX5_sparseShare_58 rfl rfl ?_
        refine V_i2d C dX5_sparseShare_59 ?_
        refine V_iload_n C dX5_sparseShare_60 rfl rfl ?_
        refine V_i2d C dX5_sparseShare_61 ?_
        refine V_ddiv C dX5_sparseShare_62 (by exact vf_of (okB_V hz c)) ?_
        exact V_dret C dX5_sparseShare_63 rfl hZ rfl rfl
    | succ n ih =>
      intro k e
      have gk := hz.1 k (by omega)
      have qk := hq.1 k (by omega)
      have g1 := gm_18 (z k).toNat
      have g2 := fm_18 (z k).toNat
      refine V_iload_n C dX5_sparseShare_6 rfl rfl ?_
      refine V_bipush C dX5_sparseShare_7 (by decide +kernel) ?_
      refine V_icmp_ge (tgt := 52) C dX5_sparseShare_9 (by decide) (by omega) (by omega) (fun q9 => by exfalso; omega) (fun q9 => ?_)
      refine V_iload_n C dX5_sparseShare_12 rfl rfl ?_
      refine V_aload_n C dX5_sparseShare_13 rfl rfl ?_
      refine V_getH (L := clL G) C dX5_sparseShare_14 fX5_10 (by decide) (fun _ => rfl) rfl ?_
      refine V_iload_n C dX5_sparseShare_17 rfl rfl ?_
      refine V_V1 (k2 := 0) (s2 := 0) C dX5_sparseShare_18 lX5_65 kX2_numberIn (c_X2_numberIn G K r 1 rfl (k : Int) (by omega)) (by decide) (rfl) rfl rfl rfl ⟨Nat.le_of_ble_eq_true rfl, Nat.le_of_ble_eq_true rfl⟩ (Nat.le_of_ble_eq_true rfl) (Nat.le_refl _) (Nat.le_refl _) ?_
      rw [tnN, qk]
      refine V_S1 (k2 := 0) (s2 := 0) C dX5_sparseShare_21 lX5_89 kX5_greedyMark (i_X5_greedyMark G 28 false _ _ gk) rfl rfl ⟨Nat.le_of_ble_eq_true rfl, Nat.le_of_ble_eq_true rfl⟩ (Nat.le_of_ble_eq_true rfl) (Nat.le_refl _) (Nat.le_refl _) ?_
      refine V_S1 (k2 := 0) (s2 := 0) C dX5_sparseShare_24 lX5_220 kJ6_bitCount_0f7a4 (c_J6_bitCount_0f7a4 _ (by omega) G 28 false _) rfl rfl ⟨Nat.le_of_ble_eq_true rfl, Nat.le_of_ble_eq_true rfl⟩ (Nat.le_of_ble_eq_true rfl) (Nat.le_refl _) (Nat.le_refl _) ?_
      rw [bc_22 (by omega)]
      refine V_iadd C dX5_sparseShare_27 ?_
      refine V_istore_n C dX5_sparseShare_28 rfl (Nat.le_of_ble_eq_true rfl) rfl ?_
      refine V_iload_n C dX5_sparseShare_29 rfl rfl ?_
      refine V_aload_n C dX5_sparseShare_30 rfl rfl ?_
      refine V_getH (L := clL G) C dX5_sparseShare_31 fX5_10 (by decide) (fun _ => rfl) rfl ?_
      refine V_iload_n C dX5_sparseShare_34 rfl rfl ?_
      refine V_V1 (k2 := 0) (s2 := 0) C dX5_sparseShare_35 lX5_65 kX2_numberIn (c_X2_numberIn G K r 1 rfl (k : Int) (by omega)) (by decide) (rfl) rfl rfl rfl ⟨Nat.le_of_ble_eq_true rfl, Nat.le_of_ble_eq_true rfl⟩ (Nat.le_of_ble_eq_true rfl) (Nat.le_refl _) (Nat.le_refl _) ?_
      rw [tnN, qk]
      refine V_S1 (k2 := 0) (s2 := 0) C dX5_sparseShare_38 lX5_208 kX5_fullMark (i_X5_fullMark G 28 false _ _ gk) rfl rfl ⟨Nat.le_of_ble_eq_true rfl, Nat.le_of_ble_eq_true rfl⟩ (Nat.le_of_ble_eq_true rfl) (Nat.le_refl _) (Nat.le_refl _) ?_
      refine V_S1 (k2 := 0) (s2 := 0) C dX5_sparseShare_41 lX5_220 kJ6_bitCount_0f7a4 (c_J6_bitCount_0f7a4 _ (by omega) G 28 false _) rfl rfl ⟨Nat.le_of_ble_eq_true rfl, Nat.le_of_ble_eq_true rfl⟩ (Nat.le_of_ble_eq_true rfl) (Nat.le_refl _) (Nat.le_refl _) ?_
      rw [bcf_22 (by omega)]
      refine V_iadd C dX5_sparseShare_44 ?_
      refine V_istore_n C dX5_sparseShare_45 rfl (Nat.le_of_ble_eq_true rfl) rfl ?_
      refine V_iinc C dX5_sparseShare_46 rfl (Nat.le_of_ble_eq_true rfl) rfl ?_
      refine V_goto (tgt := 6) C dX5_sparseShare_49 (by decide) ?_
      exact ih (k + 1) (by omega)
  refine V_iconst C dX5_sparseShare_0 ?_
  refine V_istore_n C dX5_sparseShare_1 rfl (Nat.le_of_ble_eq_true rfl) rfl ?_
  refine V_iconst C dX5_sparseShare_2 ?_
  refine V_istore_n C dX5_sparseShare_3 rfl (Nat.le_of_ble_eq_true rfl) rfl ?_
  refine V_iconst C dX5_sparseShare_4 ?_
  refine V_istore_n C dX5_sparseShare_5 rfl (Nat.le_of_ble_eq_true rfl) rfl ?_
  exact loop 6 0 (by omega)
set_option maxRecDepth 100000 in
set_option maxHeartbeats 4000000 in
theorem o_X5_sparseShare (G : GT) (K : Nat → Nat → Int) (r : Nat → Option Nat) (s : Nat → Int) (st : Nat) (kp : Int) (t : Nat → Int) (T : Nat) (h : IC K r s st kp t T) (hg : GI s st kp t T)   : OkO G yX5_sparseShare mX5_sparseShare [rf G 0] K r (.double (shV s)) s st kp t T := by
  have hS := h.2.1
  have hQ := hS.1
  have hz := hg.1
  have g5 := hz.1
  have g6 := hz.2.1
  have hI := h.2.2.1
  have gst := hg.2.1
  have gkp := hg.2.2.1
  have gT := hg.2.2.2.1
  have e12 : K 1 2 = s 6 := hQ.2.2
  exact ⟨K, r, c_X5_sparseShare G K r s hQ hz, h, fun _ _ => rfl⟩
set_option maxRecDepth 100000 in
set_option maxHeartbeats 4000000 in
theorem c_X5_total (G : GT) (K : Nat → Nat → Int) (r : Nat → Option Nat)  : CtO G yX5_total mX5_total [rf G 0] K r (some (.int (iI (su (K 2) 6)))) (K) (r) := by
  refine Ct_of kX5_total.1.1 (by decide) [some (rf G 0)] rfl (Nat.le_of_ble_eq_true rfl) ?_
  intro x C hZ
  refine V_aload_n C dX5_total_0 rfl rfl ?_
  refine V_getH (L := clL G) C dX5_total_1 fX5_10 (by decide) (fun _ => rfl) rfl ?_
  refine V_V1 (k2 := 0) (s2 := 0) C dX5_total_4 lX5_186 kX2_sum (c_X2_sum G K r 1 rfl) (by decide) (rfl) rfl rfl rfl ⟨Nat.le_of_ble_eq_true rfl, Nat.le_of_ble_eq_true rfl⟩ (Nat.le_of_ble_eq_true rfl) (Nat.le_refl _) (Nat.le_refl _) ?_
  exact V_iret C dX5_total_7 rfl hZ (by first | rfl | omega) rfl
set_option maxRecDepth 100000 in
set_option maxHeartbeats 4000000 in
theorem c_X5_savedStates (G : GT) (K : Nat → Nat → Int) (r : Nat → Option Nat)  : CtO G yX5_savedStates mX5_savedStates [rf G 0] K r (some (.int (iI (K 0 4)))) (K) (r) := by
  refine Ct_of kX5_savedStates.1.1 (by decide) [some (rf G 0)] rfl (Nat.le_of_ble_eq_true rfl) ?_
  intro x C hZ
  refine V_aload_n C dX5_savedStates_0 rfl rfl ?_
  refine V_getH (L := clL G) C dX5_savedStates_1 fX5_173 (by decide) (fun _ => rfl) rfl ?_
  exact V_iret C dX5_savedStates_4 rfl hZ (by first | rfl | omega) rfl
set_option maxRecDepth 100000 in
set_option maxHeartbeats 4000000 in
theorem c_X5_richest (G : GT) (K : Nat → Nat → Int) (r : Nat → Option Nat) (z : Nat → Int) (hq : RQ K 1 z) (hz : GZ z)  : CtO G yX5_richest mX5_richest [rf G 0] K r (some (.int (iI (ri z 5 : Nat)))) (K) (r) := by
  refine Ct_of kX5_richest.1.1 (by decide) [some (rf G 0), none, none] rfl (Nat.le_of_ble_eq_true rfl) ?_
  intro x C hZ
  have loop : ∀ (n k : Nat) (v : Int), k + n = 5 → v = (ri z k : Nat) → V G mX5_richest x 4 [some (rf G 0), some (.int (iI v)), some (.int (iI ((k + 1 : Nat) : Int)))] [] 28 false (HP G K r) 0 0 := by
    intro n
    induction n with
    | zero =>
      intro k v e e2
      refine V_iload_n C dX5_richest_4 rfl rfl ?_
      refine V_bipush C dX5_richest_5 (by decide +kernel) ?_
      refine V_icmp_ge (tgt := 37) C dX5_richest_7 (by decide) (by omega) (by omega) (fun q7 => ?_) (fun q7 => by exfalso; omega)
      refine V_iload_n C dX5_richest_37 rfl rfl ?_
      exact V_iret C dX5_richest_38 rfl hZ (by rw [e2, show k = 5 by omega]) rfl
    | succ n ih =>
      intro k v e e2
      subst e2
      have f1 := ri_le z k
      have f2 := hz.1 (k + 1) (by omega)
      have f3 := hz.1 (ri z k) (by omega)
      have k1 := hq.1 (k + 1) (by omega)
      have k2 := hq.1 (ri z k) (by omega)
      by_cases c : z (ri z k) < z (k + 1)
      · skip
        refine V_iload_n C dX5_richest_4 rfl rfl ?_
        refine V_bipush C dX5_richest_5 (by decide +kernel) ?_
        refine V_icmp_ge (tgt := 37) C dX5_richest_7 (by decide) (by omega) (by omega) (fun q7 => by exfalso; omega) (fun q7 => ?_)
        refine V_aload_n C dX5_richest_10 rfl rfl ?_
        refine V_getH (L := clL G) C dX5_richest_11 fX5_10 (by decide) (fun _ => rfl) rfl ?_
        refine V_iload_n C dX5_richest_14 rfl rfl ?_
        refine V_V1 (k2 := 0) (s2 := 0) C dX5_richest_15 lX5_65 kX2_numberIn (c_X2_numberIn G K r 1 rfl ((k + 1 : Nat) : Int) (by omega)) (by decide) (rfl) rfl rfl rfl ⟨Nat.le_of_ble_eq_true rfl, Nat.le_of_ble_eq_true rfl⟩ (Nat.le_of_ble_eq_true rfl) (Nat.le_refl _) (Nat.le_refl _) ?_
        rw [tnN, k1]
        refine V_aload_n C dX5_richest_18 rfl rfl ?_
        refine V_getH (L := clL G) C dX5_richest_19 fX5_10 (by decide) (fun _ => rfl) rfl ?_
        refine V_iload_n C dX5_richest_22 rfl rfl ?_
        refine V_V1 (k2 := 0) (s2 := 0) C dX5_richest_23 lX5_65 kX2_numberIn (c_X2_numberIn G K r 1 rfl ((ri z k : Nat) : Int) (by omega)) (by decide) (rfl) rfl rfl rfl ⟨Nat.le_of_ble_eq_true rfl, Nat.le_of_ble_eq_true rfl⟩ (Nat.le_of_ble_eq_true rfl) (Nat.le_refl _) (Nat.le_refl _) ?_
        rw [tnN, k2]
        refine V_icmp_le (tgt := 31) C dX5_richest_26 (by decide) (by omega) (by omega) (fun q26 => by exfalso; omega) (fun q26 => ?_)
        refine V_iload_n C dX5_richest_29 rfl rfl ?_
        refine V_istore_n C dX5_richest_30 rfl (Nat.le_of_ble_eq_true rfl) rfl ?_
        refine V_iinc C dX5_richest_31 rfl (Nat.le_of_ble_eq_true rfl) rfl ?_
        refine V_goto (tgt := 4) C dX5_richest_34 (by decide) ?_
        exact ih (k + 1) _ (by omega) (by simp only [ri]; rw [if_pos c])
      · skip
        refine V_iload_n C dX5_richest_4 rfl rfl ?_
        refine V_bipush C dX5_richest_5 (by decide +kernel) ?_
        refine V_icmp_ge (tgt := 37) C dX5_richest_7 (by decide) (by omega) (by omega) (fun q7 => by exfalso; omega) (fun q7 => ?_)
        refine V_aload_n C dX5_richest_10 rfl rfl ?_
        refine V_getH (L := clL G) C dX5_richest_11 fX5_10 (by decide) (fun _ => rfl) rfl ?_
        refine V_iload_n C dX5_richest_14 rfl rfl ?_
        refine V_V1 (k2 := 0) (s2 := 0) C dX5_richest_15 lX5_65 kX2_numberIn (c_X2_numberIn G K r 1 rfl ((k + 1 : Nat) : Int) (by omega)) (by decide) (rfl) rfl rfl rfl ⟨Nat.le_of_ble_eq_true rfl, Nat.le_of_ble_eq_true rfl⟩ (Nat.le_of_ble_eq_true rfl) (Nat.le_refl _) (Nat.le_refl _) ?_
        rw [tnN, k1]
        refine V_aload_n C dX5_richest_18 rfl rfl ?_
        refine V_getH (L := clL G) C dX5_richest_19 fX5_10 (by decide) (fun _ => rfl) rfl ?_
        refine V_iload_n C dX5_richest_22 rfl rfl ?_
        refine V_V1 (k2 := 0) (s2 := 0) C dX5_richest_23 lX5_65 kX2_numberIn (c_X2_numberIn G K r 1 rfl ((ri z k : Nat) : Int) (by omega)) (by decide) (rfl) rfl rfl rfl ⟨Nat.le_of_ble_eq_true rfl, Nat.le_of_ble_eq_true rfl⟩ (Nat.le_of_ble_eq_true rfl) (Nat.le_refl _) (Nat.le_refl _) ?_
        rw [tnN, k2]
        refine V_icmp_le (tgt := 31) C dX5_richest_26 (by decide) (by omega) (by omega) (fun q26 => ?_) (fun q26 => by exfalso; omega)
        refine V_iinc C dX5_richest_31 rfl (Nat.le_of_ble_eq_true rfl) rfl ?_
        refine V_goto (tgt := 4) C dX5_richest_34 (by decide) ?_
        exact ih (k + 1) _ (by omega) (by simp only [ri]; rw [if_neg c])
  refine V_iconst C dX5_richest_0 ?_
  refine V_istore_n C dX5_richest_1 rfl (Nat.le_of_ble_eq_true rfl) rfl ?_
  refine V_iconst C dX5_richest_2 ?_
  refine V_istore_n C dX5_richest_3 rfl (Nat.le_of_ble_eq_true rfl) rfl ?_
  exact loop 5 0 _ (by omega) rfl
