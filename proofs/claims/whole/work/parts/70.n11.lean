set_option maxRecDepth 100000 in
set_option maxHeartbeats 4000000 in
theorem c_X6_sparseShare (G : GT) (K : Nat → Nat → Int) (r : Nat → Option Nat) (hG : GZ (K 29)) : CtO G yX6_sparseShare mX6_sparseShare [rf G 28] K r (some (.double (shV (K 29)))) (kT K 0) (r) := by
  refine Ct_of kX6_sparseShare.1.1 (by decide) [some (rf G 28)] rfl (Nat.le_of_ble_eq_true rfl) ?_
  intro x C hZ
  unfold shV at hZ
  by_cases c : alS (K 29) true 6 = 0
  · rw [if_pos c] at hZ
    refine V_aload_n C dX6_sparseShare_0 rfl rfl ?_
    refine V_iconst C dX6_sparseShare_1 ?_
    refine V_putH (L := mOl G) (ty := .int) C dX6_sparseShare_2 fX6_22 (by decide) (fun _ => rfl) rfl (by decide +kernel) (rfl) (rfl) (Nat.le_of_ble_eq_true rfl) rfl ?_
    refine V_aload_n C dX6_sparseShare_5 rfl rfl ?_
    refine V_iconst C dX6_sparseShare_6 ?_
    refine V_V1 (k2 := 0) (s2 := 0) C dX6_sparseShare_7 lX6_169 kX6_allSteps (c_X6_allSteps G (kT K 0) r true hG.1) (by decide) (rfl) rfl rfl rfl ⟨Nat.le_of_ble_eq_true rfl, Nat.le_of_ble_eq_true rfl⟩ (Nat.le_of_ble_eq_true rfl) (Nat.le_refl _) (Nat.le_refl _) ?_
    rw [kT_29, c]
    refine V_if_ne (tgt := 17) C dX6_sparseShare_10 (by decide) (by omega) (fun q10 => by exfalso; omega) (fun q10 => ?_)
    refine V_dconst1 C dX6_sparseShare_13 ?_
    refine V_goto (tgt := 30) C dX6_sparseShare_14 (by decide) ?_
    exact V_dret C dX6_sparseShare_30 rfl hZ rfl rfl
  · rw [if_neg c] at hZ
    refine V_aload_n C dX6_sparseShare_0 rfl rfl ?_
    refine V_iconst C dX6_sparseShare_1 ?_
    refine V_putH (L := mOl G) (ty := .int) C dX6_sparseShare_2 fX6_22 (by decide) (fun _ => rfl) rfl (by decide +kernel) (rfl) (rfl) (Nat.le_of_ble_eq_true rfl) rfl ?_
    refine V_aload_n C dX6_sparseShare_5 rfl rfl ?_
    refine V_iconst C dX6_sparseShare_6 ?_
    refine V_V1 (k2 := 0) (s2 := 0) C dX6_sparseShare_7 lX6_169 kX6_allSteps (c_X6_allSteps G (kT K 0) r true hG.1) (by decide) (rfl) rfl rfl rfl ⟨Nat.le_of_ble_eq_true rfl, Nat.le_of_ble_eq_true rfl⟩ (Nat.le_of_ble_eq_true rfl) (Nat.le_refl _) (Nat.le_refl _) ?_
    rw [kT_29]
    refine V_if_ne (tgt := 17) C dX6_sparseShare_10 (by decide) (by have := alS_le (K 29) true 6; omega) (fun q10 => ?_) (fun q10 => by exfalso; omega)
    refine V_aload_n C dX6_sparseShare_17 rfl rfl ?_
    refine V_iconst C dX6_sparseShare_18 ?_
    refine V_V1 (k2 := 0) (s2 := 0) C dX6_sparseShare_19 lX6_169 kX6_allSteps (c_X6_allSteps G (kT K 0) r false hG.1) (by decide) (rfl) rfl rfl rfl ⟨Nat.le_of_ble_eq_true rfl, Nat.le_of_ble_eq_true rfl⟩ (Nat.le_of_ble_eq_true rfl) (Nat.le_refl _) (Nat.le_refl _) ?_
    rw [kT_29]
    refine V_i2d C dX6_sparseShare_22 ?_
    refine V_aload_n C dX6_sparseShare_23 rfl rfl ?_
    refine V_iconst C dX6_sparseShare_24 ?_
    refine V_V1 (k2 := 0) (s2 := 0) C dX6_sparseShare_25 lX6_169 kX6_allSteps (c_X6_allSteps G (kT K 0) r true hG.1) (by decide) (rfl) rfl rfl rfl ⟨Nat.le_of_ble_eq_true rfl, Nat.le_of_ble_eq_true rfl⟩ (Nat.le_of_ble_eq_true rfl) (Nat.le_refl _) (Nat.le_refl _) ?_
    rw [kT_29]
    refine V_i2d C dX6_sparseShare_28 ?_
    refine V_ddiv C dX6_sparseShare_29 (by exact vf_of (okB_V hG c)) ?_
    exact V_dret C dX6_sparseShare_30 rfl hZ rfl rfl
set_option maxRecDepth 100000 in
set_option maxHeartbeats 4000000 in
theorem c_X5_sparseShare (G : GT) (K : Nat → Nat → Int) (r : Nat → Option Nat) (z : Nat → Int) (hq : RQ K 1 z) (hz : GZ z)  : CtO G yX5_sparseShare mX5_sparseShare [rf G 0] K r (some (.double (shV z))) (K) (r) := by
  refine Ct_of kX5_sparseShare.1.1 (by decide) [some (rf G 0), none, none, none] rfl (Nat.le_of_ble_eq_true rfl) ?_
  intro x C hZ
  have loop : ∀ (n k : Nat), k + n = 6 → V G mX5_sparseShare x 6 [some (rf G 0), some (.int (iI (alS z false k : Nat))), some (.int (iI (alS z true k : Nat))), some (.int (iI (k : Int)))] [] 34 false (HP G K r) 0 0 := by
    intro n
    induction n with
    | zero =>
      intro k e
      obtain rfl : k = 6 := by omega
      have b := alS_b 6 hz.1
      unfold shV at hZ
      by_cases c : alS z true 6 = 0
      · rw [if_pos c] at hZ
        refine V_iload_n C dX5_sparseShare_6 rfl rfl ?_
        refine V_bipush C dX5_sparseShare_7 (by decide +kernel) ?_
        refine V_icmp_ge (tgt := 52) C dX5_sparseShare_9 (by decide) (by omega) (by omega) (fun q9 => ?_) (fun q9 => by exfalso; omega)
        refine V_iload_n C dX5_sparseShare_52 rfl rfl ?_
        refine V_if_ne (tgt := 58) C dX5_sparseShare_53 (by decide) (by omega) (fun q53 => by exfalso; omega) (fun q53 => ?_)
        refine V_dconst1 C dX5_sparseShare_56 ?_
        exact V_dret C dX5_sparseShare_57 rfl hZ rfl rfl
      · rw [if_neg c] at hZ
        refine V_iload_n C dX5_sparseShare_6 rfl rfl ?_
        refine V_bipush C dX5_sparseShare_7 (by decide +kernel) ?_
        refine V_icmp_ge (tgt := 52) C dX5_sparseShare_9 (by decide) (by omega) (by omega) (fun q9 => ?_) (fun q9 => by exfalso; omega)
        refine V_iload_n C dX5_sparseShare_52 rfl rfl ?_
        refine V_if_ne (tgt := 58) C dX5_sparseShare_53 (by decide) (by omega) (fun q53 => ?_) (fun q53 => by exfalso; omega)
        refine V_iload_n C dX5_sparseShare_58 rfl rfl ?_
        refine V_i2d C dX5_sparseShare_59 ?_
        refine V_iload_n C dX5_sparseShare_60 rfl rfl ?_
        refine V_i2d C dX5_sparseShare_61 ?_
        refine V_ddiv C dX5_sparseShare_62 (by exact vf_of (okB_V hz c)) ?_
        exact V_dret C dX5_sparseShare_63 rfl hZ rfl rfl
    | succ n ih =>
      intro k e
      have gk := hz.1 k (by omega)
      have qk := hq.1 k (by omega)
      have g1 := gm_18 (z k).toNat
      have g2 := fm_18 (z k).toNat
      refine V_iload_n C dX5_sparseShare_6 rfl rfl ?_
      refine V_bipush C dX5_sparseShare_7 (by decide +kernel) ?_
      refine V_icmp_ge (tgt := 52) C dX5_sparseShare_9 (by decide) (by omega) (by omega) (fun q9 => by exfalso; omega) (fun q9 => ?_)
      refine V_iload_n C dX5_sparseShare_12 rfl rfl ?_
      refine V_aload_n C dX5_sparseShare_13 rfl rfl ?_
      refine V_getH (L := clL G) C dX5_sparseShare_14 fX5_10 (by decide) (fun _ => rfl) rfl ?_
      refine V_iload_n C dX5_sparseShare_17 rfl rfl ?_
      refine V_V1 (k2 := 0) (s2 := 0) C dX5_sparseShare_18 lX5_65 kX2_numberIn (c_X2_numberIn G K r 1 rfl (k : Int) (by omega)) (by decide) (rfl) rfl rfl rfl ⟨Nat.le_of_ble_eq_true rfl, Nat.le_of_ble_eq_true rfl⟩ (Nat.le_of_ble_eq_true rfl) (Nat.le_refl _) (Nat.le_refl _) ?_
      rw [tnN, qk]
      refine V_S1 (k2 := 0) (s2 := 0) C dX5_sparseShare_21 lX5_89 kX5_greedyMark (i_X5_greedyMark G 34 false _ _ gk) rfl rfl ⟨Nat.le_of_ble_eq_true rfl, Nat.le_of_ble_eq_true rfl⟩ (Nat.le_of_ble_eq_true rfl) (Nat.le_refl _) (Nat.le_refl _) ?_
      refine V_S1 (k2 := 0) (s2 := 0) C dX5_sparseShare_24 lX5_220 kJ6_bitCount_0f7a4 (c_J6_bitCount_0f7a4 _ (by omega) G 34 false _) rfl rfl ⟨Nat.le_of_ble_eq_true rfl, Nat.le_of_ble_eq_true rfl⟩ (Nat.le_of_ble_eq_true rfl) (Nat.le_refl _) (Nat.le_refl _) ?_
      rw [bc_22 (by omega)]
      refine V_iadd C dX5_sparseShare_27 ?_
      refine V_istore_n C dX5_sparseShare_28 rfl (Nat.le_of_ble_eq_true rfl) rfl ?_
      refine V_iload_n C dX5_sparseShare_29 rfl rfl ?_
      refine V_aload_n C dX5_sparseShare_30 rfl rfl ?_
      refine V_getH (L := clL G) C dX5_sparseShare_31 fX5_10 (by decide) (fun _ => rfl) rfl ?_
      refine V_iload_n C dX5_sparseShare_34 rfl rfl ?_
      refine V_V1 (k2 := 0) (s2 := 0) C dX5_sparseShare_35 lX5_65 kX2_numberIn (c_X2_numberIn G K r 1 rfl (k : Int) (by omega)) (by decide) (rfl) rfl rfl rfl ⟨Nat.le_of_ble_eq_true rfl, Nat.le_of_ble_eq_true rfl⟩ (Nat.le_of_ble_eq_true rfl) (Nat.le_refl _) (Nat.le_refl _) ?_
      rw [tnN, qk]
      refine V_S1 (k2 := 0) (s2 := 0) C dX5_sparseShare_38 lX5_208 kX5_fullMark (i_X5_fullMark G 34 false _ _ gk) rfl rfl ⟨Nat.le_of_ble_eq_true rfl, Nat.le_of_ble_eq_true rfl⟩ (Nat.le_of_ble_eq_true rfl) (Nat.le_refl _) (Nat.le_refl _) ?_
      refine V_S1 (k2 := 0) (s2 := 0) C dX5_sparseShare_41 lX5_220 kJ6_bitCount_0f7a4 (c_J6_bitCount_0f7a4 _ (by omega) G 34 false _) rfl rfl ⟨Nat.le_of_ble_eq_true rfl, Nat.le_of_ble_eq_true rfl⟩ (Nat.le_of_ble_eq_true rfl) (Nat.le_refl _) (Nat.le_refl _) ?_
      rw [bcf_22 (by omega)]
      refine V_iadd C dX5_sparseShare_44 ?_
      refine V_istore_n C dX5_sparseShare_45 rfl (Nat.le_of_ble_eq_true rfl) rfl ?_
      refine V_iinc C dX5_sparseShare_46 rfl (Nat.le_of_ble_eq_true rfl) rfl ?_
      refine V_goto (tgt := 6) C dX5_sparseShare_49 (by decide) ?_
      exact ih (k + 1) (by omega)
  refine V_iconst C dX5_sparseShare_0 ?_
  refine V_istore_n C dX5_sparseShare_1 rfl (Nat.le_of_ble_eq_true rfl) rfl ?_
  refine V_iconst C dX5_sparseShare_2 ?_
  refine V_istore_n C dX5_sparseShare_3 rfl (Nat.le_of_ble_eq_true rfl) rfl ?_
  refine V_iconst C dX5_sparseShare_4 ?_
  refine V_istore_n C dX5_sparseShare_5 rfl (Nat.le_of_ble_eq_true rfl) rfl ?_
  exact loop 6 0 (by omega)
set_option maxRecDepth 100000 in
set_option maxHeartbeats 4000000 in
theorem o_X5_sparseShare (G : GT) (K : Nat → Nat → Int) (r : Nat → Option Nat) (s : Nat → Int) (st : Nat) (kp : Int) (t : Nat → Int) (T : Nat) (h : IC K r s st kp t T) (hg : GI s st kp t T)   : OkO G yX5_sparseShare mX5_sparseShare [rf G 0] K r (.double (shV s)) s st kp t T := by
  have hS := h.2.1
  have hQ := hS.1
  have hz := hg.1
  have g5 := hz.1
  have g6 := hz.2.1
  have hI := h.2.2.1
  have gst := hg.2.1
  have gkp := hg.2.2.1
  have gT := hg.2.2.2.1
  have e12 : K 1 2 = s 6 := hQ.2.2
  exact ⟨K, r, c_X5_sparseShare G K r s hQ hz, h, fun _ _ => rfl⟩
set_option maxRecDepth 100000 in
set_option maxHeartbeats 4000000 in
theorem c_X5_bitsOfShare (x0 S : UInt64) (m : Nat) (hb : bsC 10 x0 0 = some (S, m)) (h1 : okB (bsD S) = true) (h2 : okB (bsM S) = true) (G : GT) (N : Nat) (gf : Bool) (h : Hp) : Ct G yX5_bitsOfShare mX5_bitsOfShare [.double x0] N gf h 0 0 (some (.long (lL ((bsV S m : Nat) : Int)))) N gf h := by
  refine Ct_of kX5_bitsOfShare.1 (by decide) [some (.double x0), none, none, none, none, none, none] rfl (Nat.le_of_ble_eq_true rfl) ?_
  intro x C hZ
  have hm10 := bsC_k hb
  have last : m ≤ 10 → V G mX5_bitsOfShare x 42 [some (.double x0), none, some (.double S), none, some (.long (lL (1023 - (m : Int)))), none, some (.int (iI (m : Int)))] [] N gf h 0 0 := by
    intro hm
    refine V_lload C dX5_bitsOfShare_42 rfl ?_
    refine V_bipush C dX5_bitsOfShare_44 (by decide +kernel) ?_
    refine V_lshl C dX5_bitsOfShare_46 (1023 - m) 52 (by first | rfl | omega) (by first | rfl | omega) (by omega) ?_
    refine V_dload_n C dX5_bitsOfShare_47 rfl rfl ?_
    refine V_dconst1 C dX5_bitsOfShare_48 ?_
    refine V_dsub C dX5_bitsOfShare_49 (by exact vf_of h1) ?_
    refine V_ldc2d C dX5_bitsOfShare_50 qX5_382 ?_
    refine V_dmul C dX5_bitsOfShare_53 (by exact vf_of h2) ?_
    refine V_d2l C dX5_bitsOfShare_54 ?_
    rw [show FP.d2l (FP.dmul (FP.dsub S 0x3ff0000000000000) 4841369599423283200) = lL (((FP.d2l (bsM S)).toBitVec.toNat : Nat) : Int) from d2l_n _]
    refine V_lor C dX5_bitsOfShare_55 ((1023 - m) <<< 52) (FP.d2l (bsM S)).toBitVec.toNat (by first | rfl | omega) (by first | rfl | omega) ?_
    exact V_lret C dX5_bitsOfShare_56 rfl hZ rfl rfl
  have loop : ∀ (f k : Nat) (s : UInt64) (ex : Int), k ≤ 10 → ex = 1023 - (k : Int) → bsC f s k = some (S, m) → V G mX5_bitsOfShare x 10 [some (.double x0), none, some (.double s), none, some (.long (lL ex)), none, some (.int (iI (k : Int)))] [] N gf h 0 0 := by
    intro f
    induction f with
    | zero => intro k s ex hk he hB; cases hB
    | succ f ih =>
      intro k s ex hk he hB
      subst he
      have hkm := bsC_k hB
      simp only [bsC] at hB
      rcases hc : FP.dcmp s 0x3ff0000000000000 with _ | q
      · rw [hc] at hB; cases hB
      · rw [hc] at hB
        rcases q with _ | _ | _
        · rcases e : okB (FP.dmul s 4611686018427387904) with _ | _
          · rw [e] at hB; cases hB
          · rw [e] at hB
            have hB2 : bsC f (FP.dmul s 4611686018427387904) (k + 1) = some (S, m) := hB
            have hkm2 := bsC_k hB2
            refine V_iload C dX5_bitsOfShare_10 rfl ?_
            refine V_sipush C dX5_bitsOfShare_12 (by decide +kernel) ?_
            refine V_icmp_ge (tgt := 42) C dX5_bitsOfShare_15 (by decide) (by omega) (by omega) (fun q15 => by exfalso; omega) (fun q15 => ?_)
            refine V_dload_n C dX5_bitsOfShare_18 rfl rfl ?_
            refine V_dconst1 C dX5_bitsOfShare_19 ?_
            refine V_dcmp C dX5_bitsOfShare_20 ?_
            rw [hc]
            refine V_eq rfl rfl (st' := [.int (iI (-1))]) (congrArg (fun w => [Value.int w]) (show _ = iI (-1) by decide +kernel)) rfl ?_
            refine V_if_ge (tgt := 42) C dX5_bitsOfShare_21 (by decide) (by omega) (fun q21 => by exfalso; omega) (fun q21 => ?_)
            refine V_dload_n C dX5_bitsOfShare_24 rfl rfl ?_
            refine V_ldc2d C dX5_bitsOfShare_25 qX5_380 ?_
            refine V_dmul C dX5_bitsOfShare_28 (by exact vf_of e) ?_
            refine V_dstore_n C dX5_bitsOfShare_29 rfl (Nat.le_of_ble_eq_true rfl) rfl ?_
            refine V_lload C dX5_bitsOfShare_30 rfl ?_
            refine V_lconst (z := 1) C dX5_bitsOfShare_32 (by decide +kernel) ?_
            refine V_lsub C dX5_bitsOfShare_33 ?_
            refine V_lstore C dX5_bitsOfShare_34 (Nat.le_of_ble_eq_true rfl) rfl ?_
            refine V_iinc C dX5_bitsOfShare_36 rfl (Nat.le_of_ble_eq_true rfl) rfl ?_
            refine V_goto (tgt := 10) C dX5_bitsOfShare_39 (by decide) ?_
            exact ih (k + 1) _ _ (by omega) (by omega) hB2
        · cases hB
          refine V_iload C dX5_bitsOfShare_10 rfl ?_
          refine V_sipush C dX5_bitsOfShare_12 (by decide +kernel) ?_
          refine V_icmp_ge (tgt := 42) C dX5_bitsOfShare_15 (by decide) (by omega) (by omega) (fun q15 => by exfalso; omega) (fun q15 => ?_)
          refine V_dload_n C dX5_bitsOfShare_18 rfl rfl ?_
          refine V_dconst1 C dX5_bitsOfShare_19 ?_
          refine V_dcmp C dX5_bitsOfShare_20 ?_
          rw [hc]
          refine V_eq rfl rfl (st' := [.int (iI (0))]) (congrArg (fun w => [Value.int w]) (show _ = iI (0) by decide +kernel)) rfl ?_
          refine V_if_ge (tgt := 42) C dX5_bitsOfShare_21 (by decide) (by omega) (fun q21 => ?_) (fun q21 => by exfalso; omega)
          exact last (by omega)
        · cases hB
          refine V_iload C dX5_bitsOfShare_10 rfl ?_
          refine V_sipush C dX5_bitsOfShare_12 (by decide +kernel) ?_
          refine V_icmp_ge (tgt := 42) C dX5_bitsOfShare_15 (by decide) (by omega) (by omega) (fun q15 => by exfalso; omega) (fun q15 => ?_)
          refine V_dload_n C dX5_bitsOfShare_18 rfl rfl ?_
          refine V_dconst1 C dX5_bitsOfShare_19 ?_
          refine V_dcmp C dX5_bitsOfShare_20 ?_
          rw [hc]
          refine V_eq rfl rfl (st' := [.int (iI (1))]) (congrArg (fun w => [Value.int w]) (show _ = iI (1) by decide +kernel)) rfl ?_
          refine V_if_ge (tgt := 42) C dX5_bitsOfShare_21 (by decide) (by omega) (fun q21 => ?_) (fun q21 => by exfalso; omega)
          exact last (by omega)
  refine V_dload_n C dX5_bitsOfShare_0 rfl rfl ?_
  refine V_dstore_n C dX5_bitsOfShare_1 rfl (Nat.le_of_ble_eq_true rfl) rfl ?_
  refine V_ldc2 (n := 1023) C dX5_bitsOfShare_2 qX5_378 (by decide +kernel) ?_
  refine V_lstore C dX5_bitsOfShare_5 (Nat.le_of_ble_eq_true rfl) rfl ?_
  refine V_iconst C dX5_bitsOfShare_7 ?_
  refine V_istore C dX5_bitsOfShare_8 (Nat.le_of_ble_eq_true rfl) rfl ?_
  exact loop 10 0 x0 1023 (by decide) rfl hb
set_option maxRecDepth 100000 in
set_option maxHeartbeats 4000000 in
theorem c_X5_total (G : GT) (K : Nat → Nat → Int) (r : Nat → Option Nat)  : CtO G yX5_total mX5_total [rf G 0] K r (some (.int (iI (su (K 2) 6)))) (K) (r) := by
  refine Ct_of kX5_total.1.1 (by decide) [some (rf G 0)] rfl (Nat.le_of_ble_eq_true rfl) ?_
  intro x C hZ
  refine V_aload_n C dX5_total_0 rfl rfl ?_
  refine V_getH (L := clL G) C dX5_total_1 fX5_10 (by decide) (fun _ => rfl) rfl ?_
  refine V_V1 (k2 := 0) (s2 := 0) C dX5_total_4 lX5_186 kX2_sum (c_X2_sum G K r 1 rfl) (by decide) (rfl) rfl rfl rfl ⟨Nat.le_of_ble_eq_true rfl, Nat.le_of_ble_eq_true rfl⟩ (Nat.le_of_ble_eq_true rfl) (Nat.le_refl _) (Nat.le_refl _) ?_
  exact V_iret C dX5_total_7 rfl hZ (by first | rfl | omega) rfl
set_option maxRecDepth 100000 in
set_option maxHeartbeats 4000000 in
theorem c_X5_savedStates (G : GT) (K : Nat → Nat → Int) (r : Nat → Option Nat)  : CtO G yX5_savedStates mX5_savedStates [rf G 0] K r (some (.int (iI (K 0 4)))) (K) (r) := by
  refine Ct_of kX5_savedStates.1.1 (by decide) [some (rf G 0)] rfl (Nat.le_of_ble_eq_true rfl) ?_
  intro x C hZ
  refine V_aload_n C dX5_savedStates_0 rfl rfl ?_
  refine V_getH (L := clL G) C dX5_savedStates_1 fX5_173 (by decide) (fun _ => rfl) rfl ?_
  exact V_iret C dX5_savedStates_4 rfl hZ (by first | rfl | omega) rfl
set_option maxRecDepth 100000 in
set_option maxHeartbeats 4000000 in
theorem c_X5_richest (G : GT) (K : Nat → Nat → Int) (r : Nat → Option Nat) (z : Nat → Int) (hq : RQ K 1 z) (hz : GZ z)  : CtO G yX5_richest mX5_richest [rf G 0] K r (some (.int (iI (ri z 5 : Nat)))) (K) (r) := by
  refine Ct_of kX5_richest.1.1 (by decide) [some (rf G 0), none, none] rfl (Nat.le_of_ble_eq_true rfl) ?_
  intro x C hZ
  have loop : ∀ (n k : Nat) (v : Int), k + n = 5 → v = (ri z k : Nat) → V G mX5_richest x 4 [some (rf G 0), some (.int (iI v)), some (.int (iI ((k + 1 : Nat) : Int)))] [] 34 false (HP G K r) 0 0 := by
    intro n
    induction n with
    | zero =>
      intro k v e e2
      refine V_iload_n C dX5_richest_4 rfl rfl ?_
      refine V_bipush C dX5_richest_5 (by decide +kernel) ?_
      refine V_icmp_ge (tgt := 37) C dX5_richest_7 (by decide) (by omega) (by omega) (fun q7 => ?_) (fun q7 => by exfalso; omega)
      refine V_iload_n C dX5_richest_37 rfl rfl ?_
      exact V_iret C dX5_richest_38 rfl hZ (by rw [e2, show k = 5 by omega]) rfl
    | succ n ih =>
      intro k v e e2
      subst e2
      have f1 := ri_le z k
      have f2 := hz.1 (k + 1) (by omega)
      have f3 := hz.1 (ri z k) (by omega)
      have k1 := hq.1 (k + 1) (by omega)
      have k2 := hq.1 (ri z k) (by omega)
      by_cases c : z (ri z k) < z (k + 1)
      · skip
        refine V_iload_n C dX5_richest_4 rfl rfl ?_
        refine V_bipush C dX5_richest_5 (by decide +kernel) ?_
        refine V_icmp_ge (tgt := 37) C dX5_richest_7 (by decide) (by omega) (by omega) (fun q7 => by exfalso; omega) (fun q7 => ?_)
        refine V_aload_n C dX5_richest_10 rfl rfl ?_
        refine V_getH (L := clL G) C dX5_richest_11 fX5_10 (by decide) (fun _ => rfl) rfl ?_
        refine V_iload_n C dX5_richest_14 rfl rfl ?_
        refine V_V1 (k2 := 0) (s2 := 0) C dX5_richest_15 lX5_65 kX2_numberIn (c_X2_numberIn G K r 1 rfl ((k + 1 : Nat) : Int) (by omega)) (by decide) (rfl) rfl rfl rfl ⟨Nat.le_of_ble_eq_true rfl, Nat.le_of_ble_eq_true rfl⟩ (Nat.le_of_ble_eq_true rfl) (Nat.le_refl _) (Nat.le_refl _) ?_
        rw [tnN, k1]
        refine V_aload_n C dX5_richest_18 rfl rfl ?_
        refine V_getH (L := clL G) C dX5_richest_19 fX5_10 (by decide) (fun _ => rfl) rfl ?_
        refine V_iload_n C dX5_richest_22 rfl rfl ?_
        refine V_V1 (k2 := 0) (s2 := 0) C dX5_richest_23 lX5_65 kX2_numberIn (c_X2_numberIn G K r 1 rfl ((ri z k : Nat) : Int) (by omega)) (by decide) (rfl) rfl rfl rfl ⟨Nat.le_of_ble_eq_true rfl, Nat.le_of_ble_eq_true rfl⟩ (Nat.le_of_ble_eq_true rfl) (Nat.le_refl _) (Nat.le_refl _) ?_
        rw [tnN, k2]
        refine V_icmp_le (tgt := 31) C dX5_richest_26 (by decide) (by omega) (by omega) (fun q26 => by exfalso; omega) (fun q26 => ?_)
        refine V_iload_n C dX5_richest_29 rfl rfl ?_
        refine V_istore_n C dX5_richest_30 rfl (Nat.le_of_ble_eq_true rfl) rfl ?_
        refine V_iinc C dX5_richest_31 rfl (Nat.le_of_ble_eq_true rfl) rfl ?_
        refine V_goto (tgt := 4) C dX5_richest_34 (by decide) ?_
        exact ih (k + 1) _ (by omega) (by simp only [ri]; rw [if_pos c])
      · skip
        refine V_iload_n C dX5_richest_4 rfl rfl ?_
        refine V_bipush C dX5_richest_5 (by decide +kernel) ?_
        refine V_icmp_ge (tgt := 37) C dX5_richest_7 (by decide) (by omega) (by omega) (fun q7 => by exfalso; omega) (fun q7 => ?_)
        refine V_aload_n C dX5_richest_10 rfl rfl ?_
        refine V_getH (L := clL G) C dX5_richest_11 fX5_10 (by decide) (fun _ => rfl) rfl ?_
        refine V_iload_n C dX5_richest_14 rfl rfl ?_
        refine V_V1 (k2 := 0) (s2 := 0) C dX5_richest_15 lX5_65 kX2_numberIn (c_X2_numberIn G K r 1 rfl ((k + 1 : Nat) : Int) (by omega)) (by decide) (rfl) rfl rfl rfl ⟨Nat.le_of_ble_eq_true rfl, Nat.le_of_ble_eq_true rfl⟩ (Nat.le_of_ble_eq_true rfl) (Nat.le_refl _) (Nat.le_refl _) ?_
        rw [tnN, k1]
        refine V_aload_n C dX5_richest_18 rfl rfl ?_
        refine V_getH (L := clL G) C dX5_richest_19 fX5_10 (by decide) (fun _ => rfl) rfl ?_
        refine V_iload_n C dX5_richest_22 rfl rfl ?_
        refine V_V1 (k2 := 0) (s2 := 0) C dX5_richest_23 lX5_65 kX2_numberIn (c_X2_numberIn G K r 1 rfl ((ri z k : Nat) : Int) (by omega)) (by decide) (rfl) rfl rfl rfl ⟨Nat.le_of_ble_eq_true rfl, Nat.le_of_ble_eq_true rfl⟩ (Nat.le_of_ble_eq_true rfl) (Nat.le_refl _) (Nat.le_refl _) ?_
        rw [tnN, k2]
        refine V_icmp_le (tgt := 31) C dX5_richest_26 (by decide) (by omega) (by omega) (fun q26 => ?_) (fun q26 => by exfalso; omega)
        refine V_iinc C dX5_richest_31 rfl (Nat.le_of_ble_eq_true rfl) rfl ?_
        refine V_goto (tgt := 4) C dX5_richest_34 (by decide) ?_
        exact ih (k + 1) _ (by omega) (by simp only [ri]; rw [if_neg c])
  refine V_iconst C dX5_richest_0 ?_
  refine V_istore_n C dX5_richest_1 rfl (Nat.le_of_ble_eq_true rfl) rfl ?_
  refine V_iconst C dX5_richest_2 ?_
  refine V_istore_n C dX5_richest_3 rfl (Nat.le_of_ble_eq_true rfl) rfl ?_
  exact loop 5 0 _ (by omega) rfl
set_option maxRecDepth 100000 in
set_option maxHeartbeats 4000000 in
theorem c_X5_mixNumber (G : GT) (K : Nat → Nat → Int) (r : Nat → Option Nat) (h0 z : Int) (hz : 0 ≤ z ∧ z ≤ 6764) : CtO G yX5_mixNumber mX5_mixNumber [rf G 0, .long (lL h0), .int (iI z)] K r (some (.long (lL (nuH h0 z)))) ((tbW 18 12 15 (putW 12 z 1 (us K 12 (us (K 12) 2 0))))) (r) := by
  refine Ct_of kX5_mixNumber.1.1 (by decide) [some (rf G 0), some (.long (lL h0)), none, some (.int (iI z)), none, none, none, none, none, none] rfl (Nat.le_of_ble_eq_true rfl) ?_
  intro x C hZ
  have m1 := gm_18 z.toNat
  have f5 := cn_le 22 (gm 18 z.toNat)
  have f6 := fm_18 z.toNat
  have f7 := cw_r (n := z.toNat) (by omega)
  have hw := c_X5_waysInTable G K r z.toNat (by omega)
  rw [toN hz.1] at hw
  obtain ⟨HB, hHB⟩ : ∃ HB, HB = 31 * (31 * (31 * (31 * (31 * (31 * h0 + z) + (gm 18 z.toNat : Nat)) + (fm 18 z.toNat : Nat)) + cw (gm 18 z.toNat)) + cw (gm 18 z.toNat)) + (cn 22 (gm 18 z.toNat) : Nat) := ⟨_, rfl⟩
  have hN : nuH h0 z = trH (gm 18 z.toNat) 3 HB := by rw [hHB]; rfl
  have trib : ∀ (f tr : Nat) (h : Int) (o9 : Option Value), tr + f = 3 → h = trH (gm 18 z.toNat) tr HB → V G mX5_mixNumber x 82 [some (rf G 0), some (.long (lL h0)), none, some (.int (iI z)), some (.int (iI ((gm 18 z.toNat) : Nat))), some (.int (iI (cn 22 (gm 18 z.toNat) : Nat))), some (.long (lL h)), none, some (.int (iI (tr : Int))), o9] [] 34 false (HP G (tbW 18 12 15 (putW 12 z 1 (us K 12 (us (K 12) 2 0)))) r) 0 0 := by
    intro f
    induction f with
    | zero =>
      intro tr h o9 e3 e4
      refine V_iload C dX5_mixNumber_82 rfl ?_
      refine V_iconst C dX5_mixNumber_84 ?_
      refine V_icmp_ge (tgt := 137) C dX5_mixNumber_85 (by decide) (by omega) (by omega) (fun q85 => ?_) (fun q85 => by exfalso; omega)
      refine V_lload C dX5_mixNumber_137 rfl ?_
      exact V_lret C dX5_mixNumber_139 rfl hZ (by rw [e4, show tr = 3 by omega, ← hN]) rfl
    | succ f ih2 =>
      intro tr h o9 e3 e4
      have word : ∀ (f p : Nat) (h : Int), p + f = cn 22 (gm 18 z.toNat) → h = mxF (fun p => wd (gm 18 z.toNat) tr p) p (31 * trH (gm 18 z.toNat) tr HB + (cn 22 (gm 18 z.toNat) : Nat)) → V G mX5_mixNumber x 101 [some (rf G 0), some (.long (lL h0)), none, some (.int (iI z)), some (.int (iI ((gm 18 z.toNat) : Nat))), some (.int (iI (cn 22 (gm 18 z.toNat) : Nat))), some (.long (lL h)), none, some (.int (iI (tr : Int))), some (.int (iI (p : Int)))] [] 34 false (HP G (tbW 18 12 15 (putW 12 z 1 (us K 12 (us (K 12) 2 0)))) r) 0 0 := by
        intro f
        induction f with
        | zero =>
          intro p h e5 e6
          refine V_iload C dX5_mixNumber_101 rfl ?_
          refine V_iload C dX5_mixNumber_103 rfl ?_
          refine V_icmp_ge (tgt := 131) C dX5_mixNumber_105 (by decide) (by omega) (by omega) (fun q105 => ?_) (fun q105 => by exfalso; omega)
          refine V_iinc C dX5_mixNumber_131 rfl (Nat.le_of_ble_eq_true rfl) rfl ?_
          refine V_goto (tgt := 82) C dX5_mixNumber_134 (by decide) ?_
          exact ih2 (tr + 1) _ _ (by omega) (by rw [e6, show p = cn 22 (gm 18 z.toNat) by omega]; rfl)
        | succ f ih3 =>
          intro p h e5 e6
          have f8 := wd_r (gm 18 z.toNat) tr p
          refine V_iload C dX5_mixNumber_101 rfl ?_
          refine V_iload C dX5_mixNumber_103 rfl ?_
          refine V_icmp_ge (tgt := 131) C dX5_mixNumber_105 (by decide) (by omega) (by omega) (fun q105 => by exfalso; omega) (fun q105 => ?_)
          refine V_lload C dX5_mixNumber_108 rfl ?_
          refine V_iload C dX5_mixNumber_110 rfl ?_
          refine V_iload C dX5_mixNumber_112 rfl ?_
          refine V_iload C dX5_mixNumber_114 rfl ?_
          refine V_S1 (k2 := 0) (s2 := 0) C dX5_mixNumber_116 lX5_227 kX5_wordAt (c_X5_wordAt (tr : Int) _ (p : Int) m1 (bc_gm (by omega)) (by omega) (by omega) G 34 false _) rfl rfl ⟨Nat.le_of_ble_eq_true rfl, Nat.le_of_ble_eq_true rfl⟩ (Nat.le_of_ble_eq_true rfl) (Nat.le_refl _) (Nat.le_refl _) ?_
          refine V_i2l C dX5_mixNumber_119 (by omega) ?_
          refine V_S1 (k2 := 0) (s2 := 0) C dX5_mixNumber_120 lX5_263 kX5_mix (c_X5_mix _ _ G 34 false _) rfl rfl ⟨Nat.le_of_ble_eq_true rfl, Nat.le_of_ble_eq_true rfl⟩ (Nat.le_of_ble_eq_true rfl) (Nat.le_refl _) (Nat.le_refl _) ?_
          refine V_lstore C dX5_mixNumber_123 (Nat.le_of_ble_eq_true rfl) rfl ?_
          refine V_iinc C dX5_mixNumber_125 rfl (Nat.le_of_ble_eq_true rfl) rfl ?_
          refine V_goto (tgt := 101) C dX5_mixNumber_128 (by decide) ?_
          exact ih3 (p + 1) _ (by omega) (by rw [e6]; rfl)
      refine V_iload C dX5_mixNumber_82 rfl ?_
      refine V_iconst C dX5_mixNumber_84 ?_
      refine V_icmp_ge (tgt := 137) C dX5_mixNumber_85 (by decide) (by omega) (by omega) (fun q85 => by exfalso; omega) (fun q85 => ?_)
      refine V_lload C dX5_mixNumber_88 rfl ?_
      refine V_iload C dX5_mixNumber_90 rfl ?_
      refine V_i2l C dX5_mixNumber_92 (by omega) ?_
      refine V_S1 (k2 := 0) (s2 := 0) C dX5_mixNumber_93 lX5_263 kX5_mix (c_X5_mix _ _ G 34 false _) rfl rfl ⟨Nat.le_of_ble_eq_true rfl, Nat.le_of_ble_eq_true rfl⟩ (Nat.le_of_ble_eq_true rfl) (Nat.le_refl _) (Nat.le_refl _) ?_
      refine V_lstore C dX5_mixNumber_96 (Nat.le_of_ble_eq_true rfl) rfl ?_
      refine V_iconst C dX5_mixNumber_98 ?_
      refine V_istore C dX5_mixNumber_99 (Nat.le_of_ble_eq_true rfl) rfl ?_
      exact word _ 0 _ (Nat.zero_add _) (by rw [e4]; rfl)
  refine V_iload_n C dX5_mixNumber_0 rfl rfl ?_
  refine V_S1 (k2 := 0) (s2 := 0) C dX5_mixNumber_1 lX5_89 kX5_greedyMark (i_X5_greedyMark G 34 false _ z hz) rfl rfl ⟨Nat.le_of_ble_eq_true rfl, Nat.le_of_ble_eq_true rfl⟩ (Nat.le_of_ble_eq_true rfl) (Nat.le_refl _) (Nat.le_refl _) ?_
  refine V_istore C dX5_mixNumber_4 (Nat.le_of_ble_eq_true rfl) rfl ?_
  refine V_iload C dX5_mixNumber_6 rfl ?_
  refine V_S1 (k2 := 0) (s2 := 0) C dX5_mixNumber_8 lX5_220 kJ6_bitCount_0f7a4 (c_J6_bitCount_0f7a4 _ (by omega) G 34 false _) rfl rfl ⟨Nat.le_of_ble_eq_true rfl, Nat.le_of_ble_eq_true rfl⟩ (Nat.le_of_ble_eq_true rfl) (Nat.le_refl _) (Nat.le_refl _) ?_
  rw [bc_22 (by omega)]
  refine V_istore C dX5_mixNumber_11 (Nat.le_of_ble_eq_true rfl) rfl ?_
  refine V_lload_n C dX5_mixNumber_13 rfl rfl ?_
  refine V_iload_n C dX5_mixNumber_14 rfl rfl ?_
  refine V_i2l C dX5_mixNumber_15 (by omega) ?_
  refine V_S1 (k2 := 0) (s2 := 0) C dX5_mixNumber_16 lX5_263 kX5_mix (c_X5_mix _ _ G 34 false _) rfl rfl ⟨Nat.le_of_ble_eq_true rfl, Nat.le_of_ble_eq_true rfl⟩ (Nat.le_of_ble_eq_true rfl) (Nat.le_refl _) (Nat.le_refl _) ?_
  refine V_lstore C dX5_mixNumber_19 (Nat.le_of_ble_eq_true rfl) rfl ?_
  refine V_lload C dX5_mixNumber_21 rfl ?_
  refine V_iload C dX5_mixNumber_23 rfl ?_
  refine V_i2l C dX5_mixNumber_25 (by omega) ?_
  refine V_S1 (k2 := 0) (s2 := 0) C dX5_mixNumber_26 lX5_263 kX5_mix (c_X5_mix _ _ G 34 false _) rfl rfl ⟨Nat.le_of_ble_eq_true rfl, Nat.le_of_ble_eq_true rfl⟩ (Nat.le_of_ble_eq_true rfl) (Nat.le_refl _) (Nat.le_refl _) ?_
  refine V_lstore C dX5_mixNumber_29 (Nat.le_of_ble_eq_true rfl) rfl ?_
  refine V_lload C dX5_mixNumber_31 rfl ?_
  refine V_iload_n C dX5_mixNumber_33 rfl rfl ?_
  refine V_S1 (k2 := 0) (s2 := 0) C dX5_mixNumber_34 lX5_208 kX5_fullMark (i_X5_fullMark G 34 false _ z hz) rfl rfl ⟨Nat.le_of_ble_eq_true rfl, Nat.le_of_ble_eq_true rfl⟩ (Nat.le_of_ble_eq_true rfl) (Nat.le_refl _) (Nat.le_refl _) ?_
  refine V_i2l C dX5_mixNumber_37 (by omega) ?_
  refine V_S1 (k2 := 0) (s2 := 0) C dX5_mixNumber_38 lX5_263 kX5_mix (c_X5_mix _ _ G 34 false _) rfl rfl ⟨Nat.le_of_ble_eq_true rfl, Nat.le_of_ble_eq_true rfl⟩ (Nat.le_of_ble_eq_true rfl) (Nat.le_refl _) (Nat.le_refl _) ?_
  refine V_lstore C dX5_mixNumber_41 (Nat.le_of_ble_eq_true rfl) rfl ?_
  refine V_lload C dX5_mixNumber_43 rfl ?_
  refine V_aload_n C dX5_mixNumber_45 rfl rfl ?_
  refine V_iload_n C dX5_mixNumber_46 rfl rfl ?_
  refine V_V1 (k2 := 0) (s2 := 0) C dX5_mixNumber_47 lX5_211 kX5_waysInTable (hw) (by decide) (rfl) rfl rfl rfl ⟨Nat.le_of_ble_eq_true rfl, Nat.le_of_ble_eq_true rfl⟩ (Nat.le_of_ble_eq_true rfl) (Nat.le_refl _) (Nat.le_refl _) ?_
  refine V_i2l C dX5_mixNumber_50 (by omega) ?_
  refine V_S1 (k2 := 0) (s2 := 0) C dX5_mixNumber_51 lX5_263 kX5_mix (c_X5_mix _ _ G 34 false _) rfl rfl ⟨Nat.le_of_ble_eq_true rfl, Nat.le_of_ble_eq_true rfl⟩ (Nat.le_of_ble_eq_true rfl) (Nat.le_refl _) (Nat.le_refl _) ?_
  refine V_lstore C dX5_mixNumber_54 (Nat.le_of_ble_eq_true rfl) rfl ?_
  refine V_lload C dX5_mixNumber_56 rfl ?_
  refine V_iload C dX5_mixNumber_58 rfl ?_
  refine V_S1 (k2 := 0) (s2 := 0) C dX5_mixNumber_60 lX5_214 kX5_waysOfMark (i_X5_waysOfMark z.toNat (by omega) G 34 false _) rfl rfl ⟨Nat.le_of_ble_eq_true rfl, Nat.le_of_ble_eq_true rfl⟩ (Nat.le_of_ble_eq_true rfl) (Nat.le_refl _) (Nat.le_refl _) ?_
  refine V_i2l C dX5_mixNumber_63 (by omega) ?_
  refine V_S1 (k2 := 0) (s2 := 0) C dX5_mixNumber_64 lX5_263 kX5_mix (c_X5_mix _ _ G 34 false _) rfl rfl ⟨Nat.le_of_ble_eq_true rfl, Nat.le_of_ble_eq_true rfl⟩ (Nat.le_of_ble_eq_true rfl) (Nat.le_refl _) (Nat.le_refl _) ?_
  refine V_lstore C dX5_mixNumber_67 (Nat.le_of_ble_eq_true rfl) rfl ?_
  refine V_lload C dX5_mixNumber_69 rfl ?_
  refine V_iload C dX5_mixNumber_71 rfl ?_
  refine V_i2l C dX5_mixNumber_73 (by omega) ?_
  refine V_S1 (k2 := 0) (s2 := 0) C dX5_mixNumber_74 lX5_263 kX5_mix (c_X5_mix _ _ G 34 false _) rfl rfl ⟨Nat.le_of_ble_eq_true rfl, Nat.le_of_ble_eq_true rfl⟩ (Nat.le_of_ble_eq_true rfl) (Nat.le_refl _) (Nat.le_refl _) ?_
  refine V_lstore C dX5_mixNumber_77 (Nat.le_of_ble_eq_true rfl) rfl ?_
  refine V_iconst C dX5_mixNumber_79 ?_
  refine V_istore C dX5_mixNumber_80 (Nat.le_of_ble_eq_true rfl) rfl ?_
  exact trib 3 0 _ _ (by omega) (by rw [hHB]; rfl)
