set_option maxRecDepth 100000 in
set_option maxHeartbeats 4000000 in
theorem c_X5_canRaise (m : Nat) (hm : m < 262144) (G : GT) (N : Nat) (gf : Bool) (h : Hp) : Ct G yX5_canRaise mX5_canRaise [.int (iI (m : Int))] N gf h 0 0 (some (.int (iI (b2 (decide (m < 131072)))))) N gf h := by
  refine Ct_of kX5_canRaise.1 (by decide) [some (.int (iI (m : Int)))] rfl (Nat.le_of_ble_eq_true rfl) ?_
  intro x C hZ
  have f1 : m >>> 17 &&& 1 = m / 131072 := by rw [Nat.and_one_is_mod, Nat.shiftRight_eq_div_pow]; omega
  refine V_iload_n C dX5_canRaise_0 rfl rfl ?_
  refine V_bipush C dX5_canRaise_1 (by decide +kernel) ?_
  refine V_S1 (k2 := 0) (s2 := 0) C dX5_canRaise_3 lX5_318 kX5_hasStep (c_X5_hasStep m 17 (by omega) (by decide) G N gf h) rfl rfl ⟨Nat.le_of_ble_eq_true rfl, Nat.le_of_ble_eq_true rfl⟩ (Nat.le_of_ble_eq_true rfl) (Nat.le_refl _) (Nat.le_refl _) ?_
  refine V_if_ne (tgt := 13) C dX5_canRaise_6 (by decide) (by omega) (fun q6 => ?_) (fun q6 => ?_)
  · refine V_iconst C dX5_canRaise_13 ?_
    exact V_zret C dX5_canRaise_14 rfl hZ (b2_01 _) (by first | exact b2_t _ (by omega) | exact b2_f _ (by omega)) rfl
  · refine V_iconst C dX5_canRaise_9 ?_
    refine V_goto (tgt := 14) C dX5_canRaise_10 (by decide) ?_
    exact V_zret C dX5_canRaise_14 rfl hZ (b2_01 _) (by first | exact b2_t _ (by omega) | exact b2_f _ (by omega)) rfl
set_option maxRecDepth 100000 in
set_option maxHeartbeats 4000000 in
theorem c_X5_raisedWorth (m : Nat) (hm : m < 131072) (G : GT) (N : Nat) (gf : Bool) (h : Hp) : Ct G yX5_raisedWorth mX5_raisedWorth [.int (iI (m : Int))] N gf h 0 0 (some (.int (iI (wo 18 (m <<< 1) : Nat)))) N gf h := by
  refine Ct_of kX5_raisedWorth.1 (by decide) [some (.int (iI (m : Int)))] rfl (Nat.le_of_ble_eq_true rfl) ?_
  intro x C hZ
  have f1 : m <<< 1 = m * 2 := by rw [Nat.shiftLeft_eq]
  refine V_iload_n C dX5_raisedWorth_0 rfl rfl ?_
  refine V_iconst C dX5_raisedWorth_1 ?_
  refine V_ishl C dX5_raisedWorth_2 m 1 (by first | rfl | omega) (by first | rfl | omega) (by omega) (by omega) ?_
  refine V_S1 (k2 := 0) (s2 := 0) C dX5_raisedWorth_3 lX5_202 kX5_worthOfMark (c_X5_worthOfMark (m <<< 1) (by omega) G N gf h) rfl rfl ⟨Nat.le_of_ble_eq_true rfl, Nat.le_of_ble_eq_true rfl⟩ (Nat.le_of_ble_eq_true rfl) (Nat.le_refl _) (Nat.le_refl _) ?_
  exact V_iret C dX5_raisedWorth_6 rfl hZ (by first | rfl | omega) rfl
set_option maxRecDepth 100000 in
set_option maxHeartbeats 4000000 in
theorem c_X5_lengthOfCode (m : Nat) (hm : m < 2147483648) (G : GT) (N : Nat) (gf : Bool) (h : Hp) : Ct G yX5_lengthOfCode mX5_lengthOfCode [.int (iI (m : Int))] N gf h 0 0 (some (.int (iI (hl 18 m + 1 : Nat)))) N gf h := by
  refine Ct_of kX5_lengthOfCode.1 (by decide) [some (.int (iI (m : Int))), none, none] rfl (Nat.le_of_ble_eq_true rfl) ?_
  intro x C hZ
  have loop : ∀ (n k : Nat) (v : Int), k + n = 18 → v = (hl k m : Nat) → V G mX5_lengthOfCode x 4 [some (.int (iI (m : Int))), some (.int (iI v)), some (.int (iI (k : Int)))] [] N gf h 0 0 := by
    intro n
    induction n with
    | zero =>
      intro k v e e2
      refine V_iload_n C dX5_lengthOfCode_4 rfl rfl ?_
      refine V_bipush C dX5_lengthOfCode_5 (by decide +kernel) ?_
      refine V_icmp_ge (tgt := 28) C dX5_lengthOfCode_7 (by decide) (by omega) (by omega) (fun q7 => ?_) (fun q7 => by exfalso; omega)
      refine V_iload_n C dX5_lengthOfCode_28 rfl rfl ?_
      refine V_iconst C dX5_lengthOfCode_29 ?_
      refine V_iadd C dX5_lengthOfCode_30 ?_
      exact V_iret C dX5_lengthOfCode_31 rfl hZ (by rw [e2, show k = 18 by omega]; rfl) rfl
    | succ n ih =>
      intro k v e e2
      have f1 := wN_22 (k := k) (by omega)
      have f2 := b1_le m k
      have f3 := wo_le k m
      have f4 := wS_22 (k := k) (by omega)
      have f5 := cn_le k m
      refine V_iload_n C dX5_lengthOfCode_4 rfl rfl ?_
      refine V_bipush C dX5_lengthOfCode_5 (by decide +kernel) ?_
      refine V_icmp_ge (tgt := 28) C dX5_lengthOfCode_7 (by decide) (by omega) (by omega) (fun q7 => by exfalso; omega) (fun q7 => ?_)
      refine V_iload_n C dX5_lengthOfCode_10 rfl rfl ?_
      refine V_iload_n C dX5_lengthOfCode_11 rfl rfl ?_
      refine V_S1 (k2 := 0) (s2 := 0) C dX5_lengthOfCode_12 lX5_318 kX5_hasStep (c_X5_hasStep m k hm (by omega) G N gf h) rfl rfl ⟨Nat.le_of_ble_eq_true rfl, Nat.le_of_ble_eq_true rfl⟩ (Nat.le_of_ble_eq_true rfl) (Nat.le_refl _) (Nat.le_refl _) ?_
      refine V_if_eq (tgt := 22) C dX5_lengthOfCode_15 (by decide) (by omega) (fun q15 => ?_) (fun q15 => ?_)
      · refine V_iinc C dX5_lengthOfCode_22 rfl (Nat.le_of_ble_eq_true rfl) rfl ?_
        refine V_goto (tgt := 4) C dX5_lengthOfCode_25 (by decide) ?_
        exact ih (k + 1) _ (by omega) (by first | (rw [hl_1 (by omega)]; rfl) | (rw [hl_0 (by omega)]; exact e2))
      · refine V_iload_n C dX5_lengthOfCode_18 rfl rfl ?_
        refine V_iconst C dX5_lengthOfCode_19 ?_
        refine V_iadd C dX5_lengthOfCode_20 ?_
        refine V_istore_n C dX5_lengthOfCode_21 rfl (Nat.le_of_ble_eq_true rfl) rfl ?_
        refine V_iinc C dX5_lengthOfCode_22 rfl (Nat.le_of_ble_eq_true rfl) rfl ?_
        refine V_goto (tgt := 4) C dX5_lengthOfCode_25 (by decide) ?_
        exact ih (k + 1) _ (by omega) (by first | (rw [hl_1 (by omega)]; rfl) | (rw [hl_0 (by omega)]; exact e2))
  refine V_iconst C dX5_lengthOfCode_0 ?_
  refine V_istore_n C dX5_lengthOfCode_1 rfl (Nat.le_of_ble_eq_true rfl) rfl ?_
  refine V_iconst C dX5_lengthOfCode_2 ?_
  refine V_istore_n C dX5_lengthOfCode_3 rfl (Nat.le_of_ble_eq_true rfl) rfl ?_
  exact loop 18 0 _ (by omega) rfl
set_option maxRecDepth 100000 in
set_option maxHeartbeats 4000000 in
theorem c_X5_stepFromLowest (m : Nat) (hm : m < 262144) (p : Int) (hp : -100 ≤ p ∧ p ≤ 100) (G : GT) (N : Nat) (gf : Bool) (h : Hp) : Ct G yX5_stepFromLowest mX5_stepFromLowest [.int (iI (m : Int)), .int (iI p)] N gf h 0 0 (some (.int (iI (ft 22 m p)))) N gf h := by
  refine Ct_of kX5_stepFromLowest.1 (by decide) [some (.int (iI (m : Int))), some (.int (iI p)), none, none] rfl (Nat.le_of_ble_eq_true rfl) ?_
  intro x C hZ
  have loop : ∀ (n k : Nat) (v : Int), k + n = 18 → v = (cn k m : Nat) → ft k m p = -1 → V G mX5_stepFromLowest x 4 [some (.int (iI (m : Int))), some (.int (iI p)), some (.int (iI v)), some (.int (iI (k : Int)))] [] N gf h 0 0 := by
    intro n
    induction n with
    | zero =>
      intro k v e e2 e3
      refine V_iload_n C dX5_stepFromLowest_4 rfl rfl ?_
      refine V_bipush C dX5_stepFromLowest_5 (by decide +kernel) ?_
      refine V_icmp_ge (tgt := 34) C dX5_stepFromLowest_7 (by decide) (by omega) (by omega) (fun q7 => ?_) (fun q7 => by exfalso; omega)
      refine V_iconst C dX5_stepFromLowest_34 ?_
      exact V_iret C dX5_stepFromLowest_35 rfl hZ (by rw [ft_18 hm, show 18 = k by omega, e3]) rfl
    | succ n ih =>
      intro k v e e2 e3
      have f1 := wN_22 (k := k) (by omega)
      have f2 := b1_le m k
      have f3 := wo_le k m
      have f4 := wS_22 (k := k) (by omega)
      have f5 := cn_le k m
      refine V_iload_n C dX5_stepFromLowest_4 rfl rfl ?_
      refine V_bipush C dX5_stepFromLowest_5 (by decide +kernel) ?_
      refine V_icmp_ge (tgt := 34) C dX5_stepFromLowest_7 (by decide) (by omega) (by omega) (fun q7 => by exfalso; omega) (fun q7 => ?_)
      refine V_iload_n C dX5_stepFromLowest_10 rfl rfl ?_
      refine V_iload_n C dX5_stepFromLowest_11 rfl rfl ?_
      refine V_S1 (k2 := 0) (s2 := 0) C dX5_stepFromLowest_12 lX5_318 kX5_hasStep (c_X5_hasStep m k (by omega) (by omega) G N gf h) rfl rfl ⟨Nat.le_of_ble_eq_true rfl, Nat.le_of_ble_eq_true rfl⟩ (Nat.le_of_ble_eq_true rfl) (Nat.le_refl _) (Nat.le_refl _) ?_
      refine V_if_eq (tgt := 28) C dX5_stepFromLowest_15 (by decide) (by omega) (fun q15 => ?_) (fun q15 => ?_)
      · refine V_iinc C dX5_stepFromLowest_28 rfl (Nat.le_of_ble_eq_true rfl) rfl ?_
        refine V_goto (tgt := 4) C dX5_stepFromLowest_31 (by decide) ?_
        exact ih (k + 1) _ (by omega) (by first | (rw [cn_1 (by omega)]; omega) | (rw [cn_0 (by omega)]; omega)) (by rw [ft_0 (by omega)]; exact e3)
      · refine V_iload_n C dX5_stepFromLowest_18 rfl rfl ?_
        refine V_iload_n C dX5_stepFromLowest_19 rfl rfl ?_
        refine V_icmp_ne (tgt := 25) C dX5_stepFromLowest_20 (by decide) (by omega) (by omega) (fun q20 => ?_) (fun q20 => ?_)
        · refine V_iinc C dX5_stepFromLowest_25 rfl (Nat.le_of_ble_eq_true rfl) rfl ?_
          refine V_iinc C dX5_stepFromLowest_28 rfl (Nat.le_of_ble_eq_true rfl) rfl ?_
          refine V_goto (tgt := 4) C dX5_stepFromLowest_31 (by decide) ?_
          exact ih (k + 1) _ (by omega) (by first | (rw [cn_1 (by omega)]; omega) | (rw [cn_0 (by omega)]; omega)) (by rw [ft_0 (by omega)]; exact e3)
        · refine V_iload_n C dX5_stepFromLowest_23 rfl rfl ?_
          exact V_iret C dX5_stepFromLowest_24 rfl hZ (by rw [ft_stay (j := k) (by omega) (by omega) 22 (by omega)]) rfl
  refine V_iconst C dX5_stepFromLowest_0 ?_
  refine V_istore_n C dX5_stepFromLowest_1 rfl (Nat.le_of_ble_eq_true rfl) rfl ?_
  refine V_iconst C dX5_stepFromLowest_2 ?_
  refine V_istore_n C dX5_stepFromLowest_3 rfl (Nat.le_of_ble_eq_true rfl) rfl ?_
  exact loop 18 0 _ (by omega) rfl rfl
set_option maxRecDepth 100000 in
set_option maxHeartbeats 4000000 in
theorem c_X5_wordAt (tr : Int) (m : Nat) (p : Int) (hm : m < 262144) (hb : bcN m = cn 18 m) (ht : 0 ≤ tr ∧ tr ≤ 2) (hp : 0 ≤ p ∧ p ≤ 50) (G : GT) (N : Nat) (gf : Bool) (h : Hp) : Ct G yX5_wordAt mX5_wordAt [.int (iI tr), .int (iI (m : Int)), .int (iI p)] N gf h 0 0 (some (.int (iI (wd m tr p)))) N gf h := by
  refine Ct_of kX5_wordAt.1 (by decide) [some (.int (iI tr)), some (.int (iI (m : Int))), some (.int (iI p)), none] rfl (Nat.le_of_ble_eq_true rfl) ?_
  intro x C hZ
  have f1 := cn_le 22 m
  have f2 := cn_18 hm
  refine V_iload_n C dX5_wordAt_0 rfl rfl ?_
  refine V_if_ne (tgt := 17) C dX5_wordAt_1 (by decide) (by omega) (fun q1 => ?_) (fun q1 => ?_)
  · refine V_iload_n C dX5_wordAt_17 rfl rfl ?_
    refine V_iload_n C dX5_wordAt_18 rfl rfl ?_
    refine V_S1 (k2 := 0) (s2 := 0) C dX5_wordAt_19 lX5_338 kX5_stepFromLowest (c_X5_stepFromLowest m hm _ (by omega) G N gf h) rfl rfl ⟨Nat.le_of_ble_eq_true rfl, Nat.le_of_ble_eq_true rfl⟩ (Nat.le_of_ble_eq_true rfl) (Nat.le_refl _) (Nat.le_refl _) ?_
    refine V_istore_n C dX5_wordAt_22 rfl (Nat.le_of_ble_eq_true rfl) rfl ?_
    refine V_iload_n C dX5_wordAt_23 rfl rfl ?_
    refine V_iconst C dX5_wordAt_24 ?_
    refine V_icmp_eq (tgt := 32) C dX5_wordAt_25 (by decide) (by omega) (by omega) (fun q25 => ?_) (fun q25 => ?_)
    · refine V_iload_n C dX5_wordAt_32 rfl rfl ?_
      exact V_iret C dX5_wordAt_33 rfl hZ (by unfold wd; first | (exfalso; omega) | (rw [if_pos (by omega), if_pos (by omega), f2, hb]) | (rw [if_pos (by omega), if_neg (by omega)]) | (rw [if_neg (by omega), if_neg (by omega)])) rfl
    · refine V_iload_n C dX5_wordAt_28 rfl rfl ?_
      refine V_if_ne (tgt := 34) C dX5_wordAt_29 (by decide) (by omega) (fun q29 => ?_) (fun q29 => ?_)
      · refine V_iload_n C dX5_wordAt_34 rfl rfl ?_
        refine V_iload_n C dX5_wordAt_35 rfl rfl ?_
        refine V_iload_n C dX5_wordAt_36 rfl rfl ?_
        refine V_iconst C dX5_wordAt_37 ?_
        refine V_isub C dX5_wordAt_38 ?_
        refine V_S1 (k2 := 0) (s2 := 0) C dX5_wordAt_39 lX5_338 kX5_stepFromLowest (c_X5_stepFromLowest m hm _ (by omega) G N gf h) rfl rfl ⟨Nat.le_of_ble_eq_true rfl, Nat.le_of_ble_eq_true rfl⟩ (Nat.le_of_ble_eq_true rfl) (Nat.le_refl _) (Nat.le_refl _) ?_
        refine V_isub C dX5_wordAt_42 ?_
        exact V_iret C dX5_wordAt_43 rfl hZ (by unfold wd; first | (exfalso; omega) | (rw [if_pos (by omega), if_pos (by omega), f2, hb]) | (rw [if_pos (by omega), if_neg (by omega)]) | (rw [if_neg (by omega), if_neg (by omega)])) rfl
      · refine V_iload_n C dX5_wordAt_32 rfl rfl ?_
        exact V_iret C dX5_wordAt_33 rfl hZ (by unfold wd; first | (exfalso; omega) | (rw [if_pos (by omega), if_pos (by omega), f2, hb]) | (rw [if_pos (by omega), if_neg (by omega)]) | (rw [if_neg (by omega), if_neg (by omega)])) rfl
  · refine V_iload_n C dX5_wordAt_4 rfl rfl ?_
    refine V_iload_n C dX5_wordAt_5 rfl rfl ?_
    refine V_S1 (k2 := 0) (s2 := 0) C dX5_wordAt_6 lX5_220 kJ6_bitCount_0f7a4 (c_J6_bitCount_0f7a4 m (by omega) G N gf h) rfl rfl ⟨Nat.le_of_ble_eq_true rfl, Nat.le_of_ble_eq_true rfl⟩ (Nat.le_of_ble_eq_true rfl) (Nat.le_refl _) (Nat.le_refl _) ?_
    refine V_iconst C dX5_wordAt_9 ?_
    refine V_isub C dX5_wordAt_10 ?_
    refine V_iload_n C dX5_wordAt_11 rfl rfl ?_
    refine V_isub C dX5_wordAt_12 ?_
    refine V_S1 (k2 := 0) (s2 := 0) C dX5_wordAt_13 lX5_338 kX5_stepFromLowest (c_X5_stepFromLowest m hm _ (by omega) G N gf h) rfl rfl ⟨Nat.le_of_ble_eq_true rfl, Nat.le_of_ble_eq_true rfl⟩ (Nat.le_of_ble_eq_true rfl) (Nat.le_refl _) (Nat.le_refl _) ?_
    exact V_iret C dX5_wordAt_16 rfl hZ (by unfold wd; first | (exfalso; omega) | (rw [if_pos (by omega), if_pos (by omega), f2, hb]) | (rw [if_pos (by omega), if_neg (by omega)]) | (rw [if_neg (by omega), if_neg (by omega)])) rfl
set_option maxRecDepth 100000 in
set_option maxHeartbeats 4000000 in
theorem c_X5_digitOf (D s : Nat) (hD : D < 18446744073709551616) (hs : s < 64) (G : GT) (N : Nat) (gf : Bool) (h : Hp) : Ct G yX5_digitOf mX5_digitOf [.long (lL (D : Int)), .int (iI (s : Int))] N gf h 0 0 (some (.int (iI ((D >>> s &&& 1 : Nat) : Int)))) N gf h := by
  refine Ct_of kX5_digitOf.1 (by decide) [some (.long (lL (D : Int))), none, some (.int (iI (s : Int)))] rfl (Nat.le_of_ble_eq_true rfl) ?_
  intro x C hZ
  refine V_lload_n C dX5_digitOf_0 rfl rfl ?_
  refine V_iload_n C dX5_digitOf_1 rfl rfl ?_
  refine V_lushr C dX5_digitOf_2 D s (by first | rfl | omega) (by first | rfl | omega) (by omega) (by omega) ?_
  refine V_lconst (z := 1) C dX5_digitOf_3 (by decide +kernel) ?_
  refine V_land C dX5_digitOf_4 (D >>> s) 1 (by first | rfl | omega) (by first | rfl | omega) ?_
  refine V_l2i C dX5_digitOf_5 (D >>> s &&& 1) (by first | rfl | omega) ?_
  exact V_iret C dX5_digitOf_6 rfl hZ (by first | rfl | omega) rfl
set_option maxRecDepth 100000 in
set_option maxHeartbeats 4000000 in
theorem c_X5_countedMark (n : Nat) (hn : n ≤ 6764) (G : GT) (N : Nat) (gf : Bool) (h : Hp) : Ct G yX5_countedMark mX5_countedMark [.int (iI (n : Int))] N gf h 0 0 (some (.int (iI (gm 18 n : Nat)))) N gf h := by
  refine Ct_of kX5_countedMark.1 (by decide) [some (.int (iI (n : Int))), none, none, none, none] rfl (Nat.le_of_ble_eq_true rfl) ?_
  intro x C hZ
  have loop : ∀ (j k : Nat) (o1 o2 : Option Value), k + j = n → V G mX5_countedMark x 4 [some (.int (iI (n : Int))), some (.int (iI (gm 18 k : Nat))), some (.int (iI (k : Int))), o1, o2] [] N gf h 0 0 := by
    intro j
    induction j with
    | zero =>
      intro k o1 o2 e
      refine V_iload_n C dX5_countedMark_4 rfl rfl ?_
      refine V_iload_n C dX5_countedMark_5 rfl rfl ?_
      refine V_icmp_ge (tgt := 54) C dX5_countedMark_6 (by decide) (by omega) (by omega) (fun q6 => ?_) (fun q6 => by exfalso; omega)
      refine V_iload_n C dX5_countedMark_54 rfl rfl ?_
      exact V_iret C dX5_countedMark_55 rfl hZ (by rw [show k = n by omega]) rfl
    | succ j ih =>
      intro k o1 o2 e
      have f1 := gm_18 k
      have f2 := cs_gm (n := k) (by omega)
      have inner : ∀ (f m : Nat) (c : Int), c = 18 - (f : Int) → f ≤ 18 → csO f m = some (gm 18 (k + 1)) → V G mX5_countedMark x 21 [some (.int (iI (n : Int))), some (.int (iI (m : Int))), some (.int (iI (k : Int))), some (.int (iI ((m &&& m >>> 1 : Nat) : Int))), some (.int (iI c))] [] N gf h 0 0 := by
        intro f
        induction f with
        | zero =>
          intro m c hc hf hcs
          simp only [csO] at hcs
          split at hcs
          · have hm := Option.some.inj hcs
            subst hm
            refine V_iload C dX5_countedMark_21 rfl ?_
            refine V_bipush C dX5_countedMark_23 (by decide +kernel) ?_
            refine V_icmp_ge (tgt := 48) C dX5_countedMark_25 (by decide) (by omega) (by omega) (fun q25 => ?_) (fun q25 => by exfalso; omega)
            refine V_iinc C dX5_countedMark_48 rfl (Nat.le_of_ble_eq_true rfl) rfl ?_
            refine V_goto (tgt := 4) C dX5_countedMark_51 (by decide) ?_
            exact ih (k + 1) _ _ (by omega)
          · cases hcs
        | succ f ih2 =>
          intro m c hc hf hcs
          simp only [csO] at hcs
          split at hcs
          · rename_i hm
            split at hcs
            · rename_i hz
              have hm2 := Option.some.inj hcs
              subst hm2
              refine V_iload C dX5_countedMark_21 rfl ?_
              refine V_bipush C dX5_countedMark_23 (by decide +kernel) ?_
              refine V_icmp_ge (tgt := 48) C dX5_countedMark_25 (by decide) (by omega) (by omega) (fun q25 => by exfalso; omega) (fun q25 => ?_)
              refine V_iload_n C dX5_countedMark_28 rfl rfl ?_
              refine V_if_eq (tgt := 48) C dX5_countedMark_29 (by decide) (by omega) (fun q29 => ?_) (fun q29 => by exfalso; omega)
              refine V_iinc C dX5_countedMark_48 rfl (Nat.le_of_ble_eq_true rfl) rfl ?_
              refine V_goto (tgt := 4) C dX5_countedMark_51 (by decide) ?_
              exact ih (k + 1) _ _ (by omega)
            · rename_i hz
              have hle : (m &&& m >>> 1) ≤ m := Nat.and_le_left
              refine V_iload C dX5_countedMark_21 rfl ?_
              refine V_bipush C dX5_countedMark_23 (by decide +kernel) ?_
              refine V_icmp_ge (tgt := 48) C dX5_countedMark_25 (by decide) (by omega) (by omega) (fun q25 => by exfalso; omega) (fun q25 => ?_)
              refine V_iload_n C dX5_countedMark_28 rfl rfl ?_
              refine V_if_eq (tgt := 48) C dX5_countedMark_29 (by decide) (by omega) (fun q29 => by exfalso; omega) (fun q29 => ?_)
              refine V_iload_n C dX5_countedMark_32 rfl rfl ?_
              refine V_iload_n C dX5_countedMark_33 rfl rfl ?_
              refine V_iadd C dX5_countedMark_34 ?_
              rw [show (m : Int) + ((m &&& m >>> 1 : Nat) : Int) = ((m + (m &&& m >>> 1) : Nat) : Int) from rfl]
              refine V_istore_n C dX5_countedMark_35 rfl (Nat.le_of_ble_eq_true rfl) rfl ?_
              refine V_iload_n C dX5_countedMark_36 rfl rfl ?_
              refine V_iload_n C dX5_countedMark_37 rfl rfl ?_
              refine V_iconst C dX5_countedMark_38 ?_
              refine V_ishr C dX5_countedMark_39 (m + (m &&& m >>> 1)) 1 (by first | rfl | omega) (by first | rfl | omega) (by omega) (by omega) ?_
              refine V_iand C dX5_countedMark_40 (m + (m &&& m >>> 1)) ((m + (m &&& m >>> 1)) >>> 1) (by first | rfl | omega) (by first | rfl | omega) ?_
              refine V_istore_n C dX5_countedMark_41 rfl (Nat.le_of_ble_eq_true rfl) rfl ?_
              refine V_iinc C dX5_countedMark_42 rfl (Nat.le_of_ble_eq_true rfl) rfl ?_
              refine V_goto (tgt := 21) C dX5_countedMark_45 (by decide) ?_
              exact ih2 _ _ (by omega) (by omega) hcs
          · cases hcs
      refine V_iload_n C dX5_countedMark_4 rfl rfl ?_
      refine V_iload_n C dX5_countedMark_5 rfl rfl ?_
      refine V_icmp_ge (tgt := 54) C dX5_countedMark_6 (by decide) (by omega) (by omega) (fun q6 => by exfalso; omega) (fun q6 => ?_)
      refine V_iinc C dX5_countedMark_9 rfl (Nat.le_of_ble_eq_true rfl) rfl ?_
      refine V_eq rfl (loc' := [some (.int (iI (n : Int))), some (.int (iI ((gm 18 k + 1 : Nat) : Int))), some (.int (iI (k : Int))), o1, o2]) rfl rfl rfl ?_
      refine V_iload_n C dX5_countedMark_12 rfl rfl ?_
      refine V_iload_n C dX5_countedMark_13 rfl rfl ?_
      refine V_iconst C dX5_countedMark_14 ?_
      refine V_ishr C dX5_countedMark_15 (gm 18 k + 1) 1 (by first | rfl | omega) (by first | rfl | omega) (by omega) (by omega) ?_
      refine V_iand C dX5_countedMark_16 (gm 18 k + 1) ((gm 18 k + 1) >>> 1) (by first | rfl | omega) (by first | rfl | omega) ?_
      refine V_istore_n C dX5_countedMark_17 rfl (Nat.le_of_ble_eq_true rfl) rfl ?_
      refine V_iconst C dX5_countedMark_18 ?_
      refine V_istore C dX5_countedMark_19 (Nat.le_of_ble_eq_true rfl) rfl ?_
      exact inner 18 _ _ (by omega) (by omega) f2
  refine V_iconst C dX5_countedMark_0 ?_
  refine V_istore_n C dX5_countedMark_1 rfl (Nat.le_of_ble_eq_true rfl) rfl ?_
  refine V_iconst C dX5_countedMark_2 ?_
  refine V_istore_n C dX5_countedMark_3 rfl (Nat.le_of_ble_eq_true rfl) rfl ?_
  exact loop n 0 none none (by omega)
