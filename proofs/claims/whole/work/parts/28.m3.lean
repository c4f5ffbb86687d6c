set_option maxRecDepth 100000 in
set_option maxHeartbeats 4000000 in
theorem c_X6_carry (G : GT) (K : Nat → Nat → Int) (r : Nat → Option Nat) (k : Nat) (hk : k ≤ 19) (hc : ∀ j, j < 24 → 0 ≤ K 31 j ∧ K 31 j ≤ 10000) : CtO G yX6_carry mX6_carry [rf G 28, .int (iI (k : Int))] K r (some (.int (iI (b2 (cyB (K 31) k))))) (us K 31 (cyF (K 31) k)) (r) := by
  refine Ct_of kX6_carry.1.1 (by decide) [some (rf G 28), some (.int (iI (k : Int)))] rfl (Nat.le_of_ble_eq_true rfl) ?_
  intro x C hZ
  have g0 := hc k (by omega)
  have g1 := hc (k + 1) (by omega)
  have g2 := hc (k + 2) (by omega)
  have ek : ((k : Int)).toNat = k := by omega
  have ek1 : ((k : Int) + 1).toNat = k + 1 := by omega
  have ek2 : ((k : Int) + 2).toNat = k + 2 := by omega
  have two : ∀ (hn : ¬ (0 < K 31 k ∧ 0 < K 31 (k + 1))) (h1 : 1 < K 31 k), V G mX6_carry x 66 [some (rf G 28), some (.int (iI (k : Int)))] [] 34 false (HP G K r) 0 0 := by
    intro hn h1
    match k, hk, hZ, g0, g1, g2, hn, h1 with
    | 0, hk, hZ, g0, g1, g2, hn, h1 =>
      refine V_aload_n C dX6_carry_66 rfl rfl ?_
      refine V_getH (L := mOl G) C dX6_carry_67 fX6_16 (by decide) (fun _ => rfl) rfl ?_
      refine V_iload_n C dX6_carry_70 rfl rfl ?_
      refine V_dup2 C dX6_carry_71 rfl rfl ?_
      refine V_ialdH C dX6_carry_72 (by decide) (fun _ => rfl) (by omega) (by decide) ?_
      rw [show (((0 : Nat) : Int)).toNat = 0 from rfl]
      refine V_iconst C dX6_carry_73 ?_
      refine V_isub C dX6_carry_74 ?_
      refine V_iastH C dX6_carry_75 (by decide) (fun _ => rfl) (by omega) (by decide) ?_
      rw [show (((0 : Nat) : Int)).toNat = 0 from rfl]
      refine V_aload_n C dX6_carry_76 rfl rfl ?_
      refine V_getH (L := mOl G) C dX6_carry_77 fX6_16 (by decide) (fun _ => rfl) rfl ?_
      refine V_iload_n C dX6_carry_80 rfl rfl ?_
      refine V_iconst C dX6_carry_81 ?_
      refine V_iadd C dX6_carry_82 ?_
      refine V_dup2 C dX6_carry_83 rfl rfl ?_
      refine V_ialdH C dX6_carry_84 (by decide) (fun _ => rfl) (by omega) (by decide) ?_
      rw [show (((0 : Nat) : Int) + 1).toNat = 1 from rfl, show us K 31 (us (K 31) 0 (K 31 0 - 2)) 31 1 = K 31 1 by simp [us]]
      refine V_iconst C dX6_carry_85 ?_
      refine V_iadd C dX6_carry_86 ?_
      refine V_iastH C dX6_carry_87 (by decide) (fun _ => rfl) (by omega) (by decide) ?_
      rw [show (((0 : Nat) : Int) + 1).toNat = 1 from rfl, us_us, us_at]
      refine V_iload_n C dX6_carry_88 rfl rfl ?_
      refine V_if_le (tgt := 113) C dX6_carry_89 (by decide) (by omega) (fun q89 => ?_) (fun q89 => by exfalso; omega)
      refine V_iconst C dX6_carry_113 ?_
      exact V_zret C dX6_carry_114 rfl hZ (b2_01 _) (by simp only [cyB]; rw [show (decide (0 < K 31 0 ∧ 0 < K 31 1) || decide (1 < K 31 0)) = true by simp; omega]; rfl) (by unfold cyF; rw [if_neg (by omega), if_pos (by omega)])
    | 1, hk, hZ, g0, g1, g2, hn, h1 =>
      have g3 := hc 0 (by omega)
      refine V_aload_n C dX6_carry_66 rfl rfl ?_
      refine V_getH (L := mOl G) C dX6_carry_67 fX6_16 (by decide) (fun _ => rfl) rfl ?_
      refine V_iload_n C dX6_carry_70 rfl rfl ?_
      refine V_dup2 C dX6_carry_71 rfl rfl ?_
      refine V_ialdH C dX6_carry_72 (by decide) (fun _ => rfl) (by omega) (by decide) ?_
      rw [show (((1 : Nat) : Int)).toNat = 1 from rfl]
      refine V_iconst C dX6_carry_73 ?_
      refine V_isub C dX6_carry_74 ?_
      refine V_iastH C dX6_carry_75 (by decide) (fun _ => rfl) (by omega) (by decide) ?_
      rw [show (((1 : Nat) : Int)).toNat = 1 from rfl]
      refine V_aload_n C dX6_carry_76 rfl rfl ?_
      refine V_getH (L := mOl G) C dX6_carry_77 fX6_16 (by decide) (fun _ => rfl) rfl ?_
      refine V_iload_n C dX6_carry_80 rfl rfl ?_
      refine V_iconst C dX6_carry_81 ?_
      refine V_iadd C dX6_carry_82 ?_
      refine V_dup2 C dX6_carry_83 rfl rfl ?_
      refine V_ialdH C dX6_carry_84 (by decide) (fun _ => rfl) (by omega) (by decide) ?_
      rw [show (((1 : Nat) : Int) + 1).toNat = 2 from rfl, show us K 31 (us (K 31) 1 (K 31 1 - 2)) 31 2 = K 31 2 by simp [us]]
      refine V_iconst C dX6_carry_85 ?_
      refine V_iadd C dX6_carry_86 ?_
      refine V_iastH C dX6_carry_87 (by decide) (fun _ => rfl) (by omega) (by decide) ?_
      rw [show (((1 : Nat) : Int) + 1).toNat = 2 from rfl, us_us, us_at]
      refine V_iload_n C dX6_carry_88 rfl rfl ?_
      refine V_if_le (tgt := 113) C dX6_carry_89 (by decide) (by omega) (fun q89 => by exfalso; omega) (fun q89 => ?_)
      refine V_aload_n C dX6_carry_92 rfl rfl ?_
      refine V_getH (L := mOl G) C dX6_carry_93 fX6_16 (by decide) (fun _ => rfl) rfl ?_
      refine V_iload_n C dX6_carry_96 rfl rfl ?_
      refine V_iconst C dX6_carry_97 ?_
      refine V_icmp_ne (tgt := 105) C dX6_carry_98 (by decide) (by omega) (by omega) (fun q98 => by exfalso; omega) (fun q98 => ?_)
      refine V_iconst C dX6_carry_101 ?_
      refine V_goto (tgt := 108) C dX6_carry_102 (by decide) ?_
      refine V_dup2 C dX6_carry_108 rfl rfl ?_
      refine V_ialdH C dX6_carry_109 (by decide) (fun _ => rfl) (by omega) (by decide) ?_
      rw [show (0 : Int).toNat = 0 from rfl, show us K 31 (us (us (K 31) 1 (K 31 1 - 2)) 2 (K 31 2 + 1)) 31 0 = K 31 0 by simp [us]]
      refine V_iconst C dX6_carry_110 ?_
      refine V_iadd C dX6_carry_111 ?_
      refine V_iastH C dX6_carry_112 (by decide) (fun _ => rfl) (by omega) (by decide) ?_
      rw [show (0 : Int).toNat = 0 from rfl, us_us, us_at]
      refine V_iconst C dX6_carry_113 ?_
      exact V_zret C dX6_carry_114 rfl hZ (b2_01 _) (by simp only [cyB]; rw [show (decide (0 < K 31 1 ∧ 0 < K 31 2) || decide (1 < K 31 1)) = true by simp; omega]; rfl) (by unfold cyF; rw [if_neg (by omega), if_pos (by omega)])
    | j + 2, hk, hZ, g0, g1, g2, hn, h1 =>
      have g3 := hc j (by omega)
      have ej2 : (((j + 2 : Nat) : Int)).toNat = j + 2 := by omega
      have ej3 : (((j + 2 : Nat) : Int) + 1).toNat = j + 3 := by omega
      have ej0 : (((j + 2 : Nat) : Int) - 2).toNat = j := by omega
      refine V_aload_n C dX6_carry_66 rfl rfl ?_
      refine V_getH (L := mOl G) C dX6_carry_67 fX6_16 (by decide) (fun _ => rfl) rfl ?_
      refine V_iload_n C dX6_carry_70 rfl rfl ?_
      refine V_dup2 C dX6_carry_71 rfl rfl ?_
      refine V_ialdH C dX6_carry_72 (by decide) (fun _ => rfl) (by omega) (by decide) ?_
      rw [ej2]
      refine V_iconst C dX6_carry_73 ?_
      refine V_isub C dX6_carry_74 ?_
      refine V_iastH C dX6_carry_75 (by decide) (fun _ => rfl) (by omega) (by decide) ?_
      rw [ej2]
      refine V_aload_n C dX6_carry_76 rfl rfl ?_
      refine V_getH (L := mOl G) C dX6_carry_77 fX6_16 (by decide) (fun _ => rfl) rfl ?_
      refine V_iload_n C dX6_carry_80 rfl rfl ?_
      refine V_iconst C dX6_carry_81 ?_
      refine V_iadd C dX6_carry_82 ?_
      refine V_dup2 C dX6_carry_83 rfl rfl ?_
      refine V_ialdH C dX6_carry_84 (by decide) (fun _ => rfl) (by omega) (by decide) ?_
      rw [ej3, show us K 31 (us (K 31) (j + 2) (K 31 (j + 2) - 2)) 31 (j + 3) = K 31 (j + 3) by simp [us]]
      refine V_iconst C dX6_carry_85 ?_
      refine V_iadd C dX6_carry_86 ?_
      refine V_iastH C dX6_carry_87 (by decide) (fun _ => rfl) (by omega) (by decide) ?_
      rw [ej3, us_us, us_at]
      refine V_iload_n C dX6_carry_88 rfl rfl ?_
      refine V_if_le (tgt := 113) C dX6_carry_89 (by decide) (by omega) (fun q89 => by exfalso; omega) (fun q89 => ?_)
      refine V_aload_n C dX6_carry_92 rfl rfl ?_
      refine V_getH (L := mOl G) C dX6_carry_93 fX6_16 (by decide) (fun _ => rfl) rfl ?_
      refine V_iload_n C dX6_carry_96 rfl rfl ?_
      refine V_iconst C dX6_carry_97 ?_
      refine V_icmp_ne (tgt := 105) C dX6_carry_98 (by decide) (by omega) (by omega) (fun q98 => ?_) (fun q98 => by exfalso; omega)
      refine V_iload_n C dX6_carry_105 rfl rfl ?_
      refine V_iconst C dX6_carry_106 ?_
      refine V_isub C dX6_carry_107 ?_
      refine V_dup2 C dX6_carry_108 rfl rfl ?_
      refine V_ialdH C dX6_carry_109 (by decide) (fun _ => rfl) (by omega) (by decide) ?_
      rw [ej0, show us K 31 (us (us (K 31) (j + 2) (K 31 (j + 2) - 2)) (j + 3) (K 31 (j + 3) + 1)) 31 j = K 31 j by simp [us]]
      refine V_iconst C dX6_carry_110 ?_
      refine V_iadd C dX6_carry_111 ?_
      refine V_iastH C dX6_carry_112 (by decide) (fun _ => rfl) (by omega) (by decide) ?_
      rw [ej0, us_us, us_at]
      refine V_iconst C dX6_carry_113 ?_
      exact V_zret C dX6_carry_114 rfl hZ (b2_01 _) (by simp only [cyB]; rw [show (decide (0 < K 31 (j + 2) ∧ 0 < K 31 (j + 3)) || decide (1 < K 31 (j + 2))) = true by simp; omega]; rfl) (by unfold cyF; rw [if_neg (by omega), if_pos (by omega)])
  refine V_aload_n C dX6_carry_0 rfl rfl ?_
  refine V_getH (L := mOl G) C dX6_carry_1 fX6_16 (by decide) (fun _ => rfl) rfl ?_
  refine V_iload_n C dX6_carry_4 rfl rfl ?_
  refine V_ialdH C dX6_carry_5 (by decide) (fun _ => rfl) (by omega) (by decide) ?_
  rw [ek]
  refine V_if_le (tgt := 56) C dX6_carry_6 (by decide) (by omega) (fun q6 => ?_) (fun q6 => ?_)
  · refine V_aload_n C dX6_carry_56 rfl rfl ?_
    refine V_getH (L := mOl G) C dX6_carry_57 fX6_16 (by decide) (fun _ => rfl) rfl ?_
    refine V_iload_n C dX6_carry_60 rfl rfl ?_
    refine V_ialdH C dX6_carry_61 (by decide) (fun _ => rfl) (by omega) (by decide) ?_
    rw [ek]
    refine V_iconst C dX6_carry_62 ?_
    refine V_icmp_le (tgt := 115) C dX6_carry_63 (by decide) (by omega) (by omega) (fun q63 => ?_) (fun q63 => ?_)
    · refine V_iconst C dX6_carry_115 ?_
      exact V_zret C dX6_carry_116 rfl hZ (b2_01 _) (by simp only [cyB]; rw [show (decide (0 < K 31 k ∧ 0 < K 31 (k + 1)) || decide (1 < K 31 k)) = false by simp; omega]; rfl) (by unfold cyF; rw [if_neg (by omega), if_neg (by omega), us_same])
    · exact two (by omega) (by omega)
  · refine V_aload_n C dX6_carry_9 rfl rfl ?_
    refine V_getH (L := mOl G) C dX6_carry_10 fX6_16 (by decide) (fun _ => rfl) rfl ?_
    refine V_iload_n C dX6_carry_13 rfl rfl ?_
    refine V_iconst C dX6_carry_14 ?_
    refine V_iadd C dX6_carry_15 ?_
    refine V_ialdH C dX6_carry_16 (by decide) (fun _ => rfl) (by omega) (by decide) ?_
    rw [ek1]
    refine V_if_le (tgt := 56) C dX6_carry_17 (by decide) (by omega) (fun q17 => ?_) (fun q17 => ?_)
    · refine V_aload_n C dX6_carry_56 rfl rfl ?_
      refine V_getH (L := mOl G) C dX6_carry_57 fX6_16 (by decide) (fun _ => rfl) rfl ?_
      refine V_iload_n C dX6_carry_60 rfl rfl ?_
      refine V_ialdH C dX6_carry_61 (by decide) (fun _ => rfl) (by omega) (by decide) ?_
      rw [ek]
      refine V_iconst C dX6_carry_62 ?_
      refine V_icmp_le (tgt := 115) C dX6_carry_63 (by decide) (by omega) (by omega) (fun q63 => ?_) (fun q63 => ?_)
      · refine V_iconst C dX6_carry_115 ?_
        exact V_zret C dX6_carry_116 rfl hZ (b2_01 _) (by simp only [cyB]; rw [show (decide (0 < K 31 k ∧ 0 < K 31 (k + 1)) || decide (1 < K 31 k)) = false by simp; omega]; rfl) (by unfold cyF; rw [if_neg (by omega), if_neg (by omega), us_same])
      · exact two (by omega) (by omega)
    · refine V_aload_n C dX6_carry_20 rfl rfl ?_
      refine V_getH (L := mOl G) C dX6_carry_21 fX6_16 (by decide) (fun _ => rfl) rfl ?_
      refine V_iload_n C dX6_carry_24 rfl rfl ?_
      refine V_dup2 C dX6_carry_25 rfl rfl ?_
      refine V_ialdH C dX6_carry_26 (by decide) (fun _ => rfl) (by omega) (by decide) ?_
      rw [ek]
      refine V_iconst C dX6_carry_27 ?_
      refine V_isub C dX6_carry_28 ?_
      refine V_iastH C dX6_carry_29 (by decide) (fun _ => rfl) (by omega) (by decide) ?_
      rw [ek]
      refine V_aload_n C dX6_carry_30 rfl rfl ?_
      refine V_getH (L := mOl G) C dX6_carry_31 fX6_16 (by decide) (fun _ => rfl) rfl ?_
      refine V_iload_n C dX6_carry_34 rfl rfl ?_
      refine V_iconst C dX6_carry_35 ?_
      refine V_iadd C dX6_carry_36 ?_
      refine V_dup2 C dX6_carry_37 rfl rfl ?_
      refine V_ialdH C dX6_carry_38 (by decide) (fun _ => rfl) (by omega) (by decide) ?_
      rw [ek1, show us K 31 (us (K 31) k (K 31 k - 1)) 31 (k + 1) = K 31 (k + 1) by simp [us]]
      refine V_iconst C dX6_carry_39 ?_
      refine V_isub C dX6_carry_40 ?_
      refine V_iastH C dX6_carry_41 (by decide) (fun _ => rfl) (by omega) (by decide) ?_
      rw [ek1, us_us, us_at]
      refine V_aload_n C dX6_carry_42 rfl rfl ?_
      refine V_getH (L := mOl G) C dX6_carry_43 fX6_16 (by decide) (fun _ => rfl) rfl ?_
      refine V_iload_n C dX6_carry_46 rfl rfl ?_
      refine V_iconst C dX6_carry_47 ?_
      refine V_iadd C dX6_carry_48 ?_
      refine V_dup2 C dX6_carry_49 rfl rfl ?_
      refine V_ialdH C dX6_carry_50 (by decide) (fun _ => rfl) (by omega) (by decide) ?_
      rw [ek2, show us K 31 (us (us (K 31) k (K 31 k - 1)) (k + 1) (K 31 (k + 1) - 1)) 31 (k + 2) = K 31 (k + 2) by simp [us]]
      refine V_iconst C dX6_carry_51 ?_
      refine V_iadd C dX6_carry_52 ?_
      refine V_iastH C dX6_carry_53 (by decide) (fun _ => rfl) (by omega) (by decide) ?_
      rw [ek2, us_us, us_at]
      refine V_iconst C dX6_carry_54 ?_
      exact V_zret C dX6_carry_55 rfl hZ (b2_01 _) (by simp only [cyB]; rw [show (decide (0 < K 31 k ∧ 0 < K 31 (k + 1)) || decide (1 < K 31 k)) = true by simp; omega]; rfl) (by unfold cyF; rw [if_pos ⟨by omega, by omega⟩])
set_option maxRecDepth 100000 in
set_option maxHeartbeats 4000000 in
theorem c_X6_adds (G : GT) (K : Nat → Nat → Int) (r : Nat → Option Nat) (m o : Nat) (hm : m < 262144) (ho : o < 262144) (hv : wo 18 m + wo 18 o < 17711) : CtO G yX6_adds mX6_adds [rf G 28, .int (iI (m : Int)), .int (iI (o : Int))] K r (some (.int (iI (mkN (adE m o) 22 : Nat)))) (us (us K 31 (adE m o)) 28 (us (K 28) 10 (adC m o : Nat))) (r) := by
  refine Ct_of kX6_adds.1.1 (by decide) [some (rf G 28), some (.int (iI (m : Int))), some (.int (iI (o : Int))), none, none, none] rfl (Nat.le_of_ble_eq_true rfl) ?_
  intro x C hZ
  have loop3 : ∀ (n k : Nat) (v w3 : Int), k + n = 24 → v = (mkN (adE m o) k : Nat) → V G mX6_adds x 92 [some (rf G 28), some (.int (iI (m : Int))), some (.int (iI (o : Int))), some (.int (iI w3)), some (.int (iI v)), some (.int (iI (k : Int)))] [] 34 false (HP G (us (us K 31 (adE m o)) 28 (us (K 28) 10 (adC m o : Nat))) r) 0 0 := by
    intro n
    induction n with
    | zero =>
      intro k v w3 e e2
      refine V_iload C dX6_adds_92 rfl ?_
      refine V_bipush C dX6_adds_94 (by decide +kernel) ?_
      refine V_icmp_ge (tgt := 120) C dX6_adds_96 (by decide) (by omega) (by omega) (fun q96 => ?_) (fun q96 => by exfalso; omega)
      refine V_iload C dX6_adds_120 rfl ?_
      exact V_iret C dX6_adds_122 rfl hZ (by rw [e2, show k = 24 by omega, mkN_22 hm ho hv]) rfl
    | succ n ih =>
      intro k v w3 e e2
      subst e2
      have ek : ((k : Int)).toNat = k := by omega
      have g := adE_01 hm ho hv (k := k) (by omega)
      have g5 : (adE m o k).toNat <<< k < 4294967296 := by
        have e1 : (adE m o k).toNat ≤ 1 := by omega
        have e2 : 2 ^ k ≤ 2 ^ 23 := Nat.pow_le_pow_right (by decide) (by omega)
        have e3 := Nat.mul_le_mul e1 e2
        rw [Nat.shiftLeft_eq]
        omega
      refine V_iload C dX6_adds_92 rfl ?_
      refine V_bipush C dX6_adds_94 (by decide +kernel) ?_
      refine V_icmp_ge (tgt := 120) C dX6_adds_96 (by decide) (by omega) (by omega) (fun q96 => by exfalso; omega) (fun q96 => ?_)
      refine V_iload C dX6_adds_99 rfl ?_
      refine V_aload_n C dX6_adds_101 rfl rfl ?_
      refine V_getH (L := mOl G) C dX6_adds_102 fX6_16 (by decide) (fun _ => rfl) rfl ?_
      refine V_iload C dX6_adds_105 rfl ?_
      refine V_ialdH C dX6_adds_107 (by decide) (fun _ => rfl) (by omega) (by decide) ?_
      rw [ek, show us (us K 31 (adE m o)) 28 (us (K 28) 10 (adC m o : Nat)) 31 k = adE m o k by simp [us]]
      refine V_iload C dX6_adds_108 rfl ?_
      refine V_ishl C dX6_adds_110 (adE m o k).toNat k (by first | rfl | omega) (by first | rfl | omega) (by omega) (by omega) ?_
      refine V_ior C dX6_adds_111 (mkN (adE m o) k) ((adE m o k).toNat <<< k) (by first | rfl | omega) (by first | rfl | omega) ?_
      refine V_istore C dX6_adds_112 (Nat.le_of_ble_eq_true rfl) rfl ?_
      refine V_iinc C dX6_adds_114 rfl (Nat.le_of_ble_eq_true rfl) rfl ?_
      refine V_goto (tgt := 92) C dX6_adds_117 (by decide) ?_
      refine ih (k + 1) _ _ (by omega) ?_
      simp only [mkN]
      rcases g with g | g
      · rw [if_neg (by omega), g]; simp
      · rw [if_pos (by omega), g]; rfl
  have loop2 : ∀ (f : Nat) (c : Nat → Int) (n : Int) (at1 : Nat) (at0 : Int) (o4 : Option Value), at0 = (at1 : Int) - 1 → at1 ≤ 20 → c0 c → sm wP c 24 < f → sm wP c 24 ≤ 2000 → (0 ≤ n ∧ n ≤ 10000) → fk 20 c = fk at1 c → n + cyN f c = (adC m o : Nat) → cyE f c = adE m o → V G mX6_adds x 39 [some (rf G 28), some (.int (iI (m : Int))), some (.int (iI (o : Int))), some (.int (iI at0)), o4, none] [] 34 false (HP G (us (us K 31 c) 28 (us (K 28) 10 n)) r) 0 0 := by
    intro f
    induction f with
    | zero =>
      intro c n at1 at0 o4 e0 e1 hc0 hp
      have := sm_nn wP_nn hc0 24
      omega
    | succ f ihf =>
      intro c n at1
      induction at1 with
      | zero =>
        intro at0 o4 e0 e1 hc0 hp hp2 hn hfk hN hE
        have hno : fk 20 c = none := hfk
        rw [cyN_n hno] at hN
        rw [cyE_n hno] at hE
        refine V_iload_n C dX6_adds_39 rfl rfl ?_
        refine V_if_lt (tgt := 86) C dX6_adds_40 (by decide) (by omega) (fun q40 => ?_) (fun q40 => by exfalso; omega)
        refine V_iconst C dX6_adds_86 ?_
        refine V_istore C dX6_adds_87 (Nat.le_of_ble_eq_true rfl) rfl ?_
        refine V_iconst C dX6_adds_89 ?_
        refine V_istore C dX6_adds_90 (Nat.le_of_ble_eq_true rfl) rfl ?_
        refine V_hp ?_ (loop3 24 0 _ _ (by omega) rfl)
        rw [hE, show n = (adC m o : Nat) by omega]
      | succ at1 iha =>
        intro at0 o4 e0 e1 hc0 hp hp2 hn hfk hN hE
        have ea : at0 = (at1 : Int) := by omega
        subst ea
        obtain ⟨K2, hK2⟩ : ∃ K2, K2 = us (us K 31 c) 28 (us (K 28) 10 n) := ⟨_, rfl⟩
        have h31 : K2 31 = c := by rw [hK2]; simp [us]
        have h28 : K2 28 = us (K 28) 10 n := by rw [hK2]; simp [us]
        have hcy := c_X6_carry G K2 r at1 (by omega) (fun j hj => by rw [h31]; exact ⟨hc0 j, by have := c_le_pot hc0 hj; omega⟩)
        rw [h31] at hcy
        rw [← hK2]
        have hlow : 0 ≤ n ∧ n + 1 ≤ 10000 := by
          have := cyN_le (f + 1) c
          have := cyN_le 3000 (cI m o)
          unfold adC at hN
          omega
        by_cases hb : cyB c at1 = true
        · have hsome : fk 20 c = some at1 := by rw [hfk]; exact fk_1 hb
          rw [cyN_s hsome] at hN
          rw [cyE_s hsome] at hE
          have hpot := cyF_pot c (k := at1) (by omega) hb
          have hc0' := cyF_c0 hc0 at1
          rw [hb] at hcy
          refine V_iload_n C dX6_adds_39 rfl rfl ?_
          refine V_if_lt (tgt := 86) C dX6_adds_40 (by decide) (by first | omega | (simp [b2] at *; done) | (simp [b2] at * <;> omega)) (fun q40 => by exfalso; first | omega | (simp [b2] at *; done) | (simp [b2] at * <;> omega)) (fun q40 => ?_)
          refine V_aload_n C dX6_adds_43 rfl rfl ?_
          refine V_iload_n C dX6_adds_44 rfl rfl ?_
          refine V_V1 (k2 := 0) (s2 := 0) C dX6_adds_45 lX6_53 kX6_carry (hcy) (by decide) (rfl) rfl rfl rfl ⟨Nat.le_of_ble_eq_true rfl, Nat.le_of_ble_eq_true rfl⟩ (Nat.le_of_ble_eq_true rfl) (Nat.le_refl _) (Nat.le_refl _) ?_
          refine V_istore C dX6_adds_48 (Nat.le_of_ble_eq_true rfl) rfl ?_
          refine V_aload_n C dX6_adds_50 rfl rfl ?_
          refine V_dup C dX6_adds_51 rfl ?_
          refine V_getH (L := mOl G) C dX6_adds_52 fX6_50 (by decide) (fun _ => rfl) rfl ?_
          rw [show us K2 31 (cyF c at1) 28 10 = n by rw [us_ne _ _ (by decide), h28]; simp [us]]
          refine V_iload C dX6_adds_55 rfl ?_
          refine V_if_eq (tgt := 64) C dX6_adds_57 (by decide) (by first | omega | (simp [b2] at *; done) | (simp [b2] at * <;> omega)) (fun q57 => by exfalso; first | omega | (simp [b2] at *; done) | (simp [b2] at * <;> omega)) (fun q57 => ?_)
          refine V_iconst C dX6_adds_60 ?_
          refine V_goto (tgt := 65) C dX6_adds_61 (by decide) ?_
          refine V_iadd C dX6_adds_65 ?_
          refine V_putH (L := mOl G) (ty := .int) C dX6_adds_66 fX6_50 (by decide) (fun _ => rfl) rfl (by decide +kernel) (rfl) (rfl) (Nat.le_of_ble_eq_true rfl) rfl ?_
          refine V_iload C dX6_adds_69 rfl ?_
          refine V_if_eq (tgt := 79) C dX6_adds_71 (by decide) (by first | omega | (simp [b2] at *; done) | (simp [b2] at * <;> omega)) (fun q71 => by exfalso; first | omega | (simp [b2] at *; done) | (simp [b2] at * <;> omega)) (fun q71 => ?_)
          refine V_bipush C dX6_adds_74 (by decide +kernel) ?_
          refine V_goto (tgt := 82) C dX6_adds_76 (by decide) ?_
          refine V_istore_n C dX6_adds_82 rfl (Nat.le_of_ble_eq_true rfl) rfl ?_
          refine V_goto (tgt := 39) C dX6_adds_83 (by decide) ?_
          refine V_hp ?_ (ihf (cyF c at1) (n + 1) 20 _ _ (by omega) (by omega) hc0' (by omega) (by omega) (by omega) rfl (by omega) hE)
          rw [us_ne _ _ (show (28 : Nat) ≠ 31 by decide), h28, us_us, hK2, us_4 (by decide)]
        · have hb' : cyB c at1 = false := by simpa using hb
          rw [hb'] at hcy
          refine V_iload_n C dX6_adds_39 rfl rfl ?_
          refine V_if_lt (tgt := 86) C dX6_adds_40 (by decide) (by first | omega | (simp [b2] at *; done) | (simp [b2] at * <;> omega)) (fun q40 => by exfalso; first | omega | (simp [b2] at *; done) | (simp [b2] at * <;> omega)) (fun q40 => ?_)
          refine V_aload_n C dX6_adds_43 rfl rfl ?_
          refine V_iload_n C dX6_adds_44 rfl rfl ?_
          refine V_V1 (k2 := 0) (s2 := 0) C dX6_adds_45 lX6_53 kX6_carry (hcy) (by decide) (rfl) rfl rfl rfl ⟨Nat.le_of_ble_eq_true rfl, Nat.le_of_ble_eq_true rfl⟩ (Nat.le_of_ble_eq_true rfl) (Nat.le_refl _) (Nat.le_refl _) ?_
          refine V_istore C dX6_adds_48 (Nat.le_of_ble_eq_true rfl) rfl ?_
          refine V_aload_n C dX6_adds_50 rfl rfl ?_
          refine V_dup C dX6_adds_51 rfl ?_
          refine V_getH (L := mOl G) C dX6_adds_52 fX6_50 (by decide) (fun _ => rfl) rfl ?_
          rw [show us K2 31 (cyF c at1) 28 10 = n by rw [us_ne _ _ (by decide), h28]; simp [us]]
          refine V_iload C dX6_adds_55 rfl ?_
          refine V_if_eq (tgt := 64) C dX6_adds_57 (by decide) (by first | omega | (simp [b2] at *; done) | (simp [b2] at * <;> omega)) (fun q57 => ?_) (fun q57 => by exfalso; first | omega | (simp [b2] at *; done) | (simp [b2] at * <;> omega))
          refine V_iconst C dX6_adds_64 ?_
          refine V_iadd C dX6_adds_65 ?_
          refine V_putH (L := mOl G) (ty := .int) C dX6_adds_66 fX6_50 (by decide) (fun _ => rfl) rfl (by decide +kernel) (rfl) (rfl) (Nat.le_of_ble_eq_true rfl) rfl ?_
          refine V_iload C dX6_adds_69 rfl ?_
          refine V_if_eq (tgt := 79) C dX6_adds_71 (by decide) (by first | omega | (simp [b2] at *; done) | (simp [b2] at * <;> omega)) (fun q71 => ?_) (fun q71 => by exfalso; first | omega | (simp [b2] at *; done) | (simp [b2] at * <;> omega))
          refine V_iload_n C dX6_adds_79 rfl rfl ?_
          refine V_iconst C dX6_adds_80 ?_
          refine V_isub C dX6_adds_81 ?_
          refine V_istore_n C dX6_adds_82 rfl (Nat.le_of_ble_eq_true rfl) rfl ?_
          refine V_goto (tgt := 39) C dX6_adds_83 (by decide) ?_
          refine V_hp ?_ (iha _ _ (by omega) (by omega) hc0 hp hp2 hn (by rw [hfk, fk_0 hb']) hN hE)
          rw [us_ne _ _ (show (28 : Nat) ≠ 31 by decide), h28, us_us, hK2, show cyF c at1 = c from cyF_no hb', us_4 (by decide), Int.add_zero]
  have k1 : ∀ (k : Nat), k = 24 → V G mX6_adds x 31 [some (rf G 28), some (.int (iI (m : Int))), some (.int (iI (o : Int))), some (.int (iI (k : Int))), none, none] [] 34 false (HP G (us K 31 (cIk (K 31) m o k)) r) 0 0 := by
    intro k ek
    subst ek
    refine V_aext 31 24 (cI m o) (fun _ => rfl) (fun k hk => ?_) ?_
    · rw [us_at]; simp only [cIk, cI]; rw [if_pos hk, if_pos hk]
    · rw [us_us]
      refine V_aload_n C dX6_adds_31 rfl rfl ?_
      refine V_iconst C dX6_adds_32 ?_
      refine V_putH (L := mOl G) (ty := .int) C dX6_adds_33 fX6_50 (by decide) (fun _ => rfl) rfl (by decide +kernel) (rfl) (rfl) (Nat.le_of_ble_eq_true rfl) rfl ?_
      refine V_bipush C dX6_adds_36 (by decide +kernel) ?_
      refine V_istore_n C dX6_adds_38 rfl (Nat.le_of_ble_eq_true rfl) rfl ?_
      refine V_hp ?_ (loop2 3000 (cI m o) 0 20 _ none (by omega) (by omega) (cI_c0 m o) (by have := cI_pot m o; omega) (cI_pot m o) (by omega) rfl (by unfold adC; omega) rfl)
      rw [us_ne _ _ (show (28 : Nat) ≠ 31 by decide)]
  have loop1 : ∀ (n k : Nat), k + n = 24 → V G mX6_adds x 2 [some (rf G 28), some (.int (iI (m : Int))), some (.int (iI (o : Int))), some (.int (iI (k : Int))), none, none] [] 34 false (HP G (us K 31 (cIk (K 31) m o k)) r) 0 0 := by
    intro n
    induction n with
    | zero =>
      intro k e
      refine V_iload_n C dX6_adds_2 rfl rfl ?_
      refine V_bipush C dX6_adds_3 (by decide +kernel) ?_
      refine V_icmp_ge (tgt := 31) C dX6_adds_5 (by decide) (by omega) (by omega) (fun q5 => ?_) (fun q5 => by exfalso; omega)
      exact k1 k (by omega)
    | succ n ih =>
      intro k e
      have ek : ((k : Int)).toNat = k := by omega
      have b1 := b1_le m k
      have b9 := b1_le o k
      refine V_iload_n C dX6_adds_2 rfl rfl ?_
      refine V_bipush C dX6_adds_3 (by decide +kernel) ?_
      refine V_icmp_ge (tgt := 31) C dX6_adds_5 (by decide) (by omega) (by omega) (fun q5 => by exfalso; omega) (fun q5 => ?_)
      refine V_aload_n C dX6_adds_8 rfl rfl ?_
      refine V_getH (L := mOl G) C dX6_adds_9 fX6_16 (by decide) (fun _ => rfl) rfl ?_
      refine V_iload_n C dX6_adds_12 rfl rfl ?_
      refine V_iload_n C dX6_adds_13 rfl rfl ?_
      refine V_iload_n C dX6_adds_14 rfl rfl ?_
      refine V_ishr C dX6_adds_15 m k (by first | rfl | omega) (by first | rfl | omega) (by omega) (by omega) ?_
      refine V_iconst C dX6_adds_16 ?_
      refine V_iand C dX6_adds_17 (m >>> k) 1 (by first | rfl | omega) (by first | rfl | omega) ?_
      refine V_iload_n C dX6_adds_18 rfl rfl ?_
      refine V_iload_n C dX6_adds_19 rfl rfl ?_
      refine V_ishr C dX6_adds_20 o k (by first | rfl | omega) (by first | rfl | omega) (by omega) (by omega) ?_
      refine V_iconst C dX6_adds_21 ?_
      refine V_iand C dX6_adds_22 (o >>> k) 1 (by first | rfl | omega) (by first | rfl | omega) ?_
      refine V_iadd C dX6_adds_23 ?_
      refine V_iastH C dX6_adds_24 (by decide) (fun _ => rfl) (by omega) (by decide) ?_
      refine V_iinc C dX6_adds_25 rfl (Nat.le_of_ble_eq_true rfl) rfl ?_
      refine V_goto (tgt := 2) C dX6_adds_28 (by decide) ?_
      refine V_hp ?_ (ih (k + 1) (by omega))
      rw [ek, us_us, us_at, cIk_s]
  refine V_iconst C dX6_adds_0 ?_
  refine V_istore_n C dX6_adds_1 rfl (Nat.le_of_ble_eq_true rfl) rfl ?_
  refine V_hp ?_ (loop1 24 0 (by omega))
  rw [cIk_0, us_same]

