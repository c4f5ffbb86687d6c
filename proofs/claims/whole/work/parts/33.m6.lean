theorem b2_T : b2 true = 1 := rfl
theorem b2_F : b2 false = 0 := rfl
set_option maxRecDepth 100000 in
set_option maxHeartbeats 4000000 in
theorem c_X6_isAt (G : GT) (K : Nat → Nat → Int) (r : Nat → Option Nat) (T a : Nat) (p q : Int) (hT : K 28 5 = T) (h60 : T ≤ 60) (haT : a ≤ T) (ht : ∀ j, j < T → 33 ≤ K 30 j ∧ K 30 j ≤ 126) (lo hi : Int) (hlo : -2147483648 ≤ lo ∧ lo < 2147483648) (hhi : -2147483648 ≤ hi ∧ hi < 2147483648) : CtO G yX6_isAt mX6_isAt [rf G 28, .int (iI lo), .int (iI hi)] (Wq K a p q) r (some (.int (iI (b2 (iA (K 30) T lo hi a))))) (Wq K a p q) r := by
  refine Ct_of kX6_isAt.1.1 (by decide) [some (rf G 28), some (.int (iI lo)), some (.int (iI hi))] rfl (Nat.le_of_ble_eq_true rfl) ?_
  intro x C hZ
  have ea : ((a : Nat) : Int).toNat = a := by omega
  by_cases h : a < T
  · have g := ht a h
    by_cases c : lo ≤ K 30 a ∧ K 30 a ≤ hi
    · have e : b2 (decide (lo ≤ K 30 a ∧ K 30 a ≤ hi)) = 1 := by rw [decide_eq_true c]; rfl
      refine V_aload_n C dX6_isAt_0 rfl rfl ?_
      refine V_getH (L := mOl G) C dX6_isAt_1 fX6_108 (by decide) (fun _ => rfl) rfl ?_
      rw [Wq_6]
      refine V_aload_n C dX6_isAt_4 rfl rfl ?_
      refine V_getH (L := mOl G) C dX6_isAt_5 fX6_105 (by decide) (fun _ => rfl) rfl ?_
      rw [Wq_5, hT]
      refine V_icmp_ge (tgt := 32) C dX6_isAt_8 (by decide) (by omega) (by omega) (fun q8 => by exfalso; omega) (fun q8 => ?_)
      refine V_aload_n C dX6_isAt_11 rfl rfl ?_
      refine V_getH (L := mOl G) C dX6_isAt_12 fX6_13 (by decide) (fun _ => rfl) rfl ?_
      refine V_aload_n C dX6_isAt_15 rfl rfl ?_
      refine V_getH (L := mOl G) C dX6_isAt_16 fX6_108 (by decide) (fun _ => rfl) rfl ?_
      rw [Wq_6]
      refine V_ialdH C dX6_isAt_19 (by decide) (fun _ => rfl) (by omega) (by decide) ?_
      rw [Wq_30, ea]
      refine V_iload_n C dX6_isAt_20 rfl rfl ?_
      refine V_iload_n C dX6_isAt_21 rfl rfl ?_
      refine V_S1 (k2 := 0) (s2 := 0) C dX6_isAt_22 lX6_57 kX6_in (c_X6_in (K 30 a) lo hi (by omega) hlo hhi G 34 false _) rfl rfl ⟨Nat.le_of_ble_eq_true rfl, Nat.le_of_ble_eq_true rfl⟩ (Nat.le_of_ble_eq_true rfl) (Nat.le_refl _) (Nat.le_refl _) ?_
      rw [e]
      refine V_if_eq (tgt := 32) C dX6_isAt_25 (by decide) (by omega) (fun q25 => by exfalso; omega) (fun q25 => ?_)
      refine V_iconst C dX6_isAt_28 ?_
      refine V_goto (tgt := 33) C dX6_isAt_29 (by decide) ?_
      exact V_zret C dX6_isAt_33 rfl hZ (b2_01 _) (by rw [iA_T ⟨h, c⟩]; rfl) rfl
    · have e : b2 (decide (lo ≤ K 30 a ∧ K 30 a ≤ hi)) = 0 := by rw [decide_eq_false c]; rfl
      refine V_aload_n C dX6_isAt_0 rfl rfl ?_
      refine V_getH (L := mOl G) C dX6_isAt_1 fX6_108 (by decide) (fun _ => rfl) rfl ?_
      rw [Wq_6]
      refine V_aload_n C dX6_isAt_4 rfl rfl ?_
      refine V_getH (L := mOl G) C dX6_isAt_5 fX6_105 (by decide) (fun _ => rfl) rfl ?_
      rw [Wq_5, hT]
      refine V_icmp_ge (tgt := 32) C dX6_isAt_8 (by decide) (by omega) (by omega) (fun q8 => by exfalso; omega) (fun q8 => ?_)
      refine V_aload_n C dX6_isAt_11 rfl rfl ?_
      refine V_getH (L := mOl G) C dX6_isAt_12 fX6_13 (by decide) (fun _ => rfl) rfl ?_
      refine V_aload_n C dX6_isAt_15 rfl rfl ?_
      refine V_getH (L := mOl G) C dX6_isAt_16 fX6_108 (by decide) (fun _ => rfl) rfl ?_
      rw [Wq_6]
      refine V_ialdH C dX6_isAt_19 (by decide) (fun _ => rfl) (by omega) (by decide) ?_
      rw [Wq_30, ea]
      refine V_iload_n C dX6_isAt_20 rfl rfl ?_
      refine V_iload_n C dX6_isAt_21 rfl rfl ?_
      refine V_S1 (k2 := 0) (s2 := 0) C dX6_isAt_22 lX6_57 kX6_in (c_X6_in (K 30 a) lo hi (by omega) hlo hhi G 34 false _) rfl rfl ⟨Nat.le_of_ble_eq_true rfl, Nat.le_of_ble_eq_true rfl⟩ (Nat.le_of_ble_eq_true rfl) (Nat.le_refl _) (Nat.le_refl _) ?_
      rw [e]
      refine V_if_eq (tgt := 32) C dX6_isAt_25 (by decide) (by omega) (fun q25 => ?_) (fun q25 => by exfalso; omega)
      refine V_iconst C dX6_isAt_32 ?_
      exact V_zret C dX6_isAt_33 rfl hZ (b2_01 _) (by rw [iA_F (fun w => c w.2)]; rfl) rfl
  · skip
    refine V_aload_n C dX6_isAt_0 rfl rfl ?_
    refine V_getH (L := mOl G) C dX6_isAt_1 fX6_108 (by decide) (fun _ => rfl) rfl ?_
    rw [Wq_6]
    refine V_aload_n C dX6_isAt_4 rfl rfl ?_
    refine V_getH (L := mOl G) C dX6_isAt_5 fX6_105 (by decide) (fun _ => rfl) rfl ?_
    rw [Wq_5, hT]
    refine V_icmp_ge (tgt := 32) C dX6_isAt_8 (by decide) (by omega) (by omega) (fun q8 => ?_) (fun q8 => by exfalso; omega)
    refine V_iconst C dX6_isAt_32 ?_
    exact V_zret C dX6_isAt_33 rfl hZ (b2_01 _) (by rw [iA_F (fun w => h w.1)]; rfl) rfl
theorem c_X6_isAt_t (G : GT) (K : Nat → Nat → Int) (r : Nat → Option Nat) (T a : Nat) (p q : Int) (hT : K 28 5 = T) (h60 : T ≤ 60) (haT : a ≤ T) (ht : ∀ j, j < T → 33 ≤ K 30 j ∧ K 30 j ≤ 126) (lo hi : Int) (hlo : -2147483648 ≤ lo ∧ lo < 2147483648) (hhi : -2147483648 ≤ hi ∧ hi < 2147483648) (hb : iA (K 30) T lo hi a = true) : CtO G yX6_isAt mX6_isAt [rf G 28, .int (iI lo), .int (iI hi)] (Wq K a p q) r (some (.int (iI 1))) (Wq K a p q) r := by
  have := c_X6_isAt G K r T a p q hT h60 haT ht lo hi hlo hhi
  rw [hb] at this
  exact this
theorem c_X6_isAt_f (G : GT) (K : Nat → Nat → Int) (r : Nat → Option Nat) (T a : Nat) (p q : Int) (hT : K 28 5 = T) (h60 : T ≤ 60) (haT : a ≤ T) (ht : ∀ j, j < T → 33 ≤ K 30 j ∧ K 30 j ≤ 126) (lo hi : Int) (hlo : -2147483648 ≤ lo ∧ lo < 2147483648) (hhi : -2147483648 ≤ hi ∧ hi < 2147483648) (hb : iA (K 30) T lo hi a = false) : CtO G yX6_isAt mX6_isAt [rf G 28, .int (iI lo), .int (iI hi)] (Wq K a p q) r (some (.int (iI 0))) (Wq K a p q) r := by
  have := c_X6_isAt G K r T a p q hT h60 haT ht lo hi hlo hhi
  rw [hb] at this
  exact this
set_option maxRecDepth 100000 in
set_option maxHeartbeats 4000000 in
theorem c_X6_sign (G : GT) (K : Nat → Nat → Int) (r : Nat → Option Nat) (T a : Nat) (p q : Int) (hT : K 28 5 = T) (h60 : T ≤ 60) (haT : a ≤ T) (ht : ∀ j, j < T → 33 ≤ K 30 j ∧ K 30 j ≤ 126) (c : Int) (hc : 0 ≤ c ∧ c < 1000) : CtO G yX6_sign mX6_sign [rf G 28, .int (iI c)] (Wq K a p q) r (some (.int (iI (b2 (iA (K 30) T c c a))))) (Wq K (if iA (K 30) T c c a = true then a + 1 else a : Nat) p q) r := by
  refine Ct_of kX6_sign.1.1 (by decide) [some (rf G 28), some (.int (iI c)), none] rfl (Nat.le_of_ble_eq_true rfl) ?_
  intro x C hZ
  by_cases c1 : iA (K 30) T c c a = true
  · skip
    refine V_aload_n C dX6_sign_0 rfl rfl ?_
    refine V_iload_n C dX6_sign_1 rfl rfl ?_
    refine V_iload_n C dX6_sign_2 rfl rfl ?_
    refine V_V1 (k2 := 0) (s2 := 0) C dX6_sign_3 lX6_111 kX6_isAt (c_X6_isAt_t G K r T a p q hT h60 (by omega) ht c c (by omega) (by omega) c1) (by decide) (rfl) rfl rfl rfl ⟨Nat.le_of_ble_eq_true rfl, Nat.le_of_ble_eq_true rfl⟩ (Nat.le_of_ble_eq_true rfl) (Nat.le_refl _) (Nat.le_refl _) ?_
    refine V_istore_n C dX6_sign_6 rfl (Nat.le_of_ble_eq_true rfl) rfl ?_
    refine V_aload_n C dX6_sign_7 rfl rfl ?_
    refine V_dup C dX6_sign_8 rfl ?_
    refine V_getH (L := mOl G) C dX6_sign_9 fX6_108 (by decide) (fun _ => rfl) rfl ?_
    rw [Wq_6]
    refine V_iload_n C dX6_sign_12 rfl rfl ?_
    refine V_if_eq (tgt := 20) C dX6_sign_13 (by decide) (by omega) (fun q13 => by exfalso; omega) (fun q13 => ?_)
    refine V_iconst C dX6_sign_16 ?_
    refine V_goto (tgt := 21) C dX6_sign_17 (by decide) ?_
    refine V_iadd C dX6_sign_21 ?_
    refine V_putH (L := mOl G) (ty := .int) C dX6_sign_22 fX6_108 (by decide) (fun _ => rfl) rfl (by decide +kernel) (rfl) (rfl) (Nat.le_of_ble_eq_true rfl) rfl ?_
    rw [Wq_p6]
    refine V_iload_n C dX6_sign_25 rfl rfl ?_
    exact V_zret C dX6_sign_26 rfl hZ (b2_01 _) (by rw [c1]; rfl) (by rw [if_pos c1]; rfl)
  · have c2 : iA (K 30) T c c a = false := Bool.eq_false_iff.2 c1
    refine V_aload_n C dX6_sign_0 rfl rfl ?_
    refine V_iload_n C dX6_sign_1 rfl rfl ?_
    refine V_iload_n C dX6_sign_2 rfl rfl ?_
    refine V_V1 (k2 := 0) (s2 := 0) C dX6_sign_3 lX6_111 kX6_isAt (c_X6_isAt_f G K r T a p q hT h60 (by omega) ht c c (by omega) (by omega) c2) (by decide) (rfl) rfl rfl rfl ⟨Nat.le_of_ble_eq_true rfl, Nat.le_of_ble_eq_true rfl⟩ (Nat.le_of_ble_eq_true rfl) (Nat.le_refl _) (Nat.le_refl _) ?_
    refine V_istore_n C dX6_sign_6 rfl (Nat.le_of_ble_eq_true rfl) rfl ?_
    refine V_aload_n C dX6_sign_7 rfl rfl ?_
    refine V_dup C dX6_sign_8 rfl ?_
    refine V_getH (L := mOl G) C dX6_sign_9 fX6_108 (by decide) (fun _ => rfl) rfl ?_
    rw [Wq_6]
    refine V_iload_n C dX6_sign_12 rfl rfl ?_
    refine V_if_eq (tgt := 20) C dX6_sign_13 (by decide) (by omega) (fun q13 => ?_) (fun q13 => by exfalso; omega)
    refine V_iconst C dX6_sign_20 ?_
    refine V_iadd C dX6_sign_21 ?_
    refine V_putH (L := mOl G) (ty := .int) C dX6_sign_22 fX6_108 (by decide) (fun _ => rfl) rfl (by decide +kernel) (rfl) (rfl) (Nat.le_of_ble_eq_true rfl) rfl ?_
    rw [Wq_p6]
    refine V_iload_n C dX6_sign_25 rfl rfl ?_
    exact V_zret C dX6_sign_26 rfl hZ (b2_01 _) (by rw [c2]; rfl) (by rw [if_neg c1, Int.add_zero])
theorem c_X6_sign_t (G : GT) (K : Nat → Nat → Int) (r : Nat → Option Nat) (T a : Nat) (p q : Int) (hT : K 28 5 = T) (h60 : T ≤ 60) (haT : a ≤ T) (ht : ∀ j, j < T → 33 ≤ K 30 j ∧ K 30 j ≤ 126) (c : Int) (hc : 0 ≤ c ∧ c < 1000) (hb : iA (K 30) T c c a = true) : CtO G yX6_sign mX6_sign [rf G 28, .int (iI c)] (Wq K a p q) r (some (.int (iI 1))) (Wq K (a + 1 : Nat) p q) r := by
  have := c_X6_sign G K r T a p q hT h60 haT ht c hc
  rw [hb] at this
  exact this
theorem c_X6_sign_f (G : GT) (K : Nat → Nat → Int) (r : Nat → Option Nat) (T a : Nat) (p q : Int) (hT : K 28 5 = T) (h60 : T ≤ 60) (haT : a ≤ T) (ht : ∀ j, j < T → 33 ≤ K 30 j ∧ K 30 j ≤ 126) (c : Int) (hc : 0 ≤ c ∧ c < 1000) (hb : iA (K 30) T c c a = false) : CtO G yX6_sign mX6_sign [rf G 28, .int (iI c)] (Wq K a p q) r (some (.int (iI 0))) (Wq K (a : Nat) p q) r := by
  have := c_X6_sign G K r T a p q hT h60 haT ht c hc
  rw [hb] at this
  exact this
set_option maxRecDepth 100000 in
set_option maxHeartbeats 4000000 in
theorem c_X6_number (G : GT) (K : Nat → Nat → Int) (r : Nat → Option Nat) (T a : Nat) (p q : Int) (hT : K 28 5 = T) (h60 : T ≤ 60) (haT : a ≤ T) (ht : ∀ j, j < T → 33 ≤ K 30 j ∧ K 30 j ≤ 126) (least most : Int) (hl : 0 ≤ least ∧ least ≤ 1) (hm : 5 ≤ most ∧ most ≤ 6764) : CtO G yX6_number mX6_number [rf G 28, .int (iI least), .int (iI most)] (Wq K a p q) r (some (.int (iI (nu (K 30) T least most a).1))) (Wq K ((nu (K 30) T least most a).2 : Nat) p q) r := by
  refine Ct_of kX6_number.1.1 (by decide) [some (rf G 28), some (.int (iI least)), some (.int (iI most)), none, none] rfl (Nat.le_of_ble_eq_true rfl) ?_
  intro x C hZ
  have ea : ((a : Nat) : Int).toNat = a := by omega
  have loop : ∀ (f : Nat) (v : Int) (a5 : Nat) (o3 : Int), a5 + f = T → 0 ≤ v → v ≤ most → nuL (K 30) T most f v a5 = nu (K 30) T least most a → V G mX6_number x 64 [some (rf G 28), some (.int (iI least)), some (.int (iI most)), some (.int (iI o3)), some (.int (iI v))] [] 34 false (HP G (Wq K a5 p q) r) 0 0 := by
    intro f
    induction f with
    | zero =>
      intro v a5 o3 e h0 h1 hE
      simp only [nuL] at hE
      have ci : iA (K 30) T 48 57 a5 = false := iA_F (by omega)
      by_cases hv : 0 < v
      · skip
        refine V_iload C dX6_number_64 rfl ?_
        refine V_if_le (tgt := 135) C dX6_number_66 (by decide) (by omega) (fun q66 => by exfalso; omega) (fun q66 => ?_)
        refine V_aload_n C dX6_number_69 rfl rfl ?_
        refine V_bipush C dX6_number_70 (by decide +kernel) ?_
        refine V_bipush C dX6_number_72 (by decide +kernel) ?_
        refine V_V1 (k2 := 0) (s2 := 0) C dX6_number_74 lX6_111 kX6_isAt (c_X6_isAt_f G K r T a5 p q hT h60 (by omega) ht 48 57 (by omega) (by omega) ci) (by decide) (rfl) rfl rfl rfl ⟨Nat.le_of_ble_eq_true rfl, Nat.le_of_ble_eq_true rfl⟩ (Nat.le_of_ble_eq_true rfl) (Nat.le_refl _) (Nat.le_refl _) ?_
        refine V_if_eq (tgt := 135) C dX6_number_77 (by decide) (by omega) (fun q77 => ?_) (fun q77 => by exfalso; omega)
        refine V_iload C dX6_number_135 rfl ?_
        exact V_iret C dX6_number_137 rfl hZ (by rw [← hE]) (by rw [← hE])
      · skip
        refine V_iload C dX6_number_64 rfl ?_
        refine V_if_le (tgt := 135) C dX6_number_66 (by decide) (by omega) (fun q66 => ?_) (fun q66 => by exfalso; omega)
        refine V_iload C dX6_number_135 rfl ?_
        exact V_iret C dX6_number_137 rfl hZ (by rw [← hE]) (by rw [← hE])
    | succ f ih =>
      intro v a5 o3 e h0 h1 hE
      have ea5 : ((a5 : Nat) : Int).toNat = a5 := by omega
      simp only [nuL] at hE
      by_cases hv : 0 < v
      · by_cases ci : iA (K 30) T 48 57 a5 = true
        · have g2 := iA_t ci
          by_cases cm : 10 * v + K 30 a5 - 48 ≤ most
          · rw [if_pos ⟨hv, ci, cm⟩] at hE
            refine V_iload C dX6_number_64 rfl ?_
            refine V_if_le (tgt := 135) C dX6_number_66 (by decide) (by omega) (fun q66 => by exfalso; omega) (fun q66 => ?_)
            refine V_aload_n C dX6_number_69 rfl rfl ?_
            refine V_bipush C dX6_number_70 (by decide +kernel) ?_
            refine V_bipush C dX6_number_72 (by decide +kernel) ?_
            refine V_V1 (k2 := 0) (s2 := 0) C dX6_number_74 lX6_111 kX6_isAt (c_X6_isAt_t G K r T a5 p q hT h60 (by omega) ht 48 57 (by omega) (by omega) ci) (by decide) (rfl) rfl rfl rfl ⟨Nat.le_of_ble_eq_true rfl, Nat.le_of_ble_eq_true rfl⟩ (Nat.le_of_ble_eq_true rfl) (Nat.le_refl _) (Nat.le_refl _) ?_
            refine V_if_eq (tgt := 135) C dX6_number_77 (by decide) (by omega) (fun q77 => by exfalso; omega) (fun q77 => ?_)
            refine V_bipush C dX6_number_80 (by decide +kernel) ?_
            refine V_iload C dX6_number_82 rfl ?_
            refine V_imul C dX6_number_84 ?_
            refine V_aload_n C dX6_number_85 rfl rfl ?_
            refine V_getH (L := mOl G) C dX6_number_86 fX6_13 (by decide) (fun _ => rfl) rfl ?_
            refine V_aload_n C dX6_number_89 rfl rfl ?_
            refine V_getH (L := mOl G) C dX6_number_90 fX6_108 (by decide) (fun _ => rfl) rfl ?_
            rw [Wq_6]
            refine V_ialdH C dX6_number_93 (by decide) (fun _ => rfl) (by omega) (by decide) ?_
            rw [Wq_30, ea5]
            refine V_iadd C dX6_number_94 ?_
            refine V_bipush C dX6_number_95 (by decide +kernel) ?_
            refine V_isub C dX6_number_97 ?_
            refine V_iload_n C dX6_number_98 rfl rfl ?_
            refine V_icmp_gt (tgt := 135) C dX6_number_99 (by decide) (by omega) (by omega) (fun q99 => by exfalso; omega) (fun q99 => ?_)
            refine V_bipush C dX6_number_102 (by decide +kernel) ?_
            refine V_iload C dX6_number_104 rfl ?_
            refine V_imul C dX6_number_106 ?_
            refine V_aload_n C dX6_number_107 rfl rfl ?_
            refine V_getH (L := mOl G) C dX6_number_108 fX6_13 (by decide) (fun _ => rfl) rfl ?_
            refine V_aload_n C dX6_number_111 rfl rfl ?_
            refine V_getH (L := mOl G) C dX6_number_112 fX6_108 (by decide) (fun _ => rfl) rfl ?_
            rw [Wq_6]
            refine V_ialdH C dX6_number_115 (by decide) (fun _ => rfl) (by omega) (by decide) ?_
            rw [Wq_30, ea5]
            refine V_iadd C dX6_number_116 ?_
            refine V_bipush C dX6_number_117 (by decide +kernel) ?_
            refine V_isub C dX6_number_119 ?_
            refine V_istore C dX6_number_120 (Nat.le_of_ble_eq_true rfl) rfl ?_
            refine V_aload_n C dX6_number_122 rfl rfl ?_
            refine V_dup C dX6_number_123 rfl ?_
            refine V_getH (L := mOl G) C dX6_number_124 fX6_108 (by decide) (fun _ => rfl) rfl ?_
            rw [Wq_6]
            refine V_iconst C dX6_number_127 ?_
            refine V_iadd C dX6_number_128 ?_
            refine V_putH (L := mOl G) (ty := .int) C dX6_number_129 fX6_108 (by decide) (fun _ => rfl) rfl (by decide +kernel) (rfl) (rfl) (Nat.le_of_ble_eq_true rfl) rfl ?_
            rw [Wq_p6]
            refine V_goto (tgt := 64) C dX6_number_132 (by decide) ?_
            exact ih _ (a5 + 1) _ (by omega) (by omega) (by omega) hE
          · rw [if_neg (fun w => cm w.2.2)] at hE
            refine V_iload C dX6_number_64 rfl ?_
            refine V_if_le (tgt := 135) C dX6_number_66 (by decide) (by omega) (fun q66 => by exfalso; omega) (fun q66 => ?_)
            refine V_aload_n C dX6_number_69 rfl rfl ?_
            refine V_bipush C dX6_number_70 (by decide +kernel) ?_
            refine V_bipush C dX6_number_72 (by decide +kernel) ?_
            refine V_V1 (k2 := 0) (s2 := 0) C dX6_number_74 lX6_111 kX6_isAt (c_X6_isAt_t G K r T a5 p q hT h60 (by omega) ht 48 57 (by omega) (by omega) ci) (by decide) (rfl) rfl rfl rfl ⟨Nat.le_of_ble_eq_true rfl, Nat.le_of_ble_eq_true rfl⟩ (Nat.le_of_ble_eq_true rfl) (Nat.le_refl _) (Nat.le_refl _) ?_
            refine V_if_eq (tgt := 135) C dX6_number_77 (by decide) (by omega) (fun q77 => by exfalso; omega) (fun q77 => ?_)
            refine V_bipush C dX6_number_80 (by decide +kernel) ?_
            refine V_iload C dX6_number_82 rfl ?_
            refine V_imul C dX6_number_84 ?_
            refine V_aload_n C dX6_number_85 rfl rfl ?_
            refine V_getH (L := mOl G) C dX6_number_86 fX6_13 (by decide) (fun _ => rfl) rfl ?_
            refine V_aload_n C dX6_number_89 rfl rfl ?_
            refine V_getH (L := mOl G) C dX6_number_90 fX6_108 (by decide) (fun _ => rfl) rfl ?_
            rw [Wq_6]
            refine V_ialdH C dX6_number_93 (by decide) (fun _ => rfl) (by omega) (by decide) ?_
            rw [Wq_30, ea5]
            refine V_iadd C dX6_number_94 ?_
            refine V_bipush C dX6_number_95 (by decide +kernel) ?_
            refine V_isub C dX6_number_97 ?_
            refine V_iload_n C dX6_number_98 rfl rfl ?_
            refine V_icmp_gt (tgt := 135) C dX6_number_99 (by decide) (by omega) (by omega) (fun q99 => ?_) (fun q99 => by exfalso; omega)
            refine V_iload C dX6_number_135 rfl ?_
            exact V_iret C dX6_number_137 rfl hZ (by rw [← hE]) (by rw [← hE])
        · rw [if_neg (fun w => ci w.2.1)] at hE
          have ci := Bool.eq_false_iff.2 ci
          refine V_iload C dX6_number_64 rfl ?_
          refine V_if_le (tgt := 135) C dX6_number_66 (by decide) (by omega) (fun q66 => by exfalso; omega) (fun q66 => ?_)
          refine V_aload_n C dX6_number_69 rfl rfl ?_
          refine V_bipush C dX6_number_70 (by decide +kernel) ?_
          refine V_bipush C dX6_number_72 (by decide +kernel) ?_
          refine V_V1 (k2 := 0) (s2 := 0) C dX6_number_74 lX6_111 kX6_isAt (c_X6_isAt_f G K r T a5 p q hT h60 (by omega) ht 48 57 (by omega) (by omega) ci) (by decide) (rfl) rfl rfl rfl ⟨Nat.le_of_ble_eq_true rfl, Nat.le_of_ble_eq_true rfl⟩ (Nat.le_of_ble_eq_true rfl) (Nat.le_refl _) (Nat.le_refl _) ?_
          refine V_if_eq (tgt := 135) C dX6_number_77 (by decide) (by omega) (fun q77 => ?_) (fun q77 => by exfalso; omega)
          refine V_iload C dX6_number_135 rfl ?_
          exact V_iret C dX6_number_137 rfl hZ (by rw [← hE]) (by rw [← hE])
      · rw [if_neg (fun w => hv w.1)] at hE
        refine V_iload C dX6_number_64 rfl ?_
        refine V_if_le (tgt := 135) C dX6_number_66 (by decide) (by omega) (fun q66 => ?_) (fun q66 => by exfalso; omega)
        refine V_iload C dX6_number_135 rfl ?_
        exact V_iret C dX6_number_137 rfl hZ (by rw [← hE]) (by rw [← hE])
  have main : ∀ (hi : Int), hi = 48 + (if most < 9 then most else 9) → V G mX6_number x 20 [some (rf G 28), some (.int (iI least)), some (.int (iI most)), none, none] [.int (iI hi), .int (iI (48 + least)), rf G 28] 34 false (HP G (Wq K a p q) r) 0 0 := by
    intro hi ehi
    have hi2 : 53 ≤ hi ∧ hi ≤ 57 := by split at ehi <;> omega
    by_cases c1 : iA (K 30) T (48 + least) hi a = true
    · have hE : nu (K 30) T least most a = nuL (K 30) T most (T - (a + 1)) (K 30 a - 48) (a + 1) := by unfold nu; rw [← ehi, if_pos c1]
      have g2 := iA_t c1
      have g3 : hi - 48 ≤ most := by split at ehi <;> omega
      refine V_V1 (k2 := 0) (s2 := 0) C dX6_number_20 lX6_111 kX6_isAt (c_X6_isAt_t G K r T a p q hT h60 (by omega) ht (48 + least) hi (by omega) (by omega) c1) (by decide) (rfl) rfl rfl rfl ⟨Nat.le_of_ble_eq_true rfl, Nat.le_of_ble_eq_true rfl⟩ (Nat.le_of_ble_eq_true rfl) (Nat.le_refl _) (Nat.le_refl _) ?_
      refine V_istore_n C dX6_number_23 rfl (Nat.le_of_ble_eq_true rfl) rfl ?_
      refine V_iload_n C dX6_number_24 rfl rfl ?_
      refine V_if_eq (tgt := 43) C dX6_number_25 (by decide) (by omega) (fun q25 => by exfalso; omega) (fun q25 => ?_)
      refine V_aload_n C dX6_number_28 rfl rfl ?_
      refine V_getH (L := mOl G) C dX6_number_29 fX6_13 (by decide) (fun _ => rfl) rfl ?_
      refine V_aload_n C dX6_number_32 rfl rfl ?_
      refine V_getH (L := mOl G) C dX6_number_33 fX6_108 (by decide) (fun _ => rfl) rfl ?_
      rw [Wq_6]
      refine V_ialdH C dX6_number_36 (by decide) (fun _ => rfl) (by omega) (by decide) ?_
      rw [Wq_30, ea]
      refine V_bipush C dX6_number_37 (by decide +kernel) ?_
      refine V_isub C dX6_number_39 ?_
      refine V_goto (tgt := 44) C dX6_number_40 (by decide) ?_
      refine V_istore C dX6_number_44 (Nat.le_of_ble_eq_true rfl) rfl ?_
      refine V_aload_n C dX6_number_46 rfl rfl ?_
      refine V_dup C dX6_number_47 rfl ?_
      refine V_getH (L := mOl G) C dX6_number_48 fX6_108 (by decide) (fun _ => rfl) rfl ?_
      rw [Wq_6]
      refine V_iload_n C dX6_number_51 rfl rfl ?_
      refine V_if_eq (tgt := 59) C dX6_number_52 (by decide) (by omega) (fun q52 => by exfalso; omega) (fun q52 => ?_)
      refine V_iconst C dX6_number_55 ?_
      refine V_goto (tgt := 60) C dX6_number_56 (by decide) ?_
      refine V_iadd C dX6_number_60 ?_
      refine V_putH (L := mOl G) (ty := .int) C dX6_number_61 fX6_108 (by decide) (fun _ => rfl) rfl (by decide +kernel) (rfl) (rfl) (Nat.le_of_ble_eq_true rfl) rfl ?_
      rw [Wq_p6]
      exact loop (T - (a + 1)) _ (a + 1) _ (by omega) (by omega) (by omega) hE.symm
    · have hE : (-1, a) = nu (K 30) T least most a := by unfold nu; rw [← ehi, if_neg c1]
      have c1 := Bool.eq_false_iff.2 c1
      refine V_V1 (k2 := 0) (s2 := 0) C dX6_number_20 lX6_111 kX6_isAt (c_X6_isAt_f G K r T a p q hT h60 (by omega) ht (48 + least) hi (by omega) (by omega) c1) (by decide) (rfl) rfl rfl rfl ⟨Nat.le_of_ble_eq_true rfl, Nat.le_of_ble_eq_true rfl⟩ (Nat.le_of_ble_eq_true rfl) (Nat.le_refl _) (Nat.le_refl _) ?_
      refine V_istore_n C dX6_number_23 rfl (Nat.le_of_ble_eq_true rfl) rfl ?_
      refine V_iload_n C dX6_number_24 rfl rfl ?_
      refine V_if_eq (tgt := 43) C dX6_number_25 (by decide) (by omega) (fun q25 => ?_) (fun q25 => by exfalso; omega)
      refine V_iconst C dX6_number_43 ?_
      refine V_istore C dX6_number_44 (Nat.le_of_ble_eq_true rfl) rfl ?_
      refine V_aload_n C dX6_number_46 rfl rfl ?_
      refine V_dup C dX6_number_47 rfl ?_
      refine V_getH (L := mOl G) C dX6_number_48 fX6_108 (by decide) (fun _ => rfl) rfl ?_
      rw [Wq_6]
      refine V_iload_n C dX6_number_51 rfl rfl ?_
      refine V_if_eq (tgt := 59) C dX6_number_52 (by decide) (by omega) (fun q52 => ?_) (fun q52 => by exfalso; omega)
      refine V_iconst C dX6_number_59 ?_
      refine V_iadd C dX6_number_60 ?_
      refine V_putH (L := mOl G) (ty := .int) C dX6_number_61 fX6_108 (by decide) (fun _ => rfl) rfl (by decide +kernel) (rfl) (rfl) (Nat.le_of_ble_eq_true rfl) rfl ?_
      rw [Wq_p6, Int.add_zero]
      refine V_iload C dX6_number_64 rfl ?_
      refine V_if_le (tgt := 135) C dX6_number_66 (by decide) (by omega) (fun q66 => ?_) (fun q66 => by exfalso; omega)
      refine V_iload C dX6_number_135 rfl ?_
      exact V_iret C dX6_number_137 rfl hZ (by rw [← hE]) (by rw [← hE])
  refine V_aload_n C dX6_number_0 rfl rfl ?_
  refine V_bipush C dX6_number_1 (by decide +kernel) ?_
  refine V_iload_n C dX6_number_3 rfl rfl ?_
  refine V_iadd C dX6_number_4 ?_
  refine V_bipush C dX6_number_5 (by decide +kernel) ?_
  refine V_iload_n C dX6_number_7 rfl rfl ?_
  refine V_bipush C dX6_number_8 (by decide +kernel) ?_
  refine V_icmp_ge (tgt := 17) C dX6_number_10 (by decide) (by omega) (by omega) (fun q10 => ?_) (fun q10 => ?_)
  · refine V_bipush C dX6_number_17 (by decide +kernel) ?_
    refine V_iadd C dX6_number_19 ?_
    exact main _ (by first | rw [if_pos (by omega)] | rw [if_neg (by omega)])
  · refine V_iload_n C dX6_number_13 rfl rfl ?_
    refine V_goto (tgt := 19) C dX6_number_14 (by decide) ?_
    refine V_iadd C dX6_number_19 ?_
    exact main _ (by first | rw [if_pos (by omega)] | rw [if_neg (by omega)])
