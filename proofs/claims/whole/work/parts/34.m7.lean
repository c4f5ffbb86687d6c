set_option maxRecDepth 100000 in
set_option maxHeartbeats 4000000 in
theorem c_X6_part (G : GT) (K : Nat → Nat → Int) (r : Nat → Option Nat) (T a : Nat) (p q : Int) (hT : K 28 5 = T) (h60 : T ≤ 60) (haT : a ≤ T) (ht : ∀ j, j < T → 33 ≤ K 30 j ∧ K 30 j ≤ 126)  : CtO G yX6_part mX6_part [rf G 28] (Wq K a p q) r (some (.int (iI (pt (K 30) T a).1))) (Wq K ((pt (K 30) T a).2.2.2 : Nat) (pt (K 30) T a).2.1 (pz (K 30) T q a)) r := by
  refine Ct_of kX6_part.1.1 (by decide) [some (rf G 28), none, none] rfl (Nat.le_of_ble_eq_true rfl) ?_
  intro x C hZ
  have ea : ((a : Nat) : Int).toNat = a := by omega
  by_cases c1 : iA (K 30) T 115 115 a = true
  · have g2 := iA_t c1
    have eP : pt (K 30) T a = (if 0 < (nu (K 30) T 1 6764 (a + 1)).1 then 115 else 32, (nu (K 30) T 1 6764 (a + 1)).1, 0, (nu (K 30) T 1 6764 (a + 1)).2) := by unfold pt; rw [if_pos c1]
    have hz : pz (K 30) T q a = q := by unfold pz; rw [if_pos (.inl c1)]
    have b := nu_b (t := K 30) (T := T) (least := 1) (most := 6764) (a := a + 1) (by omega) (by decide) (by decide)
    refine V_aload_n C dX6_part_0 rfl rfl ?_
    refine V_bipush C dX6_part_1 (by decide +kernel) ?_
    refine V_V1 (k2 := 0) (s2 := 0) C dX6_part_3 lX6_115 kX6_sign (c_X6_sign_t G K r T (a) p q hT h60 (by omega) ht 115 (by omega) c1) (by decide) (rfl) rfl rfl rfl ⟨Nat.le_of_ble_eq_true rfl, Nat.le_of_ble_eq_true rfl⟩ (Nat.le_of_ble_eq_true rfl) (Nat.le_refl _) (Nat.le_refl _) ?_
    refine V_if_eq (tgt := 36) C dX6_part_6 (by decide) (by omega) (fun q6 => by exfalso; omega) (fun q6 => ?_)
    refine V_aload_n C dX6_part_9 rfl rfl ?_
    refine V_aload_n C dX6_part_10 rfl rfl ?_
    refine V_iconst C dX6_part_11 ?_
    refine V_sipush C dX6_part_12 (by decide +kernel) ?_
    refine V_V1 (k2 := 0) (s2 := 0) C dX6_part_15 lX6_118 kX6_number (c_X6_number G K r T (a + 1) p q hT h60 (by omega) ht 1 6764 (by omega) (by omega)) (by decide) (rfl) rfl rfl rfl ⟨Nat.le_of_ble_eq_true rfl, Nat.le_of_ble_eq_true rfl⟩ (Nat.le_of_ble_eq_true rfl) (Nat.le_refl _) (Nat.le_refl _) ?_
    refine V_putH (L := mOl G) (ty := .int) C dX6_part_18 fX6_121 (by decide) (fun _ => rfl) rfl (by decide +kernel) (rfl) (rfl) (Nat.le_of_ble_eq_true rfl) rfl ?_
    rw [Wq_p7]
    refine V_aload_n C dX6_part_21 rfl rfl ?_
    refine V_getH (L := mOl G) C dX6_part_22 fX6_121 (by decide) (fun _ => rfl) rfl ?_
    rw [Wq_7]
    refine V_if_le (tgt := 33) C dX6_part_25 (by decide) (by omega) (fun q25 => ?_) (fun q25 => ?_)
    · refine V_bipush C dX6_part_33 (by decide +kernel) ?_
      exact V_iret C dX6_part_35 rfl hZ (by rw [eP]; show _ = if _ then _ else _; first | (rw [if_pos (by omega)]) | (rw [if_neg (by omega)])) (by rw [eP, hz])
    · refine V_bipush C dX6_part_28 (by decide +kernel) ?_
      refine V_goto (tgt := 35) C dX6_part_30 (by decide) ?_
      exact V_iret C dX6_part_35 rfl hZ (by rw [eP]; show _ = if _ then _ else _; first | (rw [if_pos (by omega)]) | (rw [if_neg (by omega)])) (by rw [eP, hz])
  by_cases c2 : iA (K 30) T 102 102 a = true
  · have g2 := iA_t c2
    have eP : pt (K 30) T a = (if 0 ≤ (nu (K 30) T 0 63 (a + 1)).1 then 102 else 32, (nu (K 30) T 0 63 (a + 1)).1, 0, (nu (K 30) T 0 63 (a + 1)).2) := by unfold pt; rw [if_neg c1, if_pos c2]
    have hz : pz (K 30) T q a = q := by unfold pz; rw [if_pos (.inr c2)]
    have b := nu_b (t := K 30) (T := T) (least := 0) (most := 63) (a := a + 1) (by omega) (by decide) (by decide)
    have c1 := Bool.eq_false_iff.2 c1
    refine V_aload_n C dX6_part_0 rfl rfl ?_
    refine V_bipush C dX6_part_1 (by decide +kernel) ?_
    refine V_V1 (k2 := 0) (s2 := 0) C dX6_part_3 lX6_115 kX6_sign (c_X6_sign_f G K r T (a) p q hT h60 (by omega) ht 115 (by omega) c1) (by decide) (rfl) rfl rfl rfl ⟨Nat.le_of_ble_eq_true rfl, Nat.le_of_ble_eq_true rfl⟩ (Nat.le_of_ble_eq_true rfl) (Nat.le_refl _) (Nat.le_refl _) ?_
    refine V_if_eq (tgt := 36) C dX6_part_6 (by decide) (by omega) (fun q6 => ?_) (fun q6 => by exfalso; omega)
    refine V_aload_n C dX6_part_36 rfl rfl ?_
    refine V_bipush C dX6_part_37 (by decide +kernel) ?_
    refine V_V1 (k2 := 0) (s2 := 0) C dX6_part_39 lX6_115 kX6_sign (c_X6_sign_t G K r T (a) p q hT h60 (by omega) ht 102 (by omega) c2) (by decide) (rfl) rfl rfl rfl ⟨Nat.le_of_ble_eq_true rfl, Nat.le_of_ble_eq_true rfl⟩ (Nat.le_of_ble_eq_true rfl) (Nat.le_refl _) (Nat.le_refl _) ?_
    refine V_if_eq (tgt := 71) C dX6_part_42 (by decide) (by omega) (fun q42 => by exfalso; omega) (fun q42 => ?_)
    refine V_aload_n C dX6_part_45 rfl rfl ?_
    refine V_aload_n C dX6_part_46 rfl rfl ?_
    refine V_iconst C dX6_part_47 ?_
    refine V_bipush C dX6_part_48 (by decide +kernel) ?_
    refine V_V1 (k2 := 0) (s2 := 0) C dX6_part_50 lX6_118 kX6_number (c_X6_number G K r T (a + 1) p q hT h60 (by omega) ht 0 63 (by omega) (by omega)) (by decide) (rfl) rfl rfl rfl ⟨Nat.le_of_ble_eq_true rfl, Nat.le_of_ble_eq_true rfl⟩ (Nat.le_of_ble_eq_true rfl) (Nat.le_refl _) (Nat.le_refl _) ?_
    refine V_putH (L := mOl G) (ty := .int) C dX6_part_53 fX6_121 (by decide) (fun _ => rfl) rfl (by decide +kernel) (rfl) (rfl) (Nat.le_of_ble_eq_true rfl) rfl ?_
    rw [Wq_p7]
    refine V_aload_n C dX6_part_56 rfl rfl ?_
    refine V_getH (L := mOl G) C dX6_part_57 fX6_121 (by decide) (fun _ => rfl) rfl ?_
    rw [Wq_7]
    refine V_if_lt (tgt := 68) C dX6_part_60 (by decide) (by omega) (fun q60 => ?_) (fun q60 => ?_)
    · refine V_bipush C dX6_part_68 (by decide +kernel) ?_
      exact V_iret C dX6_part_70 rfl hZ (by rw [eP]; show _ = if _ then _ else _; first | (rw [if_pos (by omega)]) | (rw [if_neg (by omega)])) (by rw [eP, hz])
    · refine V_bipush C dX6_part_63 (by decide +kernel) ?_
      refine V_goto (tgt := 70) C dX6_part_65 (by decide) ?_
      exact V_iret C dX6_part_70 rfl hZ (by rw [eP]; show _ = if _ then _ else _; first | (rw [if_pos (by omega)]) | (rw [if_neg (by omega)])) (by rw [eP, hz])
  have hz : pz (K 30) T q a = (pt (K 30) T a).2.2.1 := by unfold pz; rw [if_neg (fun w => w.elim c1 c2)]
  by_cases c3 : iA (K 30) T 48 53 a = true
  · have g2 := iA_t c3
    by_cases c4 : a + 1 < T
    · have g4 := ht (a + 1) c4
      by_cases c5 : K 30 (a + 1) = 61 ∨ K 30 (a + 1) = 43 ∨ K 30 (a + 1) = 45 ∨ K 30 (a + 1) = 94
      · by_cases c6 : K 30 (a + 1) = 94
        · have eP : pt (K 30) T a = (94, K 30 a - 48, 0, a + 2) := by unfold pt; rw [if_neg c1, if_neg c2, if_pos c3, if_pos ⟨c4, c5⟩, if_pos c6]
          have c1 := Bool.eq_false_iff.2 c1
          have c2 := Bool.eq_false_iff.2 c2
          refine V_aload_n C dX6_part_0 rfl rfl ?_
          refine V_bipush C dX6_part_1 (by decide +kernel) ?_
          refine V_V1 (k2 := 0) (s2 := 0) C dX6_part_3 lX6_115 kX6_sign (c_X6_sign_f G K r T (a) p q hT h60 (by omega) ht 115 (by omega) c1) (by decide) (rfl) rfl rfl rfl ⟨Nat.le_of_ble_eq_true rfl, Nat.le_of_ble_eq_true rfl⟩ (Nat.le_of_ble_eq_true rfl) (Nat.le_refl _) (Nat.le_refl _) ?_
          refine V_if_eq (tgt := 36) C dX6_part_6 (by decide) (by omega) (fun q6 => ?_) (fun q6 => by exfalso; omega)
          refine V_aload_n C dX6_part_36 rfl rfl ?_
          refine V_bipush C dX6_part_37 (by decide +kernel) ?_
          refine V_V1 (k2 := 0) (s2 := 0) C dX6_part_39 lX6_115 kX6_sign (c_X6_sign_f G K r T (a) p q hT h60 (by omega) ht 102 (by omega) c2) (by decide) (rfl) rfl rfl rfl ⟨Nat.le_of_ble_eq_true rfl, Nat.le_of_ble_eq_true rfl⟩ (Nat.le_of_ble_eq_true rfl) (Nat.le_refl _) (Nat.le_refl _) ?_
          refine V_if_eq (tgt := 71) C dX6_part_42 (by decide) (by omega) (fun q42 => ?_) (fun q42 => by exfalso; omega)
          refine V_aload_n C dX6_part_71 rfl rfl ?_
          refine V_aload_n C dX6_part_72 rfl rfl ?_
          refine V_bipush C dX6_part_73 (by decide +kernel) ?_
          refine V_bipush C dX6_part_75 (by decide +kernel) ?_
          refine V_V1 (k2 := 0) (s2 := 0) C dX6_part_77 lX6_111 kX6_isAt (c_X6_isAt_t G K r T (a) p q hT h60 (by omega) ht 48 53 (by omega) (by omega) c3) (by decide) (rfl) rfl rfl rfl ⟨Nat.le_of_ble_eq_true rfl, Nat.le_of_ble_eq_true rfl⟩ (Nat.le_of_ble_eq_true rfl) (Nat.le_refl _) (Nat.le_refl _) ?_
          refine V_if_eq (tgt := 98) C dX6_part_80 (by decide) (by omega) (fun q80 => by exfalso; omega) (fun q80 => ?_)
          refine V_aload_n C dX6_part_83 rfl rfl ?_
          refine V_getH (L := mOl G) C dX6_part_84 fX6_13 (by decide) (fun _ => rfl) rfl ?_
          refine V_aload_n C dX6_part_87 rfl rfl ?_
          refine V_getH (L := mOl G) C dX6_part_88 fX6_108 (by decide) (fun _ => rfl) rfl ?_
          rw [Wq_6]
          refine V_ialdH C dX6_part_91 (by decide) (fun _ => rfl) (by omega) (by decide) ?_
          rw [Wq_30, ea]
          refine V_bipush C dX6_part_92 (by decide +kernel) ?_
          refine V_isub C dX6_part_94 ?_
          refine V_goto (tgt := 99) C dX6_part_95 (by decide) ?_
          refine V_putH (L := mOl G) (ty := .int) C dX6_part_99 fX6_121 (by decide) (fun _ => rfl) rfl (by decide +kernel) (rfl) (rfl) (Nat.le_of_ble_eq_true rfl) rfl ?_
          rw [Wq_p7]
          refine V_aload_n C dX6_part_102 rfl rfl ?_
          refine V_dup C dX6_part_103 rfl ?_
          refine V_getH (L := mOl G) C dX6_part_104 fX6_108 (by decide) (fun _ => rfl) rfl ?_
          rw [Wq_6]
          refine V_aload_n C dX6_part_107 rfl rfl ?_
          refine V_getH (L := mOl G) C dX6_part_108 fX6_121 (by decide) (fun _ => rfl) rfl ?_
          rw [Wq_7]
          refine V_if_lt (tgt := 118) C dX6_part_111 (by decide) (by omega) (fun q111 => by exfalso; omega) (fun q111 => ?_)
          refine V_iconst C dX6_part_114 ?_
          refine V_goto (tgt := 119) C dX6_part_115 (by decide) ?_
          refine V_iadd C dX6_part_119 ?_
          refine V_putH (L := mOl G) (ty := .int) C dX6_part_120 fX6_108 (by decide) (fun _ => rfl) rfl (by decide +kernel) (rfl) (rfl) (Nat.le_of_ble_eq_true rfl) rfl ?_
          rw [Wq_p6]
          refine V_aload_n C dX6_part_123 rfl rfl ?_
          refine V_getH (L := mOl G) C dX6_part_124 fX6_121 (by decide) (fun _ => rfl) rfl ?_
          rw [Wq_7]
          refine V_if_lt (tgt := 153) C dX6_part_127 (by decide) (by omega) (fun q127 => by exfalso; omega) (fun q127 => ?_)
          refine V_aload_n C dX6_part_130 rfl rfl ?_
          refine V_getH (L := mOl G) C dX6_part_131 fX6_108 (by decide) (fun _ => rfl) rfl ?_
          rw [Wq_6]
          refine V_aload_n C dX6_part_134 rfl rfl ?_
          refine V_getH (L := mOl G) C dX6_part_135 fX6_105 (by decide) (fun _ => rfl) rfl ?_
          rw [Wq_5, hT]
          refine V_icmp_ge (tgt := 153) C dX6_part_138 (by decide) (by omega) (by omega) (fun q138 => by exfalso; omega) (fun q138 => ?_)
          refine V_aload_n C dX6_part_141 rfl rfl ?_
          refine V_getH (L := mOl G) C dX6_part_142 fX6_13 (by decide) (fun _ => rfl) rfl ?_
          refine V_aload_n C dX6_part_145 rfl rfl ?_
          refine V_getH (L := mOl G) C dX6_part_146 fX6_108 (by decide) (fun _ => rfl) rfl ?_
          rw [Wq_6]
          refine V_ialdH C dX6_part_149 (by decide) (fun _ => rfl) (by omega) (by decide) ?_
          rw [Wq_30, show ((a : Int) + 1).toNat = a + 1 by omega]
          refine V_goto (tgt := 155) C dX6_part_150 (by decide) ?_
          refine V_istore_n C dX6_part_155 rfl (Nat.le_of_ble_eq_true rfl) rfl ?_
          refine V_iload_n C dX6_part_156 rfl rfl ?_
          refine V_bipush C dX6_part_157 (by decide +kernel) ?_
          refine V_icmp_eq (tgt := 180) C dX6_part_159 (by decide) (by omega) (by omega) (fun q159 => by exfalso; omega) (fun q159 => ?_)
          refine V_iload_n C dX6_part_162 rfl rfl ?_
          refine V_bipush C dX6_part_163 (by decide +kernel) ?_
          refine V_icmp_eq (tgt := 180) C dX6_part_165 (by decide) (by omega) (by omega) (fun q165 => by exfalso; omega) (fun q165 => ?_)
          refine V_iload_n C dX6_part_168 rfl rfl ?_
          refine V_bipush C dX6_part_169 (by decide +kernel) ?_
          refine V_icmp_eq (tgt := 180) C dX6_part_171 (by decide) (by omega) (by omega) (fun q171 => by exfalso; omega) (fun q171 => ?_)
          refine V_iload_n C dX6_part_174 rfl rfl ?_
          refine V_bipush C dX6_part_175 (by decide +kernel) ?_
          refine V_icmp_ne (tgt := 184) C dX6_part_177 (by decide) (by omega) (by omega) (fun q177 => by exfalso; omega) (fun q177 => ?_)
          refine V_iconst C dX6_part_180 ?_
          refine V_goto (tgt := 185) C dX6_part_181 (by decide) ?_
          refine V_istore_n C dX6_part_185 rfl (Nat.le_of_ble_eq_true rfl) rfl ?_
          refine V_aload_n C dX6_part_186 rfl rfl ?_
          refine V_dup C dX6_part_187 rfl ?_
          refine V_getH (L := mOl G) C dX6_part_188 fX6_108 (by decide) (fun _ => rfl) rfl ?_
          rw [Wq_6]
          refine V_iload_n C dX6_part_191 rfl rfl ?_
          refine V_if_eq (tgt := 199) C dX6_part_192 (by decide) (by omega) (fun q192 => by exfalso; omega) (fun q192 => ?_)
          refine V_iconst C dX6_part_195 ?_
          refine V_goto (tgt := 200) C dX6_part_196 (by decide) ?_
          refine V_iadd C dX6_part_200 ?_
          refine V_putH (L := mOl G) (ty := .int) C dX6_part_201 fX6_108 (by decide) (fun _ => rfl) rfl (by decide +kernel) (rfl) (rfl) (Nat.le_of_ble_eq_true rfl) rfl ?_
          rw [Wq_p6]
          refine V_aload_n C dX6_part_204 rfl rfl ?_
          refine V_iload_n C dX6_part_205 rfl rfl ?_
          refine V_if_ne (tgt := 213) C dX6_part_206 (by decide) (by omega) (fun q206 => ?_) (fun q206 => by exfalso; omega)
          refine V_iload_n C dX6_part_213 rfl rfl ?_
          refine V_bipush C dX6_part_214 (by decide +kernel) ?_
          refine V_icmp_ne (tgt := 223) C dX6_part_216 (by decide) (by omega) (by omega) (fun q216 => by exfalso; omega) (fun q216 => ?_)
          refine V_iconst C dX6_part_219 ?_
          refine V_goto (tgt := 241) C dX6_part_220 (by decide) ?_
          refine V_putH (L := mOl G) (ty := .int) C dX6_part_241 fX6_124 (by decide) (fun _ => rfl) rfl (by decide +kernel) (rfl) (rfl) (Nat.le_of_ble_eq_true rfl) rfl ?_
          rw [Wq_p8]
          refine V_aload_n C dX6_part_244 rfl rfl ?_
          refine V_getH (L := mOl G) C dX6_part_245 fX6_124 (by decide) (fun _ => rfl) rfl ?_
          rw [Wq_8]
          refine V_if_lt (tgt := 255) C dX6_part_248 (by decide) (by omega) (fun q248 => by exfalso; omega) (fun q248 => ?_)
          refine V_iload_n C dX6_part_251 rfl rfl ?_
          refine V_goto (tgt := 257) C dX6_part_252 (by decide) ?_
          exact V_iret C dX6_part_257 rfl hZ (by rw [eP]; exact c6) (by rw [hz, eP]; rfl)
        · have eP : pt (K 30) T a = (if 0 ≤ (nu (K 30) T 0 (if K 30 (a + 1) = 61 then 6764 else 5) (a + 2)).1 then K 30 (a + 1) else 32, K 30 a - 48, (nu (K 30) T 0 (if K 30 (a + 1) = 61 then 6764 else 5) (a + 2)).1, (nu (K 30) T 0 (if K 30 (a + 1) = 61 then 6764 else 5) (a + 2)).2) := by unfold pt; rw [if_neg c1, if_neg c2, if_pos c3, if_pos ⟨c4, c5⟩, if_neg c6]
          have c1 := Bool.eq_false_iff.2 c1
          have c2 := Bool.eq_false_iff.2 c2
          rcases (show K 30 (a + 1) = 61 ∨ K 30 (a + 1) = 43 ∨ K 30 (a + 1) = 45 by omega) with c7 | c7 | c7
          · rw [if_pos c7] at eP
            have b := nu_b (t := K 30) (T := T) (least := 0) (most := 6764) (a := a + 2) (by omega) (by decide) (by decide)
            refine V_aload_n C dX6_part_0 rfl rfl ?_
            refine V_bipush C dX6_part_1 (by decide +kernel) ?_
            refine V_V1 (k2 := 0) (s2 := 0) C dX6_part_3 lX6_115 kX6_sign (c_X6_sign_f G K r T (a) p q hT h60 (by omega) ht 115 (by omega) c1) (by decide) (rfl) rfl rfl rfl ⟨Nat.le_of_ble_eq_true rfl, Nat.le_of_ble_eq_true rfl⟩ (Nat.le_of_ble_eq_true rfl) (Nat.le_refl _) (Nat.le_refl _) ?_
            refine V_if_eq (tgt := 36) C dX6_part_6 (by decide) (by omega) (fun q6 => ?_) (fun q6 => by exfalso; omega)
            refine V_aload_n C dX6_part_36 rfl rfl ?_
            refine V_bipush C dX6_part_37 (by decide +kernel) ?_
            refine V_V1 (k2 := 0) (s2 := 0) C dX6_part_39 lX6_115 kX6_sign (c_X6_sign_f G K r T (a) p q hT h60 (by omega) ht 102 (by omega) c2) (by decide) (rfl) rfl rfl rfl ⟨Nat.le_of_ble_eq_true rfl, Nat.le_of_ble_eq_true rfl⟩ (Nat.le_of_ble_eq_true rfl) (Nat.le_refl _) (Nat.le_refl _) ?_
            refine V_if_eq (tgt := 71) C dX6_part_42 (by decide) (by omega) (fun q42 => ?_) (fun q42 => by exfalso; omega)
            refine V_aload_n C dX6_part_71 rfl rfl ?_
            refine V_aload_n C dX6_part_72 rfl rfl ?_
            refine V_bipush C dX6_part_73 (by decide +kernel) ?_
            refine V_bipush C dX6_part_75 (by decide +kernel) ?_
            refine V_V1 (k2 := 0) (s2 := 0) C dX6_part_77 lX6_111 kX6_isAt (c_X6_isAt_t G K r T (a) p q hT h60 (by omega) ht 48 53 (by omega) (by omega) c3) (by decide) (rfl) rfl rfl rfl ⟨Nat.le_of_ble_eq_true rfl, Nat.le_of_ble_eq_true rfl⟩ (Nat.le_of_ble_eq_true rfl) (Nat.le_refl _) (Nat.le_refl _) ?_
            refine V_if_eq (tgt := 98) C dX6_part_80 (by decide) (by omega) (fun q80 => by exfalso; omega) (fun q80 => ?_)
            refine V_aload_n C dX6_part_83 rfl rfl ?_
            refine V_getH (L := mOl G) C dX6_part_84 fX6_13 (by decide) (fun _ => rfl) rfl ?_
            refine V_aload_n C dX6_part_87 rfl rfl ?_
            refine V_getH (L := mOl G) C dX6_part_88 fX6_108 (by decide) (fun _ => rfl) rfl ?_
            rw [Wq_6]
            refine V_ialdH C dX6_part_91 (by decide) (fun _ => rfl) (by omega) (by decide) ?_
            rw [Wq_30, ea]
            refine V_bipush C dX6_part_92 (by decide +kernel) ?_
            refine V_isub C dX6_part_94 ?_
            refine V_goto (tgt := 99) C dX6_part_95 (by decide) ?_
            refine V_putH (L := mOl G) (ty := .int) C dX6_part_99 fX6_121 (by decide) (fun _ => rfl) rfl (by decide +kernel) (rfl) (rfl) (Nat.le_of_ble_eq_true rfl) rfl ?_
            rw [Wq_p7]
            refine V_aload_n C dX6_part_102 rfl rfl ?_
            refine V_dup C dX6_part_103 rfl ?_
            refine V_getH (L := mOl G) C dX6_part_104 fX6_108 (by decide) (fun _ => rfl) rfl ?_
            rw [Wq_6]
            refine V_aload_n C dX6_part_107 rfl rfl ?_
            refine V_getH (L := mOl G) C dX6_part_108 fX6_121 (by decide) (fun _ => rfl) rfl ?_
            rw [Wq_7]
            refine V_if_lt (tgt := 118) C dX6_part_111 (by decide) (by omega) (fun q111 => by exfalso; omega) (fun q111 => ?_)
            refine V_iconst C dX6_part_114 ?_
            refine V_goto (tgt := 119) C dX6_part_115 (by decide) ?_
            refine V_iadd C dX6_part_119 ?_
            refine V_putH (L := mOl G) (ty := .int) C dX6_part_120 fX6_108 (by decide) (fun _ => rfl) rfl (by decide +kernel) (rfl) (rfl) (Nat.le_of_ble_eq_true rfl) rfl ?_
            rw [Wq_p6]
            refine V_aload_n C dX6_part_123 rfl rfl ?_
            refine V_getH (L := mOl G) C dX6_part_124 fX6_121 (by decide) (fun _ => rfl) rfl ?_
            rw [Wq_7]
            refine V_if_lt (tgt := 153) C dX6_part_127 (by decide) (by omega) (fun q127 => by exfalso; omega) (fun q127 => ?_)
            refine V_aload_n C dX6_part_130 rfl rfl ?_
            refine V_getH (L := mOl G) C dX6_part_131 fX6_108 (by decide) (fun _ => rfl) rfl ?_
            rw [Wq_6]
            refine V_aload_n C dX6_part_134 rfl rfl ?_
            refine V_getH (L := mOl G) C dX6_part_135 fX6_105 (by decide) (fun _ => rfl) rfl ?_
            rw [Wq_5, hT]
            refine V_icmp_ge (tgt := 153) C dX6_part_138 (by decide) (by omega) (by omega) (fun q138 => by exfalso; omega) (fun q138 => ?_)
            refine V_aload_n C dX6_part_141 rfl rfl ?_
            refine V_getH (L := mOl G) C dX6_part_142 fX6_13 (by decide) (fun _ => rfl) rfl ?_
            refine V_aload_n C dX6_part_145 rfl rfl ?_
            refine V_getH (L := mOl G) C dX6_part_146 fX6_108 (by decide) (fun _ => rfl) rfl ?_
            rw [Wq_6]
            refine V_ialdH C dX6_part_149 (by decide) (fun _ => rfl) (by omega) (by decide) ?_
            rw [Wq_30, show ((a : Int) + 1).toNat = a + 1 by omega]
            refine V_goto (tgt := 155) C dX6_part_150 (by decide) ?_
            refine V_istore_n C dX6_part_155 rfl (Nat.le_of_ble_eq_true rfl) rfl ?_
            refine V_iload_n C dX6_part_156 rfl rfl ?_
            refine V_bipush C dX6_part_157 (by decide +kernel) ?_
            refine V_icmp_eq (tgt := 180) C dX6_part_159 (by decide) (by omega) (by omega) (fun q159 => ?_) (fun q159 => by exfalso; omega)
            refine V_iconst C dX6_part_180 ?_
            refine V_goto (tgt := 185) C dX6_part_181 (by decide) ?_
            refine V_istore_n C dX6_part_185 rfl (Nat.le_of_ble_eq_true rfl) rfl ?_
            refine V_aload_n C dX6_part_186 rfl rfl ?_
            refine V_dup C dX6_part_187 rfl ?_
            refine V_getH (L := mOl G) C dX6_part_188 fX6_108 (by decide) (fun _ => rfl) rfl ?_
            rw [Wq_6]
            refine V_iload_n C dX6_part_191 rfl rfl ?_
            refine V_if_eq (tgt := 199) C dX6_part_192 (by decide) (by omega) (fun q192 => by exfalso; omega) (fun q192 => ?_)
            refine V_iconst C dX6_part_195 ?_
            refine V_goto (tgt := 200) C dX6_part_196 (by decide) ?_
            refine V_iadd C dX6_part_200 ?_
            refine V_putH (L := mOl G) (ty := .int) C dX6_part_201 fX6_108 (by decide) (fun _ => rfl) rfl (by decide +kernel) (rfl) (rfl) (Nat.le_of_ble_eq_true rfl) rfl ?_
            rw [Wq_p6]
            refine V_aload_n C dX6_part_204 rfl rfl ?_
            refine V_iload_n C dX6_part_205 rfl rfl ?_
            refine V_if_ne (tgt := 213) C dX6_part_206 (by decide) (by omega) (fun q206 => ?_) (fun q206 => by exfalso; omega)
            refine V_iload_n C dX6_part_213 rfl rfl ?_
            refine V_bipush C dX6_part_214 (by decide +kernel) ?_
            refine V_icmp_ne (tgt := 223) C dX6_part_216 (by decide) (by omega) (by omega) (fun q216 => ?_) (fun q216 => by exfalso; omega)
            refine V_aload_n C dX6_part_223 rfl rfl ?_
            refine V_iconst C dX6_part_224 ?_
            refine V_iload_n C dX6_part_225 rfl rfl ?_
            refine V_bipush C dX6_part_226 (by decide +kernel) ?_
            refine V_icmp_ne (tgt := 237) C dX6_part_228 (by decide) (by omega) (by omega) (fun q228 => by exfalso; omega) (fun q228 => ?_)
            refine V_sipush C dX6_part_231 (by decide +kernel) ?_
            refine V_goto (tgt := 238) C dX6_part_234 (by decide) ?_
            refine V_V1 (k2 := 0) (s2 := 0) C dX6_part_238 lX6_118 kX6_number (c_X6_number G K r T (a + 2) (K 30 a - 48) q hT h60 (by omega) ht 0 6764 (by omega) (by omega)) (by decide) (rfl) rfl rfl rfl ⟨Nat.le_of_ble_eq_true rfl, Nat.le_of_ble_eq_true rfl⟩ (Nat.le_of_ble_eq_true rfl) (Nat.le_refl _) (Nat.le_refl _) ?_
            refine V_putH (L := mOl G) (ty := .int) C dX6_part_241 fX6_124 (by decide) (fun _ => rfl) rfl (by decide +kernel) (rfl) (rfl) (Nat.le_of_ble_eq_true rfl) rfl ?_
            rw [Wq_p8]
            refine V_aload_n C dX6_part_244 rfl rfl ?_
            refine V_getH (L := mOl G) C dX6_part_245 fX6_124 (by decide) (fun _ => rfl) rfl ?_
            rw [Wq_8]
            refine V_if_lt (tgt := 255) C dX6_part_248 (by decide) (by omega) (fun q248 => ?_) (fun q248 => ?_)
            · refine V_bipush C dX6_part_255 (by decide +kernel) ?_
              exact V_iret C dX6_part_257 rfl hZ (by rw [eP]; show _ = if _ then _ else _; first | (rw [if_pos (by omega)]) | (rw [if_neg (by omega)])) (by rw [hz, eP])
            · refine V_iload_n C dX6_part_251 rfl rfl ?_
              refine V_goto (tgt := 257) C dX6_part_252 (by decide) ?_
              exact V_iret C dX6_part_257 rfl hZ (by rw [eP]; show _ = if _ then _ else _; first | (rw [if_pos (by omega)]) | (rw [if_neg (by omega)])) (by rw [hz, eP])
          · rw [if_neg (show ¬ K 30 (a + 1) = 61 by omega)] at eP
            have b := nu_b (t := K 30) (T := T) (least := 0) (most := 5) (a := a + 2) (by omega) (by decide) (by decide)
            refine V_aload_n C dX6_part_0 rfl rfl ?_
            refine V_bipush C dX6_part_1 (by decide +kernel) ?_
            refine V_V1 (k2 := 0) (s2 := 0) C dX6_part_3 lX6_115 kX6_sign (c_X6_sign_f G K r T (a) p q hT h60 (by omega) ht 115 (by omega) c1) (by decide) (rfl) rfl rfl rfl ⟨Nat.le_of_ble_eq_true rfl, Nat.le_of_ble_eq_true rfl⟩ (Nat.le_of_ble_eq_true rfl) (Nat.le_refl _) (Nat.le_refl _) ?_
            refine V_if_eq (tgt := 36) C dX6_part_6 (by decide) (by omega) (fun q6 => ?_) (fun q6 => by exfalso; omega)
            refine V_aload_n C dX6_part_36 rfl rfl ?_
            refine V_bipush C dX6_part_37 (by decide +kernel) ?_
            refine V_V1 (k2 := 0) (s2 := 0) C dX6_part_39 lX6_115 kX6_sign (c_X6_sign_f G K r T (a) p q hT h60 (by omega) ht 102 (by omega) c2) (by decide) (rfl) rfl rfl rfl ⟨Nat.le_of_ble_eq_true rfl, Nat.le_of_ble_eq_true rfl⟩ (Nat.le_of_ble_eq_true rfl) (Nat.le_refl _) (Nat.le_refl _) ?_
            refine V_if_eq (tgt := 71) C dX6_part_42 (by decide) (by omega) (fun q42 => ?_) (fun q42 => by exfalso; omega)
            refine V_aload_n C dX6_part_71 rfl rfl ?_
            refine V_aload_n C dX6_part_72 rfl rfl ?_
            refine V_bipush C dX6_part_73 (by decide +kernel) ?_
            refine V_bipush C dX6_part_75 (by decide +kernel) ?_
            refine V_V1 (k2 := 0) (s2 := 0) C dX6_part_77 lX6_111 kX6_isAt (c_X6_isAt_t G K r T (a) p q hT h60 (by omega) ht 48 53 (by omega) (by omega) c3) (by decide) (rfl) rfl rfl rfl ⟨Nat.le_of_ble_eq_true rfl, Nat.le_of_ble_eq_true rfl⟩ (Nat.le_of_ble_eq_true rfl) (Nat.le_refl _) (Nat.le_refl _) ?_
            refine V_if_eq (tgt := 98) C dX6_part_80 (by decide) (by omega) (fun q80 => by exfalso; omega) (fun q80 => ?_)
            refine V_aload_n C dX6_part_83 rfl rfl ?_
            refine V_getH (L := mOl G) C dX6_part_84 fX6_13 (by decide) (fun _ => rfl) rfl ?_
            refine V_aload_n C dX6_part_87 rfl rfl ?_
            refine V_getH (L := mOl G) C dX6_part_88 fX6_108 (by decide) (fun _ => rfl) rfl ?_
            rw [Wq_6]
            refine V_ialdH C dX6_part_91 (by decide) (fun _ => rfl) (by omega) (by decide) ?_
            rw [Wq_30, ea]
            refine V_bipush C dX6_part_92 (by decide +kernel) ?_
            refine V_isub C dX6_part_94 ?_
            refine V_goto (tgt := 99) C dX6_part_95 (by decide) ?_
            refine V_putH (L := mOl G) (ty := .int) C dX6_part_99 fX6_121 (by decide) (fun _ => rfl) rfl (by decide +kernel) (rfl) (rfl) (Nat.le_of_ble_eq_true rfl) rfl ?_
            rw [Wq_p7]
            refine V_aload_n C dX6_part_102 rfl rfl ?_
            refine V_dup C dX6_part_103 rfl ?_
            refine V_getH (L := mOl G) C dX6_part_104 fX6_108 (by decide) (fun _ => rfl) rfl ?_
            rw [Wq_6]
            refine V_aload_n C dX6_part_107 rfl rfl ?_
            refine V_getH (L := mOl G) C dX6_part_108 fX6_121 (by decide) (fun _ => rfl) rfl ?_
            rw [Wq_7]
            refine V_if_lt (tgt := 118) C dX6_part_111 (by decide) (by omega) (fun q111 => by exfalso; omega) (fun q111 => ?_)
            refine V_iconst C dX6_part_114 ?_
            refine V_goto (tgt := 119) C dX6_part_115 (by decide) ?_
            refine V_iadd C dX6_part_119 ?_
            refine V_putH (L := mOl G) (ty := .int) C dX6_part_120 fX6_108 (by decide) (fun _ => rfl) rfl (by decide +kernel) (rfl) (rfl) (Nat.le_of_ble_eq_true rfl) rfl ?_
            rw [Wq_p6]
            refine V_aload_n C dX6_part_123 rfl rfl ?_
            refine V_getH (L := mOl G) C dX6_part_124 fX6_121 (by decide) (fun _ => rfl) rfl ?_
            rw [Wq_7]
            refine V_if_lt (tgt := 153) C dX6_part_127 (by decide) (by omega) (fun q127 => by exfalso; omega) (fun q127 => ?_)
            refine V_aload_n C dX6_part_130 rfl rfl ?_
            refine V_getH (L := mOl G) C dX6_part_131 fX6_108 (by decide) (fun _ => rfl) rfl ?_
            rw [Wq_6]
            refine V_aload_n C dX6_part_134 rfl rfl ?_
            refine V_getH (L := mOl G) C dX6_part_135 fX6_105 (by decide) (fun _ => rfl) rfl ?_
            rw [Wq_5, hT]
            refine V_icmp_ge (tgt := 153) C dX6_part_138 (by decide) (by omega) (by omega) (fun q138 => by exfalso; omega) (fun q138 => ?_)
            refine V_aload_n C dX6_part_141 rfl rfl ?_
            refine V_getH (L := mOl G) C dX6_part_142 fX6_13 (by decide) (fun _ => rfl) rfl ?_
            refine V_aload_n C dX6_part_145 rfl rfl ?_
            refine V_getH (L := mOl G) C dX6_part_146 fX6_108 (by decide) (fun _ => rfl) rfl ?_
            rw [Wq_6]
            refine V_ialdH C dX6_part_149 (by decide) (fun _ => rfl) (by omega) (by decide) ?_
            rw [Wq_30, show ((a : Int) + 1).toNat = a + 1 by omega]
            refine V_goto (tgt := 155) C dX6_part_150 (by decide) ?_
            refine V_istore_n C dX6_part_155 rfl (Nat.le_of_ble_eq_true rfl) rfl ?_
            refine V_iload_n C dX6_part_156 rfl rfl ?_
            refine V_bipush C dX6_part_157 (by decide +kernel) ?_
            refine V_icmp_eq (tgt := 180) C dX6_part_159 (by decide) (by omega) (by omega) (fun q159 => by exfalso; omega) (fun q159 => ?_)
            refine V_iload_n C dX6_part_162 rfl rfl ?_
            refine V_bipush C dX6_part_163 (by decide +kernel) ?_
            refine V_icmp_eq (tgt := 180) C dX6_part_165 (by decide) (by omega) (by omega) (fun q165 => ?_) (fun q165 => by exfalso; omega)
            refine V_iconst C dX6_part_180 ?_
            refine V_goto (tgt := 185) C dX6_part_181 (by decide) ?_
            refine V_istore_n C dX6_part_185 rfl (Nat.le_of_ble_eq_true rfl) rfl ?_
            refine V_aload_n C dX6_part_186 rfl rfl ?_
            refine V_dup C dX6_part_187 rfl ?_
            refine V_getH (L := mOl G) C dX6_part_188 fX6_108 (by decide) (fun _ => rfl) rfl ?_
            rw [Wq_6]
            refine V_iload_n C dX6_part_191 rfl rfl ?_
            refine V_if_eq (tgt := 199) C dX6_part_192 (by decide) (by omega) (fun q192 => by exfalso; omega) (fun q192 => ?_)
            refine V_iconst C dX6_part_195 ?_
            refine V_goto (tgt := 200) C dX6_part_196 (by decide) ?_
            refine V_iadd C dX6_part_200 ?_
            refine V_putH (L := mOl G) (ty := .int) C dX6_part_201 fX6_108 (by decide) (fun _ => rfl) rfl (by decide +kernel) (rfl) (rfl) (Nat.le_of_ble_eq_true rfl) rfl ?_
            rw [Wq_p6]
            refine V_aload_n C dX6_part_204 rfl rfl ?_
            refine V_iload_n C dX6_part_205 rfl rfl ?_
            refine V_if_ne (tgt := 213) C dX6_part_206 (by decide) (by omega) (fun q206 => ?_) (fun q206 => by exfalso; omega)
            refine V_iload_n C dX6_part_213 rfl rfl ?_
            refine V_bipush C dX6_part_214 (by decide +kernel) ?_
            refine V_icmp_ne (tgt := 223) C dX6_part_216 (by decide) (by omega) (by omega) (fun q216 => ?_) (fun q216 => by exfalso; omega)
            refine V_aload_n C dX6_part_223 rfl rfl ?_
            refine V_iconst C dX6_part_224 ?_
            refine V_iload_n C dX6_part_225 rfl rfl ?_
            refine V_bipush C dX6_part_226 (by decide +kernel) ?_
            refine V_icmp_ne (tgt := 237) C dX6_part_228 (by decide) (by omega) (by omega) (fun q228 => ?_) (fun q228 => by exfalso; omega)
            refine V_iconst C dX6_part_237 ?_
            refine V_V1 (k2 := 0) (s2 := 0) C dX6_part_238 lX6_118 kX6_number (c_X6_number G K r T (a + 2) (K 30 a - 48) q hT h60 (by omega) ht 0 5 (by omega) (by omega)) (by decide) (rfl) rfl rfl rfl ⟨Nat.le_of_ble_eq_true rfl, Nat.le_of_ble_eq_true rfl⟩ (Nat.le_of_ble_eq_true rfl) (Nat.le_refl _) (Nat.le_refl _) ?_
            refine V_putH (L := mOl G) (ty := .int) C dX6_part_241 fX6_124 (by decide) (fun _ => rfl) rfl (by decide +kernel) (rfl) (rfl) (Nat.le_of_ble_eq_true rfl) rfl ?_
            rw [Wq_p8]
            refine V_aload_n C dX6_part_244 rfl rfl ?_
            refine V_getH (L := mOl G) C dX6_part_245 fX6_124 (by decide) (fun _ => rfl) rfl ?_
            rw [Wq_8]
            refine V_if_lt (tgt := 255) C dX6_part_248 (by decide) (by omega) (fun q248 => ?_) (fun q248 => ?_)
            · refine V_bipush C dX6_part_255 (by decide +kernel) ?_
              exact V_iret C dX6_part_257 rfl hZ (by rw [eP]; show _ = if _ then _ else _; first | (rw [if_pos (by omega)]) | (rw [if_neg (by omega)])) (by rw [hz, eP])
            · refine V_iload_n C dX6_part_251 rfl rfl ?_
              refine V_goto (tgt := 257) C dX6_part_252 (by decide) ?_
              exact V_iret C dX6_part_257 rfl hZ (by rw [eP]; show _ = if _ then _ else _; first | (rw [if_pos (by omega)]) | (rw [if_neg (by omega)])) (by rw [hz, eP])
          · rw [if_neg (show ¬ K 30 (a + 1) = 61 by omega)] at eP
            have b := nu_b (t := K 30) (T := T) (least := 0) (most := 5) (a := a + 2) (by omega) (by decide) (by decide)
            refine V_aload_n C dX6_part_0 rfl rfl ?_
            refine V_bipush C dX6_part_1 (by decide +kernel) ?_
            refine V_V1 (k2 := 0) (s2 := 0) C dX6_part_3 lX6_115 kX6_sign (c_X6_sign_f G K r T (a) p q hT h60 (by omega) ht 115 (by omega) c1) (by decide) (rfl) rfl rfl rfl ⟨Nat.le_of_ble_eq_true rfl, Nat.le_of_ble_eq_true rfl⟩ (Nat.le_of_ble_eq_true rfl) (Nat.le_refl _) (Nat.le_refl _) ?_
            refine V_if_eq (tgt := 36) C dX6_part_6 (by decide) (by omega) (fun q6 => ?_) (fun q6 => by exfalso; omega)
            refine V_aload_n C dX6_part_36 rfl rfl ?_
            refine V_bipush C dX6_part_37 (by decide +kernel) ?_
            refine V_V1 (k2 := 0) (s2 := 0) C dX6_part_39 lX6_115 kX6_sign (c_X6_sign_f G K r T (a) p q hT h60 (by omega) ht 102 (by omega) c2) (by decide) (rfl) rfl rfl rfl ⟨Nat.le_of_ble_eq_true rfl, Nat.le_of_ble_eq_true rfl⟩ (Nat.le_of_ble_eq_true rfl) (Nat.le_refl _) (Nat.le_refl _) ?_
            refine V_if_eq (tgt := 71) C dX6_part_42 (by decide) (by omega) (fun q42 => ?_) (fun q42 => by exfalso; omega)
            refine V_aload_n C dX6_part_71 rfl rfl ?_
            refine V_aload_n C dX6_part_72 rfl rfl ?_
            refine V_bipush C dX6_part_73 (by decide +kernel) ?_
            refine V_bipush C dX6_part_75 (by decide +kernel) ?_
            refine V_V1 (k2 := 0) (s2 := 0) C dX6_part_77 lX6_111 kX6_isAt (c_X6_isAt_t G K r T (a) p q hT h60 (by omega) ht 48 53 (by omega) (by omega) c3) (by decide) (rfl) rfl rfl rfl ⟨Nat.le_of_ble_eq_true rfl, Nat.le_of_ble_eq_true rfl⟩ (Nat.le_of_ble_eq_true rfl) (Nat.le_refl _) (Nat.le_refl _) ?_
            refine V_if_eq (tgt := 98) C dX6_part_80 (by decide) (by omega) (fun q80 => by exfalso; omega) (fun q80 => ?_)
            refine V_aload_n C dX6_part_83 rfl rfl ?_
            refine V_getH (L := mOl G) C dX6_part_84 fX6_13 (by decide) (fun _ => rfl) rfl ?_
            refine V_aload_n C dX6_part_87 rfl rfl ?_
            refine V_getH (L := mOl G) C dX6_part_88 fX6_108 (by decide) (fun _ => rfl) rfl ?_
            rw [Wq_6]
            refine V_ialdH C dX6_part_91 (by decide) (fun _ => rfl) (by omega) (by decide) ?_
            rw [Wq_30, ea]
            refine V_bipush C dX6_part_92 (by decide +kernel) ?_
            refine V_isub C dX6_part_94 ?_
            refine V_goto (tgt := 99) C dX6_part_95 (by decide) ?_
            refine V_putH (L := mOl G) (ty := .int) C dX6_part_99 fX6_121 (by decide) (fun _ => rfl) rfl (by decide +kernel) (rfl) (rfl) (Nat.le_of_ble_eq_true rfl) rfl ?_
            rw [Wq_p7]
            refine V_aload_n C dX6_part_102 rfl rfl ?_
            refine V_dup C dX6_part_103 rfl ?_
            refine V_getH (L := mOl G) C dX6_part_104 fX6_108 (by decide) (fun _ => rfl) rfl ?_
            rw [Wq_6]
            refine V_aload_n C dX6_part_107 rfl rfl ?_
            refine V_getH (L := mOl G) C dX6_part_108 fX6_121 (by decide) (fun _ => rfl) rfl ?_
            rw [Wq_7]
            refine V_if_lt (tgt := 118) C dX6_part_111 (by decide) (by omega) (fun q111 => by exfalso; omega) (fun q111 => ?_)
            refine V_iconst C dX6_part_114 ?_
            refine V_goto (tgt := 119) C dX6_part_115 (by decide) ?_
            refine V_iadd C dX6_part_119 ?_
            refine V_putH (L := mOl G) (ty := .int) C dX6_part_120 fX6_108 (by decide) (fun _ => rfl) rfl (by decide +kernel) (rfl) (rfl) (Nat.le_of_ble_eq_true rfl) rfl ?_
            rw [Wq_p6]
            refine V_aload_n C dX6_part_123 rfl rfl ?_
            refine V_getH (L := mOl G) C dX6_part_124 fX6_121 (by decide) (fun _ => rfl) rfl ?_
            rw [Wq_7]
            refine V_if_lt (tgt := 153) C dX6_part_127 (by decide) (by omega) (fun q127 => by exfalso; omega) (fun q127 => ?_)
            refine V_aload_n C dX6_part_130 rfl rfl ?_
            refine V_getH (L := mOl G) C dX6_part_131 fX6_108 (by decide) (fun _ => rfl) rfl ?_
            rw [Wq_6]
            refine V_aload_n C dX6_part_134 rfl rfl ?_
            refine V_getH (L := mOl G) C dX6_part_135 fX6_105 (by decide) (fun _ => rfl) rfl ?_
            rw [Wq_5, hT]
            refine V_icmp_ge (tgt := 153) C dX6_part_138 (by decide) (by omega) (by omega) (fun q138 => by exfalso; omega) (fun q138 => ?_)
            refine V_aload_n C dX6_part_141 rfl rfl ?_
            refine V_getH (L := mOl G) C dX6_part_142 fX6_13 (by decide) (fun _ => rfl) rfl ?_
            refine V_aload_n C dX6_part_145 rfl rfl ?_
            refine V_getH (L := mOl G) C dX6_part_146 fX6_108 (by decide) (fun _ => rfl) rfl ?_
            rw [Wq_6]
            refine V_ialdH C dX6_part_149 (by decide) (fun _ => rfl) (by omega) (by decide) ?_
            rw [Wq_30, show ((a : Int) + 1).toNat = a + 1 by omega]
            refine V_goto (tgt := 155) C dX6_part_150 (by decide) ?_
            refine V_istore_n C dX6_part_155 rfl (Nat.le_of_ble_eq_true rfl) rfl ?_
            refine V_iload_n C dX6_part_156 rfl rfl ?_
            refine V_bipush C dX6_part_157 (by decide +kernel) ?_
            refine V_icmp_eq (tgt := 180) C dX6_part_159 (by decide) (by omega) (by omega) (fun q159 => by exfalso; omega) (fun q159 => ?_)
            refine V_iload_n C dX6_part_162 rfl rfl ?_
            refine V_bipush C dX6_part_163 (by decide +kernel) ?_
            refine V_icmp_eq (tgt := 180) C dX6_part_165 (by decide) (by omega) (by omega) (fun q165 => by exfalso; omega) (fun q165 => ?_)
            refine V_iload_n C dX6_part_168 rfl rfl ?_
            refine V_bipush C dX6_part_169 (by decide +kernel) ?_
            refine V_icmp_eq (tgt := 180) C dX6_part_171 (by decide) (by omega) (by omega) (fun q171 => ?_) (fun q171 => by exfalso; omega)
            refine V_iconst C dX6_part_180 ?_
            refine V_goto (tgt := 185) C dX6_part_181 (by decide) ?_
            refine V_istore_n C dX6_part_185 rfl (Nat.le_of_ble_eq_true rfl) rfl ?_
            refine V_aload_n C dX6_part_186 rfl rfl ?_
            refine V_dup C dX6_part_187 rfl ?_
            refine V_getH (L := mOl G) C dX6_part_188 fX6_108 (by decide) (fun _ => rfl) rfl ?_
            rw [Wq_6]
            refine V_iload_n C dX6_part_191 rfl rfl ?_
            refine V_if_eq (tgt := 199) C dX6_part_192 (by decide) (by omega) (fun q192 => by exfalso; omega) (fun q192 => ?_)
            refine V_iconst C dX6_part_195 ?_
            refine V_goto (tgt := 200) C dX6_part_196 (by decide) ?_
            refine V_iadd C dX6_part_200 ?_
            refine V_putH (L := mOl G) (ty := .int) C dX6_part_201 fX6_108 (by decide) (fun _ => rfl) rfl (by decide +kernel) (rfl) (rfl) (Nat.le_of_ble_eq_true rfl) rfl ?_
            rw [Wq_p6]
            refine V_aload_n C dX6_part_204 rfl rfl ?_
            refine V_iload_n C dX6_part_205 rfl rfl ?_
            refine V_if_ne (tgt := 213) C dX6_part_206 (by decide) (by omega) (fun q206 => ?_) (fun q206 => by exfalso; omega)
            refine V_iload_n C dX6_part_213 rfl rfl ?_
            refine V_bipush C dX6_part_214 (by decide +kernel) ?_
            refine V_icmp_ne (tgt := 223) C dX6_part_216 (by decide) (by omega) (by omega) (fun q216 => ?_) (fun q216 => by exfalso; omega)
            refine V_aload_n C dX6_part_223 rfl rfl ?_
            refine V_iconst C dX6_part_224 ?_
            refine V_iload_n C dX6_part_225 rfl rfl ?_
            refine V_bipush C dX6_part_226 (by decide +kernel) ?_
            refine V_icmp_ne (tgt := 237) C dX6_part_228 (by decide) (by omega) (by omega) (fun q228 => ?_) (fun q228 => by exfalso; omega)
            refine V_iconst C dX6_part_237 ?_
            refine V_V1 (k2 := 0) (s2 := 0) C dX6_part_238 lX6_118 kX6_number (c_X6_number G K r T (a + 2) (K 30 a - 48) q hT h60 (by omega) ht 0 5 (by omega) (by omega)) (by decide) (rfl) rfl rfl rfl ⟨Nat.le_of_ble_eq_true rfl, Nat.le_of_ble_eq_true rfl⟩ (Nat.le_of_ble_eq_true rfl) (Nat.le_refl _) (Nat.le_refl _) ?_
            refine V_putH (L := mOl G) (ty := .int) C dX6_part_241 fX6_124 (by decide) (fun _ => rfl) rfl (by decide +kernel) (rfl) (rfl) (Nat.le_of_ble_eq_true rfl) rfl ?_
            rw [Wq_p8]
            refine V_aload_n C dX6_part_244 rfl rfl ?_
            refine V_getH (L := mOl G) C dX6_part_245 fX6_124 (by decide) (fun _ => rfl) rfl ?_
            rw [Wq_8]
            refine V_if_lt (tgt := 255) C dX6_part_248 (by decide) (by omega) (fun q248 => ?_) (fun q248 => ?_)
            · refine V_bipush C dX6_part_255 (by decide +kernel) ?_
              exact V_iret C dX6_part_257 rfl hZ (by rw [eP]; show _ = if _ then _ else _; first | (rw [if_pos (by omega)]) | (rw [if_neg (by omega)])) (by rw [hz, eP])
            · refine V_iload_n C dX6_part_251 rfl rfl ?_
              refine V_goto (tgt := 257) C dX6_part_252 (by decide) ?_
              exact V_iret C dX6_part_257 rfl hZ (by rw [eP]; show _ = if _ then _ else _; first | (rw [if_pos (by omega)]) | (rw [if_neg (by omega)])) (by rw [hz, eP])
      · have eP : pt (K 30) T a = (32, K 30 a - 48, -1, a + 1) := by unfold pt; rw [if_neg c1, if_neg c2, if_pos c3, if_neg (fun w => c5 w.2)]
        have c1 := Bool.eq_false_iff.2 c1
        have c2 := Bool.eq_false_iff.2 c2
        refine V_aload_n C dX6_part_0 rfl rfl ?_
        refine V_bipush C dX6_part_1 (by decide +kernel) ?_
        refine V_V1 (k2 := 0) (s2 := 0) C dX6_part_3 lX6_115 kX6_sign (c_X6_sign_f G K r T (a) p q hT h60 (by omega) ht 115 (by omega) c1) (by decide) (rfl) rfl rfl rfl ⟨Nat.le_of_ble_eq_true rfl, Nat.le_of_ble_eq_true rfl⟩ (Nat.le_of_ble_eq_true rfl) (Nat.le_refl _) (Nat.le_refl _) ?_
        refine V_if_eq (tgt := 36) C dX6_part_6 (by decide) (by omega) (fun q6 => ?_) (fun q6 => by exfalso; omega)
        refine V_aload_n C dX6_part_36 rfl rfl ?_
        refine V_bipush C dX6_part_37 (by decide +kernel) ?_
        refine V_V1 (k2 := 0) (s2 := 0) C dX6_part_39 lX6_115 kX6_sign (c_X6_sign_f G K r T (a) p q hT h60 (by omega) ht 102 (by omega) c2) (by decide) (rfl) rfl rfl rfl ⟨Nat.le_of_ble_eq_true rfl, Nat.le_of_ble_eq_true rfl⟩ (Nat.le_of_ble_eq_true rfl) (Nat.le_refl _) (Nat.le_refl _) ?_
        refine V_if_eq (tgt := 71) C dX6_part_42 (by decide) (by omega) (fun q42 => ?_) (fun q42 => by exfalso; omega)
        refine V_aload_n C dX6_part_71 rfl rfl ?_
        refine V_aload_n C dX6_part_72 rfl rfl ?_
        refine V_bipush C dX6_part_73 (by decide +kernel) ?_
        refine V_bipush C dX6_part_75 (by decide +kernel) ?_
        refine V_V1 (k2 := 0) (s2 := 0) C dX6_part_77 lX6_111 kX6_isAt (c_X6_isAt_t G K r T (a) p q hT h60 (by omega) ht 48 53 (by omega) (by omega) c3) (by decide) (rfl) rfl rfl rfl ⟨Nat.le_of_ble_eq_true rfl, Nat.le_of_ble_eq_true rfl⟩ (Nat.le_of_ble_eq_true rfl) (Nat.le_refl _) (Nat.le_refl _) ?_
        refine V_if_eq (tgt := 98) C dX6_part_80 (by decide) (by omega) (fun q80 => by exfalso; omega) (fun q80 => ?_)
        refine V_aload_n C dX6_part_83 rfl rfl ?_
        refine V_getH (L := mOl G) C dX6_part_84 fX6_13 (by decide) (fun _ => rfl) rfl ?_
        refine V_aload_n C dX6_part_87 rfl rfl ?_
        refine V_getH (L := mOl G) C dX6_part_88 fX6_108 (by decide) (fun _ => rfl) rfl ?_
        rw [Wq_6]
        refine V_ialdH C dX6_part_91 (by decide) (fun _ => rfl) (by omega) (by decide) ?_
        rw [Wq_30, ea]
        refine V_bipush C dX6_part_92 (by decide +kernel) ?_
        refine V_isub C dX6_part_94 ?_
        refine V_goto (tgt := 99) C dX6_part_95 (by decide) ?_
        refine V_putH (L := mOl G) (ty := .int) C dX6_part_99 fX6_121 (by decide) (fun _ => rfl) rfl (by decide +kernel) (rfl) (rfl) (Nat.le_of_ble_eq_true rfl) rfl ?_
        rw [Wq_p7]
        refine V_aload_n C dX6_part_102 rfl rfl ?_
        refine V_dup C dX6_part_103 rfl ?_
        refine V_getH (L := mOl G) C dX6_part_104 fX6_108 (by decide) (fun _ => rfl) rfl ?_
        rw [Wq_6]
        refine V_aload_n C dX6_part_107 rfl rfl ?_
        refine V_getH (L := mOl G) C dX6_part_108 fX6_121 (by decide) (fun _ => rfl) rfl ?_
        rw [Wq_7]
        refine V_if_lt (tgt := 118) C dX6_part_111 (by decide) (by omega) (fun q111 => by exfalso; omega) (fun q111 => ?_)
        refine V_iconst C dX6_part_114 ?_
        refine V_goto (tgt := 119) C dX6_part_115 (by decide) ?_
        refine V_iadd C dX6_part_119 ?_
        refine V_putH (L := mOl G) (ty := .int) C dX6_part_120 fX6_108 (by decide) (fun _ => rfl) rfl (by decide +kernel) (rfl) (rfl) (Nat.le_of_ble_eq_true rfl) rfl ?_
        rw [Wq_p6]
        refine V_aload_n C dX6_part_123 rfl rfl ?_
        refine V_getH (L := mOl G) C dX6_part_124 fX6_121 (by decide) (fun _ => rfl) rfl ?_
        rw [Wq_7]
        refine V_if_lt (tgt := 153) C dX6_part_127 (by decide) (by omega) (fun q127 => by exfalso; omega) (fun q127 => ?_)
        refine V_aload_n C dX6_part_130 rfl rfl ?_
        refine V_getH (L := mOl G) C dX6_part_131 fX6_108 (by decide) (fun _ => rfl) rfl ?_
        rw [Wq_6]
        refine V_aload_n C dX6_part_134 rfl rfl ?_
        refine V_getH (L := mOl G) C dX6_part_135 fX6_105 (by decide) (fun _ => rfl) rfl ?_
        rw [Wq_5, hT]
        refine V_icmp_ge (tgt := 153) C dX6_part_138 (by decide) (by omega) (by omega) (fun q138 => by exfalso; omega) (fun q138 => ?_)
        refine V_aload_n C dX6_part_141 rfl rfl ?_
        refine V_getH (L := mOl G) C dX6_part_142 fX6_13 (by decide) (fun _ => rfl) rfl ?_
        refine V_aload_n C dX6_part_145 rfl rfl ?_
        refine V_getH (L := mOl G) C dX6_part_146 fX6_108 (by decide) (fun _ => rfl) rfl ?_
        rw [Wq_6]
        refine V_ialdH C dX6_part_149 (by decide) (fun _ => rfl) (by omega) (by decide) ?_
        rw [Wq_30, show ((a : Int) + 1).toNat = a + 1 by omega]
        refine V_goto (tgt := 155) C dX6_part_150 (by decide) ?_
        refine V_istore_n C dX6_part_155 rfl (Nat.le_of_ble_eq_true rfl) rfl ?_
        refine V_iload_n C dX6_part_156 rfl rfl ?_
        refine V_bipush C dX6_part_157 (by decide +kernel) ?_
        refine V_icmp_eq (tgt := 180) C dX6_part_159 (by decide) (by omega) (by omega) (fun q159 => by exfalso; omega) (fun q159 => ?_)
        refine V_iload_n C dX6_part_162 rfl rfl ?_
        refine V_bipush C dX6_part_163 (by decide +kernel) ?_
        refine V_icmp_eq (tgt := 180) C dX6_part_165 (by decide) (by omega) (by omega) (fun q165 => by exfalso; omega) (fun q165 => ?_)
        refine V_iload_n C dX6_part_168 rfl rfl ?_
        refine V_bipush C dX6_part_169 (by decide +kernel) ?_
        refine V_icmp_eq (tgt := 180) C dX6_part_171 (by decide) (by omega) (by omega) (fun q171 => by exfalso; omega) (fun q171 => ?_)
        refine V_iload_n C dX6_part_174 rfl rfl ?_
        refine V_bipush C dX6_part_175 (by decide +kernel) ?_
        refine V_icmp_ne (tgt := 184) C dX6_part_177 (by decide) (by omega) (by omega) (fun q177 => ?_) (fun q177 => by exfalso; omega)
        refine V_iconst C dX6_part_184 ?_
        refine V_istore_n C dX6_part_185 rfl (Nat.le_of_ble_eq_true rfl) rfl ?_
        refine V_aload_n C dX6_part_186 rfl rfl ?_
        refine V_dup C dX6_part_187 rfl ?_
        refine V_getH (L := mOl G) C dX6_part_188 fX6_108 (by decide) (fun _ => rfl) rfl ?_
        rw [Wq_6]
        refine V_iload_n C dX6_part_191 rfl rfl ?_
        refine V_if_eq (tgt := 199) C dX6_part_192 (by decide) (by omega) (fun q192 => ?_) (fun q192 => by exfalso; omega)
        refine V_iconst C dX6_part_199 ?_
        refine V_iadd C dX6_part_200 ?_
        refine V_putH (L := mOl G) (ty := .int) C dX6_part_201 fX6_108 (by decide) (fun _ => rfl) rfl (by decide +kernel) (rfl) (rfl) (Nat.le_of_ble_eq_true rfl) rfl ?_
        rw [Wq_p6, Int.add_zero]
        refine V_aload_n C dX6_part_204 rfl rfl ?_
        refine V_iload_n C dX6_part_205 rfl rfl ?_
        refine V_if_ne (tgt := 213) C dX6_part_206 (by decide) (by omega) (fun q206 => by exfalso; omega) (fun q206 => ?_)
        refine V_iconst C dX6_part_209 ?_
        refine V_goto (tgt := 241) C dX6_part_210 (by decide) ?_
        refine V_putH (L := mOl G) (ty := .int) C dX6_part_241 fX6_124 (by decide) (fun _ => rfl) rfl (by decide +kernel) (rfl) (rfl) (Nat.le_of_ble_eq_true rfl) rfl ?_
        rw [Wq_p8]
        refine V_aload_n C dX6_part_244 rfl rfl ?_
        refine V_getH (L := mOl G) C dX6_part_245 fX6_124 (by decide) (fun _ => rfl) rfl ?_
        rw [Wq_8]
        refine V_if_lt (tgt := 255) C dX6_part_248 (by decide) (by omega) (fun q248 => ?_) (fun q248 => by exfalso; omega)
        refine V_bipush C dX6_part_255 (by decide +kernel) ?_
        exact V_iret C dX6_part_257 rfl hZ (by rw [eP]) (by rw [hz, eP]; rfl)
    · have eP : pt (K 30) T a = (32, K 30 a - 48, -1, a + 1) := by unfold pt; rw [if_neg c1, if_neg c2, if_pos c3, if_neg (fun w => c4 w.1)]
      have c1 := Bool.eq_false_iff.2 c1
      have c2 := Bool.eq_false_iff.2 c2
      refine V_aload_n C dX6_part_0 rfl rfl ?_
      refine V_bipush C dX6_part_1 (by decide +kernel) ?_
      refine V_V1 (k2 := 0) (s2 := 0) C dX6_part_3 lX6_115 kX6_sign (c_X6_sign_f G K r T (a) p q hT h60 (by omega) ht 115 (by omega) c1) (by decide) (rfl) rfl rfl rfl ⟨Nat.le_of_ble_eq_true rfl, Nat.le_of_ble_eq_true rfl⟩ (Nat.le_of_ble_eq_true rfl) (Nat.le_refl _) (Nat.le_refl _) ?_
      refine V_if_eq (tgt := 36) C dX6_part_6 (by decide) (by omega) (fun q6 => ?_) (fun q6 => by exfalso; omega)
      refine V_aload_n C dX6_part_36 rfl rfl ?_
      refine V_bipush C dX6_part_37 (by decide +kernel) ?_
      refine V_V1 (k2 := 0) (s2 := 0) C dX6_part_39 lX6_115 kX6_sign (c_X6_sign_f G K r T (a) p q hT h60 (by omega) ht 102 (by omega) c2) (by decide) (rfl) rfl rfl rfl ⟨Nat.le_of_ble_eq_true rfl, Nat.le_of_ble_eq_true rfl⟩ (Nat.le_of_ble_eq_true rfl) (Nat.le_refl _) (Nat.le_refl _) ?_
      refine V_if_eq (tgt := 71) C dX6_part_42 (by decide) (by omega) (fun q42 => ?_) (fun q42 => by exfalso; omega)
      refine V_aload_n C dX6_part_71 rfl rfl ?_
      refine V_aload_n C dX6_part_72 rfl rfl ?_
      refine V_bipush C dX6_part_73 (by decide +kernel) ?_
      refine V_bipush C dX6_part_75 (by decide +kernel) ?_
      refine V_V1 (k2 := 0) (s2 := 0) C dX6_part_77 lX6_111 kX6_isAt (c_X6_isAt_t G K r T (a) p q hT h60 (by omega) ht 48 53 (by omega) (by omega) c3) (by decide) (rfl) rfl rfl rfl ⟨Nat.le_of_ble_eq_true rfl, Nat.le_of_ble_eq_true rfl⟩ (Nat.le_of_ble_eq_true rfl) (Nat.le_refl _) (Nat.le_refl _) ?_
      refine V_if_eq (tgt := 98) C dX6_part_80 (by decide) (by omega) (fun q80 => by exfalso; omega) (fun q80 => ?_)
      refine V_aload_n C dX6_part_83 rfl rfl ?_
      refine V_getH (L := mOl G) C dX6_part_84 fX6_13 (by decide) (fun _ => rfl) rfl ?_
      refine V_aload_n C dX6_part_87 rfl rfl ?_
      refine V_getH (L := mOl G) C dX6_part_88 fX6_108 (by decide) (fun _ => rfl) rfl ?_
      rw [Wq_6]
      refine V_ialdH C dX6_part_91 (by decide) (fun _ => rfl) (by omega) (by decide) ?_
      rw [Wq_30, ea]
      refine V_bipush C dX6_part_92 (by decide +kernel) ?_
      refine V_isub C dX6_part_94 ?_
      refine V_goto (tgt := 99) C dX6_part_95 (by decide) ?_
      refine V_putH (L := mOl G) (ty := .int) C dX6_part_99 fX6_121 (by decide) (fun _ => rfl) rfl (by decide +kernel) (rfl) (rfl) (Nat.le_of_ble_eq_true rfl) rfl ?_
      rw [Wq_p7]
      refine V_aload_n C dX6_part_102 rfl rfl ?_
      refine V_dup C dX6_part_103 rfl ?_
      refine V_getH (L := mOl G) C dX6_part_104 fX6_108 (by decide) (fun _ => rfl) rfl ?_
      rw [Wq_6]
      refine V_aload_n C dX6_part_107 rfl rfl ?_
      refine V_getH (L := mOl G) C dX6_part_108 fX6_121 (by decide) (fun _ => rfl) rfl ?_
      rw [Wq_7]
      refine V_if_lt (tgt := 118) C dX6_part_111 (by decide) (by omega) (fun q111 => by exfalso; omega) (fun q111 => ?_)
      refine V_iconst C dX6_part_114 ?_
      refine V_goto (tgt := 119) C dX6_part_115 (by decide) ?_
      refine V_iadd C dX6_part_119 ?_
      refine V_putH (L := mOl G) (ty := .int) C dX6_part_120 fX6_108 (by decide) (fun _ => rfl) rfl (by decide +kernel) (rfl) (rfl) (Nat.le_of_ble_eq_true rfl) rfl ?_
      rw [Wq_p6]
      refine V_aload_n C dX6_part_123 rfl rfl ?_
      refine V_getH (L := mOl G) C dX6_part_124 fX6_121 (by decide) (fun _ => rfl) rfl ?_
      rw [Wq_7]
      refine V_if_lt (tgt := 153) C dX6_part_127 (by decide) (by omega) (fun q127 => by exfalso; omega) (fun q127 => ?_)
      refine V_aload_n C dX6_part_130 rfl rfl ?_
      refine V_getH (L := mOl G) C dX6_part_131 fX6_108 (by decide) (fun _ => rfl) rfl ?_
      rw [Wq_6]
      refine V_aload_n C dX6_part_134 rfl rfl ?_
      refine V_getH (L := mOl G) C dX6_part_135 fX6_105 (by decide) (fun _ => rfl) rfl ?_
      rw [Wq_5, hT]
      refine V_icmp_ge (tgt := 153) C dX6_part_138 (by decide) (by omega) (by omega) (fun q138 => ?_) (fun q138 => by exfalso; omega)
      refine V_bipush C dX6_part_153 (by decide +kernel) ?_
      refine V_istore_n C dX6_part_155 rfl (Nat.le_of_ble_eq_true rfl) rfl ?_
      refine V_iload_n C dX6_part_156 rfl rfl ?_
      refine V_bipush C dX6_part_157 (by decide +kernel) ?_
      refine V_icmp_eq (tgt := 180) C dX6_part_159 (by decide) (by omega) (by omega) (fun q159 => by exfalso; omega) (fun q159 => ?_)
      refine V_iload_n C dX6_part_162 rfl rfl ?_
      refine V_bipush C dX6_part_163 (by decide +kernel) ?_
      refine V_icmp_eq (tgt := 180) C dX6_part_165 (by decide) (by omega) (by omega) (fun q165 => by exfalso; omega) (fun q165 => ?_)
      refine V_iload_n C dX6_part_168 rfl rfl ?_
      refine V_bipush C dX6_part_169 (by decide +kernel) ?_
      refine V_icmp_eq (tgt := 180) C dX6_part_171 (by decide) (by omega) (by omega) (fun q171 => by exfalso; omega) (fun q171 => ?_)
      refine V_iload_n C dX6_part_174 rfl rfl ?_
      refine V_bipush C dX6_part_175 (by decide +kernel) ?_
      refine V_icmp_ne (tgt := 184) C dX6_part_177 (by decide) (by omega) (by omega) (fun q177 => ?_) (fun q177 => by exfalso; omega)
      refine V_iconst C dX6_part_184 ?_
      refine V_istore_n C dX6_part_185 rfl (Nat.le_of_ble_eq_true rfl) rfl ?_
      refine V_aload_n C dX6_part_186 rfl rfl ?_
      refine V_dup C dX6_part_187 rfl ?_
      refine V_getH (L := mOl G) C dX6_part_188 fX6_108 (by decide) (fun _ => rfl) rfl ?_
      rw [Wq_6]
      refine V_iload_n C dX6_part_191 rfl rfl ?_
      refine V_if_eq (tgt := 199) C dX6_part_192 (by decide) (by omega) (fun q192 => ?_) (fun q192 => by exfalso; omega)
      refine V_iconst C dX6_part_199 ?_
      refine V_iadd C dX6_part_200 ?_
      refine V_putH (L := mOl G) (ty := .int) C dX6_part_201 fX6_108 (by decide) (fun _ => rfl) rfl (by decide +kernel) (rfl) (rfl) (Nat.le_of_ble_eq_true rfl) rfl ?_
      rw [Wq_p6, Int.add_zero]
      refine V_aload_n C dX6_part_204 rfl rfl ?_
      refine V_iload_n C dX6_part_205 rfl rfl ?_
      refine V_if_ne (tgt := 213) C dX6_part_206 (by decide) (by omega) (fun q206 => by exfalso; omega) (fun q206 => ?_)
      refine V_iconst C dX6_part_209 ?_
      refine V_goto (tgt := 241) C dX6_part_210 (by decide) ?_
      refine V_putH (L := mOl G) (ty := .int) C dX6_part_241 fX6_124 (by decide) (fun _ => rfl) rfl (by decide +kernel) (rfl) (rfl) (Nat.le_of_ble_eq_true rfl) rfl ?_
      rw [Wq_p8]
      refine V_aload_n C dX6_part_244 rfl rfl ?_
      refine V_getH (L := mOl G) C dX6_part_245 fX6_124 (by decide) (fun _ => rfl) rfl ?_
      rw [Wq_8]
      refine V_if_lt (tgt := 255) C dX6_part_248 (by decide) (by omega) (fun q248 => ?_) (fun q248 => by exfalso; omega)
      refine V_bipush C dX6_part_255 (by decide +kernel) ?_
      exact V_iret C dX6_part_257 rfl hZ (by rw [eP]) (by rw [hz, eP]; rfl)
  · have eP : pt (K 30) T a = (32, -1, -1, a) := by unfold pt; rw [if_neg c1, if_neg c2, if_neg c3]
    have c1 := Bool.eq_false_iff.2 c1
    have c2 := Bool.eq_false_iff.2 c2
    have c3 := Bool.eq_false_iff.2 c3
    refine V_aload_n C dX6_part_0 rfl rfl ?_
    refine V_bipush C dX6_part_1 (by decide +kernel) ?_
    refine V_V1 (k2 := 0) (s2 := 0) C dX6_part_3 lX6_115 kX6_sign (c_X6_sign_f G K r T (a) p q hT h60 (by omega) ht 115 (by omega) c1) (by decide) (rfl) rfl rfl rfl ⟨Nat.le_of_ble_eq_true rfl, Nat.le_of_ble_eq_true rfl⟩ (Nat.le_of_ble_eq_true rfl) (Nat.le_refl _) (Nat.le_refl _) ?_
    refine V_if_eq (tgt := 36) C dX6_part_6 (by decide) (by omega) (fun q6 => ?_) (fun q6 => by exfalso; omega)
    refine V_aload_n C dX6_part_36 rfl rfl ?_
    refine V_bipush C dX6_part_37 (by decide +kernel) ?_
    refine V_V1 (k2 := 0) (s2 := 0) C dX6_part_39 lX6_115 kX6_sign (c_X6_sign_f G K r T (a) p q hT h60 (by omega) ht 102 (by omega) c2) (by decide) (rfl) rfl rfl rfl ⟨Nat.le_of_ble_eq_true rfl, Nat.le_of_ble_eq_true rfl⟩ (Nat.le_of_ble_eq_true rfl) (Nat.le_refl _) (Nat.le_refl _) ?_
    refine V_if_eq (tgt := 71) C dX6_part_42 (by decide) (by omega) (fun q42 => ?_) (fun q42 => by exfalso; omega)
    refine V_aload_n C dX6_part_71 rfl rfl ?_
    refine V_aload_n C dX6_part_72 rfl rfl ?_
    refine V_bipush C dX6_part_73 (by decide +kernel) ?_
    refine V_bipush C dX6_part_75 (by decide +kernel) ?_
    refine V_V1 (k2 := 0) (s2 := 0) C dX6_part_77 lX6_111 kX6_isAt (c_X6_isAt_f G K r T (a) p q hT h60 (by omega) ht 48 53 (by omega) (by omega) c3) (by decide) (rfl) rfl rfl rfl ⟨Nat.le_of_ble_eq_true rfl, Nat.le_of_ble_eq_true rfl⟩ (Nat.le_of_ble_eq_true rfl) (Nat.le_refl _) (Nat.le_refl _) ?_
    refine V_if_eq (tgt := 98) C dX6_part_80 (by decide) (by omega) (fun q80 => ?_) (fun q80 => by exfalso; omega)
    refine V_iconst C dX6_part_98 ?_
    refine V_putH (L := mOl G) (ty := .int) C dX6_part_99 fX6_121 (by decide) (fun _ => rfl) rfl (by decide +kernel) (rfl) (rfl) (Nat.le_of_ble_eq_true rfl) rfl ?_
    rw [Wq_p7]
    refine V_aload_n C dX6_part_102 rfl rfl ?_
    refine V_dup C dX6_part_103 rfl ?_
    refine V_getH (L := mOl G) C dX6_part_104 fX6_108 (by decide) (fun _ => rfl) rfl ?_
    rw [Wq_6]
    refine V_aload_n C dX6_part_107 rfl rfl ?_
    refine V_getH (L := mOl G) C dX6_part_108 fX6_121 (by decide) (fun _ => rfl) rfl ?_
    rw [Wq_7]
    refine V_if_lt (tgt := 118) C dX6_part_111 (by decide) (by omega) (fun q111 => ?_) (fun q111 => by exfalso; omega)
    refine V_iconst C dX6_part_118 ?_
    refine V_iadd C dX6_part_119 ?_
    refine V_putH (L := mOl G) (ty := .int) C dX6_part_120 fX6_108 (by decide) (fun _ => rfl) rfl (by decide +kernel) (rfl) (rfl) (Nat.le_of_ble_eq_true rfl) rfl ?_
    rw [Wq_p6, Int.add_zero]
    refine V_aload_n C dX6_part_123 rfl rfl ?_
    refine V_getH (L := mOl G) C dX6_part_124 fX6_121 (by decide) (fun _ => rfl) rfl ?_
    rw [Wq_7]
    refine V_if_lt (tgt := 153) C dX6_part_127 (by decide) (by omega) (fun q127 => ?_) (fun q127 => by exfalso; omega)
    refine V_bipush C dX6_part_153 (by decide +kernel) ?_
    refine V_istore_n C dX6_part_155 rfl (Nat.le_of_ble_eq_true rfl) rfl ?_
    refine V_iload_n C dX6_part_156 rfl rfl ?_
    refine V_bipush C dX6_part_157 (by decide +kernel) ?_
    refine V_icmp_eq (tgt := 180) C dX6_part_159 (by decide) (by omega) (by omega) (fun q159 => by exfalso; omega) (fun q159 => ?_)
    refine V_iload_n C dX6_part_162 rfl rfl ?_
    refine V_bipush C dX6_part_163 (by decide +kernel) ?_
    refine V_icmp_eq (tgt := 180) C dX6_part_165 (by decide) (by omega) (by omega) (fun q165 => by exfalso; omega) (fun q165 => ?_)
    refine V_iload_n C dX6_part_168 rfl rfl ?_
    refine V_bipush C dX6_part_169 (by decide +kernel) ?_
    refine V_icmp_eq (tgt := 180) C dX6_part_171 (by decide) (by omega) (by omega) (fun q171 => by exfalso; omega) (fun q171 => ?_)
    refine V_iload_n C dX6_part_174 rfl rfl ?_
    refine V_bipush C dX6_part_175 (by decide +kernel) ?_
    refine V_icmp_ne (tgt := 184) C dX6_part_177 (by decide) (by omega) (by omega) (fun q177 => ?_) (fun q177 => by exfalso; omega)
    refine V_iconst C dX6_part_184 ?_
    refine V_istore_n C dX6_part_185 rfl (Nat.le_of_ble_eq_true rfl) rfl ?_
    refine V_aload_n C dX6_part_186 rfl rfl ?_
    refine V_dup C dX6_part_187 rfl ?_
    refine V_getH (L := mOl G) C dX6_part_188 fX6_108 (by decide) (fun _ => rfl) rfl ?_
    rw [Wq_6]
    refine V_iload_n C dX6_part_191 rfl rfl ?_
    refine V_if_eq (tgt := 199) C dX6_part_192 (by decide) (by omega) (fun q192 => ?_) (fun q192 => by exfalso; omega)
    refine V_iconst C dX6_part_199 ?_
    refine V_iadd C dX6_part_200 ?_
    refine V_putH (L := mOl G) (ty := .int) C dX6_part_201 fX6_108 (by decide) (fun _ => rfl) rfl (by decide +kernel) (rfl) (rfl) (Nat.le_of_ble_eq_true rfl) rfl ?_
    rw [Wq_p6, Int.add_zero]
    refine V_aload_n C dX6_part_204 rfl rfl ?_
    refine V_iload_n C dX6_part_205 rfl rfl ?_
    refine V_if_ne (tgt := 213) C dX6_part_206 (by decide) (by omega) (fun q206 => by exfalso; omega) (fun q206 => ?_)
    refine V_iconst C dX6_part_209 ?_
    refine V_goto (tgt := 241) C dX6_part_210 (by decide) ?_
    refine V_putH (L := mOl G) (ty := .int) C dX6_part_241 fX6_124 (by decide) (fun _ => rfl) rfl (by decide +kernel) (rfl) (rfl) (Nat.le_of_ble_eq_true rfl) rfl ?_
    rw [Wq_p8]
    refine V_aload_n C dX6_part_244 rfl rfl ?_
    refine V_getH (L := mOl G) C dX6_part_245 fX6_124 (by decide) (fun _ => rfl) rfl ?_
    rw [Wq_8]
    refine V_if_lt (tgt := 255) C dX6_part_248 (by decide) (by omega) (fun q248 => ?_) (fun q248 => by exfalso; omega)
    refine V_bipush C dX6_part_255 (by decide +kernel) ?_
    exact V_iret C dX6_part_257 rfl hZ (by rw [eP]) (by rw [hz, eP])
set_option maxRecDepth 100000 in
set_option maxHeartbeats 4000000 in
theorem c_X6_isWhole (G : GT) (K : Nat → Nat → Int) (r : Nat → Option Nat) (T : Nat) (hT : K 28 5 = T) (h60 : T ≤ 60) (ht : ∀ j, j < T → 33 ≤ K 30 j ∧ K 30 j ≤ 126)  : CtO G yX6_isWhole mX6_isWhole [rf G 28] (K) r (some (.int (iI (b2 (wh (K 30) T (T + 1) 0).1)))) (Wq K ((wh (K 30) T (T + 1) 0).2 : Nat) (whF (K 30) T (T + 1) (K 28 8) 0).1 (whF (K 30) T (T + 1) (K 28 8) 0).2) r := by
  refine Ct_of kX6_isWhole.1.1 (by decide) [some (rf G 28), none, none] rfl (Nat.le_of_ble_eq_true rfl) ?_
  intro x C hZ
  obtain ⟨W, hW⟩ : ∃ W, W = whF (K 30) T (T + 1) (K 28 8) 0 := ⟨_, rfl⟩
  obtain ⟨B, hB⟩ : ∃ B, B = wh (K 30) T (T + 1) 0 := ⟨_, rfl⟩
  rw [← hW, ← hB] at hZ
  have loop : ∀ (f a : Nat) (p q : Int), T + 1 ≤ a + f → a ≤ T → wh (K 30) T f a = B → whF (K 30) T f q a = W → V G mX6_isWhole x 9 [some (rf G 28), some (.int (iI 1)), some (.int (iI 1))] [] 34 false (HP G (Wq K a p q) r) 0 0 := by
    intro f
    induction f with
    | zero => intro a p q e e1; omega
    | succ f ih =>
      intro a p q e e1 e2 e3
      have pb := pt_b (t := K 30) e1
      simp only [wh, whF] at e2 e3
      by_cases c1 : (pt (K 30) T a).1 = 32
      · rw [if_pos c1] at e2 e3
        refine V_iload_n C dX6_isWhole_9 rfl rfl ?_
        refine V_if_eq (tgt := 50) C dX6_isWhole_10 (by decide) (by omega) (fun q10 => by exfalso; omega) (fun q10 => ?_)
        refine V_aload_n C dX6_isWhole_13 rfl rfl ?_
        refine V_V1 (k2 := 0) (s2 := 0) C dX6_isWhole_14 lX6_127 kX6_part (c_X6_part G K r T a p q hT h60 (by omega) ht) (by decide) (rfl) rfl rfl rfl ⟨Nat.le_of_ble_eq_true rfl, Nat.le_of_ble_eq_true rfl⟩ (Nat.le_of_ble_eq_true rfl) (Nat.le_refl _) (Nat.le_refl _) ?_
        refine V_bipush C dX6_isWhole_17 (by decide +kernel) ?_
        refine V_icmp_eq (tgt := 26) C dX6_isWhole_19 (by decide) (by omega) (by omega) (fun q19 => ?_) (fun q19 => by exfalso; omega)
        refine V_iconst C dX6_isWhole_26 ?_
        refine V_istore_n C dX6_isWhole_27 rfl (Nat.le_of_ble_eq_true rfl) rfl ?_
        refine V_iload_n C dX6_isWhole_28 rfl rfl ?_
        refine V_if_eq (tgt := 45) C dX6_isWhole_29 (by decide) (by omega) (fun q29 => ?_) (fun q29 => by exfalso; omega)
        refine V_iconst C dX6_isWhole_45 ?_
        refine V_istore_n C dX6_isWhole_46 rfl (Nat.le_of_ble_eq_true rfl) rfl ?_
        refine V_goto (tgt := 9) C dX6_isWhole_47 (by decide) ?_
        refine V_iload_n C dX6_isWhole_9 rfl rfl ?_
        refine V_if_eq (tgt := 50) C dX6_isWhole_10 (by decide) (by omega) (fun q10 => ?_) (fun q10 => by exfalso; omega)
        refine V_iload_n C dX6_isWhole_50 rfl rfl ?_
        refine V_if_eq (tgt := 69) C dX6_isWhole_51 (by decide) (by omega) (fun q51 => ?_) (fun q51 => by exfalso; omega)
        refine V_iconst C dX6_isWhole_69 ?_
        exact V_zret C dX6_isWhole_70 rfl hZ (b2_01 _) (by rw [← e2]; rfl) (by rw [← e2, ← e3])
      · have ok := pt_ok e1 c1
        rw [if_neg c1] at e2 e3
        by_cases c2 : iA (K 30) T 59 59 (pt (K 30) T a).2.2.2 = true
        · rw [if_pos c2] at e2 e3
          have g2 := iA_t c2
          refine V_iload_n C dX6_isWhole_9 rfl rfl ?_
          refine V_if_eq (tgt := 50) C dX6_isWhole_10 (by decide) (by omega) (fun q10 => by exfalso; omega) (fun q10 => ?_)
          refine V_aload_n C dX6_isWhole_13 rfl rfl ?_
          refine V_V1 (k2 := 0) (s2 := 0) C dX6_isWhole_14 lX6_127 kX6_part (c_X6_part G K r T a p q hT h60 (by omega) ht) (by decide) (rfl) rfl rfl rfl ⟨Nat.le_of_ble_eq_true rfl, Nat.le_of_ble_eq_true rfl⟩ (Nat.le_of_ble_eq_true rfl) (Nat.le_refl _) (Nat.le_refl _) ?_
          refine V_bipush C dX6_isWhole_17 (by decide +kernel) ?_
          refine V_icmp_eq (tgt := 26) C dX6_isWhole_19 (by decide) (by omega) (by omega) (fun q19 => by exfalso; omega) (fun q19 => ?_)
          refine V_iconst C dX6_isWhole_22 ?_
          refine V_goto (tgt := 27) C dX6_isWhole_23 (by decide) ?_
          refine V_istore_n C dX6_isWhole_27 rfl (Nat.le_of_ble_eq_true rfl) rfl ?_
          refine V_iload_n C dX6_isWhole_28 rfl rfl ?_
          refine V_if_eq (tgt := 45) C dX6_isWhole_29 (by decide) (by omega) (fun q29 => by exfalso; omega) (fun q29 => ?_)
          refine V_aload_n C dX6_isWhole_32 rfl rfl ?_
          refine V_bipush C dX6_isWhole_33 (by decide +kernel) ?_
          refine V_V1 (k2 := 0) (s2 := 0) C dX6_isWhole_35 lX6_115 kX6_sign (c_X6_sign_t G K r T (pt (K 30) T a).2.2.2 _ _ hT h60 (by omega) ht 59 (by omega) c2) (by decide) (rfl) rfl rfl rfl ⟨Nat.le_of_ble_eq_true rfl, Nat.le_of_ble_eq_true rfl⟩ (Nat.le_of_ble_eq_true rfl) (Nat.le_refl _) (Nat.le_refl _) ?_
          refine V_if_eq (tgt := 45) C dX6_isWhole_38 (by decide) (by omega) (fun q38 => by exfalso; omega) (fun q38 => ?_)
          refine V_iconst C dX6_isWhole_41 ?_
          refine V_goto (tgt := 46) C dX6_isWhole_42 (by decide) ?_
          refine V_istore_n C dX6_isWhole_46 rfl (Nat.le_of_ble_eq_true rfl) rfl ?_
          refine V_goto (tgt := 9) C dX6_isWhole_47 (by decide) ?_
          exact ih ((pt (K 30) T a).2.2.2 + 1) _ _ (by omega) (by omega) e2 e3
        · rw [if_neg c2] at e2 e3
          have c2 := Bool.eq_false_iff.2 c2
          by_cases c3 : (pt (K 30) T a).2.2.2 = T
          · skip
            refine V_iload_n C dX6_isWhole_9 rfl rfl ?_
            refine V_if_eq (tgt := 50) C dX6_isWhole_10 (by decide) (by omega) (fun q10 => by exfalso; omega) (fun q10 => ?_)
            refine V_aload_n C dX6_isWhole_13 rfl rfl ?_
            refine V_V1 (k2 := 0) (s2 := 0) C dX6_isWhole_14 lX6_127 kX6_part (c_X6_part G K r T a p q hT h60 (by omega) ht) (by decide) (rfl) rfl rfl rfl ⟨Nat.le_of_ble_eq_true rfl, Nat.le_of_ble_eq_true rfl⟩ (Nat.le_of_ble_eq_true rfl) (Nat.le_refl _) (Nat.le_refl _) ?_
            refine V_bipush C dX6_isWhole_17 (by decide +kernel) ?_
            refine V_icmp_eq (tgt := 26) C dX6_isWhole_19 (by decide) (by omega) (by omega) (fun q19 => by exfalso; omega) (fun q19 => ?_)
            refine V_iconst C dX6_isWhole_22 ?_
            refine V_goto (tgt := 27) C dX6_isWhole_23 (by decide) ?_
            refine V_istore_n C dX6_isWhole_27 rfl (Nat.le_of_ble_eq_true rfl) rfl ?_
            refine V_iload_n C dX6_isWhole_28 rfl rfl ?_
            refine V_if_eq (tgt := 45) C dX6_isWhole_29 (by decide) (by omega) (fun q29 => by exfalso; omega) (fun q29 => ?_)
            refine V_aload_n C dX6_isWhole_32 rfl rfl ?_
            refine V_bipush C dX6_isWhole_33 (by decide +kernel) ?_
            refine V_V1 (k2 := 0) (s2 := 0) C dX6_isWhole_35 lX6_115 kX6_sign (c_X6_sign_f G K r T (pt (K 30) T a).2.2.2 _ _ hT h60 (by omega) ht 59 (by omega) c2) (by decide) (rfl) rfl rfl rfl ⟨Nat.le_of_ble_eq_true rfl, Nat.le_of_ble_eq_true rfl⟩ (Nat.le_of_ble_eq_true rfl) (Nat.le_refl _) (Nat.le_refl _) ?_
            refine V_if_eq (tgt := 45) C dX6_isWhole_38 (by decide) (by omega) (fun q38 => ?_) (fun q38 => by exfalso; omega)
            refine V_iconst C dX6_isWhole_45 ?_
            refine V_istore_n C dX6_isWhole_46 rfl (Nat.le_of_ble_eq_true rfl) rfl ?_
            refine V_goto (tgt := 9) C dX6_isWhole_47 (by decide) ?_
            refine V_iload_n C dX6_isWhole_9 rfl rfl ?_
            refine V_if_eq (tgt := 50) C dX6_isWhole_10 (by decide) (by omega) (fun q10 => ?_) (fun q10 => by exfalso; omega)
            refine V_iload_n C dX6_isWhole_50 rfl rfl ?_
            refine V_if_eq (tgt := 69) C dX6_isWhole_51 (by decide) (by omega) (fun q51 => by exfalso; omega) (fun q51 => ?_)
            refine V_aload_n C dX6_isWhole_54 rfl rfl ?_
            refine V_getH (L := mOl G) C dX6_isWhole_55 fX6_108 (by decide) (fun _ => rfl) rfl ?_
            rw [Wq_6]
            refine V_aload_n C dX6_isWhole_58 rfl rfl ?_
            refine V_getH (L := mOl G) C dX6_isWhole_59 fX6_105 (by decide) (fun _ => rfl) rfl ?_
            rw [Wq_5, hT]
            refine V_icmp_ne (tgt := 69) C dX6_isWhole_62 (by decide) (by omega) (by omega) (fun q62 => by exfalso; omega) (fun q62 => ?_)
            refine V_iconst C dX6_isWhole_65 ?_
            refine V_goto (tgt := 70) C dX6_isWhole_66 (by decide) ?_
            exact V_zret C dX6_isWhole_70 rfl hZ (b2_01 _) (by rw [← e2]; show (1 : Int) = b2 (decide _); rw [decide_eq_true c3]; rfl) (by rw [← e2, ← e3])
          · skip
            refine V_iload_n C dX6_isWhole_9 rfl rfl ?_
            refine V_if_eq (tgt := 50) C dX6_isWhole_10 (by decide) (by omega) (fun q10 => by exfalso; omega) (fun q10 => ?_)
            refine V_aload_n C dX6_isWhole_13 rfl rfl ?_
            refine V_V1 (k2 := 0) (s2 := 0) C dX6_isWhole_14 lX6_127 kX6_part (c_X6_part G K r T a p q hT h60 (by omega) ht) (by decide) (rfl) rfl rfl rfl ⟨Nat.le_of_ble_eq_true rfl, Nat.le_of_ble_eq_true rfl⟩ (Nat.le_of_ble_eq_true rfl) (Nat.le_refl _) (Nat.le_refl _) ?_
            refine V_bipush C dX6_isWhole_17 (by decide +kernel) ?_
            refine V_icmp_eq (tgt := 26) C dX6_isWhole_19 (by decide) (by omega) (by omega) (fun q19 => by exfalso; omega) (fun q19 => ?_)
            refine V_iconst C dX6_isWhole_22 ?_
            refine V_goto (tgt := 27) C dX6_isWhole_23 (by decide) ?_
            refine V_istore_n C dX6_isWhole_27 rfl (Nat.le_of_ble_eq_true rfl) rfl ?_
            refine V_iload_n C dX6_isWhole_28 rfl rfl ?_
            refine V_if_eq (tgt := 45) C dX6_isWhole_29 (by decide) (by omega) (fun q29 => by exfalso; omega) (fun q29 => ?_)
            refine V_aload_n C dX6_isWhole_32 rfl rfl ?_
            refine V_bipush C dX6_isWhole_33 (by decide +kernel) ?_
            refine V_V1 (k2 := 0) (s2 := 0) C dX6_isWhole_35 lX6_115 kX6_sign (c_X6_sign_f G K r T (pt (K 30) T a).2.2.2 _ _ hT h60 (by omega) ht 59 (by omega) c2) (by decide) (rfl) rfl rfl rfl ⟨Nat.le_of_ble_eq_true rfl, Nat.le_of_ble_eq_true rfl⟩ (Nat.le_of_ble_eq_true rfl) (Nat.le_refl _) (Nat.le_refl _) ?_
            refine V_if_eq (tgt := 45) C dX6_isWhole_38 (by decide) (by omega) (fun q38 => ?_) (fun q38 => by exfalso; omega)
            refine V_iconst C dX6_isWhole_45 ?_
            refine V_istore_n C dX6_isWhole_46 rfl (Nat.le_of_ble_eq_true rfl) rfl ?_
            refine V_goto (tgt := 9) C dX6_isWhole_47 (by decide) ?_
            refine V_iload_n C dX6_isWhole_9 rfl rfl ?_
            refine V_if_eq (tgt := 50) C dX6_isWhole_10 (by decide) (by omega) (fun q10 => ?_) (fun q10 => by exfalso; omega)
            refine V_iload_n C dX6_isWhole_50 rfl rfl ?_
            refine V_if_eq (tgt := 69) C dX6_isWhole_51 (by decide) (by omega) (fun q51 => by exfalso; omega) (fun q51 => ?_)
            refine V_aload_n C dX6_isWhole_54 rfl rfl ?_
            refine V_getH (L := mOl G) C dX6_isWhole_55 fX6_108 (by decide) (fun _ => rfl) rfl ?_
            rw [Wq_6]
            refine V_aload_n C dX6_isWhole_58 rfl rfl ?_
            refine V_getH (L := mOl G) C dX6_isWhole_59 fX6_105 (by decide) (fun _ => rfl) rfl ?_
            rw [Wq_5, hT]
            refine V_icmp_ne (tgt := 69) C dX6_isWhole_62 (by decide) (by omega) (by omega) (fun q62 => ?_) (fun q62 => by exfalso; omega)
            refine V_iconst C dX6_isWhole_69 ?_
            exact V_zret C dX6_isWhole_70 rfl hZ (b2_01 _) (by rw [← e2]; show (0 : Int) = b2 (decide _); rw [decide_eq_false c3]; rfl) (by rw [← e2, ← e3])
  refine V_aload_n C dX6_isWhole_0 rfl rfl ?_
  refine V_iconst C dX6_isWhole_1 ?_
  refine V_putH (L := mOl G) (ty := .int) C dX6_isWhole_2 fX6_108 (by decide) (fun _ => rfl) rfl (by decide +kernel) (rfl) (rfl) (Nat.le_of_ble_eq_true rfl) rfl ?_
  refine V_iconst C dX6_isWhole_5 ?_
  refine V_istore_n C dX6_isWhole_6 rfl (Nat.le_of_ble_eq_true rfl) rfl ?_
  refine V_iconst C dX6_isWhole_7 ?_
  refine V_istore_n C dX6_isWhole_8 rfl (Nat.le_of_ble_eq_true rfl) rfl ?_
  refine V_hp ?_ (loop (T + 1) 0 (K 28 7) (K 28 8) (by omega) (by omega) hB.symm hW.symm)
  rw [← Wq_s6]; rfl
