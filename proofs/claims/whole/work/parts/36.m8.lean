set_option maxRecDepth 100000 in
set_option maxHeartbeats 4000000 in
theorem c_X6_reason (G : GT) (K : Nat → Nat → Int) (r : Nat → Option Nat) (a p q : Int) (w : Int) (hok : pOK w p q) (hG : GZ (K 29)) : CtO G yX6_reason mX6_reason [rf G 28, .int (iI w)] (Wq K a p q) r (some (.int (iI (rsn (K 29) w p q)))) (Wq K a p q) r := by
  refine Ct_of kX6_reason.1.1 (by decide) [some (rf G 28), some (.int (iI w))] rfl (Nat.le_of_ble_eq_true rfl) ?_
  intro x C hZ
  have g5 := hG.1
  have g6 := hG.2.1
  rcases hok with g | g | g | g | g | g
  · obtain ⟨e, g⟩ := g
    subst e
    obtain ⟨j, ej⟩ : ∃ j : Nat, p = (j : Int) := ⟨p.toNat, by omega⟩
    subst ej
    obtain ⟨k, ek⟩ : ∃ k : Nat, q = (k : Int) := ⟨q.toNat, by omega⟩
    subst ek
    have gj := g5 j (by omega)
    have eR : rsn (K 29) 61 (j : Int) (k : Int) = 0 := by unfold rsn; rw [if_neg (by decide), if_neg (by decide), if_neg (by decide), if_neg (by decide), if_neg (by decide)]; try rfl
    refine V_iload_n C dX6_reason_0 rfl rfl ?_
    refine V_bipush C dX6_reason_1 (by decide +kernel) ?_
    refine V_icmp_ne (tgt := 39) C dX6_reason_3 (by decide) (by omega) (by omega) (fun q3 => ?_) (fun q3 => by exfalso; omega)
    refine V_iload_n C dX6_reason_39 rfl rfl ?_
    refine V_bipush C dX6_reason_40 (by decide +kernel) ?_
    refine V_icmp_ne (tgt := 74) C dX6_reason_42 (by decide) (by omega) (by omega) (fun q42 => ?_) (fun q42 => by exfalso; omega)
    refine V_iload_n C dX6_reason_74 rfl rfl ?_
    refine V_bipush C dX6_reason_75 (by decide +kernel) ?_
    refine V_icmp_ne (tgt := 99) C dX6_reason_77 (by decide) (by omega) (by omega) (fun q77 => ?_) (fun q77 => by exfalso; omega)
    refine V_iload_n C dX6_reason_99 rfl rfl ?_
    refine V_bipush C dX6_reason_100 (by decide +kernel) ?_
    refine V_icmp_ne (tgt := 124) C dX6_reason_102 (by decide) (by omega) (by omega) (fun q102 => ?_) (fun q102 => by exfalso; omega)
    refine V_iload_n C dX6_reason_124 rfl rfl ?_
    refine V_bipush C dX6_reason_125 (by decide +kernel) ?_
    refine V_icmp_ne (tgt := 149) C dX6_reason_127 (by decide) (by omega) (by omega) (fun q127 => ?_) (fun q127 => by exfalso; omega)
    refine V_iconst C dX6_reason_149 ?_
    exact V_iret C dX6_reason_150 rfl hZ (by rw [eR]) rfl
  · obtain ⟨e, g⟩ := g
    subst e
    obtain ⟨j, ej⟩ : ∃ j : Nat, p = (j : Int) := ⟨p.toNat, by omega⟩
    subst ej
    obtain ⟨k, ek⟩ : ∃ k : Nat, q = (k : Int) := ⟨q.toNat, by omega⟩
    subst ek
    have gj := g5 j (by omega)
    have gk := g5 k (by omega)
    have eR : rsn (K 29) 43 (j : Int) (k : Int) = if 6764 < K 29 j + K 29 k then 1 else 0 := by unfold rsn; rw [if_pos rfl]; try rfl
    refine V_iload_n C dX6_reason_0 rfl rfl ?_
    refine V_bipush C dX6_reason_1 (by decide +kernel) ?_
    refine V_icmp_ne (tgt := 39) C dX6_reason_3 (by decide) (by omega) (by omega) (fun q3 => by exfalso; omega) (fun q3 => ?_)
    refine V_aload_n C dX6_reason_6 rfl rfl ?_
    refine V_getH (L := mOl G) C dX6_reason_7 fX6_7 (by decide) (fun _ => rfl) rfl ?_
    refine V_aload_n C dX6_reason_10 rfl rfl ?_
    refine V_getH (L := mOl G) C dX6_reason_11 fX6_121 (by decide) (fun _ => rfl) rfl ?_
    rw [Wq_7]
    refine V_ialdH C dX6_reason_14 (by decide) (fun _ => rfl) (by omega) (by decide) ?_
    simp only [Wq_29, tnN]
    refine V_aload_n C dX6_reason_15 rfl rfl ?_
    refine V_getH (L := mOl G) C dX6_reason_16 fX6_7 (by decide) (fun _ => rfl) rfl ?_
    refine V_aload_n C dX6_reason_19 rfl rfl ?_
    refine V_getH (L := mOl G) C dX6_reason_20 fX6_124 (by decide) (fun _ => rfl) rfl ?_
    rw [Wq_8]
    refine V_ialdH C dX6_reason_23 (by decide) (fun _ => rfl) (by omega) (by decide) ?_
    simp only [Wq_29, tnN]
    refine V_iadd C dX6_reason_24 ?_
    refine V_sipush C dX6_reason_25 (by decide +kernel) ?_
    refine V_icmp_le (tgt := 35) C dX6_reason_28 (by decide) (by omega) (by omega) (fun q28 => ?_) (fun q28 => ?_)
    · refine V_iconst C dX6_reason_35 ?_
      refine V_goto (tgt := 150) C dX6_reason_36 (by decide) ?_
      exact V_iret C dX6_reason_150 rfl hZ (by rw [eR]; first | (rw [if_pos (by omega)]) | (rw [if_neg (by omega)])) rfl
    · refine V_iconst C dX6_reason_31 ?_
      refine V_goto (tgt := 150) C dX6_reason_32 (by decide) ?_
      exact V_iret C dX6_reason_150 rfl hZ (by rw [eR]; first | (rw [if_pos (by omega)]) | (rw [if_neg (by omega)])) rfl
  · obtain ⟨e, g⟩ := g
    subst e
    obtain ⟨j, ej⟩ : ∃ j : Nat, p = (j : Int) := ⟨p.toNat, by omega⟩
    subst ej
    obtain ⟨k, ek⟩ : ∃ k : Nat, q = (k : Int) := ⟨q.toNat, by omega⟩
    subst ek
    have gj := g5 j (by omega)
    have gk := g5 k (by omega)
    have eR : rsn (K 29) 45 (j : Int) (k : Int) = if K 29 j < K 29 k then 2 else 0 := by unfold rsn; rw [if_neg (by decide), if_pos rfl]; try rfl
    refine V_iload_n C dX6_reason_0 rfl rfl ?_
    refine V_bipush C dX6_reason_1 (by decide +kernel) ?_
    refine V_icmp_ne (tgt := 39) C dX6_reason_3 (by decide) (by omega) (by omega) (fun q3 => ?_) (fun q3 => by exfalso; omega)
    refine V_iload_n C dX6_reason_39 rfl rfl ?_
    refine V_bipush C dX6_reason_40 (by decide +kernel) ?_
    refine V_icmp_ne (tgt := 74) C dX6_reason_42 (by decide) (by omega) (by omega) (fun q42 => by exfalso; omega) (fun q42 => ?_)
    refine V_aload_n C dX6_reason_45 rfl rfl ?_
    refine V_getH (L := mOl G) C dX6_reason_46 fX6_7 (by decide) (fun _ => rfl) rfl ?_
    refine V_aload_n C dX6_reason_49 rfl rfl ?_
    refine V_getH (L := mOl G) C dX6_reason_50 fX6_121 (by decide) (fun _ => rfl) rfl ?_
    rw [Wq_7]
    refine V_ialdH C dX6_reason_53 (by decide) (fun _ => rfl) (by omega) (by decide) ?_
    simp only [Wq_29, tnN]
    refine V_aload_n C dX6_reason_54 rfl rfl ?_
    refine V_getH (L := mOl G) C dX6_reason_55 fX6_7 (by decide) (fun _ => rfl) rfl ?_
    refine V_aload_n C dX6_reason_58 rfl rfl ?_
    refine V_getH (L := mOl G) C dX6_reason_59 fX6_124 (by decide) (fun _ => rfl) rfl ?_
    rw [Wq_8]
    refine V_ialdH C dX6_reason_62 (by decide) (fun _ => rfl) (by omega) (by decide) ?_
    simp only [Wq_29, tnN]
    refine V_icmp_ge (tgt := 70) C dX6_reason_63 (by decide) (by omega) (by omega) (fun q63 => ?_) (fun q63 => ?_)
    · refine V_iconst C dX6_reason_70 ?_
      refine V_goto (tgt := 150) C dX6_reason_71 (by decide) ?_
      exact V_iret C dX6_reason_150 rfl hZ (by rw [eR]; first | (rw [if_pos (by omega)]) | (rw [if_neg (by omega)])) rfl
    · refine V_iconst C dX6_reason_66 ?_
      refine V_goto (tgt := 150) C dX6_reason_67 (by decide) ?_
      exact V_iret C dX6_reason_150 rfl hZ (by rw [eR]; first | (rw [if_pos (by omega)]) | (rw [if_neg (by omega)])) rfl
  · obtain ⟨e, g⟩ := g
    subst e
    obtain ⟨j, ej⟩ : ∃ j : Nat, p = (j : Int) := ⟨p.toNat, by omega⟩
    subst ej
    have gj := g5 j (by omega)
    have eR : rsn (K 29) 94 (j : Int) q = if gm 18 (K 29 j).toNat < 131072 then 0 else 1 := by unfold rsn; rw [if_neg (by decide), if_neg (by decide), if_pos rfl]; try rfl
    by_cases c : gm 18 (K 29 j).toNat < 131072
    · skip
      refine V_iload_n C dX6_reason_0 rfl rfl ?_
      refine V_bipush C dX6_reason_1 (by decide +kernel) ?_
      refine V_icmp_ne (tgt := 39) C dX6_reason_3 (by decide) (by omega) (by omega) (fun q3 => ?_) (fun q3 => by exfalso; omega)
      refine V_iload_n C dX6_reason_39 rfl rfl ?_
      refine V_bipush C dX6_reason_40 (by decide +kernel) ?_
      refine V_icmp_ne (tgt := 74) C dX6_reason_42 (by decide) (by omega) (by omega) (fun q42 => ?_) (fun q42 => by exfalso; omega)
      refine V_iload_n C dX6_reason_74 rfl rfl ?_
      refine V_bipush C dX6_reason_75 (by decide +kernel) ?_
      refine V_icmp_ne (tgt := 99) C dX6_reason_77 (by decide) (by omega) (by omega) (fun q77 => by exfalso; omega) (fun q77 => ?_)
      refine V_aload_n C dX6_reason_80 rfl rfl ?_
      refine V_aload_n C dX6_reason_81 rfl rfl ?_
      refine V_getH (L := mOl G) C dX6_reason_82 fX6_121 (by decide) (fun _ => rfl) rfl ?_
      rw [Wq_7]
      refine V_V1 (k2 := 0) (s2 := 0) C dX6_reason_85 lX6_78 kX6_canRaise (Ct_v (b2y (show gm 18 (K 29 j).toNat < 131072 from c)) (c_X6_canRaise G (Wq K a j q) r j (by omega) gj)) (by decide) (rfl) rfl rfl rfl ⟨Nat.le_of_ble_eq_true rfl, Nat.le_of_ble_eq_true rfl⟩ (Nat.le_of_ble_eq_true rfl) (Nat.le_refl _) (Nat.le_refl _) ?_
      refine V_if_eq (tgt := 95) C dX6_reason_88 (by decide) (by omega) (fun q88 => by exfalso; omega) (fun q88 => ?_)
      refine V_iconst C dX6_reason_91 ?_
      refine V_goto (tgt := 150) C dX6_reason_92 (by decide) ?_
      exact V_iret C dX6_reason_150 rfl hZ (by rw [eR, if_pos c]) rfl
    · skip
      refine V_iload_n C dX6_reason_0 rfl rfl ?_
      refine V_bipush C dX6_reason_1 (by decide +kernel) ?_
      refine V_icmp_ne (tgt := 39) C dX6_reason_3 (by decide) (by omega) (by omega) (fun q3 => ?_) (fun q3 => by exfalso; omega)
      refine V_iload_n C dX6_reason_39 rfl rfl ?_
      refine V_bipush C dX6_reason_40 (by decide +kernel) ?_
      refine V_icmp_ne (tgt := 74) C dX6_reason_42 (by decide) (by omega) (by omega) (fun q42 => ?_) (fun q42 => by exfalso; omega)
      refine V_iload_n C dX6_reason_74 rfl rfl ?_
      refine V_bipush C dX6_reason_75 (by decide +kernel) ?_
      refine V_icmp_ne (tgt := 99) C dX6_reason_77 (by decide) (by omega) (by omega) (fun q77 => by exfalso; omega) (fun q77 => ?_)
      refine V_aload_n C dX6_reason_80 rfl rfl ?_
      refine V_aload_n C dX6_reason_81 rfl rfl ?_
      refine V_getH (L := mOl G) C dX6_reason_82 fX6_121 (by decide) (fun _ => rfl) rfl ?_
      rw [Wq_7]
      refine V_V1 (k2 := 0) (s2 := 0) C dX6_reason_85 lX6_78 kX6_canRaise (Ct_v (b2n (show ¬ (gm 18 (K 29 j).toNat < 131072) from c)) (c_X6_canRaise G (Wq K a j q) r j (by omega) gj)) (by decide) (rfl) rfl rfl rfl ⟨Nat.le_of_ble_eq_true rfl, Nat.le_of_ble_eq_true rfl⟩ (Nat.le_of_ble_eq_true rfl) (Nat.le_refl _) (Nat.le_refl _) ?_
      refine V_if_eq (tgt := 95) C dX6_reason_88 (by decide) (by omega) (fun q88 => ?_) (fun q88 => by exfalso; omega)
      refine V_iconst C dX6_reason_95 ?_
      refine V_goto (tgt := 150) C dX6_reason_96 (by decide) ?_
      exact V_iret C dX6_reason_150 rfl hZ (by rw [eR, if_neg c]) rfl
  · obtain ⟨e, g⟩ := g
    subst e
    obtain ⟨j, ej⟩ : ∃ j : Nat, p = (j : Int) := ⟨p.toNat, by omega⟩
    subst ej
    have eR : rsn (K 29) 115 (j : Int) q = if K 29 6 + (cl j : Nat) ≤ 64 then 0 else 3 := by unfold rsn; rw [if_neg (by decide), if_neg (by decide), if_neg (by decide), if_pos rfl]; try rfl
    by_cases c : K 29 6 + (cl j : Nat) ≤ 64
    · skip
      refine V_iload_n C dX6_reason_0 rfl rfl ?_
      refine V_bipush C dX6_reason_1 (by decide +kernel) ?_
      refine V_icmp_ne (tgt := 39) C dX6_reason_3 (by decide) (by omega) (by omega) (fun q3 => ?_) (fun q3 => by exfalso; omega)
      refine V_iload_n C dX6_reason_39 rfl rfl ?_
      refine V_bipush C dX6_reason_40 (by decide +kernel) ?_
      refine V_icmp_ne (tgt := 74) C dX6_reason_42 (by decide) (by omega) (by omega) (fun q42 => ?_) (fun q42 => by exfalso; omega)
      refine V_iload_n C dX6_reason_74 rfl rfl ?_
      refine V_bipush C dX6_reason_75 (by decide +kernel) ?_
      refine V_icmp_ne (tgt := 99) C dX6_reason_77 (by decide) (by omega) (by omega) (fun q77 => ?_) (fun q77 => by exfalso; omega)
      refine V_iload_n C dX6_reason_99 rfl rfl ?_
      refine V_bipush C dX6_reason_100 (by decide +kernel) ?_
      refine V_icmp_ne (tgt := 124) C dX6_reason_102 (by decide) (by omega) (by omega) (fun q102 => by exfalso; omega) (fun q102 => ?_)
      refine V_aload_n C dX6_reason_105 rfl rfl ?_
      refine V_aload_n C dX6_reason_106 rfl rfl ?_
      refine V_getH (L := mOl G) C dX6_reason_107 fX6_121 (by decide) (fun _ => rfl) rfl ?_
      rw [Wq_7]
      refine V_V1 (k2 := 0) (s2 := 0) C dX6_reason_110 lX6_87 kX6_canSend (Ct_v (b2y (show K 29 6 + (hl 18 (gm 18 (j : Int).toNat) + 1 : Nat) ≤ 64 from c)) (c_X6_canSend G (Wq K a j q) r j (by omega) g6)) (by decide) (rfl) rfl rfl rfl ⟨Nat.le_of_ble_eq_true rfl, Nat.le_of_ble_eq_true rfl⟩ (Nat.le_of_ble_eq_true rfl) (Nat.le_refl _) (Nat.le_refl _) ?_
      refine V_if_eq (tgt := 120) C dX6_reason_113 (by decide) (by omega) (fun q113 => by exfalso; omega) (fun q113 => ?_)
      refine V_iconst C dX6_reason_116 ?_
      refine V_goto (tgt := 150) C dX6_reason_117 (by decide) ?_
      exact V_iret C dX6_reason_150 rfl hZ (by rw [eR, if_pos c]) rfl
    · skip
      refine V_iload_n C dX6_reason_0 rfl rfl ?_
      refine V_bipush C dX6_reason_1 (by decide +kernel) ?_
      refine V_icmp_ne (tgt := 39) C dX6_reason_3 (by decide) (by omega) (by omega) (fun q3 => ?_) (fun q3 => by exfalso; omega)
      refine V_iload_n C dX6_reason_39 rfl rfl ?_
      refine V_bipush C dX6_reason_40 (by decide +kernel) ?_
      refine V_icmp_ne (tgt := 74) C dX6_reason_42 (by decide) (by omega) (by omega) (fun q42 => ?_) (fun q42 => by exfalso; omega)
      refine V_iload_n C dX6_reason_74 rfl rfl ?_
      refine V_bipush C dX6_reason_75 (by decide +kernel) ?_
      refine V_icmp_ne (tgt := 99) C dX6_reason_77 (by decide) (by omega) (by omega) (fun q77 => ?_) (fun q77 => by exfalso; omega)
      refine V_iload_n C dX6_reason_99 rfl rfl ?_
      refine V_bipush C dX6_reason_100 (by decide +kernel) ?_
      refine V_icmp_ne (tgt := 124) C dX6_reason_102 (by decide) (by omega) (by omega) (fun q102 => by exfalso; omega) (fun q102 => ?_)
      refine V_aload_n C dX6_reason_105 rfl rfl ?_
      refine V_aload_n C dX6_reason_106 rfl rfl ?_
      refine V_getH (L := mOl G) C dX6_reason_107 fX6_121 (by decide) (fun _ => rfl) rfl ?_
      rw [Wq_7]
      refine V_V1 (k2 := 0) (s2 := 0) C dX6_reason_110 lX6_87 kX6_canSend (Ct_v (b2n (show ¬ (K 29 6 + (hl 18 (gm 18 (j : Int).toNat) + 1 : Nat) ≤ 64) from c)) (c_X6_canSend G (Wq K a j q) r j (by omega) g6)) (by decide) (rfl) rfl rfl rfl ⟨Nat.le_of_ble_eq_true rfl, Nat.le_of_ble_eq_true rfl⟩ (Nat.le_of_ble_eq_true rfl) (Nat.le_refl _) (Nat.le_refl _) ?_
      refine V_if_eq (tgt := 120) C dX6_reason_113 (by decide) (by omega) (fun q113 => ?_) (fun q113 => by exfalso; omega)
      refine V_iconst C dX6_reason_120 ?_
      refine V_goto (tgt := 150) C dX6_reason_121 (by decide) ?_
      exact V_iret C dX6_reason_150 rfl hZ (by rw [eR, if_neg c]) rfl
  · obtain ⟨e, g⟩ := g
    subst e
    obtain ⟨j, ej⟩ : ∃ j : Nat, p = (j : Int) := ⟨p.toNat, by omega⟩
    subst ej
    have eR : rsn (K 29) 102 (j : Int) q = if (j : Int) ≤ K 29 6 - 1 then 0 else 4 := by unfold rsn; rw [if_neg (by decide), if_neg (by decide), if_neg (by decide), if_neg (by decide), if_pos rfl]; try rfl
    by_cases c : (j : Int) ≤ K 29 6 - 1
    · skip
      refine V_iload_n C dX6_reason_0 rfl rfl ?_
      refine V_bipush C dX6_reason_1 (by decide +kernel) ?_
      refine V_icmp_ne (tgt := 39) C dX6_reason_3 (by decide) (by omega) (by omega) (fun q3 => ?_) (fun q3 => by exfalso; omega)
      refine V_iload_n C dX6_reason_39 rfl rfl ?_
      refine V_bipush C dX6_reason_40 (by decide +kernel) ?_
      refine V_icmp_ne (tgt := 74) C dX6_reason_42 (by decide) (by omega) (by omega) (fun q42 => ?_) (fun q42 => by exfalso; omega)
      refine V_iload_n C dX6_reason_74 rfl rfl ?_
      refine V_bipush C dX6_reason_75 (by decide +kernel) ?_
      refine V_icmp_ne (tgt := 99) C dX6_reason_77 (by decide) (by omega) (by omega) (fun q77 => ?_) (fun q77 => by exfalso; omega)
      refine V_iload_n C dX6_reason_99 rfl rfl ?_
      refine V_bipush C dX6_reason_100 (by decide +kernel) ?_
      refine V_icmp_ne (tgt := 124) C dX6_reason_102 (by decide) (by omega) (by omega) (fun q102 => ?_) (fun q102 => by exfalso; omega)
      refine V_iload_n C dX6_reason_124 rfl rfl ?_
      refine V_bipush C dX6_reason_125 (by decide +kernel) ?_
      refine V_icmp_ne (tgt := 149) C dX6_reason_127 (by decide) (by omega) (by omega) (fun q127 => by exfalso; omega) (fun q127 => ?_)
      refine V_aload_n C dX6_reason_130 rfl rfl ?_
      refine V_aload_n C dX6_reason_131 rfl rfl ?_
      refine V_getH (L := mOl G) C dX6_reason_132 fX6_121 (by decide) (fun _ => rfl) rfl ?_
      rw [Wq_7]
      refine V_V1 (k2 := 0) (s2 := 0) C dX6_reason_135 lX6_93 kX6_isDigit (Ct_v (b2y (show 0 ≤ (j : Int) ∧ (j : Int) ≤ K 29 6 - 1 from ⟨by omega, c⟩)) (c_X6_isDigit G (Wq K a j q) r g6 j (by omega))) (by decide) (rfl) rfl rfl rfl ⟨Nat.le_of_ble_eq_true rfl, Nat.le_of_ble_eq_true rfl⟩ (Nat.le_of_ble_eq_true rfl) (Nat.le_refl _) (Nat.le_refl _) ?_
      refine V_if_eq (tgt := 145) C dX6_reason_138 (by decide) (by omega) (fun q138 => by exfalso; omega) (fun q138 => ?_)
      refine V_iconst C dX6_reason_141 ?_
      refine V_goto (tgt := 150) C dX6_reason_142 (by decide) ?_
      exact V_iret C dX6_reason_150 rfl hZ (by rw [eR, if_pos c]) rfl
    · skip
      refine V_iload_n C dX6_reason_0 rfl rfl ?_
      refine V_bipush C dX6_reason_1 (by decide +kernel) ?_
      refine V_icmp_ne (tgt := 39) C dX6_reason_3 (by decide) (by omega) (by omega) (fun q3 => ?_) (fun q3 => by exfalso; omega)
      refine V_iload_n C dX6_reason_39 rfl rfl ?_
      refine V_bipush C dX6_reason_40 (by decide +kernel) ?_
      refine V_icmp_ne (tgt := 74) C dX6_reason_42 (by decide) (by omega) (by omega) (fun q42 => ?_) (fun q42 => by exfalso; omega)
      refine V_iload_n C dX6_reason_74 rfl rfl ?_
      refine V_bipush C dX6_reason_75 (by decide +kernel) ?_
      refine V_icmp_ne (tgt := 99) C dX6_reason_77 (by decide) (by omega) (by omega) (fun q77 => ?_) (fun q77 => by exfalso; omega)
      refine V_iload_n C dX6_reason_99 rfl rfl ?_
      refine V_bipush C dX6_reason_100 (by decide +kernel) ?_
      refine V_icmp_ne (tgt := 124) C dX6_reason_102 (by decide) (by omega) (by omega) (fun q102 => ?_) (fun q102 => by exfalso; omega)
      refine V_iload_n C dX6_reason_124 rfl rfl ?_
      refine V_bipush C dX6_reason_125 (by decide +kernel) ?_
      refine V_icmp_ne (tgt := 149) C dX6_reason_127 (by decide) (by omega) (by omega) (fun q127 => by exfalso; omega) (fun q127 => ?_)
      refine V_aload_n C dX6_reason_130 rfl rfl ?_
      refine V_aload_n C dX6_reason_131 rfl rfl ?_
      refine V_getH (L := mOl G) C dX6_reason_132 fX6_121 (by decide) (fun _ => rfl) rfl ?_
      rw [Wq_7]
      refine V_V1 (k2 := 0) (s2 := 0) C dX6_reason_135 lX6_93 kX6_isDigit (Ct_v (b2n (show ¬ (0 ≤ (j : Int) ∧ (j : Int) ≤ K 29 6 - 1) from (fun w => c w.2))) (c_X6_isDigit G (Wq K a j q) r g6 j (by omega))) (by decide) (rfl) rfl rfl rfl ⟨Nat.le_of_ble_eq_true rfl, Nat.le_of_ble_eq_true rfl⟩ (Nat.le_of_ble_eq_true rfl) (Nat.le_refl _) (Nat.le_refl _) ?_
      refine V_if_eq (tgt := 145) C dX6_reason_138 (by decide) (by omega) (fun q138 => ?_) (fun q138 => by exfalso; omega)
      refine V_iconst C dX6_reason_145 ?_
      refine V_goto (tgt := 150) C dX6_reason_146 (by decide) ?_
      exact V_iret C dX6_reason_150 rfl hZ (by rw [eR, if_neg c]) rfl
set_option maxRecDepth 100000 in
set_option maxHeartbeats 4000000 in
theorem c_X6_does (G : GT) (K : Nat → Nat → Int) (r : Nat → Option Nat) (a p q : Int) (w : Int) (hok : pOK w p q) (hG : GZ (K 29)) (h0 : rsn (K 29) w p q = 0) : CtO G yX6_does mX6_does [rf G 28, .int (iI w)] (Wq K a p q) r (none) (us (Wq K a p q) 29 (dos (K 29) w p q)) r := by
  refine Ct_of kX6_does.1.1 (by decide) [some (rf G 28), some (.int (iI w))] rfl (Nat.le_of_ble_eq_true rfl) ?_
  intro x C hZ
  have g5 := hG.1
  have g6 := hG.2.1
  rcases hok with g | g | g | g | g | g
  · obtain ⟨e, g⟩ := g
    subst e
    obtain ⟨j, ej⟩ : ∃ j : Nat, p = (j : Int) := ⟨p.toNat, by omega⟩
    subst ej
    obtain ⟨k, ek⟩ : ∃ k : Nat, q = (k : Int) := ⟨q.toNat, by omega⟩
    subst ek
    have gj := g5 j (by omega)
    have eD : dos (K 29) 61 (j : Int) (k : Int) = us (K 29) j k := by unfold dos; rw [if_pos rfl]; rfl
    refine V_iload_n C dX6_does_0 rfl rfl ?_
    refine V_bipush C dX6_does_1 (by decide +kernel) ?_
    refine V_icmp_ne (tgt := 22) C dX6_does_3 (by decide) (by omega) (by omega) (fun q3 => by exfalso; omega) (fun q3 => ?_)
    refine V_aload_n C dX6_does_6 rfl rfl ?_
    refine V_getH (L := mOl G) C dX6_does_7 fX6_7 (by decide) (fun _ => rfl) rfl ?_
    refine V_aload_n C dX6_does_10 rfl rfl ?_
    refine V_getH (L := mOl G) C dX6_does_11 fX6_121 (by decide) (fun _ => rfl) rfl ?_
    rw [Wq_7]
    refine V_aload_n C dX6_does_14 rfl rfl ?_
    refine V_getH (L := mOl G) C dX6_does_15 fX6_124 (by decide) (fun _ => rfl) rfl ?_
    rw [Wq_8]
    refine V_iastH C dX6_does_18 (by decide) (fun _ => rfl) (by omega) (by decide) ?_
    simp only [Wq_29, tnN]
    refine V_goto (tgt := 135) C dX6_does_19 (by decide) ?_
    exact V_vret C dX6_does_135 rfl hZ (by rw [eD])
  · obtain ⟨e, g⟩ := g
    subst e
    obtain ⟨j, ej⟩ : ∃ j : Nat, p = (j : Int) := ⟨p.toNat, by omega⟩
    subst ej
    obtain ⟨k, ek⟩ : ∃ k : Nat, q = (k : Int) := ⟨q.toNat, by omega⟩
    subst ek
    have gj := g5 j (by omega)
    have gk := g5 k (by omega)
    have eD : dos (K 29) 43 (j : Int) (k : Int) = us (K 29) j (K 29 j + K 29 k) := by unfold dos; rw [if_neg (by decide), if_pos rfl]; rfl
    refine V_iload_n C dX6_does_0 rfl rfl ?_
    refine V_bipush C dX6_does_1 (by decide +kernel) ?_
    refine V_icmp_ne (tgt := 22) C dX6_does_3 (by decide) (by omega) (by omega) (fun q3 => ?_) (fun q3 => by exfalso; omega)
    refine V_iload_n C dX6_does_22 rfl rfl ?_
    refine V_bipush C dX6_does_23 (by decide +kernel) ?_
    refine V_icmp_ne (tgt := 52) C dX6_does_25 (by decide) (by omega) (by omega) (fun q25 => by exfalso; omega) (fun q25 => ?_)
    refine V_aload_n C dX6_does_28 rfl rfl ?_
    refine V_getH (L := mOl G) C dX6_does_29 fX6_7 (by decide) (fun _ => rfl) rfl ?_
    refine V_aload_n C dX6_does_32 rfl rfl ?_
    refine V_getH (L := mOl G) C dX6_does_33 fX6_121 (by decide) (fun _ => rfl) rfl ?_
    rw [Wq_7]
    refine V_dup2 C dX6_does_36 rfl rfl ?_
    refine V_ialdH C dX6_does_37 (by decide) (fun _ => rfl) (by omega) (by decide) ?_
    simp only [Wq_29, tnN]
    refine V_aload_n C dX6_does_38 rfl rfl ?_
    refine V_getH (L := mOl G) C dX6_does_39 fX6_7 (by decide) (fun _ => rfl) rfl ?_
    refine V_aload_n C dX6_does_42 rfl rfl ?_
    refine V_getH (L := mOl G) C dX6_does_43 fX6_124 (by decide) (fun _ => rfl) rfl ?_
    rw [Wq_8]
    refine V_ialdH C dX6_does_46 (by decide) (fun _ => rfl) (by omega) (by decide) ?_
    simp only [Wq_29, tnN]
    refine V_iadd C dX6_does_47 ?_
    refine V_iastH C dX6_does_48 (by decide) (fun _ => rfl) (by omega) (by decide) ?_
    simp only [Wq_29, tnN]
    refine V_goto (tgt := 135) C dX6_does_49 (by decide) ?_
    exact V_vret C dX6_does_135 rfl hZ (by rw [eD])
  · obtain ⟨e, g⟩ := g
    subst e
    obtain ⟨j, ej⟩ : ∃ j : Nat, p = (j : Int) := ⟨p.toNat, by omega⟩
    subst ej
    obtain ⟨k, ek⟩ : ∃ k : Nat, q = (k : Int) := ⟨q.toNat, by omega⟩
    subst ek
    have gj := g5 j (by omega)
    have gk := g5 k (by omega)
    have eD : dos (K 29) 45 (j : Int) (k : Int) = us (K 29) j (K 29 j - K 29 k) := by unfold dos; rw [if_neg (by decide), if_neg (by decide), if_pos rfl]; rfl
    refine V_iload_n C dX6_does_0 rfl rfl ?_
    refine V_bipush C dX6_does_1 (by decide +kernel) ?_
    refine V_icmp_ne (tgt := 22) C dX6_does_3 (by decide) (by omega) (by omega) (fun q3 => ?_) (fun q3 => by exfalso; omega)
    refine V_iload_n C dX6_does_22 rfl rfl ?_
    refine V_bipush C dX6_does_23 (by decide +kernel) ?_
    refine V_icmp_ne (tgt := 52) C dX6_does_25 (by decide) (by omega) (by omega) (fun q25 => ?_) (fun q25 => by exfalso; omega)
    refine V_iload_n C dX6_does_52 rfl rfl ?_
    refine V_bipush C dX6_does_53 (by decide +kernel) ?_
    refine V_icmp_ne (tgt := 82) C dX6_does_55 (by decide) (by omega) (by omega) (fun q55 => by exfalso; omega) (fun q55 => ?_)
    refine V_aload_n C dX6_does_58 rfl rfl ?_
    refine V_getH (L := mOl G) C dX6_does_59 fX6_7 (by decide) (fun _ => rfl) rfl ?_
    refine V_aload_n C dX6_does_62 rfl rfl ?_
    refine V_getH (L := mOl G) C dX6_does_63 fX6_121 (by decide) (fun _ => rfl) rfl ?_
    rw [Wq_7]
    refine V_dup2 C dX6_does_66 rfl rfl ?_
    refine V_ialdH C dX6_does_67 (by decide) (fun _ => rfl) (by omega) (by decide) ?_
    simp only [Wq_29, tnN]
    refine V_aload_n C dX6_does_68 rfl rfl ?_
    refine V_getH (L := mOl G) C dX6_does_69 fX6_7 (by decide) (fun _ => rfl) rfl ?_
    refine V_aload_n C dX6_does_72 rfl rfl ?_
    refine V_getH (L := mOl G) C dX6_does_73 fX6_124 (by decide) (fun _ => rfl) rfl ?_
    rw [Wq_8]
    refine V_ialdH C dX6_does_76 (by decide) (fun _ => rfl) (by omega) (by decide) ?_
    simp only [Wq_29, tnN]
    refine V_isub C dX6_does_77 ?_
    refine V_iastH C dX6_does_78 (by decide) (fun _ => rfl) (by omega) (by decide) ?_
    simp only [Wq_29, tnN]
    refine V_goto (tgt := 135) C dX6_does_79 (by decide) ?_
    exact V_vret C dX6_does_135 rfl hZ (by rw [eD])
  · obtain ⟨e, g⟩ := g
    subst e
    obtain ⟨j, ej⟩ : ∃ j : Nat, p = (j : Int) := ⟨p.toNat, by omega⟩
    subst ej
    have gj := g5 j (by omega)
    have eD : dos (K 29) 94 (j : Int) q = us (K 29) j ((wo 22 (gm 18 (K 29 j).toNat <<< 1) : Nat) : Int) := by unfold dos; rw [if_neg (by decide), if_neg (by decide), if_neg (by decide), if_pos rfl]; rfl
    refine V_iload_n C dX6_does_0 rfl rfl ?_
    refine V_bipush C dX6_does_1 (by decide +kernel) ?_
    refine V_icmp_ne (tgt := 22) C dX6_does_3 (by decide) (by omega) (by omega) (fun q3 => ?_) (fun q3 => by exfalso; omega)
    refine V_iload_n C dX6_does_22 rfl rfl ?_
    refine V_bipush C dX6_does_23 (by decide +kernel) ?_
    refine V_icmp_ne (tgt := 52) C dX6_does_25 (by decide) (by omega) (by omega) (fun q25 => ?_) (fun q25 => by exfalso; omega)
    refine V_iload_n C dX6_does_52 rfl rfl ?_
    refine V_bipush C dX6_does_53 (by decide +kernel) ?_
    refine V_icmp_ne (tgt := 82) C dX6_does_55 (by decide) (by omega) (by omega) (fun q55 => ?_) (fun q55 => by exfalso; omega)
    refine V_iload_n C dX6_does_82 rfl rfl ?_
    refine V_bipush C dX6_does_83 (by decide +kernel) ?_
    refine V_icmp_ne (tgt := 108) C dX6_does_85 (by decide) (by omega) (by omega) (fun q85 => by exfalso; omega) (fun q85 => ?_)
    refine V_aload_n C dX6_does_88 rfl rfl ?_
    refine V_getH (L := mOl G) C dX6_does_89 fX6_7 (by decide) (fun _ => rfl) rfl ?_
    refine V_aload_n C dX6_does_92 rfl rfl ?_
    refine V_getH (L := mOl G) C dX6_does_93 fX6_121 (by decide) (fun _ => rfl) rfl ?_
    rw [Wq_7]
    refine V_aload_n C dX6_does_96 rfl rfl ?_
    refine V_aload_n C dX6_does_97 rfl rfl ?_
    refine V_getH (L := mOl G) C dX6_does_98 fX6_121 (by decide) (fun _ => rfl) rfl ?_
    rw [Wq_7]
    refine V_V1 (k2 := 0) (s2 := 0) C dX6_does_101 lX6_81 kX6_raised (c_X6_raised G (Wq K a j q) r j (by omega) gj) (by decide) (rfl) rfl rfl rfl ⟨Nat.le_of_ble_eq_true rfl, Nat.le_of_ble_eq_true rfl⟩ (Nat.le_of_ble_eq_true rfl) (Nat.le_refl _) (Nat.le_refl _) ?_
    refine V_iastH C dX6_does_104 (by decide) (fun _ => rfl) (by omega) (by decide) ?_
    simp only [Wq_29, tnN]
    refine V_goto (tgt := 135) C dX6_does_105 (by decide) ?_
    exact V_vret C dX6_does_135 rfl hZ (by rw [eD])
  · obtain ⟨e, g⟩ := g
    subst e
    obtain ⟨j, ej⟩ : ∃ j : Nat, p = (j : Int) := ⟨p.toNat, by omega⟩
    subst ej
    have eD : dos (K 29) 115 (j : Int) q = sdF (K 29) (K 29 6).toNat (gm 18 j) (cl j) (cl j) := by unfold dos; rw [if_neg (by decide), if_neg (by decide), if_neg (by decide), if_neg (by decide), if_pos rfl]; rfl
    have h1 : (K 29 6).toNat + (hl 18 (gm 18 (j : Int).toNat) + 1) ≤ 64 := by
      unfold rsn at h0
      rw [if_neg (by decide), if_neg (by decide), if_neg (by decide), if_pos rfl] at h0
      by_cases c : K 29 6 + (cl j : Nat) ≤ 64
      · unfold cl at c; omega
      · rw [if_neg c] at h0; exact absurd h0 (by decide)
    refine V_iload_n C dX6_does_0 rfl rfl ?_
    refine V_bipush C dX6_does_1 (by decide +kernel) ?_
    refine V_icmp_ne (tgt := 22) C dX6_does_3 (by decide) (by omega) (by omega) (fun q3 => ?_) (fun q3 => by exfalso; omega)
    refine V_iload_n C dX6_does_22 rfl rfl ?_
    refine V_bipush C dX6_does_23 (by decide +kernel) ?_
    refine V_icmp_ne (tgt := 52) C dX6_does_25 (by decide) (by omega) (by omega) (fun q25 => ?_) (fun q25 => by exfalso; omega)
    refine V_iload_n C dX6_does_52 rfl rfl ?_
    refine V_bipush C dX6_does_53 (by decide +kernel) ?_
    refine V_icmp_ne (tgt := 82) C dX6_does_55 (by decide) (by omega) (by omega) (fun q55 => ?_) (fun q55 => by exfalso; omega)
    refine V_iload_n C dX6_does_82 rfl rfl ?_
    refine V_bipush C dX6_does_83 (by decide +kernel) ?_
    refine V_icmp_ne (tgt := 108) C dX6_does_85 (by decide) (by omega) (by omega) (fun q85 => ?_) (fun q85 => by exfalso; omega)
    refine V_iload_n C dX6_does_108 rfl rfl ?_
    refine V_bipush C dX6_does_109 (by decide +kernel) ?_
    refine V_icmp_ne (tgt := 126) C dX6_does_111 (by decide) (by omega) (by omega) (fun q111 => by exfalso; omega) (fun q111 => ?_)
    refine V_aload_n C dX6_does_114 rfl rfl ?_
    refine V_aload_n C dX6_does_115 rfl rfl ?_
    refine V_getH (L := mOl G) C dX6_does_116 fX6_121 (by decide) (fun _ => rfl) rfl ?_
    rw [Wq_7]
    refine V_V1 (k2 := 0) (s2 := 0) C dX6_does_119 lX6_90 kX6_sends (c_X6_sends G (Wq K a j q) r j (by omega) (K 29 6).toNat (toN g6.1).symm h1) (by decide) (rfl) rfl rfl rfl ⟨Nat.le_of_ble_eq_true rfl, Nat.le_of_ble_eq_true rfl⟩ (Nat.le_of_ble_eq_true rfl) (Nat.le_refl _) (Nat.le_refl _) ?_
    refine V_pop C dX6_does_122 rfl ?_
    refine V_goto (tgt := 135) C dX6_does_123 (by decide) ?_
    exact V_vret C dX6_does_135 rfl hZ (by rw [eD]; rfl)
  · obtain ⟨e, g⟩ := g
    subst e
    obtain ⟨j, ej⟩ : ∃ j : Nat, p = (j : Int) := ⟨p.toNat, by omega⟩
    subst ej
    have eD : dos (K 29) 102 (j : Int) q = us (K 29) (7 + j) (1 - K 29 (7 + j)) := by unfold dos; rw [if_neg (by decide), if_neg (by decide), if_neg (by decide), if_neg (by decide), if_neg (by decide)]; rfl
    refine V_iload_n C dX6_does_0 rfl rfl ?_
    refine V_bipush C dX6_does_1 (by decide +kernel) ?_
    refine V_icmp_ne (tgt := 22) C dX6_does_3 (by decide) (by omega) (by omega) (fun q3 => ?_) (fun q3 => by exfalso; omega)
    refine V_iload_n C dX6_does_22 rfl rfl ?_
    refine V_bipush C dX6_does_23 (by decide +kernel) ?_
    refine V_icmp_ne (tgt := 52) C dX6_does_25 (by decide) (by omega) (by omega) (fun q25 => ?_) (fun q25 => by exfalso; omega)
    refine V_iload_n C dX6_does_52 rfl rfl ?_
    refine V_bipush C dX6_does_53 (by decide +kernel) ?_
    refine V_icmp_ne (tgt := 82) C dX6_does_55 (by decide) (by omega) (by omega) (fun q55 => ?_) (fun q55 => by exfalso; omega)
    refine V_iload_n C dX6_does_82 rfl rfl ?_
    refine V_bipush C dX6_does_83 (by decide +kernel) ?_
    refine V_icmp_ne (tgt := 108) C dX6_does_85 (by decide) (by omega) (by omega) (fun q85 => ?_) (fun q85 => by exfalso; omega)
    refine V_iload_n C dX6_does_108 rfl rfl ?_
    refine V_bipush C dX6_does_109 (by decide +kernel) ?_
    refine V_icmp_ne (tgt := 126) C dX6_does_111 (by decide) (by omega) (by omega) (fun q111 => ?_) (fun q111 => by exfalso; omega)
    refine V_aload_n C dX6_does_126 rfl rfl ?_
    refine V_aload_n C dX6_does_127 rfl rfl ?_
    refine V_getH (L := mOl G) C dX6_does_128 fX6_121 (by decide) (fun _ => rfl) rfl ?_
    rw [Wq_7]
    refine V_V1 (k2 := 0) (s2 := 0) C dX6_does_131 lX6_96 kX6_turns (c_X6_turns G (Wq K a j q) r j (by omega)) (by decide) (rfl) rfl rfl rfl ⟨Nat.le_of_ble_eq_true rfl, Nat.le_of_ble_eq_true rfl⟩ (Nat.le_of_ble_eq_true rfl) (Nat.le_refl _) (Nat.le_refl _) ?_
    refine V_pop C dX6_does_134 rfl ?_
    exact V_vret C dX6_does_135 rfl hZ (by rw [eD]; rfl)
