set_option maxRecDepth 100000 in
set_option maxHeartbeats 4000000 in
theorem c_X1_numberAt (G : GT) (K : Nat → Nat → Int) (r : Nat → Option Nat) (p : Int) (hp : 0 ≤ p ∧ p ≤ 31) : CtO G yX1_numberAt mX1_numberAt [rf G 8, .int (iI p)] K r (some (.int (iI (K 9 p.toNat)))) (K) (r) := by
  refine Ct_of kX1_numberAt.1.1 (by decide) [some (rf G 8), some (.int (iI p))] rfl (Nat.le_of_ble_eq_true rfl) ?_
  intro x C hZ
  refine V_iload_n C dX1_numberAt_0 rfl rfl ?_
  refine V_if_lt (tgt := 22) C dX1_numberAt_1 (by decide) (by omega) (fun q1 => by exfalso; omega) (fun q1 => ?_)
  refine V_iload_n C dX1_numberAt_4 rfl rfl ?_
  refine V_aload_n C dX1_numberAt_5 rfl rfl ?_
  refine V_getH (L := rdL G) C dX1_numberAt_6 fX1_9 (by decide) (fun _ => rfl) rfl ?_
  refine V_alenH C dX1_numberAt_9 (by decide) (fun _ => rfl) ?_
  refine V_icmp_ge (tgt := 22) C dX1_numberAt_10 (by decide) (by omega) (by omega) (fun q10 => by exfalso; omega) (fun q10 => ?_)
  refine V_aload_n C dX1_numberAt_13 rfl rfl ?_
  refine V_getH (L := rdL G) C dX1_numberAt_14 fX1_9 (by decide) (fun _ => rfl) rfl ?_
  refine V_iload_n C dX1_numberAt_17 rfl rfl ?_
  refine V_ialdH C dX1_numberAt_18 (by decide) (fun _ => rfl) (by omega) (by decide) ?_
  refine V_goto (tgt := 23) C dX1_numberAt_19 (by decide) ?_
  exact V_iret C dX1_numberAt_23 rfl hZ (by first | rfl | omega) rfl
set_option maxRecDepth 100000 in
set_option maxHeartbeats 4000000 in
theorem e_X1_endNumber (G : GT) (K : Nat → Nat → Int) (r : Nat → Option Nat) (X : Nat) (s : Int) (hs : 18 < s ∧ s ≤ 64) : CtO G yX1_endNumber mX1_endNumber [rf G 8, .long (lL (X : Int)), .int (iI s)] K r (none) (us K 8 (us (K 8) 2 (K 8 2 + 1))) (r) := by
  refine Ct_of kX1_endNumber.1.1 (by decide) [some (rf G 8), some (.long (lL (X : Int))), none, some (.int (iI s)), none, none] rfl (Nat.le_of_ble_eq_true rfl) ?_
  intro x C hZ
  refine V_iload_n C dX1_endNumber_0 rfl rfl ?_
  refine V_bipush C dX1_endNumber_1 (by decide +kernel) ?_
  refine V_icmp_le (tgt := 19) C dX1_endNumber_3 (by decide) (by omega) (by omega) (fun q3 => by exfalso; omega) (fun q3 => ?_)
  refine V_aload_n C dX1_endNumber_6 rfl rfl ?_
  refine V_dup C dX1_endNumber_7 rfl ?_
  refine V_getH (L := rdL G) C dX1_endNumber_8 fX1_19 (by decide) (fun _ => rfl) rfl ?_
  refine V_iconst C dX1_endNumber_11 ?_
  refine V_iadd C dX1_endNumber_12 ?_
  refine V_putH (L := rdL G) (ty := .int) C dX1_endNumber_13 fX1_19 (by decide) (fun _ => rfl) rfl (by decide +kernel) (rfl) (rfl) (Nat.le_of_ble_eq_true rfl) rfl ?_
  refine V_goto (tgt := 72) C dX1_endNumber_16 (by decide) ?_
  exact V_vret C dX1_endNumber_72 rfl hZ rfl
set_option maxRecDepth 100000 in
set_option maxHeartbeats 4000000 in
theorem c_X1_endNumber (G : GT) (K : Nat → Nat → Int) (r : Nat → Option Nat) (X s : Nat) (hs : s ≤ 18) (n : Nat) (hn : K 8 1 = n) (hn2 : n < 32) : CtO G yX1_endNumber mX1_endNumber [rf G 8, .long (lL (X : Int)), .int (iI (s : Int))] K r (none) (us (us K 9 (us (K 9) n (wo 18 (X &&& (1 <<< s - 1)) : Nat))) 8 (us (K 8) 1 ((n + 1 : Nat) : Int))) (r) := by
  refine Ct_of kX1_endNumber.1.1 (by decide) [some (rf G 8), some (.long (lL (X : Int))), none, some (.int (iI (s : Int))), none, none] rfl (Nat.le_of_ble_eq_true rfl) ?_
  intro x C hZ
  have hs1 : 1 <<< s = 2 ^ s := Nat.one_shiftLeft s
  have hs2 : 2 ^ s ≤ 2 ^ 18 := Nat.pow_le_pow_right (by decide) hs
  have hs3 : 1 ≤ 2 ^ s := Nat.one_le_two_pow
  have hm : (X &&& (1 <<< s - 1)) ≤ 1 <<< s - 1 := Nat.and_le_right
  have hs4 : (2 : Nat) ^ 18 = 262144 := by decide
  have hsI : ((1 <<< s : Nat) : Int) - 1 = ((1 <<< s - 1 : Nat) : Int) := by rw [hs1]; omega
  refine V_iload_n C dX1_endNumber_0 rfl rfl ?_
  refine V_bipush C dX1_endNumber_1 (by decide +kernel) ?_
  refine V_icmp_le (tgt := 19) C dX1_endNumber_3 (by decide) (by omega) (by omega) (fun q3 => ?_) (fun q3 => by exfalso; omega)
  refine V_aload_n C dX1_endNumber_19 rfl rfl ?_
  refine V_getH (L := rdL G) C dX1_endNumber_20 fX1_15 (by decide) (fun _ => rfl) rfl ?_
  rw [hn]
  refine V_if_lt (tgt := 72) C dX1_endNumber_23 (by decide) (by omega) (fun q23 => by exfalso; omega) (fun q23 => ?_)
  refine V_aload_n C dX1_endNumber_26 rfl rfl ?_
  refine V_getH (L := rdL G) C dX1_endNumber_27 fX1_15 (by decide) (fun _ => rfl) rfl ?_
  rw [hn]
  refine V_aload_n C dX1_endNumber_30 rfl rfl ?_
  refine V_getH (L := rdL G) C dX1_endNumber_31 fX1_9 (by decide) (fun _ => rfl) rfl ?_
  refine V_alenH C dX1_endNumber_34 (by decide) (fun _ => rfl) ?_
  refine V_icmp_ge (tgt := 72) C dX1_endNumber_35 (by decide) (by omega) (by omega) (fun q35 => by exfalso; omega) (fun q35 => ?_)
  refine V_lload_n C dX1_endNumber_38 rfl rfl ?_
  refine V_lconst (z := 1) C dX1_endNumber_39 (by decide +kernel) ?_
  refine V_iload_n C dX1_endNumber_40 rfl rfl ?_
  refine V_lshl C dX1_endNumber_41 1 s (by first | rfl | omega) (by first | rfl | omega) (by omega) ?_
  refine V_lconst (z := 1) C dX1_endNumber_42 (by decide +kernel) ?_
  refine V_lsub C dX1_endNumber_43 ?_
  refine V_land C dX1_endNumber_44 X (1 <<< s - 1) (by first | rfl | exact hsI) (by first | rfl | exact hsI) ?_
  refine V_lstore C dX1_endNumber_45 (Nat.le_of_ble_eq_true rfl) rfl ?_
  refine V_aload_n C dX1_endNumber_47 rfl rfl ?_
  refine V_getH (L := rdL G) C dX1_endNumber_48 fX1_9 (by decide) (fun _ => rfl) rfl ?_
  refine V_aload_n C dX1_endNumber_51 rfl rfl ?_
  refine V_getH (L := rdL G) C dX1_endNumber_52 fX1_15 (by decide) (fun _ => rfl) rfl ?_
  rw [hn]
  refine V_lload C dX1_endNumber_55 rfl ?_
  refine V_l2i C dX1_endNumber_57 (X &&& (1 <<< s - 1)) (by first | rfl | omega) ?_
  refine V_SN1 (k2 := 0) (s2 := 0) C dX1_endNumber_58 lX1_33 kX5_worthOfMark (c_X5_worthOfMark (X &&& (1 <<< s - 1)) (by omega) G 28 false _) rfl rfl ⟨Nat.le_of_ble_eq_true rfl, Nat.le_of_ble_eq_true rfl⟩ (Nat.le_of_ble_eq_true rfl) (Nat.le_refl _) (Nat.le_refl _) ?_
  refine V_iastH C dX1_endNumber_61 (by decide) (fun _ => rfl) (by omega) (by decide) ?_
  refine V_aload_n C dX1_endNumber_62 rfl rfl ?_
  refine V_dup C dX1_endNumber_63 rfl ?_
  refine V_getH (L := rdL G) C dX1_endNumber_64 fX1_15 (by decide) (fun _ => rfl) rfl ?_
  rw [us_ne _ _ (show (8 : Nat) ≠ 9 by decide), hn]
  refine V_iconst C dX1_endNumber_67 ?_
  refine V_iadd C dX1_endNumber_68 ?_
  refine V_putH (L := rdL G) (ty := .int) C dX1_endNumber_69 fX1_15 (by decide) (fun _ => rfl) rfl (by decide +kernel) (rfl) (rfl) (Nat.le_of_ble_eq_true rfl) rfl ?_
  exact V_vret C dX1_endNumber_72 rfl hZ (by rw [us_ne _ _ (show (8 : Nat) ≠ 9 by decide)]; rfl)
set_option maxRecDepth 100000 in
set_option maxHeartbeats 4000000 in
theorem c_X1_readAll (G : GT) (K : Nat → Nat → Int) (r : Nat → Option Nat) (d : Nat → Int) (L : Nat) (h64 : L ≤ 64) (hd : ∀ j, j < 64 → 0 ≤ d j ∧ d j ≤ 1) : CtO G yX1_readAll mX1_readAll [rf G 8, .long (lL (dN d L : Int)), .int (iI (L : Int))] K r (none) (Rd K ((rdS d L).2.2.2.length : Nat) ((rdS d L).2.2.1 : Nat) ((rdS d L).2.1 : Nat) (foU (K 9) (rdS d L).2.2.2)) (r) := by
  refine Ct_of kX1_readAll.1.1 (by decide) [some (rf G 8), some (.long (lL (dN d L : Int))), none, some (.int (iI (L : Int))), none, none] rfl (Nat.le_of_ble_eq_true rfl) ?_
  intro x C hZ
  have hD := dN_64 d h64
  have loop : ∀ (f k : Nat) (st0 n w : Int) (fo : Nat → Int), 1 ≤ k → k + f = L → st0 = (k : Int) - ((rdS d k).2.1 : Nat) → n = ((rdS d k).2.2.2.length : Nat) → w = ((rdS d k).2.2.1 : Nat) → fo = foU (K 9) (rdS d k).2.2.2 → V G mX1_readAll x 16 [some (rf G 8), some (.long (lL (dN d L : Int))), none, some (.int (iI (L : Int))), some (.int (iI st0)), some (.int (iI (k : Int)))] [] 28 false (HP G (Rd K n w (K 8 3) fo) r) 0 0 := by
    intro f
    induction f with
    | zero =>
      intro k st0 n w fo hk e e1 e2 e3 e4
      obtain rfl : k = L := by omega
      have hlo := rdS_lo d k
      refine V_iload C dX1_readAll_16 rfl ?_
      refine V_iload_n C dX1_readAll_18 rfl rfl ?_
      refine V_icmp_ge (tgt := 76) C dX1_readAll_19 (by decide) (by omega) (by omega) (fun q19 => ?_) (fun q19 => by exfalso; omega)
      refine V_aload_n C dX1_readAll_76 rfl rfl ?_
      refine V_iload_n C dX1_readAll_77 rfl rfl ?_
      refine V_iload C dX1_readAll_78 rfl ?_
      refine V_isub C dX1_readAll_80 ?_
      refine V_putH (L := rdL G) (ty := .int) C dX1_readAll_81 fX1_30 (by decide) (fun _ => rfl) rfl (by decide +kernel) (rfl) (rfl) (Nat.le_of_ble_eq_true rfl) rfl ?_
      exact V_vret C dX1_readAll_84 rfl hZ (by rw [Rd_p3, e1, e2, e3, e4, show (k : Int) - ((k : Int) - ((rdS d k).2.1 : Nat)) = ((rdS d k).2.1 : Nat) by omega])
    | succ f ih =>
      intro k st0 n w fo hk e e1 e2 e3 e4
      have He := rdS_e (d := d) (k := k)
      have Hn := rdS_n (d := d) (k := k)
      have f1 := rdS_mk d k
      have f2 := rdS_le d k
      have hmk0 := rdS_mark d (k := k) (L := L) (by omega)
      obtain ⟨q, hq⟩ : ∃ q, q = rdS d k := ⟨_, rfl⟩
      rw [← hq] at e1 e2 e3 e4 He Hn f1 f2 hmk0
      clear hq
      obtain ⟨M, Lo, Wr, Nu⟩ := q
      dsimp only at e1 e2 e3 e4 He Hn f1 f2 hmk0
      subst e1; subst e2; subst e3; subst e4
      have g1 := hd k (by omega)
      have g2 := hd (k - 1) (by omega)
      rcases (show (Lo = 0) ∨ (0 < Lo ∧ d (k - 1) ≠ 1) ∨ (0 < Lo ∧ d (k - 1) = 1 ∧ d k ≠ 1) ∨ (0 < Lo ∧ d (k - 1) = 1 ∧ d k = 1 ∧ Lo ≤ 18) ∨ (0 < Lo ∧ d (k - 1) = 1 ∧ d k = 1 ∧ 18 < Lo) by omega) with u | u | u | u | u
      · refine V_iload C dX1_readAll_16 rfl ?_
        refine V_iload_n C dX1_readAll_18 rfl rfl ?_
        refine V_icmp_ge (tgt := 76) C dX1_readAll_19 (by decide) (by omega) (by omega) (fun q19 => by exfalso; omega) (fun q19 => ?_)
        refine V_iload C dX1_readAll_22 rfl ?_
        refine V_iload C dX1_readAll_24 rfl ?_
        refine V_icmp_le (tgt := 70) C dX1_readAll_26 (by decide) (by omega) (by omega) (fun q26 => ?_) (fun q26 => by exfalso; omega)
        refine V_iinc C dX1_readAll_70 rfl (Nat.le_of_ble_eq_true rfl) rfl ?_
        refine V_goto (tgt := 16) C dX1_readAll_73 (by decide) ?_
        have g := Hn (by omega)
        exact ih (k + 1) _ _ _ _ (by omega) (by omega) (by rw [g]; show _ = ((k + 1 : Nat) : Int) - ((Lo + 1 : Nat) : Int); omega) (by rw [g]) (by rw [g]) (by rw [g])
      · refine V_iload C dX1_readAll_16 rfl ?_
        refine V_iload_n C dX1_readAll_18 rfl rfl ?_
        refine V_icmp_ge (tgt := 76) C dX1_readAll_19 (by decide) (by omega) (by omega) (fun q19 => by exfalso; omega) (fun q19 => ?_)
        refine V_iload C dX1_readAll_22 rfl ?_
        refine V_iload C dX1_readAll_24 rfl ?_
        refine V_icmp_le (tgt := 70) C dX1_readAll_26 (by decide) (by omega) (by omega) (fun q26 => by exfalso; omega) (fun q26 => ?_)
        refine V_lload_n C dX1_readAll_29 rfl rfl ?_
        refine V_iload C dX1_readAll_30 rfl ?_
        refine V_iconst C dX1_readAll_32 ?_
        refine V_isub C dX1_readAll_33 ?_
        refine V_SN1 (k2 := 0) (s2 := 0) C dX1_readAll_34 lX1_22 kX5_digitOf (i_X5_digitOf G 28 false _ (dN d L) ((k : Int) - 1) hD (by omega)) rfl rfl ⟨Nat.le_of_ble_eq_true rfl, Nat.le_of_ble_eq_true rfl⟩ (Nat.le_of_ble_eq_true rfl) (Nat.le_refl _) (Nat.le_refl _) ?_
        rw [show ((k : Int) - 1).toNat = k - 1 by omega, dN_bit (by omega) g2]
        refine V_iconst C dX1_readAll_37 ?_
        refine V_icmp_ne (tgt := 70) C dX1_readAll_38 (by decide) (by omega) (by omega) (fun q38 => ?_) (fun q38 => by exfalso; omega)
        refine V_iinc C dX1_readAll_70 rfl (Nat.le_of_ble_eq_true rfl) rfl ?_
        refine V_goto (tgt := 16) C dX1_readAll_73 (by decide) ?_
        have g := Hn (by omega)
        exact ih (k + 1) _ _ _ _ (by omega) (by omega) (by rw [g]; show _ = ((k + 1 : Nat) : Int) - ((Lo + 1 : Nat) : Int); omega) (by rw [g]) (by rw [g]) (by rw [g])
      · refine V_iload C dX1_readAll_16 rfl ?_
        refine V_iload_n C dX1_readAll_18 rfl rfl ?_
        refine V_icmp_ge (tgt := 76) C dX1_readAll_19 (by decide) (by omega) (by omega) (fun q19 => by exfalso; omega) (fun q19 => ?_)
        refine V_iload C dX1_readAll_22 rfl ?_
        refine V_iload C dX1_readAll_24 rfl ?_
        refine V_icmp_le (tgt := 70) C dX1_readAll_26 (by decide) (by omega) (by omega) (fun q26 => by exfalso; omega) (fun q26 => ?_)
        refine V_lload_n C dX1_readAll_29 rfl rfl ?_
        refine V_iload C dX1_readAll_30 rfl ?_
        refine V_iconst C dX1_readAll_32 ?_
        refine V_isub C dX1_readAll_33 ?_
        refine V_SN1 (k2 := 0) (s2 := 0) C dX1_readAll_34 lX1_22 kX5_digitOf (i_X5_digitOf G 28 false _ (dN d L) ((k : Int) - 1) hD (by omega)) rfl rfl ⟨Nat.le_of_ble_eq_true rfl, Nat.le_of_ble_eq_true rfl⟩ (Nat.le_of_ble_eq_true rfl) (Nat.le_refl _) (Nat.le_refl _) ?_
        rw [show ((k : Int) - 1).toNat = k - 1 by omega, dN_bit (by omega) g2]
        refine V_iconst C dX1_readAll_37 ?_
        refine V_icmp_ne (tgt := 70) C dX1_readAll_38 (by decide) (by omega) (by omega) (fun q38 => by exfalso; omega) (fun q38 => ?_)
        refine V_lload_n C dX1_readAll_41 rfl rfl ?_
        refine V_iload C dX1_readAll_42 rfl ?_
        refine V_SN1 (k2 := 0) (s2 := 0) C dX1_readAll_44 lX1_22 kX5_digitOf (i_X5_digitOf G 28 false _ (dN d L) (k : Int) hD (by omega)) rfl rfl ⟨Nat.le_of_ble_eq_true rfl, Nat.le_of_ble_eq_true rfl⟩ (Nat.le_of_ble_eq_true rfl) (Nat.le_refl _) (Nat.le_refl _) ?_
        rw [tnN, dN_bit (by omega) g1]
        refine V_iconst C dX1_readAll_47 ?_
        refine V_icmp_ne (tgt := 70) C dX1_readAll_48 (by decide) (by omega) (by omega) (fun q48 => ?_) (fun q48 => by exfalso; omega)
        refine V_iinc C dX1_readAll_70 rfl (Nat.le_of_ble_eq_true rfl) rfl ?_
        refine V_goto (tgt := 16) C dX1_readAll_73 (by decide) ?_
        have g := Hn (by omega)
        exact ih (k + 1) _ _ _ _ (by omega) (by omega) (by rw [g]; show _ = ((k + 1 : Nat) : Int) - ((Lo + 1 : Nat) : Int); omega) (by rw [g]) (by rw [g]) (by rw [g])
      · refine V_iload C dX1_readAll_16 rfl ?_
        refine V_iload_n C dX1_readAll_18 rfl rfl ?_
        refine V_icmp_ge (tgt := 76) C dX1_readAll_19 (by decide) (by omega) (by omega) (fun q19 => by exfalso; omega) (fun q19 => ?_)
        refine V_iload C dX1_readAll_22 rfl ?_
        refine V_iload C dX1_readAll_24 rfl ?_
        refine V_icmp_le (tgt := 70) C dX1_readAll_26 (by decide) (by omega) (by omega) (fun q26 => by exfalso; omega) (fun q26 => ?_)
        refine V_lload_n C dX1_readAll_29 rfl rfl ?_
        refine V_iload C dX1_readAll_30 rfl ?_
        refine V_iconst C dX1_readAll_32 ?_
        refine V_isub C dX1_readAll_33 ?_
        refine V_SN1 (k2 := 0) (s2 := 0) C dX1_readAll_34 lX1_22 kX5_digitOf (i_X5_digitOf G 28 false _ (dN d L) ((k : Int) - 1) hD (by omega)) rfl rfl ⟨Nat.le_of_ble_eq_true rfl, Nat.le_of_ble_eq_true rfl⟩ (Nat.le_of_ble_eq_true rfl) (Nat.le_refl _) (Nat.le_refl _) ?_
        rw [show ((k : Int) - 1).toNat = k - 1 by omega, dN_bit (by omega) g2]
        refine V_iconst C dX1_readAll_37 ?_
        refine V_icmp_ne (tgt := 70) C dX1_readAll_38 (by decide) (by omega) (by omega) (fun q38 => by exfalso; omega) (fun q38 => ?_)
        refine V_lload_n C dX1_readAll_41 rfl rfl ?_
        refine V_iload C dX1_readAll_42 rfl ?_
        refine V_SN1 (k2 := 0) (s2 := 0) C dX1_readAll_44 lX1_22 kX5_digitOf (i_X5_digitOf G 28 false _ (dN d L) (k : Int) hD (by omega)) rfl rfl ⟨Nat.le_of_ble_eq_true rfl, Nat.le_of_ble_eq_true rfl⟩ (Nat.le_of_ble_eq_true rfl) (Nat.le_refl _) (Nat.le_refl _) ?_
        rw [tnN, dN_bit (by omega) g1]
        refine V_iconst C dX1_readAll_47 ?_
        refine V_icmp_ne (tgt := 70) C dX1_readAll_48 (by decide) (by omega) (by omega) (fun q48 => by exfalso; omega) (fun q48 => ?_)
        refine V_aload_n C dX1_readAll_51 rfl rfl ?_
        refine V_lload_n C dX1_readAll_52 rfl rfl ?_
        refine V_iload C dX1_readAll_53 rfl ?_
        refine V_lushr C dX1_readAll_55 (dN d L) (k - Lo) (by first | rfl | omega) (by first | rfl | omega) (by omega) (by omega) ?_
        refine V_iload C dX1_readAll_56 rfl ?_
        refine V_iload C dX1_readAll_58 rfl ?_
        refine V_isub C dX1_readAll_60 ?_
        refine V_eq rfl rfl (st' := [.int (iI (Lo : Int)), .long (lL ((dN d L >>> (k - Lo) : Nat) : Int)), rf G 8]) (by rw [show (k : Int) - ((k : Int) - (Lo : Int)) = (Lo : Int) by omega]) rfl ?_
        refine V_V0 (k2 := 0) (s2 := 0) C dX1_readAll_61 lX1_26 kX1_endNumber (c_X1_endNumber G _ r (dN d L >>> (k - Lo)) Lo u.2.2.2 Nu.length rfl (by omega)) (by decide) (rfl) rfl rfl rfl ⟨Nat.le_of_ble_eq_true rfl, Nat.le_of_ble_eq_true rfl⟩ (Nat.le_of_ble_eq_true rfl) (Nat.le_refl _) (Nat.le_refl _) ?_
        refine V_iload C dX1_readAll_64 rfl ?_
        refine V_iconst C dX1_readAll_66 ?_
        refine V_iadd C dX1_readAll_67 ?_
        refine V_istore C dX1_readAll_68 (Nat.le_of_ble_eq_true rfl) rfl ?_
        refine V_iinc C dX1_readAll_70 rfl (Nat.le_of_ble_eq_true rfl) rfl ?_
        refine V_goto (tgt := 16) C dX1_readAll_73 (by decide) ?_
        have g := He ⟨by omega, by omega, by omega⟩
        rw [if_pos u.2.2.2, if_pos u.2.2.2] at g
        refine V_hp ?_ (ih (k + 1) _ ((Nu.length + 1 : Nat) : Int) (Wr : Int) (foU (K 9) (Nu ++ [wo 22 M])) (by omega) (by omega) (by rw [g]; show _ = ((k + 1 : Nat) : Int) - ((0 : Nat) : Int); omega) (by rw [g]; simp) (by rw [g]) (by rw [g]))
        rw [Rd_9, Rd_f, ← wo_18 (by rw [hmk0 u.2.2.2]; exact f1), hmk0 u.2.2.2, foU_s]
        exact congrArg (fun q => HP G q r) (Rd_p1 K _ _ _ _ _)
      · refine V_iload C dX1_readAll_16 rfl ?_
        refine V_iload_n C dX1_readAll_18 rfl rfl ?_
        refine V_icmp_ge (tgt := 76) C dX1_readAll_19 (by decide) (by omega) (by omega) (fun q19 => by exfalso; omega) (fun q19 => ?_)
        refine V_iload C dX1_readAll_22 rfl ?_
        refine V_iload C dX1_readAll_24 rfl ?_
        refine V_icmp_le (tgt := 70) C dX1_readAll_26 (by decide) (by omega) (by omega) (fun q26 => by exfalso; omega) (fun q26 => ?_)
        refine V_lload_n C dX1_readAll_29 rfl rfl ?_
        refine V_iload C dX1_readAll_30 rfl ?_
        refine V_iconst C dX1_readAll_32 ?_
        refine V_isub C dX1_readAll_33 ?_
        refine V_SN1 (k2 := 0) (s2 := 0) C dX1_readAll_34 lX1_22 kX5_digitOf (i_X5_digitOf G 28 false _ (dN d L) ((k : Int) - 1) hD (by omega)) rfl rfl ⟨Nat.le_of_ble_eq_true rfl, Nat.le_of_ble_eq_true rfl⟩ (Nat.le_of_ble_eq_true rfl) (Nat.le_refl _) (Nat.le_refl _) ?_
        rw [show ((k : Int) - 1).toNat = k - 1 by omega, dN_bit (by omega) g2]
        refine V_iconst C dX1_readAll_37 ?_
        refine V_icmp_ne (tgt := 70) C dX1_readAll_38 (by decide) (by omega) (by omega) (fun q38 => by exfalso; omega) (fun q38 => ?_)
        refine V_lload_n C dX1_readAll_41 rfl rfl ?_
        refine V_iload C dX1_readAll_42 rfl ?_
        refine V_SN1 (k2 := 0) (s2 := 0) C dX1_readAll_44 lX1_22 kX5_digitOf (i_X5_digitOf G 28 false _ (dN d L) (k : Int) hD (by omega)) rfl rfl ⟨Nat.le_of_ble_eq_true rfl, Nat.le_of_ble_eq_true rfl⟩ (Nat.le_of_ble_eq_true rfl) (Nat.le_refl _) (Nat.le_refl _) ?_
        rw [tnN, dN_bit (by omega) g1]
        refine V_iconst C dX1_readAll_47 ?_
        refine V_icmp_ne (tgt := 70) C dX1_readAll_48 (by decide) (by omega) (by omega) (fun q48 => by exfalso; omega) (fun q48 => ?_)
        refine V_aload_n C dX1_readAll_51 rfl rfl ?_
        refine V_lload_n C dX1_readAll_52 rfl rfl ?_
        refine V_iload C dX1_readAll_53 rfl ?_
        refine V_lushr C dX1_readAll_55 (dN d L) (k - Lo) (by first | rfl | omega) (by first | rfl | omega) (by omega) (by omega) ?_
        refine V_iload C dX1_readAll_56 rfl ?_
        refine V_iload C dX1_readAll_58 rfl ?_
        refine V_isub C dX1_readAll_60 ?_
        refine V_eq rfl rfl (st' := [.int (iI (Lo : Int)), .long (lL ((dN d L >>> (k - Lo) : Nat) : Int)), rf G 8]) (by rw [show (k : Int) - ((k : Int) - (Lo : Int)) = (Lo : Int) by omega]) rfl ?_
        refine V_V0 (k2 := 0) (s2 := 0) C dX1_readAll_61 lX1_26 kX1_endNumber (e_X1_endNumber G _ r (dN d L >>> (k - Lo)) (Lo : Int) (by omega)) (by decide) (rfl) rfl rfl rfl ⟨Nat.le_of_ble_eq_true rfl, Nat.le_of_ble_eq_true rfl⟩ (Nat.le_of_ble_eq_true rfl) (Nat.le_refl _) (Nat.le_refl _) ?_
        refine V_iload C dX1_readAll_64 rfl ?_
        refine V_iconst C dX1_readAll_66 ?_
        refine V_iadd C dX1_readAll_67 ?_
        refine V_istore C dX1_readAll_68 (Nat.le_of_ble_eq_true rfl) rfl ?_
        refine V_iinc C dX1_readAll_70 rfl (Nat.le_of_ble_eq_true rfl) rfl ?_
        refine V_goto (tgt := 16) C dX1_readAll_73 (by decide) ?_
        have g := He ⟨by omega, by omega, by omega⟩
        rw [if_neg (show ¬ Lo ≤ 18 by omega), if_neg (show ¬ Lo ≤ 18 by omega)] at g
        refine V_hp ?_ (ih (k + 1) _ (Nu.length : Int) ((Wr + 1 : Nat) : Int) (foU (K 9) Nu) (by omega) (by omega) (by rw [g]; show _ = ((k + 1 : Nat) : Int) - ((0 : Nat) : Int); omega) (by rw [g]) (by rw [g]) (by rw [g]))
        exact congrArg (fun q => HP G q r) (Rd_p2 K _ _ _ _ _)
  have hw := Rd_s K
  rcases Nat.eq_zero_or_pos L with h0 | h0
  · subst h0
    refine V_aload_n C dX1_readAll_0 rfl rfl ?_
    refine V_iconst C dX1_readAll_1 ?_
    refine V_putH (L := rdL G) (ty := .int) C dX1_readAll_2 fX1_15 (by decide) (fun _ => rfl) rfl (by decide +kernel) (rfl) (rfl) (Nat.le_of_ble_eq_true rfl) rfl ?_
    refine V_aload_n C dX1_readAll_5 rfl rfl ?_
    refine V_iconst C dX1_readAll_6 ?_
    refine V_putH (L := rdL G) (ty := .int) C dX1_readAll_7 fX1_19 (by decide) (fun _ => rfl) rfl (by decide +kernel) (rfl) (rfl) (Nat.le_of_ble_eq_true rfl) rfl ?_
    refine V_iconst C dX1_readAll_10 ?_
    refine V_istore C dX1_readAll_11 (Nat.le_of_ble_eq_true rfl) rfl ?_
    refine V_iconst C dX1_readAll_13 ?_
    refine V_istore C dX1_readAll_14 (Nat.le_of_ble_eq_true rfl) rfl ?_
    refine V_iload C dX1_readAll_16 rfl ?_
    refine V_iload_n C dX1_readAll_18 rfl rfl ?_
    refine V_icmp_ge (tgt := 76) C dX1_readAll_19 (by decide) (by omega) (by omega) (fun q19 => ?_) (fun q19 => by exfalso; omega)
    refine V_aload_n C dX1_readAll_76 rfl rfl ?_
    refine V_iload_n C dX1_readAll_77 rfl rfl ?_
    refine V_iload C dX1_readAll_78 rfl ?_
    refine V_isub C dX1_readAll_80 ?_
    refine V_putH (L := rdL G) (ty := .int) C dX1_readAll_81 fX1_30 (by decide) (fun _ => rfl) rfl (by decide +kernel) (rfl) (rfl) (Nat.le_of_ble_eq_true rfl) rfl ?_
    exact V_vret C dX1_readAll_84 rfl hZ (by rw [hw, Rd_p3]; show _ = HP G (Rd K 0 0 0 (foU (K 9) [])) r; rw [foU_0]; rfl)
  · skip
    refine V_aload_n C dX1_readAll_0 rfl rfl ?_
    refine V_iconst C dX1_readAll_1 ?_
    refine V_putH (L := rdL G) (ty := .int) C dX1_readAll_2 fX1_15 (by decide) (fun _ => rfl) rfl (by decide +kernel) (rfl) (rfl) (Nat.le_of_ble_eq_true rfl) rfl ?_
    refine V_aload_n C dX1_readAll_5 rfl rfl ?_
    refine V_iconst C dX1_readAll_6 ?_
    refine V_putH (L := rdL G) (ty := .int) C dX1_readAll_7 fX1_19 (by decide) (fun _ => rfl) rfl (by decide +kernel) (rfl) (rfl) (Nat.le_of_ble_eq_true rfl) rfl ?_
    refine V_iconst C dX1_readAll_10 ?_
    refine V_istore C dX1_readAll_11 (Nat.le_of_ble_eq_true rfl) rfl ?_
    refine V_iconst C dX1_readAll_13 ?_
    refine V_istore C dX1_readAll_14 (Nat.le_of_ble_eq_true rfl) rfl ?_
    rw [hw]
    have g := rdS_n (d := d) (k := 0) (fun c => absurd c.2.1 (Nat.lt_irrefl 0))
    exact loop (L - 1) 1 _ _ _ _ (by omega) (by omega) (by rw [g]; rfl) (by rw [g]; rfl) (by rw [g]; rfl) (by rw [g]; exact (foU_0 _).symm)
