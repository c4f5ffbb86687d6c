set_option maxRecDepth 100000 in
set_option maxHeartbeats 4000000 in
theorem c_X6_sends (G : GT) (K : Nat → Nat → Int) (r : Nat → Option Nat) (z : Int) (hz : 1 ≤ z ∧ z ≤ 6764) (L : Nat) (hL : K 29 6 = L) (hr : L + (hl 18 (gm 18 z.toNat) + 1) ≤ 64) : CtO G yX6_sends mX6_sends [rf G 28, .int (iI z)] K r (some (.int (iI ((L + (hl 18 (gm 18 z.toNat) + 1) : Nat) : Int)))) (us K 29 (sdF (K 29) L (gm 18 z.toNat) (hl 18 (gm 18 z.toNat) + 1) (hl 18 (gm 18 z.toNat) + 1))) (r) := by
  refine Ct_of kX6_sends.1.1 (by decide) [some (rf G 28), some (.int (iI z)), none, none, none] rfl (Nat.le_of_ble_eq_true rfl) ?_
  intro x C hZ
  have f1 := gm_18 z.toNat
  have f2 := hl_le 18 (gm 18 z.toNat)
  have loop : ∀ (n k : Nat), k + n = hl 18 (gm 18 z.toNat) + 1 → V G mX6_sends x 13 [some (rf G 28), some (.int (iI z)), some (.int (iI ((gm 18 z.toNat : Nat) : Int))), some (.int (iI ((hl 18 (gm 18 z.toNat) + 1 : Nat) : Int))), some (.int (iI (k : Int)))] [] 34 false (HP G (us K 29 (sdF (K 29) L (gm 18 z.toNat) (hl 18 (gm 18 z.toNat) + 1) k)) r) 0 0 := by
    intro n
    induction n with
    | zero =>
      intro k e
      refine V_iload C dX6_sends_13 rfl ?_
      refine V_iload_n C dX6_sends_15 rfl rfl ?_
      refine V_icmp_ge (tgt := 69) C dX6_sends_16 (by decide) (by omega) (by omega) (fun q16 => ?_) (fun q16 => by exfalso; omega)
      refine V_aload_n C dX6_sends_69 rfl rfl ?_
      refine V_getH (L := mOl G) C dX6_sends_70 fX6_7 (by decide) (fun _ => rfl) rfl ?_
      refine V_bipush C dX6_sends_73 (by decide +kernel) ?_
      refine V_ialdH C dX6_sends_75 (by decide) (fun _ => rfl) (by omega) (by decide) ?_
      exact V_iret C dX6_sends_76 rfl hZ (by rw [us_at]; show (L : Int) + k = _; omega) (by rw [show k = hl 18 (gm 18 z.toNat) + 1 by omega])
    | succ n ih =>
      intro k e
      have b1 := b1_le (gm 18 z.toNat) k
      have e6 : us K 29 (sdF (K 29) L (gm 18 z.toNat) (hl 18 (gm 18 z.toNat) + 1) k) 29 (6 : Int).toNat = (L : Int) + k := by rw [us_at]; rfl
      have ei : ((7 : Int) + ((L : Int) + (k : Int))).toNat = 7 + L + k := by omega
      refine V_iload C dX6_sends_13 rfl ?_
      refine V_iload_n C dX6_sends_15 rfl rfl ?_
      refine V_icmp_ge (tgt := 69) C dX6_sends_16 (by decide) (by omega) (by omega) (fun q16 => by exfalso; omega) (fun q16 => ?_)
      refine V_aload_n C dX6_sends_19 rfl rfl ?_
      refine V_getH (L := mOl G) C dX6_sends_20 fX6_7 (by decide) (fun _ => rfl) rfl ?_
      refine V_bipush C dX6_sends_23 (by decide +kernel) ?_
      refine V_aload_n C dX6_sends_25 rfl rfl ?_
      refine V_getH (L := mOl G) C dX6_sends_26 fX6_7 (by decide) (fun _ => rfl) rfl ?_
      refine V_bipush C dX6_sends_29 (by decide +kernel) ?_
      refine V_ialdH C dX6_sends_31 (by decide) (fun _ => rfl) (by omega) (by decide) ?_
      rw [e6]
      refine V_iadd C dX6_sends_32 ?_
      refine V_iload C dX6_sends_33 rfl ?_
      refine V_iload_n C dX6_sends_35 rfl rfl ?_
      refine V_iconst C dX6_sends_36 ?_
      refine V_isub C dX6_sends_37 ?_
      refine V_icmp_ne (tgt := 45) C dX6_sends_38 (by decide) (by omega) (by omega) (fun q38 => ?_) (fun q38 => ?_)
      · refine V_iload_n C dX6_sends_45 rfl rfl ?_
        refine V_iload C dX6_sends_46 rfl ?_
        refine V_ishr C dX6_sends_48 (gm 18 z.toNat) k (by first | rfl | omega) (by first | rfl | omega) (by omega) (by omega) ?_
        refine V_iconst C dX6_sends_49 ?_
        refine V_iand C dX6_sends_50 (gm 18 z.toNat >>> k) 1 (by first | rfl | omega) (by first | rfl | omega) ?_
        refine V_iastH C dX6_sends_51 (by decide) (fun _ => rfl) (by omega) (by decide) ?_
        refine V_aload_n C dX6_sends_52 rfl rfl ?_
        refine V_getH (L := mOl G) C dX6_sends_53 fX6_7 (by decide) (fun _ => rfl) rfl ?_
        refine V_bipush C dX6_sends_56 (by decide +kernel) ?_
        refine V_dup2 C dX6_sends_58 rfl rfl ?_
        refine V_ialdH C dX6_sends_59 (by decide) (fun _ => rfl) (by omega) (by decide) ?_
        simp only [ei, us_at, us_us]
        rw [us_ne _ _ (show (6 : Int).toNat ≠ 7 + L + k by show 6 ≠ 7 + L + k; omega), show sdF (K 29) L (gm 18 z.toNat) (hl 18 (gm 18 z.toNat) + 1) k (6 : Int).toNat = (L : Int) + k from rfl]
        refine V_iconst C dX6_sends_60 ?_
        refine V_iadd C dX6_sends_61 ?_
        refine V_iastH C dX6_sends_62 (by decide) (fun _ => rfl) (by omega) (by decide) ?_
        refine V_hp (K' := us K 29 (sdF (K 29) L (gm 18 z.toNat) (hl 18 (gm 18 z.toNat) + 1) (k + 1))) (r' := r) ?_ ?_
        · rw [us_at, us_us, show (6 : Int).toNat = 6 from rfl, sdF_s]
          first | (rw [if_pos (by omega)]) | (rw [if_neg (by omega)])
        · refine V_iinc C dX6_sends_63 rfl (Nat.le_of_ble_eq_true rfl) rfl ?_
          refine V_goto (tgt := 13) C dX6_sends_66 (by decide) ?_
          exact ih (k + 1) (by omega)
      · refine V_iconst C dX6_sends_41 ?_
        refine V_goto (tgt := 51) C dX6_sends_42 (by decide) ?_
        refine V_iastH C dX6_sends_51 (by decide) (fun _ => rfl) (by omega) (by decide) ?_
        refine V_aload_n C dX6_sends_52 rfl rfl ?_
        refine V_getH (L := mOl G) C dX6_sends_53 fX6_7 (by decide) (fun _ => rfl) rfl ?_
        refine V_bipush C dX6_sends_56 (by decide +kernel) ?_
        refine V_dup2 C dX6_sends_58 rfl rfl ?_
        refine V_ialdH C dX6_sends_59 (by decide) (fun _ => rfl) (by omega) (by decide) ?_
        simp only [ei, us_at, us_us]
        rw [us_ne _ _ (show (6 : Int).toNat ≠ 7 + L + k by show 6 ≠ 7 + L + k; omega), show sdF (K 29) L (gm 18 z.toNat) (hl 18 (gm 18 z.toNat) + 1) k (6 : Int).toNat = (L : Int) + k from rfl]
        refine V_iconst C dX6_sends_60 ?_
        refine V_iadd C dX6_sends_61 ?_
        refine V_iastH C dX6_sends_62 (by decide) (fun _ => rfl) (by omega) (by decide) ?_
        refine V_hp (K' := us K 29 (sdF (K 29) L (gm 18 z.toNat) (hl 18 (gm 18 z.toNat) + 1) (k + 1))) (r' := r) ?_ ?_
        · rw [us_at, us_us, show (6 : Int).toNat = 6 from rfl, sdF_s]
          first | (rw [if_pos (by omega)]) | (rw [if_neg (by omega)])
        · refine V_iinc C dX6_sends_63 rfl (Nat.le_of_ble_eq_true rfl) rfl ?_
          refine V_goto (tgt := 13) C dX6_sends_66 (by decide) ?_
          exact ih (k + 1) (by omega)
  refine V_iload_n C dX6_sends_0 rfl rfl ?_
  refine V_S1 (k2 := 0) (s2 := 0) C dX6_sends_1 lX6_40 kX6_said (i_X6_said G 34 false (HP G K r) z (by omega)) rfl rfl ⟨Nat.le_of_ble_eq_true rfl, Nat.le_of_ble_eq_true rfl⟩ (Nat.le_of_ble_eq_true rfl) (Nat.le_refl _) (Nat.le_refl _) ?_
  refine V_istore_n C dX6_sends_4 rfl (Nat.le_of_ble_eq_true rfl) rfl ?_
  refine V_iload_n C dX6_sends_5 rfl rfl ?_
  refine V_S1 (k2 := 0) (s2 := 0) C dX6_sends_6 lX6_84 kX6_codeOf (i_X6_codeOf G 34 false (HP G K r) z hz) rfl rfl ⟨Nat.le_of_ble_eq_true rfl, Nat.le_of_ble_eq_true rfl⟩ (Nat.le_of_ble_eq_true rfl) (Nat.le_refl _) (Nat.le_refl _) ?_
  refine V_istore_n C dX6_sends_9 rfl (Nat.le_of_ble_eq_true rfl) rfl ?_
  refine V_iconst C dX6_sends_10 ?_
  refine V_istore C dX6_sends_11 (Nat.le_of_ble_eq_true rfl) rfl ?_
  refine V_hp ?_ (loop _ 0 (Nat.zero_add _))
  rw [sdF_0 hL, us_same]
set_option maxRecDepth 100000 in
set_option maxHeartbeats 4000000 in
theorem c_X6_reads (G : GT) (K : Nat → Nat → Int) (r : Nat → Option Nat) (L : Nat) (hL : K 29 6 = L) (h64 : L ≤ 64) (hd : ∀ j, j < 64 → 0 ≤ K 29 (7 + j) ∧ K 29 (7 + j) ≤ 1) : CtO G yX6_reads mX6_reads [rf G 28] K r (some (.int (iI ((rdS (fun j => K 29 (7 + j)) L).2.2.2.length : Nat)))) (Wd K ((rdS (fun j => K 29 (7 + j)) L).2.2.1 : Nat) ((rdS (fun j => K 29 (7 + j)) L).2.1 : Nat) (foU (K 32) (rdS (fun j => K 29 (7 + j)) L).2.2.2)) (r) := by
  refine Ct_of kX6_reads.1.1 (by decide) [some (rf G 28), none, none, none, none, none, none] rfl (Nat.le_of_ble_eq_true rfl) ?_
  intro x C hZ
  obtain ⟨d, hdd⟩ : ∃ d : Nat → Int, d = (fun j => K 29 (7 + j)) := ⟨_, rfl⟩
  rw [← hdd] at hZ
  have hd0 : ∀ j, K 29 (7 + j) = d j := fun j => by rw [hdd]
  have loop : ∀ (n k : Nat) (mk my wr lo : Int) (fo : Nat → Int) (a4 a5 a6 : Option Value), k + n = L → my = ((rdS d k).2.2.2.length : Nat) → mk = ((rdS d k).1 : Nat) → wr = ((rdS d k).2.2.1 : Nat) → lo = ((rdS d k).2.1 : Nat) → fo = foU (K 32) (rdS d k).2.2.2 → V G mX6_reads x 16 [some (rf G 28), some (.int (iI my)), some (.int (iI mk)), some (.int (iI (k : Int))), a4, a5, a6] [] 34 false (HP G (Wd K wr lo fo) r) 0 0 := by
    intro n
    induction n with
    | zero =>
      intro k mk my wr lo fo a4 a5 a6 e e1 e2 e3 e4 e5
      refine V_iload_n C dX6_reads_16 rfl rfl ?_
      refine V_aload_n C dX6_reads_17 rfl rfl ?_
      refine V_getH (L := mOl G) C dX6_reads_18 fX6_7 (by decide) (fun _ => rfl) rfl ?_
      refine V_bipush C dX6_reads_21 (by decide +kernel) ?_
      refine V_ialdH C dX6_reads_23 (by decide) (fun _ => rfl) (by omega) (by decide) ?_
      rw [Wd_29, show (6 : Int).toNat = 6 from rfl, hL]
      refine V_icmp_ge (tgt := 205) C dX6_reads_24 (by decide) (by omega) (by omega) (fun q24 => ?_) (fun q24 => by exfalso; omega)
      refine V_iload_n C dX6_reads_205 rfl rfl ?_
      exact V_iret C dX6_reads_206 rfl hZ (by rw [e1, show k = L by omega]) (by rw [e3, e4, e5, show k = L by omega])
    | succ n ih =>
      intro k mk my wr lo fo a4 a5 a6 e e1 e2 e3 e4 e5
      have He := rdS_e (d := d) (k := k)
      have Hn := rdS_n (d := d) (k := k)
      have f1 := rdS_mk d k
      have f2 := rdS_le d k
      obtain ⟨q, hq⟩ : ∃ q, q = rdS d k := ⟨_, rfl⟩
      rw [← hq] at e1 e2 e3 e4 e5 He Hn f1 f2
      clear hq
      obtain ⟨M, Lo, Wr, Nu⟩ := q
      dsimp only at e1 e2 e3 e4 e5 He Hn f1 f2
      subst e1; subst e2; subst e3; subst e4; subst e5
      have g1 := hd k (by omega)
      rw [hd0] at g1
      have g2 := hd (k - 1) (by omega)
      rw [hd0] at g2
      have ek7 : ((7 : Int) + (k : Int)).toNat = 7 + k := by omega
      have g3 : Lo < 18 → 1 <<< Lo < 4294967296 := fun hh => by
        rw [Nat.shiftLeft_eq, Nat.one_mul]
        exact Nat.lt_of_lt_of_le (Nat.pow_lt_pow_right (by decide) hh) (by decide)
      rcases (show (d k = 1 ∧ 0 < Lo ∧ d (k - 1) = 1 ∧ Lo ≤ 18) ∨ (d k = 1 ∧ 0 < Lo ∧ d (k - 1) = 1 ∧ 18 < Lo) ∨ (d k ≠ 1 ∧ Lo ≤ 18) ∨ (d k ≠ 1 ∧ 18 < Lo) ∨ (d k = 1 ∧ Lo = 0) ∨ (d k = 1 ∧ 0 < Lo ∧ d (k - 1) ≠ 1 ∧ Lo < 18) ∨ (d k = 1 ∧ 0 < Lo ∧ d (k - 1) ≠ 1 ∧ Lo = 18) ∨ (d k = 1 ∧ 0 < Lo ∧ d (k - 1) ≠ 1 ∧ 18 < Lo) by omega) with u | u | u | u | u | u | u | u
      · refine V_iload_n C dX6_reads_16 rfl rfl ?_
        refine V_aload_n C dX6_reads_17 rfl rfl ?_
        refine V_getH (L := mOl G) C dX6_reads_18 fX6_7 (by decide) (fun _ => rfl) rfl ?_
        refine V_bipush C dX6_reads_21 (by decide +kernel) ?_
        refine V_ialdH C dX6_reads_23 (by decide) (fun _ => rfl) (by omega) (by decide) ?_
        rw [Wd_29, show (6 : Int).toNat = 6 from rfl, hL]
        refine V_icmp_ge (tgt := 205) C dX6_reads_24 (by decide) (by omega) (by omega) (fun q24 => by exfalso; omega) (fun q24 => ?_)
        refine V_aload_n C dX6_reads_27 rfl rfl ?_
        refine V_getH (L := mOl G) C dX6_reads_28 fX6_7 (by decide) (fun _ => rfl) rfl ?_
        refine V_bipush C dX6_reads_31 (by decide +kernel) ?_
        refine V_iload_n C dX6_reads_33 rfl rfl ?_
        refine V_iadd C dX6_reads_34 ?_
        refine V_ialdH C dX6_reads_35 (by decide) (fun _ => rfl) (by omega) (by decide) ?_
        rw [ek7, Wd_29, hd0]
        refine V_iconst C dX6_reads_36 ?_
        refine V_icmp_ne (tgt := 44) C dX6_reads_37 (by decide) (by omega) (by omega) (fun q37 => by exfalso; omega) (fun q37 => ?_)
        refine V_iconst C dX6_reads_40 ?_
        refine V_goto (tgt := 45) C dX6_reads_41 (by decide) ?_
        refine V_istore C dX6_reads_45 (Nat.le_of_ble_eq_true rfl) rfl ?_
        refine V_iload C dX6_reads_47 rfl ?_
        refine V_if_eq (tgt := 78) C dX6_reads_49 (by decide) (by omega) (fun q49 => by exfalso; omega) (fun q49 => ?_)
        refine V_aload_n C dX6_reads_52 rfl rfl ?_
        refine V_getH (L := mOl G) C dX6_reads_53 fX6_102 (by decide) (fun _ => rfl) rfl ?_
        rw [Wd_13]
        refine V_if_le (tgt := 78) C dX6_reads_56 (by decide) (by omega) (fun q56 => by exfalso; omega) (fun q56 => ?_)
        refine V_aload_n C dX6_reads_59 rfl rfl ?_
        refine V_getH (L := mOl G) C dX6_reads_60 fX6_7 (by decide) (fun _ => rfl) rfl ?_
        refine V_bipush C dX6_reads_63 (by decide +kernel) ?_
        refine V_iload_n C dX6_reads_65 rfl rfl ?_
        refine V_iadd C dX6_reads_66 ?_
        refine V_iconst C dX6_reads_67 ?_
        refine V_isub C dX6_reads_68 ?_
        refine V_ialdH C dX6_reads_69 (by decide) (fun _ => rfl) (by omega) (by decide) ?_
        rw [show ((7 : Int) + (k : Int) - 1).toNat = 7 + (k - 1) by omega, Wd_29, hd0]
        refine V_iconst C dX6_reads_70 ?_
        refine V_icmp_ne (tgt := 78) C dX6_reads_71 (by decide) (by omega) (by omega) (fun q71 => by exfalso; omega) (fun q71 => ?_)
        refine V_iconst C dX6_reads_74 ?_
        refine V_goto (tgt := 79) C dX6_reads_75 (by decide) ?_
        refine V_istore C dX6_reads_79 (Nat.le_of_ble_eq_true rfl) rfl ?_
        refine V_aload_n C dX6_reads_81 rfl rfl ?_
        refine V_getH (L := mOl G) C dX6_reads_82 fX6_102 (by decide) (fun _ => rfl) rfl ?_
        rw [Wd_13]
        refine V_bipush C dX6_reads_85 (by decide +kernel) ?_
        refine V_icmp_gt (tgt := 94) C dX6_reads_87 (by decide) (by omega) (by omega) (fun q87 => by exfalso; omega) (fun q87 => ?_)
        refine V_iconst C dX6_reads_90 ?_
        refine V_goto (tgt := 95) C dX6_reads_91 (by decide) ?_
        refine V_istore C dX6_reads_95 (Nat.le_of_ble_eq_true rfl) rfl ?_
        refine V_iload C dX6_reads_97 rfl ?_
        refine V_if_eq (tgt := 120) C dX6_reads_99 (by decide) (by omega) (fun q99 => by exfalso; omega) (fun q99 => ?_)
        refine V_iload C dX6_reads_102 rfl ?_
        refine V_if_eq (tgt := 120) C dX6_reads_104 (by decide) (by omega) (fun q104 => by exfalso; omega) (fun q104 => ?_)
        refine V_aload_n C dX6_reads_107 rfl rfl ?_
        refine V_getH (L := mOl G) C dX6_reads_108 fX6_19 (by decide) (fun _ => rfl) rfl ?_
        refine V_iload_n C dX6_reads_111 rfl rfl ?_
        refine V_iload_n C dX6_reads_112 rfl rfl ?_
        refine V_S1 (k2 := 0) (s2 := 0) C dX6_reads_113 lX6_37 kX6_worths (c_X6_worths M (by omega) G 34 false _) rfl rfl ⟨Nat.le_of_ble_eq_true rfl, Nat.le_of_ble_eq_true rfl⟩ (Nat.le_of_ble_eq_true rfl) (Nat.le_refl _) (Nat.le_refl _) ?_
        refine V_iastH C dX6_reads_116 (by decide) (fun _ => rfl) (by omega) (by decide) ?_
        rw [Wd_32, Wd_f, show ((Nu.length : Nat) : Int).toNat = Nu.length by omega, foU_s]
        refine V_iinc C dX6_reads_117 rfl (Nat.le_of_ble_eq_true rfl) rfl ?_
        refine V_aload_n C dX6_reads_120 rfl rfl ?_
        refine V_dup C dX6_reads_121 rfl ?_
        refine V_getH (L := mOl G) C dX6_reads_122 fX6_99 (by decide) (fun _ => rfl) rfl ?_
        rw [Wd_12]
        refine V_iload C dX6_reads_125 rfl ?_
        refine V_if_eq (tgt := 139) C dX6_reads_127 (by decide) (by omega) (fun q127 => by exfalso; omega) (fun q127 => ?_)
        refine V_iload C dX6_reads_130 rfl ?_
        refine V_if_ne (tgt := 139) C dX6_reads_132 (by decide) (by omega) (fun q132 => ?_) (fun q132 => by exfalso; omega)
        refine V_iconst C dX6_reads_139 ?_
        refine V_iadd C dX6_reads_140 ?_
        refine V_putH (L := mOl G) (ty := .int) C dX6_reads_141 fX6_99 (by decide) (fun _ => rfl) rfl (by decide +kernel) (rfl) (rfl) (Nat.le_of_ble_eq_true rfl) rfl ?_
        rw [Wd_p12]
        refine V_iload C dX6_reads_144 rfl ?_
        refine V_if_eq (tgt := 153) C dX6_reads_146 (by decide) (by omega) (fun q146 => by exfalso; omega) (fun q146 => ?_)
        refine V_iconst C dX6_reads_149 ?_
        refine V_goto (tgt := 179) C dX6_reads_150 (by decide) ?_
        refine V_istore_n C dX6_reads_179 rfl (Nat.le_of_ble_eq_true rfl) rfl ?_
        refine V_aload_n C dX6_reads_180 rfl rfl ?_
        refine V_iload C dX6_reads_181 rfl ?_
        refine V_if_eq (tgt := 190) C dX6_reads_183 (by decide) (by omega) (fun q183 => by exfalso; omega) (fun q183 => ?_)
        refine V_iconst C dX6_reads_186 ?_
        refine V_goto (tgt := 196) C dX6_reads_187 (by decide) ?_
        refine V_putH (L := mOl G) (ty := .int) C dX6_reads_196 fX6_102 (by decide) (fun _ => rfl) rfl (by decide +kernel) (rfl) (rfl) (Nat.le_of_ble_eq_true rfl) rfl ?_
        rw [Wd_p13]
        refine V_iinc C dX6_reads_199 rfl (Nat.le_of_ble_eq_true rfl) rfl ?_
        refine V_goto (tgt := 16) C dX6_reads_202 (by decide) ?_
        have g := He ⟨by omega, by omega, by omega⟩
        rw [if_pos (by omega), if_pos (by omega)] at g
        refine V_hp ?_ (ih (k + 1) _ _ (Wr : Int) 0 (foU (K 32) (Nu ++ [wo 22 M])) _ _ _ (by omega) (by rw [g]; simp) (by rw [g]; rfl) (by rw [g]) (by rw [g]; rfl) (by rw [g]))
        simp only [Int.add_zero]
      · refine V_iload_n C dX6_reads_16 rfl rfl ?_
        refine V_aload_n C dX6_reads_17 rfl rfl ?_
        refine V_getH (L := mOl G) C dX6_reads_18 fX6_7 (by decide) (fun _ => rfl) rfl ?_
        refine V_bipush C dX6_reads_21 (by decide +kernel) ?_
        refine V_ialdH C dX6_reads_23 (by decide) (fun _ => rfl) (by omega) (by decide) ?_
        rw [Wd_29, show (6 : Int).toNat = 6 from rfl, hL]
        refine V_icmp_ge (tgt := 205) C dX6_reads_24 (by decide) (by omega) (by omega) (fun q24 => by exfalso; omega) (fun q24 => ?_)
        refine V_aload_n C dX6_reads_27 rfl rfl ?_
        refine V_getH (L := mOl G) C dX6_reads_28 fX6_7 (by decide) (fun _ => rfl) rfl ?_
        refine V_bipush C dX6_reads_31 (by decide +kernel) ?_
        refine V_iload_n C dX6_reads_33 rfl rfl ?_
        refine V_iadd C dX6_reads_34 ?_
        refine V_ialdH C dX6_reads_35 (by decide) (fun _ => rfl) (by omega) (by decide) ?_
        rw [ek7, Wd_29, hd0]
        refine V_iconst C dX6_reads_36 ?_
        refine V_icmp_ne (tgt := 44) C dX6_reads_37 (by decide) (by omega) (by omega) (fun q37 => by exfalso; omega) (fun q37 => ?_)
        refine V_iconst C dX6_reads_40 ?_
        refine V_goto (tgt := 45) C dX6_reads_41 (by decide) ?_
        refine V_istore C dX6_reads_45 (Nat.le_of_ble_eq_true rfl) rfl ?_
        refine V_iload C dX6_reads_47 rfl ?_
        refine V_if_eq (tgt := 78) C dX6_reads_49 (by decide) (by omega) (fun q49 => by exfalso; omega) (fun q49 => ?_)
        refine V_aload_n C dX6_reads_52 rfl rfl ?_
        refine V_getH (L := mOl G) C dX6_reads_53 fX6_102 (by decide) (fun _ => rfl) rfl ?_
        rw [Wd_13]
        refine V_if_le (tgt := 78) C dX6_reads_56 (by decide) (by omega) (fun q56 => by exfalso; omega) (fun q56 => ?_)
        refine V_aload_n C dX6_reads_59 rfl rfl ?_
        refine V_getH (L := mOl G) C dX6_reads_60 fX6_7 (by decide) (fun _ => rfl) rfl ?_
        refine V_bipush C dX6_reads_63 (by decide +kernel) ?_
        refine V_iload_n C dX6_reads_65 rfl rfl ?_
        refine V_iadd C dX6_reads_66 ?_
        refine V_iconst C dX6_reads_67 ?_
        refine V_isub C dX6_reads_68 ?_
        refine V_ialdH C dX6_reads_69 (by decide) (fun _ => rfl) (by omega) (by decide) ?_
        rw [show ((7 : Int) + (k : Int) - 1).toNat = 7 + (k - 1) by omega, Wd_29, hd0]
        refine V_iconst C dX6_reads_70 ?_
        refine V_icmp_ne (tgt := 78) C dX6_reads_71 (by decide) (by omega) (by omega) (fun q71 => by exfalso; omega) (fun q71 => ?_)
        refine V_iconst C dX6_reads_74 ?_
        refine V_goto (tgt := 79) C dX6_reads_75 (by decide) ?_
        refine V_istore C dX6_reads_79 (Nat.le_of_ble_eq_true rfl) rfl ?_
        refine V_aload_n C dX6_reads_81 rfl rfl ?_
        refine V_getH (L := mOl G) C dX6_reads_82 fX6_102 (by decide) (fun _ => rfl) rfl ?_
        rw [Wd_13]
        refine V_bipush C dX6_reads_85 (by decide +kernel) ?_
        refine V_icmp_gt (tgt := 94) C dX6_reads_87 (by decide) (by omega) (by omega) (fun q87 => ?_) (fun q87 => by exfalso; omega)
        refine V_iconst C dX6_reads_94 ?_
        refine V_istore C dX6_reads_95 (Nat.le_of_ble_eq_true rfl) rfl ?_
        refine V_iload C dX6_reads_97 rfl ?_
        refine V_if_eq (tgt := 120) C dX6_reads_99 (by decide) (by omega) (fun q99 => by exfalso; omega) (fun q99 => ?_)
        refine V_iload C dX6_reads_102 rfl ?_
        refine V_if_eq (tgt := 120) C dX6_reads_104 (by decide) (by omega) (fun q104 => ?_) (fun q104 => by exfalso; omega)
        refine V_aload_n C dX6_reads_120 rfl rfl ?_
        refine V_dup C dX6_reads_121 rfl ?_
        refine V_getH (L := mOl G) C dX6_reads_122 fX6_99 (by decide) (fun _ => rfl) rfl ?_
        rw [Wd_12]
        refine V_iload C dX6_reads_125 rfl ?_
        refine V_if_eq (tgt := 139) C dX6_reads_127 (by decide) (by omega) (fun q127 => by exfalso; omega) (fun q127 => ?_)
        refine V_iload C dX6_reads_130 rfl ?_
        refine V_if_ne (tgt := 139) C dX6_reads_132 (by decide) (by omega) (fun q132 => by exfalso; omega) (fun q132 => ?_)
        refine V_iconst C dX6_reads_135 ?_
        refine V_goto (tgt := 140) C dX6_reads_136 (by decide) ?_
        refine V_iadd C dX6_reads_140 ?_
        refine V_putH (L := mOl G) (ty := .int) C dX6_reads_141 fX6_99 (by decide) (fun _ => rfl) rfl (by decide +kernel) (rfl) (rfl) (Nat.le_of_ble_eq_true rfl) rfl ?_
        rw [Wd_p12]
        refine V_iload C dX6_reads_144 rfl ?_
        refine V_if_eq (tgt := 153) C dX6_reads_146 (by decide) (by omega) (fun q146 => by exfalso; omega) (fun q146 => ?_)
        refine V_iconst C dX6_reads_149 ?_
        refine V_goto (tgt := 179) C dX6_reads_150 (by decide) ?_
        refine V_istore_n C dX6_reads_179 rfl (Nat.le_of_ble_eq_true rfl) rfl ?_
        refine V_aload_n C dX6_reads_180 rfl rfl ?_
        refine V_iload C dX6_reads_181 rfl ?_
        refine V_if_eq (tgt := 190) C dX6_reads_183 (by decide) (by omega) (fun q183 => by exfalso; omega) (fun q183 => ?_)
        refine V_iconst C dX6_reads_186 ?_
        refine V_goto (tgt := 196) C dX6_reads_187 (by decide) ?_
        refine V_putH (L := mOl G) (ty := .int) C dX6_reads_196 fX6_102 (by decide) (fun _ => rfl) rfl (by decide +kernel) (rfl) (rfl) (Nat.le_of_ble_eq_true rfl) rfl ?_
        rw [Wd_p13]
        refine V_iinc C dX6_reads_199 rfl (Nat.le_of_ble_eq_true rfl) rfl ?_
        refine V_goto (tgt := 16) C dX6_reads_202 (by decide) ?_
        have g := He ⟨by omega, by omega, by omega⟩
        rw [if_neg (by omega), if_neg (by omega)] at g
        refine V_hp ?_ (ih (k + 1) _ _ (((Wr + 1 : Nat)) : Int) 0 (foU (K 32) Nu) _ _ _ (by omega) (by rw [g]) (by rw [g]; rfl) (by rw [g]) (by rw [g]; rfl) (by rw [g]))
        rfl
      · refine V_iload_n C dX6_reads_16 rfl rfl ?_
        refine V_aload_n C dX6_reads_17 rfl rfl ?_
        refine V_getH (L := mOl G) C dX6_reads_18 fX6_7 (by decide) (fun _ => rfl) rfl ?_
        refine V_bipush C dX6_reads_21 (by decide +kernel) ?_
        refine V_ialdH C dX6_reads_23 (by decide) (fun _ => rfl) (by omega) (by decide) ?_
        rw [Wd_29, show (6 : Int).toNat = 6 from rfl, hL]
        refine V_icmp_ge (tgt := 205) C dX6_reads_24 (by decide) (by omega) (by omega) (fun q24 => by exfalso; omega) (fun q24 => ?_)
        refine V_aload_n C dX6_reads_27 rfl rfl ?_
        refine V_getH (L := mOl G) C dX6_reads_28 fX6_7 (by decide) (fun _ => rfl) rfl ?_
        refine V_bipush C dX6_reads_31 (by decide +kernel) ?_
        refine V_iload_n C dX6_reads_33 rfl rfl ?_
        refine V_iadd C dX6_reads_34 ?_
        refine V_ialdH C dX6_reads_35 (by decide) (fun _ => rfl) (by omega) (by decide) ?_
        rw [ek7, Wd_29, hd0]
        refine V_iconst C dX6_reads_36 ?_
        refine V_icmp_ne (tgt := 44) C dX6_reads_37 (by decide) (by omega) (by omega) (fun q37 => ?_) (fun q37 => by exfalso; omega)
        refine V_iconst C dX6_reads_44 ?_
        refine V_istore C dX6_reads_45 (Nat.le_of_ble_eq_true rfl) rfl ?_
        refine V_iload C dX6_reads_47 rfl ?_
        refine V_if_eq (tgt := 78) C dX6_reads_49 (by decide) (by omega) (fun q49 => ?_) (fun q49 => by exfalso; omega)
        refine V_iconst C dX6_reads_78 ?_
        refine V_istore C dX6_reads_79 (Nat.le_of_ble_eq_true rfl) rfl ?_
        refine V_aload_n C dX6_reads_81 rfl rfl ?_
        refine V_getH (L := mOl G) C dX6_reads_82 fX6_102 (by decide) (fun _ => rfl) rfl ?_
        rw [Wd_13]
        refine V_bipush C dX6_reads_85 (by decide +kernel) ?_
        refine V_icmp_gt (tgt := 94) C dX6_reads_87 (by decide) (by omega) (by omega) (fun q87 => by exfalso; omega) (fun q87 => ?_)
        refine V_iconst C dX6_reads_90 ?_
        refine V_goto (tgt := 95) C dX6_reads_91 (by decide) ?_
        refine V_istore C dX6_reads_95 (Nat.le_of_ble_eq_true rfl) rfl ?_
        refine V_iload C dX6_reads_97 rfl ?_
        refine V_if_eq (tgt := 120) C dX6_reads_99 (by decide) (by omega) (fun q99 => ?_) (fun q99 => by exfalso; omega)
        refine V_aload_n C dX6_reads_120 rfl rfl ?_
        refine V_dup C dX6_reads_121 rfl ?_
        refine V_getH (L := mOl G) C dX6_reads_122 fX6_99 (by decide) (fun _ => rfl) rfl ?_
        rw [Wd_12]
        refine V_iload C dX6_reads_125 rfl ?_
        refine V_if_eq (tgt := 139) C dX6_reads_127 (by decide) (by omega) (fun q127 => ?_) (fun q127 => by exfalso; omega)
        refine V_iconst C dX6_reads_139 ?_
        refine V_iadd C dX6_reads_140 ?_
        refine V_putH (L := mOl G) (ty := .int) C dX6_reads_141 fX6_99 (by decide) (fun _ => rfl) rfl (by decide +kernel) (rfl) (rfl) (Nat.le_of_ble_eq_true rfl) rfl ?_
        rw [Wd_p12]
        refine V_iload C dX6_reads_144 rfl ?_
        refine V_if_eq (tgt := 153) C dX6_reads_146 (by decide) (by omega) (fun q146 => ?_) (fun q146 => by exfalso; omega)
        refine V_iload C dX6_reads_153 rfl ?_
        refine V_if_eq (tgt := 178) C dX6_reads_155 (by decide) (by omega) (fun q155 => ?_) (fun q155 => by exfalso; omega)
        refine V_iload_n C dX6_reads_178 rfl rfl ?_
        refine V_istore_n C dX6_reads_179 rfl (Nat.le_of_ble_eq_true rfl) rfl ?_
        refine V_aload_n C dX6_reads_180 rfl rfl ?_
        refine V_iload C dX6_reads_181 rfl ?_
        refine V_if_eq (tgt := 190) C dX6_reads_183 (by decide) (by omega) (fun q183 => ?_) (fun q183 => by exfalso; omega)
        refine V_aload_n C dX6_reads_190 rfl rfl ?_
        refine V_getH (L := mOl G) C dX6_reads_191 fX6_102 (by decide) (fun _ => rfl) rfl ?_
        rw [Wd_13]
        refine V_iconst C dX6_reads_194 ?_
        refine V_iadd C dX6_reads_195 ?_
        refine V_putH (L := mOl G) (ty := .int) C dX6_reads_196 fX6_102 (by decide) (fun _ => rfl) rfl (by decide +kernel) (rfl) (rfl) (Nat.le_of_ble_eq_true rfl) rfl ?_
        rw [Wd_p13]
        refine V_iinc C dX6_reads_199 rfl (Nat.le_of_ble_eq_true rfl) rfl ?_
        refine V_goto (tgt := 16) C dX6_reads_202 (by decide) ?_
        have g := Hn (by omega)
        rw [if_neg (by omega)] at g
        refine V_hp ?_ (ih (k + 1) _ _ (Wr : Int) ((Lo + 1 : Nat) : Int) (foU (K 32) Nu) _ _ _ (by omega) (by rw [g]) (by rw [g]) (by rw [g]) (by rw [g]) (by rw [g]))
        simp only [Int.add_zero]
        rfl
      · refine V_iload_n C dX6_reads_16 rfl rfl ?_
        refine V_aload_n C dX6_reads_17 rfl rfl ?_
        refine V_getH (L := mOl G) C dX6_reads_18 fX6_7 (by decide) (fun _ => rfl) rfl ?_
        refine V_bipush C dX6_reads_21 (by decide +kernel) ?_
        refine V_ialdH C dX6_reads_23 (by decide) (fun _ => rfl) (by omega) (by decide) ?_
        rw [Wd_29, show (6 : Int).toNat = 6 from rfl, hL]
        refine V_icmp_ge (tgt := 205) C dX6_reads_24 (by decide) (by omega) (by omega) (fun q24 => by exfalso; omega) (fun q24 => ?_)
        refine V_aload_n C dX6_reads_27 rfl rfl ?_
        refine V_getH (L := mOl G) C dX6_reads_28 fX6_7 (by decide) (fun _ => rfl) rfl ?_
        refine V_bipush C dX6_reads_31 (by decide +kernel) ?_
        refine V_iload_n C dX6_reads_33 rfl rfl ?_
        refine V_iadd C dX6_reads_34 ?_
        refine V_ialdH C dX6_reads_35 (by decide) (fun _ => rfl) (by omega) (by decide) ?_
        rw [ek7, Wd_29, hd0]
        refine V_iconst C dX6_reads_36 ?_
        refine V_icmp_ne (tgt := 44) C dX6_reads_37 (by decide) (by omega) (by omega) (fun q37 => ?_) (fun q37 => by exfalso; omega)
        refine V_iconst C dX6_reads_44 ?_
        refine V_istore C dX6_reads_45 (Nat.le_of_ble_eq_true rfl) rfl ?_
        refine V_iload C dX6_reads_47 rfl ?_
        refine V_if_eq (tgt := 78) C dX6_reads_49 (by decide) (by omega) (fun q49 => ?_) (fun q49 => by exfalso; omega)
        refine V_iconst C dX6_reads_78 ?_
        refine V_istore C dX6_reads_79 (Nat.le_of_ble_eq_true rfl) rfl ?_
        refine V_aload_n C dX6_reads_81 rfl rfl ?_
        refine V_getH (L := mOl G) C dX6_reads_82 fX6_102 (by decide) (fun _ => rfl) rfl ?_
        rw [Wd_13]
        refine V_bipush C dX6_reads_85 (by decide +kernel) ?_
        refine V_icmp_gt (tgt := 94) C dX6_reads_87 (by decide) (by omega) (by omega) (fun q87 => ?_) (fun q87 => by exfalso; omega)
        refine V_iconst C dX6_reads_94 ?_
        refine V_istore C dX6_reads_95 (Nat.le_of_ble_eq_true rfl) rfl ?_
        refine V_iload C dX6_reads_97 rfl ?_
        refine V_if_eq (tgt := 120) C dX6_reads_99 (by decide) (by omega) (fun q99 => ?_) (fun q99 => by exfalso; omega)
        refine V_aload_n C dX6_reads_120 rfl rfl ?_
        refine V_dup C dX6_reads_121 rfl ?_
        refine V_getH (L := mOl G) C dX6_reads_122 fX6_99 (by decide) (fun _ => rfl) rfl ?_
        rw [Wd_12]
        refine V_iload C dX6_reads_125 rfl ?_
        refine V_if_eq (tgt := 139) C dX6_reads_127 (by decide) (by omega) (fun q127 => ?_) (fun q127 => by exfalso; omega)
        refine V_iconst C dX6_reads_139 ?_
        refine V_iadd C dX6_reads_140 ?_
        refine V_putH (L := mOl G) (ty := .int) C dX6_reads_141 fX6_99 (by decide) (fun _ => rfl) rfl (by decide +kernel) (rfl) (rfl) (Nat.le_of_ble_eq_true rfl) rfl ?_
        rw [Wd_p12]
        refine V_iload C dX6_reads_144 rfl ?_
        refine V_if_eq (tgt := 153) C dX6_reads_146 (by decide) (by omega) (fun q146 => ?_) (fun q146 => by exfalso; omega)
        refine V_iload C dX6_reads_153 rfl ?_
        refine V_if_eq (tgt := 178) C dX6_reads_155 (by decide) (by omega) (fun q155 => ?_) (fun q155 => by exfalso; omega)
        refine V_iload_n C dX6_reads_178 rfl rfl ?_
        refine V_istore_n C dX6_reads_179 rfl (Nat.le_of_ble_eq_true rfl) rfl ?_
        refine V_aload_n C dX6_reads_180 rfl rfl ?_
        refine V_iload C dX6_reads_181 rfl ?_
        refine V_if_eq (tgt := 190) C dX6_reads_183 (by decide) (by omega) (fun q183 => ?_) (fun q183 => by exfalso; omega)
        refine V_aload_n C dX6_reads_190 rfl rfl ?_
        refine V_getH (L := mOl G) C dX6_reads_191 fX6_102 (by decide) (fun _ => rfl) rfl ?_
        rw [Wd_13]
        refine V_iconst C dX6_reads_194 ?_
        refine V_iadd C dX6_reads_195 ?_
        refine V_putH (L := mOl G) (ty := .int) C dX6_reads_196 fX6_102 (by decide) (fun _ => rfl) rfl (by decide +kernel) (rfl) (rfl) (Nat.le_of_ble_eq_true rfl) rfl ?_
        rw [Wd_p13]
        refine V_iinc C dX6_reads_199 rfl (Nat.le_of_ble_eq_true rfl) rfl ?_
        refine V_goto (tgt := 16) C dX6_reads_202 (by decide) ?_
        have g := Hn (by omega)
        rw [if_neg (by omega)] at g
        refine V_hp ?_ (ih (k + 1) _ _ (Wr : Int) ((Lo + 1 : Nat) : Int) (foU (K 32) Nu) _ _ _ (by omega) (by rw [g]) (by rw [g]) (by rw [g]) (by rw [g]) (by rw [g]))
        simp only [Int.add_zero]
        rfl
      · refine V_iload_n C dX6_reads_16 rfl rfl ?_
        refine V_aload_n C dX6_reads_17 rfl rfl ?_
        refine V_getH (L := mOl G) C dX6_reads_18 fX6_7 (by decide) (fun _ => rfl) rfl ?_
        refine V_bipush C dX6_reads_21 (by decide +kernel) ?_
        refine V_ialdH C dX6_reads_23 (by decide) (fun _ => rfl) (by omega) (by decide) ?_
        rw [Wd_29, show (6 : Int).toNat = 6 from rfl, hL]
        refine V_icmp_ge (tgt := 205) C dX6_reads_24 (by decide) (by omega) (by omega) (fun q24 => by exfalso; omega) (fun q24 => ?_)
        refine V_aload_n C dX6_reads_27 rfl rfl ?_
        refine V_getH (L := mOl G) C dX6_reads_28 fX6_7 (by decide) (fun _ => rfl) rfl ?_
        refine V_bipush C dX6_reads_31 (by decide +kernel) ?_
        refine V_iload_n C dX6_reads_33 rfl rfl ?_
        refine V_iadd C dX6_reads_34 ?_
        refine V_ialdH C dX6_reads_35 (by decide) (fun _ => rfl) (by omega) (by decide) ?_
        rw [ek7, Wd_29, hd0]
        refine V_iconst C dX6_reads_36 ?_
        refine V_icmp_ne (tgt := 44) C dX6_reads_37 (by decide) (by omega) (by omega) (fun q37 => by exfalso; omega) (fun q37 => ?_)
        refine V_iconst C dX6_reads_40 ?_
        refine V_goto (tgt := 45) C dX6_reads_41 (by decide) ?_
        refine V_istore C dX6_reads_45 (Nat.le_of_ble_eq_true rfl) rfl ?_
        refine V_iload C dX6_reads_47 rfl ?_
        refine V_if_eq (tgt := 78) C dX6_reads_49 (by decide) (by omega) (fun q49 => by exfalso; omega) (fun q49 => ?_)
        refine V_aload_n C dX6_reads_52 rfl rfl ?_
        refine V_getH (L := mOl G) C dX6_reads_53 fX6_102 (by decide) (fun _ => rfl) rfl ?_
        rw [Wd_13]
        refine V_if_le (tgt := 78) C dX6_reads_56 (by decide) (by omega) (fun q56 => ?_) (fun q56 => by exfalso; omega)
        refine V_iconst C dX6_reads_78 ?_
        refine V_istore C dX6_reads_79 (Nat.le_of_ble_eq_true rfl) rfl ?_
        refine V_aload_n C dX6_reads_81 rfl rfl ?_
        refine V_getH (L := mOl G) C dX6_reads_82 fX6_102 (by decide) (fun _ => rfl) rfl ?_
        rw [Wd_13]
        refine V_bipush C dX6_reads_85 (by decide +kernel) ?_
        refine V_icmp_gt (tgt := 94) C dX6_reads_87 (by decide) (by omega) (by omega) (fun q87 => by exfalso; omega) (fun q87 => ?_)
        refine V_iconst C dX6_reads_90 ?_
        refine V_goto (tgt := 95) C dX6_reads_91 (by decide) ?_
        refine V_istore C dX6_reads_95 (Nat.le_of_ble_eq_true rfl) rfl ?_
        refine V_iload C dX6_reads_97 rfl ?_
        refine V_if_eq (tgt := 120) C dX6_reads_99 (by decide) (by omega) (fun q99 => ?_) (fun q99 => by exfalso; omega)
        refine V_aload_n C dX6_reads_120 rfl rfl ?_
        refine V_dup C dX6_reads_121 rfl ?_
        refine V_getH (L := mOl G) C dX6_reads_122 fX6_99 (by decide) (fun _ => rfl) rfl ?_
        rw [Wd_12]
        refine V_iload C dX6_reads_125 rfl ?_
        refine V_if_eq (tgt := 139) C dX6_reads_127 (by decide) (by omega) (fun q127 => ?_) (fun q127 => by exfalso; omega)
        refine V_iconst C dX6_reads_139 ?_
        refine V_iadd C dX6_reads_140 ?_
        refine V_putH (L := mOl G) (ty := .int) C dX6_reads_141 fX6_99 (by decide) (fun _ => rfl) rfl (by decide +kernel) (rfl) (rfl) (Nat.le_of_ble_eq_true rfl) rfl ?_
        rw [Wd_p12]
        refine V_iload C dX6_reads_144 rfl ?_
        refine V_if_eq (tgt := 153) C dX6_reads_146 (by decide) (by omega) (fun q146 => ?_) (fun q146 => by exfalso; omega)
        refine V_iload C dX6_reads_153 rfl ?_
        refine V_if_eq (tgt := 178) C dX6_reads_155 (by decide) (by omega) (fun q155 => by exfalso; omega) (fun q155 => ?_)
        refine V_aload_n C dX6_reads_158 rfl rfl ?_
        refine V_getH (L := mOl G) C dX6_reads_159 fX6_102 (by decide) (fun _ => rfl) rfl ?_
        rw [Wd_13]
        refine V_bipush C dX6_reads_162 (by decide +kernel) ?_
        refine V_icmp_ge (tgt := 178) C dX6_reads_164 (by decide) (by omega) (by omega) (fun q164 => by exfalso; omega) (fun q164 => ?_)
        refine V_iload_n C dX6_reads_167 rfl rfl ?_
        refine V_iconst C dX6_reads_168 ?_
        refine V_aload_n C dX6_reads_169 rfl rfl ?_
        refine V_getH (L := mOl G) C dX6_reads_170 fX6_102 (by decide) (fun _ => rfl) rfl ?_
        rw [Wd_13]
        refine V_ishl C dX6_reads_173 1 Lo (by first | rfl | omega) (by first | rfl | omega) (by omega) (by omega) ?_
        refine V_ior C dX6_reads_174 M (1 <<< Lo) (by first | rfl | omega) (by first | rfl | omega) ?_
        refine V_goto (tgt := 179) C dX6_reads_175 (by decide) ?_
        refine V_istore_n C dX6_reads_179 rfl (Nat.le_of_ble_eq_true rfl) rfl ?_
        refine V_aload_n C dX6_reads_180 rfl rfl ?_
        refine V_iload C dX6_reads_181 rfl ?_
        refine V_if_eq (tgt := 190) C dX6_reads_183 (by decide) (by omega) (fun q183 => ?_) (fun q183 => by exfalso; omega)
        refine V_aload_n C dX6_reads_190 rfl rfl ?_
        refine V_getH (L := mOl G) C dX6_reads_191 fX6_102 (by decide) (fun _ => rfl) rfl ?_
        rw [Wd_13]
        refine V_iconst C dX6_reads_194 ?_
        refine V_iadd C dX6_reads_195 ?_
        refine V_putH (L := mOl G) (ty := .int) C dX6_reads_196 fX6_102 (by decide) (fun _ => rfl) rfl (by decide +kernel) (rfl) (rfl) (Nat.le_of_ble_eq_true rfl) rfl ?_
        rw [Wd_p13]
        refine V_iinc C dX6_reads_199 rfl (Nat.le_of_ble_eq_true rfl) rfl ?_
        refine V_goto (tgt := 16) C dX6_reads_202 (by decide) ?_
        have g := Hn (by omega)
        rw [if_pos (by omega)] at g
        refine V_hp ?_ (ih (k + 1) _ _ (Wr : Int) ((Lo + 1 : Nat) : Int) (foU (K 32) Nu) _ _ _ (by omega) (by rw [g]) (by rw [g]) (by rw [g]) (by rw [g]) (by rw [g]))
        simp only [Int.add_zero]
        rfl
      · refine V_iload_n C dX6_reads_16 rfl rfl ?_
        refine V_aload_n C dX6_reads_17 rfl rfl ?_
        refine V_getH (L := mOl G) C dX6_reads_18 fX6_7 (by decide) (fun _ => rfl) rfl ?_
        refine V_bipush C dX6_reads_21 (by decide +kernel) ?_
        refine V_ialdH C dX6_reads_23 (by decide) (fun _ => rfl) (by omega) (by decide) ?_
        rw [Wd_29, show (6 : Int).toNat = 6 from rfl, hL]
        refine V_icmp_ge (tgt := 205) C dX6_reads_24 (by decide) (by omega) (by omega) (fun q24 => by exfalso; omega) (fun q24 => ?_)
        refine V_aload_n C dX6_reads_27 rfl rfl ?_
        refine V_getH (L := mOl G) C dX6_reads_28 fX6_7 (by decide) (fun _ => rfl) rfl ?_
        refine V_bipush C dX6_reads_31 (by decide +kernel) ?_
        refine V_iload_n C dX6_reads_33 rfl rfl ?_
        refine V_iadd C dX6_reads_34 ?_
        refine V_ialdH C dX6_reads_35 (by decide) (fun _ => rfl) (by omega) (by decide) ?_
        rw [ek7, Wd_29, hd0]
        refine V_iconst C dX6_reads_36 ?_
        refine V_icmp_ne (tgt := 44) C dX6_reads_37 (by decide) (by omega) (by omega) (fun q37 => by exfalso; omega) (fun q37 => ?_)
        refine V_iconst C dX6_reads_40 ?_
        refine V_goto (tgt := 45) C dX6_reads_41 (by decide) ?_
        refine V_istore C dX6_reads_45 (Nat.le_of_ble_eq_true rfl) rfl ?_
        refine V_iload C dX6_reads_47 rfl ?_
        refine V_if_eq (tgt := 78) C dX6_reads_49 (by decide) (by omega) (fun q49 => by exfalso; omega) (fun q49 => ?_)
        refine V_aload_n C dX6_reads_52 rfl rfl ?_
        refine V_getH (L := mOl G) C dX6_reads_53 fX6_102 (by decide) (fun _ => rfl) rfl ?_
        rw [Wd_13]
        refine V_if_le (tgt := 78) C dX6_reads_56 (by decide) (by omega) (fun q56 => by exfalso; omega) (fun q56 => ?_)
        refine V_aload_n C dX6_reads_59 rfl rfl ?_
        refine V_getH (L := mOl G) C dX6_reads_60 fX6_7 (by decide) (fun _ => rfl) rfl ?_
        refine V_bipush C dX6_reads_63 (by decide +kernel) ?_
        refine V_iload_n C dX6_reads_65 rfl rfl ?_
        refine V_iadd C dX6_reads_66 ?_
        refine V_iconst C dX6_reads_67 ?_
        refine V_isub C dX6_reads_68 ?_
        refine V_ialdH C dX6_reads_69 (by decide) (fun _ => rfl) (by omega) (by decide) ?_
        rw [show ((7 : Int) + (k : Int) - 1).toNat = 7 + (k - 1) by omega, Wd_29, hd0]
        refine V_iconst C dX6_reads_70 ?_
        refine V_icmp_ne (tgt := 78) C dX6_reads_71 (by decide) (by omega) (by omega) (fun q71 => ?_) (fun q71 => by exfalso; omega)
        refine V_iconst C dX6_reads_78 ?_
        refine V_istore C dX6_reads_79 (Nat.le_of_ble_eq_true rfl) rfl ?_
        refine V_aload_n C dX6_reads_81 rfl rfl ?_
        refine V_getH (L := mOl G) C dX6_reads_82 fX6_102 (by decide) (fun _ => rfl) rfl ?_
        rw [Wd_13]
        refine V_bipush C dX6_reads_85 (by decide +kernel) ?_
        refine V_icmp_gt (tgt := 94) C dX6_reads_87 (by decide) (by omega) (by omega) (fun q87 => by exfalso; omega) (fun q87 => ?_)
        refine V_iconst C dX6_reads_90 ?_
        refine V_goto (tgt := 95) C dX6_reads_91 (by decide) ?_
        refine V_istore C dX6_reads_95 (Nat.le_of_ble_eq_true rfl) rfl ?_
        refine V_iload C dX6_reads_97 rfl ?_
        refine V_if_eq (tgt := 120) C dX6_reads_99 (by decide) (by omega) (fun q99 => ?_) (fun q99 => by exfalso; omega)
        refine V_aload_n C dX6_reads_120 rfl rfl ?_
        refine V_dup C dX6_reads_121 rfl ?_
        refine V_getH (L := mOl G) C dX6_reads_122 fX6_99 (by decide) (fun _ => rfl) rfl ?_
        rw [Wd_12]
        refine V_iload C dX6_reads_125 rfl ?_
        refine V_if_eq (tgt := 139) C dX6_reads_127 (by decide) (by omega) (fun q127 => ?_) (fun q127 => by exfalso; omega)
        refine V_iconst C dX6_reads_139 ?_
        refine V_iadd C dX6_reads_140 ?_
        refine V_putH (L := mOl G) (ty := .int) C dX6_reads_141 fX6_99 (by decide) (fun _ => rfl) rfl (by decide +kernel) (rfl) (rfl) (Nat.le_of_ble_eq_true rfl) rfl ?_
        rw [Wd_p12]
        refine V_iload C dX6_reads_144 rfl ?_
        refine V_if_eq (tgt := 153) C dX6_reads_146 (by decide) (by omega) (fun q146 => ?_) (fun q146 => by exfalso; omega)
        refine V_iload C dX6_reads_153 rfl ?_
        refine V_if_eq (tgt := 178) C dX6_reads_155 (by decide) (by omega) (fun q155 => by exfalso; omega) (fun q155 => ?_)
        refine V_aload_n C dX6_reads_158 rfl rfl ?_
        refine V_getH (L := mOl G) C dX6_reads_159 fX6_102 (by decide) (fun _ => rfl) rfl ?_
        rw [Wd_13]
        refine V_bipush C dX6_reads_162 (by decide +kernel) ?_
        refine V_icmp_ge (tgt := 178) C dX6_reads_164 (by decide) (by omega) (by omega) (fun q164 => by exfalso; omega) (fun q164 => ?_)
        refine V_iload_n C dX6_reads_167 rfl rfl ?_
        refine V_iconst C dX6_reads_168 ?_
        refine V_aload_n C dX6_reads_169 rfl rfl ?_
        refine V_getH (L := mOl G) C dX6_reads_170 fX6_102 (by decide) (fun _ => rfl) rfl ?_
        rw [Wd_13]
        refine V_ishl C dX6_reads_173 1 Lo (by first | rfl | omega) (by first | rfl | omega) (by omega) (by omega) ?_
        refine V_ior C dX6_reads_174 M (1 <<< Lo) (by first | rfl | omega) (by first | rfl | omega) ?_
        refine V_goto (tgt := 179) C dX6_reads_175 (by decide) ?_
        refine V_istore_n C dX6_reads_179 rfl (Nat.le_of_ble_eq_true rfl) rfl ?_
        refine V_aload_n C dX6_reads_180 rfl rfl ?_
        refine V_iload C dX6_reads_181 rfl ?_
        refine V_if_eq (tgt := 190) C dX6_reads_183 (by decide) (by omega) (fun q183 => ?_) (fun q183 => by exfalso; omega)
        refine V_aload_n C dX6_reads_190 rfl rfl ?_
        refine V_getH (L := mOl G) C dX6_reads_191 fX6_102 (by decide) (fun _ => rfl) rfl ?_
        rw [Wd_13]
        refine V_iconst C dX6_reads_194 ?_
        refine V_iadd C dX6_reads_195 ?_
        refine V_putH (L := mOl G) (ty := .int) C dX6_reads_196 fX6_102 (by decide) (fun _ => rfl) rfl (by decide +kernel) (rfl) (rfl) (Nat.le_of_ble_eq_true rfl) rfl ?_
        rw [Wd_p13]
        refine V_iinc C dX6_reads_199 rfl (Nat.le_of_ble_eq_true rfl) rfl ?_
        refine V_goto (tgt := 16) C dX6_reads_202 (by decide) ?_
        have g := Hn (by omega)
        rw [if_pos (by omega)] at g
        refine V_hp ?_ (ih (k + 1) _ _ (Wr : Int) ((Lo + 1 : Nat) : Int) (foU (K 32) Nu) _ _ _ (by omega) (by rw [g]) (by rw [g]) (by rw [g]) (by rw [g]) (by rw [g]))
        simp only [Int.add_zero]
        rfl
      · refine V_iload_n C dX6_reads_16 rfl rfl ?_
        refine V_aload_n C dX6_reads_17 rfl rfl ?_
        refine V_getH (L := mOl G) C dX6_reads_18 fX6_7 (by decide) (fun _ => rfl) rfl ?_
        refine V_bipush C dX6_reads_21 (by decide +kernel) ?_
        refine V_ialdH C dX6_reads_23 (by decide) (fun _ => rfl) (by omega) (by decide) ?_
        rw [Wd_29, show (6 : Int).toNat = 6 from rfl, hL]
        refine V_icmp_ge (tgt := 205) C dX6_reads_24 (by decide) (by omega) (by omega) (fun q24 => by exfalso; omega) (fun q24 => ?_)
        refine V_aload_n C dX6_reads_27 rfl rfl ?_
        refine V_getH (L := mOl G) C dX6_reads_28 fX6_7 (by decide) (fun _ => rfl) rfl ?_
        refine V_bipush C dX6_reads_31 (by decide +kernel) ?_
        refine V_iload_n C dX6_reads_33 rfl rfl ?_
        refine V_iadd C dX6_reads_34 ?_
        refine V_ialdH C dX6_reads_35 (by decide) (fun _ => rfl) (by omega) (by decide) ?_
        rw [ek7, Wd_29, hd0]
        refine V_iconst C dX6_reads_36 ?_
        refine V_icmp_ne (tgt := 44) C dX6_reads_37 (by decide) (by omega) (by omega) (fun q37 => by exfalso; omega) (fun q37 => ?_)
        refine V_iconst C dX6_reads_40 ?_
        refine V_goto (tgt := 45) C dX6_reads_41 (by decide) ?_
        refine V_istore C dX6_reads_45 (Nat.le_of_ble_eq_true rfl) rfl ?_
        refine V_iload C dX6_reads_47 rfl ?_
        refine V_if_eq (tgt := 78) C dX6_reads_49 (by decide) (by omega) (fun q49 => by exfalso; omega) (fun q49 => ?_)
        refine V_aload_n C dX6_reads_52 rfl rfl ?_
        refine V_getH (L := mOl G) C dX6_reads_53 fX6_102 (by decide) (fun _ => rfl) rfl ?_
        rw [Wd_13]
        refine V_if_le (tgt := 78) C dX6_reads_56 (by decide) (by omega) (fun q56 => by exfalso; omega) (fun q56 => ?_)
        refine V_aload_n C dX6_reads_59 rfl rfl ?_
        refine V_getH (L := mOl G) C dX6_reads_60 fX6_7 (by decide) (fun _ => rfl) rfl ?_
        refine V_bipush C dX6_reads_63 (by decide +kernel) ?_
        refine V_iload_n C dX6_reads_65 rfl rfl ?_
        refine V_iadd C dX6_reads_66 ?_
        refine V_iconst C dX6_reads_67 ?_
        refine V_isub C dX6_reads_68 ?_
        refine V_ialdH C dX6_reads_69 (by decide) (fun _ => rfl) (by omega) (by decide) ?_
        rw [show ((7 : Int) + (k : Int) - 1).toNat = 7 + (k - 1) by omega, Wd_29, hd0]
        refine V_iconst C dX6_reads_70 ?_
        refine V_icmp_ne (tgt := 78) C dX6_reads_71 (by decide) (by omega) (by omega) (fun q71 => ?_) (fun q71 => by exfalso; omega)
        refine V_iconst C dX6_reads_78 ?_
        refine V_istore C dX6_reads_79 (Nat.le_of_ble_eq_true rfl) rfl ?_
        refine V_aload_n C dX6_reads_81 rfl rfl ?_
        refine V_getH (L := mOl G) C dX6_reads_82 fX6_102 (by decide) (fun _ => rfl) rfl ?_
        rw [Wd_13]
        refine V_bipush C dX6_reads_85 (by decide +kernel) ?_
        refine V_icmp_gt (tgt := 94) C dX6_reads_87 (by decide) (by omega) (by omega) (fun q87 => by exfalso; omega) (fun q87 => ?_)
        refine V_iconst C dX6_reads_90 ?_
        refine V_goto (tgt := 95) C dX6_reads_91 (by decide) ?_
        refine V_istore C dX6_reads_95 (Nat.le_of_ble_eq_true rfl) rfl ?_
        refine V_iload C dX6_reads_97 rfl ?_
        refine V_if_eq (tgt := 120) C dX6_reads_99 (by decide) (by omega) (fun q99 => ?_) (fun q99 => by exfalso; omega)
        refine V_aload_n C dX6_reads_120 rfl rfl ?_
        refine V_dup C dX6_reads_121 rfl ?_
        refine V_getH (L := mOl G) C dX6_reads_122 fX6_99 (by decide) (fun _ => rfl) rfl ?_
        rw [Wd_12]
        refine V_iload C dX6_reads_125 rfl ?_
        refine V_if_eq (tgt := 139) C dX6_reads_127 (by decide) (by omega) (fun q127 => ?_) (fun q127 => by exfalso; omega)
        refine V_iconst C dX6_reads_139 ?_
        refine V_iadd C dX6_reads_140 ?_
        refine V_putH (L := mOl G) (ty := .int) C dX6_reads_141 fX6_99 (by decide) (fun _ => rfl) rfl (by decide +kernel) (rfl) (rfl) (Nat.le_of_ble_eq_true rfl) rfl ?_
        rw [Wd_p12]
        refine V_iload C dX6_reads_144 rfl ?_
        refine V_if_eq (tgt := 153) C dX6_reads_146 (by decide) (by omega) (fun q146 => ?_) (fun q146 => by exfalso; omega)
        refine V_iload C dX6_reads_153 rfl ?_
        refine V_if_eq (tgt := 178) C dX6_reads_155 (by decide) (by omega) (fun q155 => by exfalso; omega) (fun q155 => ?_)
        refine V_aload_n C dX6_reads_158 rfl rfl ?_
        refine V_getH (L := mOl G) C dX6_reads_159 fX6_102 (by decide) (fun _ => rfl) rfl ?_
        rw [Wd_13]
        refine V_bipush C dX6_reads_162 (by decide +kernel) ?_
        refine V_icmp_ge (tgt := 178) C dX6_reads_164 (by decide) (by omega) (by omega) (fun q164 => ?_) (fun q164 => by exfalso; omega)
        refine V_iload_n C dX6_reads_178 rfl rfl ?_
        refine V_istore_n C dX6_reads_179 rfl (Nat.le_of_ble_eq_true rfl) rfl ?_
        refine V_aload_n C dX6_reads_180 rfl rfl ?_
        refine V_iload C dX6_reads_181 rfl ?_
        refine V_if_eq (tgt := 190) C dX6_reads_183 (by decide) (by omega) (fun q183 => ?_) (fun q183 => by exfalso; omega)
        refine V_aload_n C dX6_reads_190 rfl rfl ?_
        refine V_getH (L := mOl G) C dX6_reads_191 fX6_102 (by decide) (fun _ => rfl) rfl ?_
        rw [Wd_13]
        refine V_iconst C dX6_reads_194 ?_
        refine V_iadd C dX6_reads_195 ?_
        refine V_putH (L := mOl G) (ty := .int) C dX6_reads_196 fX6_102 (by decide) (fun _ => rfl) rfl (by decide +kernel) (rfl) (rfl) (Nat.le_of_ble_eq_true rfl) rfl ?_
        rw [Wd_p13]
        refine V_iinc C dX6_reads_199 rfl (Nat.le_of_ble_eq_true rfl) rfl ?_
        refine V_goto (tgt := 16) C dX6_reads_202 (by decide) ?_
        have g := Hn (by omega)
        rw [if_neg (by omega)] at g
        refine V_hp ?_ (ih (k + 1) _ _ (Wr : Int) ((Lo + 1 : Nat) : Int) (foU (K 32) Nu) _ _ _ (by omega) (by rw [g]) (by rw [g]) (by rw [g]) (by rw [g]) (by rw [g]))
        simp only [Int.add_zero]
        rfl
      · refine V_iload_n C dX6_reads_16 rfl rfl ?_
        refine V_aload_n C dX6_reads_17 rfl rfl ?_
        refine V_getH (L := mOl G) C dX6_reads_18 fX6_7 (by decide) (fun _ => rfl) rfl ?_
        refine V_bipush C dX6_reads_21 (by decide +kernel) ?_
        refine V_ialdH C dX6_reads_23 (by decide) (fun _ => rfl) (by omega) (by decide) ?_
        rw [Wd_29, show (6 : Int).toNat = 6 from rfl, hL]
        refine V_icmp_ge (tgt := 205) C dX6_reads_24 (by decide) (by omega) (by omega) (fun q24 => by exfalso; omega) (fun q24 => ?_)
        refine V_aload_n C dX6_reads_27 rfl rfl ?_
        refine V_getH (L := mOl G) C dX6_reads_28 fX6_7 (by decide) (fun _ => rfl) rfl ?_
        refine V_bipush C dX6_reads_31 (by decide +kernel) ?_
        refine V_iload_n C dX6_reads_33 rfl rfl ?_
        refine V_iadd C dX6_reads_34 ?_
        refine V_ialdH C dX6_reads_35 (by decide) (fun _ => rfl) (by omega) (by decide) ?_
        rw [ek7, Wd_29, hd0]
        refine V_iconst C dX6_reads_36 ?_
        refine V_icmp_ne (tgt := 44) C dX6_reads_37 (by decide) (by omega) (by omega) (fun q37 => by exfalso; omega) (fun q37 => ?_)
        refine V_iconst C dX6_reads_40 ?_
        refine V_goto (tgt := 45) C dX6_reads_41 (by decide) ?_
        refine V_istore C dX6_reads_45 (Nat.le_of_ble_eq_true rfl) rfl ?_
        refine V_iload C dX6_reads_47 rfl ?_
        refine V_if_eq (tgt := 78) C dX6_reads_49 (by decide) (by omega) (fun q49 => by exfalso; omega) (fun q49 => ?_)
        refine V_aload_n C dX6_reads_52 rfl rfl ?_
        refine V_getH (L := mOl G) C dX6_reads_53 fX6_102 (by decide) (fun _ => rfl) rfl ?_
        rw [Wd_13]
        refine V_if_le (tgt := 78) C dX6_reads_56 (by decide) (by omega) (fun q56 => by exfalso; omega) (fun q56 => ?_)
        refine V_aload_n C dX6_reads_59 rfl rfl ?_
        refine V_getH (L := mOl G) C dX6_reads_60 fX6_7 (by decide) (fun _ => rfl) rfl ?_
        refine V_bipush C dX6_reads_63 (by decide +kernel) ?_
        refine V_iload_n C dX6_reads_65 rfl rfl ?_
        refine V_iadd C dX6_reads_66 ?_
        refine V_iconst C dX6_reads_67 ?_
        refine V_isub C dX6_reads_68 ?_
        refine V_ialdH C dX6_reads_69 (by decide) (fun _ => rfl) (by omega) (by decide) ?_
        rw [show ((7 : Int) + (k : Int) - 1).toNat = 7 + (k - 1) by omega, Wd_29, hd0]
        refine V_iconst C dX6_reads_70 ?_
        refine V_icmp_ne (tgt := 78) C dX6_reads_71 (by decide) (by omega) (by omega) (fun q71 => ?_) (fun q71 => by exfalso; omega)
        refine V_iconst C dX6_reads_78 ?_
        refine V_istore C dX6_reads_79 (Nat.le_of_ble_eq_true rfl) rfl ?_
        refine V_aload_n C dX6_reads_81 rfl rfl ?_
        refine V_getH (L := mOl G) C dX6_reads_82 fX6_102 (by decide) (fun _ => rfl) rfl ?_
        rw [Wd_13]
        refine V_bipush C dX6_reads_85 (by decide +kernel) ?_
        refine V_icmp_gt (tgt := 94) C dX6_reads_87 (by decide) (by omega) (by omega) (fun q87 => ?_) (fun q87 => by exfalso; omega)
        refine V_iconst C dX6_reads_94 ?_
        refine V_istore C dX6_reads_95 (Nat.le_of_ble_eq_true rfl) rfl ?_
        refine V_iload C dX6_reads_97 rfl ?_
        refine V_if_eq (tgt := 120) C dX6_reads_99 (by decide) (by omega) (fun q99 => ?_) (fun q99 => by exfalso; omega)
        refine V_aload_n C dX6_reads_120 rfl rfl ?_
        refine V_dup C dX6_reads_121 rfl ?_
        refine V_getH (L := mOl G) C dX6_reads_122 fX6_99 (by decide) (fun _ => rfl) rfl ?_
        rw [Wd_12]
        refine V_iload C dX6_reads_125 rfl ?_
        refine V_if_eq (tgt := 139) C dX6_reads_127 (by decide) (by omega) (fun q127 => ?_) (fun q127 => by exfalso; omega)
        refine V_iconst C dX6_reads_139 ?_
        refine V_iadd C dX6_reads_140 ?_
        refine V_putH (L := mOl G) (ty := .int) C dX6_reads_141 fX6_99 (by decide) (fun _ => rfl) rfl (by decide +kernel) (rfl) (rfl) (Nat.le_of_ble_eq_true rfl) rfl ?_
        rw [Wd_p12]
        refine V_iload C dX6_reads_144 rfl ?_
        refine V_if_eq (tgt := 153) C dX6_reads_146 (by decide) (by omega) (fun q146 => ?_) (fun q146 => by exfalso; omega)
        refine V_iload C dX6_reads_153 rfl ?_
        refine V_if_eq (tgt := 178) C dX6_reads_155 (by decide) (by omega) (fun q155 => by exfalso; omega) (fun q155 => ?_)
        refine V_aload_n C dX6_reads_158 rfl rfl ?_
        refine V_getH (L := mOl G) C dX6_reads_159 fX6_102 (by decide) (fun _ => rfl) rfl ?_
        rw [Wd_13]
        refine V_bipush C dX6_reads_162 (by decide +kernel) ?_
        refine V_icmp_ge (tgt := 178) C dX6_reads_164 (by decide) (by omega) (by omega) (fun q164 => ?_) (fun q164 => by exfalso; omega)
        refine V_iload_n C dX6_reads_178 rfl rfl ?_
        refine V_istore_n C dX6_reads_179 rfl (Nat.le_of_ble_eq_true rfl) rfl ?_
        refine V_aload_n C dX6_reads_180 rfl rfl ?_
        refine V_iload C dX6_reads_181 rfl ?_
        refine V_if_eq (tgt := 190) C dX6_reads_183 (by decide) (by omega) (fun q183 => ?_) (fun q183 => by exfalso; omega)
        refine V_aload_n C dX6_reads_190 rfl rfl ?_
        refine V_getH (L := mOl G) C dX6_reads_191 fX6_102 (by decide) (fun _ => rfl) rfl ?_
        rw [Wd_13]
        refine V_iconst C dX6_reads_194 ?_
        refine V_iadd C dX6_reads_195 ?_
        refine V_putH (L := mOl G) (ty := .int) C dX6_reads_196 fX6_102 (by decide) (fun _ => rfl) rfl (by decide +kernel) (rfl) (rfl) (Nat.le_of_ble_eq_true rfl) rfl ?_
        rw [Wd_p13]
        refine V_iinc C dX6_reads_199 rfl (Nat.le_of_ble_eq_true rfl) rfl ?_
        refine V_goto (tgt := 16) C dX6_reads_202 (by decide) ?_
        have g := Hn (by omega)
        rw [if_neg (by omega)] at g
        refine V_hp ?_ (ih (k + 1) _ _ (Wr : Int) ((Lo + 1 : Nat) : Int) (foU (K 32) Nu) _ _ _ (by omega) (by rw [g]) (by rw [g]) (by rw [g]) (by rw [g]) (by rw [g]))
        simp only [Int.add_zero]
        rfl
  refine V_iconst C dX6_reads_0 ?_
  refine V_istore_n C dX6_reads_1 rfl (Nat.le_of_ble_eq_true rfl) rfl ?_
  refine V_iconst C dX6_reads_2 ?_
  refine V_istore_n C dX6_reads_3 rfl (Nat.le_of_ble_eq_true rfl) rfl ?_
  refine V_aload_n C dX6_reads_4 rfl rfl ?_
  refine V_iconst C dX6_reads_5 ?_
  refine V_putH (L := mOl G) (ty := .int) C dX6_reads_6 fX6_99 (by decide) (fun _ => rfl) rfl (by decide +kernel) (rfl) (rfl) (Nat.le_of_ble_eq_true rfl) rfl ?_
  refine V_aload_n C dX6_reads_9 rfl rfl ?_
  refine V_iconst C dX6_reads_10 ?_
  refine V_putH (L := mOl G) (ty := .int) C dX6_reads_11 fX6_102 (by decide) (fun _ => rfl) rfl (by decide +kernel) (rfl) (rfl) (Nat.le_of_ble_eq_true rfl) rfl ?_
  refine V_iconst C dX6_reads_14 ?_
  refine V_istore_n C dX6_reads_15 rfl (Nat.le_of_ble_eq_true rfl) rfl ?_
  refine V_hp ?_ (loop L 0 _ _ _ _ _ _ _ _ (by omega) rfl rfl rfl rfl rfl)
  show _ = HP G (us (us K 28 (us (us (K 28) 12 0) 13 0)) 32 (foU (K 32) [])) r
  rw [foU_0, us_at, us_us, us_same2 (show (28 : Nat) ≠ 32 by decide)]
