set_option maxRecDepth 100000 in
set_option maxHeartbeats 4000000 in
theorem c_X5_mixStop (G : GT) (K : Nat → Nat → Int) (r : Nat → Option Nat) (h0 : Int) (z : Nat → Int) (hS : RS K 1 z) (hz : GZ z) : CtO G yX5_mixStop mX5_mixStop [rf G 0, .long (lL h0)] K r (some (.long (lL (dgD z h0)))) (K) (r) := by
  refine Ct_of kX5_mixStop.1.1 (by decide) [some (rf G 0), some (.long (lL h0)), none, none, none] rfl (Nat.le_of_ble_eq_true rfl) ?_
  intro x C hZ
  obtain ⟨r3, r4, r5, r6⟩ := stop_r hS hz
  have g71 := hz.2.2.2.1
  have g72 := hz.2.2.2.2.1
  have g73 := hz.2.2.2.2.2
  by_cases c : z 71 = 1
  · obtain ⟨r7, r8⟩ := r6 c
    unfold dgD at hZ; rw [if_pos c, c] at hZ
    refine V_aload_n C dX5_mixStop_0 rfl rfl ?_
    refine V_getH (L := clL G) C dX5_mixStop_1 fX5_10 (by decide) (fun _ => rfl) rfl ?_
    refine V_getH (L := stL G 1) C dX5_mixStop_4 fX5_164 (by decide) (fun _ => rfl) rfl ?_
    rw [r7]
    refine V_iconst C dX5_mixStop_7 ?_
    refine V_icmp_ne (tgt := 17) C dX5_mixStop_8 (by decide) (by omega) (by omega) (fun q8 => ?_) (fun q8 => by exfalso; omega)
    refine V_lload_n C dX5_mixStop_17 rfl rfl ?_
    refine V_lconst (z := 1) C dX5_mixStop_18 (by decide +kernel) ?_
    refine V_S1 (k2 := 0) (s2 := 0) C dX5_mixStop_19 lX5_263 kX5_mix (c_X5_mix _ _ G 34 false _) rfl rfl ⟨Nat.le_of_ble_eq_true rfl, Nat.le_of_ble_eq_true rfl⟩ (Nat.le_of_ble_eq_true rfl) (Nat.le_refl _) (Nat.le_refl _) ?_
    refine V_lstore_n C dX5_mixStop_22 rfl (Nat.le_of_ble_eq_true rfl) rfl ?_
    refine V_lload_n C dX5_mixStop_23 rfl rfl ?_
    refine V_aload_n C dX5_mixStop_24 rfl rfl ?_
    refine V_getH (L := clL G) C dX5_mixStop_25 fX5_10 (by decide) (fun _ => rfl) rfl ?_
    refine V_getH (L := stL G 1) C dX5_mixStop_28 fX5_164 (by decide) (fun _ => rfl) rfl ?_
    rw [r7]
    refine V_i2l C dX5_mixStop_31 (by omega) ?_
    refine V_S1 (k2 := 0) (s2 := 0) C dX5_mixStop_32 lX5_263 kX5_mix (c_X5_mix _ _ G 34 false _) rfl rfl ⟨Nat.le_of_ble_eq_true rfl, Nat.le_of_ble_eq_true rfl⟩ (Nat.le_of_ble_eq_true rfl) (Nat.le_refl _) (Nat.le_refl _) ?_
    refine V_lstore_n C dX5_mixStop_35 rfl (Nat.le_of_ble_eq_true rfl) rfl ?_
    refine V_lload_n C dX5_mixStop_36 rfl rfl ?_
    refine V_aload_n C dX5_mixStop_37 rfl rfl ?_
    refine V_getH (L := clL G) C dX5_mixStop_38 fX5_10 (by decide) (fun _ => rfl) rfl ?_
    refine V_getH (L := stL G 1) C dX5_mixStop_41 fX5_170 (by decide) (fun _ => rfl) rfl ?_
    rw [r8]
    refine V_i2l C dX5_mixStop_44 (by omega) ?_
    refine V_S1 (k2 := 0) (s2 := 0) C dX5_mixStop_45 lX5_263 kX5_mix (c_X5_mix _ _ G 34 false _) rfl rfl ⟨Nat.le_of_ble_eq_true rfl, Nat.le_of_ble_eq_true rfl⟩ (Nat.le_of_ble_eq_true rfl) (Nat.le_refl _) (Nat.le_refl _) ?_
    exact V_lret C dX5_mixStop_48 rfl hZ rfl rfl
  · have r7 := r5.mpr c
    have z0 : z 71 = 0 := by omega
    unfold dgD at hZ; rw [if_neg c, z0] at hZ
    refine V_aload_n C dX5_mixStop_0 rfl rfl ?_
    refine V_getH (L := clL G) C dX5_mixStop_1 fX5_10 (by decide) (fun _ => rfl) rfl ?_
    refine V_getH (L := stL G 1) C dX5_mixStop_4 fX5_164 (by decide) (fun _ => rfl) rfl ?_
    rw [r7]
    refine V_iconst C dX5_mixStop_7 ?_
    refine V_icmp_ne (tgt := 17) C dX5_mixStop_8 (by decide) (by omega) (by omega) (fun q8 => by exfalso; omega) (fun q8 => ?_)
    refine V_lload_n C dX5_mixStop_11 rfl rfl ?_
    refine V_lconst (z := 0) C dX5_mixStop_12 (by decide +kernel) ?_
    refine V_S1 (k2 := 0) (s2 := 0) C dX5_mixStop_13 lX5_263 kX5_mix (c_X5_mix _ _ G 34 false _) rfl rfl ⟨Nat.le_of_ble_eq_true rfl, Nat.le_of_ble_eq_true rfl⟩ (Nat.le_of_ble_eq_true rfl) (Nat.le_refl _) (Nat.le_refl _) ?_
    exact V_lret C dX5_mixStop_16 rfl hZ rfl rfl
set_option maxRecDepth 100000 in
set_option maxHeartbeats 4000000 in
theorem c_X5_mixText (G : GT) (K : Nat → Nat → Int) (r : Nat → Option Nat) (h0 : Int) (T : Nat) (hT : K 0 6 = T) (h60 : T ≤ 60) (ht : ∀ j, j < T → 33 ≤ K 6 j ∧ K 6 j ≤ 126) : CtO G yX5_mixText mX5_mixText [rf G 0, .long (lL h0)] K r (some (.long (lL (dgF (K 6) T h0)))) (K) (r) := by
  refine Ct_of kX5_mixText.1.1 (by decide) [some (rf G 0), some (.long (lL h0)), none, none, none, none] rfl (Nat.le_of_ble_eq_true rfl) ?_
  intro x C hZ
  have loop : ∀ (n k : Nat) (h : Int), k + n = T → h = mxF (K 6) k (31 * h0 + (T : Int)) → V G mX5_mixText x 13 [some (rf G 0), some (.long (lL h0)), none, some (.long (lL h)), none, some (.int (iI (k : Int)))] [] 34 false (HP G K r) 0 0 := by
    intro n
    induction n with
    | zero =>
      intro k h e e2
      refine V_iload C dX5_mixText_13 rfl ?_
      refine V_aload_n C dX5_mixText_15 rfl rfl ?_
      refine V_getH (L := clL G) C dX5_mixText_16 fX5_146 (by decide) (fun _ => rfl) rfl ?_
      rw [hT]
      refine V_icmp_ge (tgt := 51) C dX5_mixText_19 (by decide) (by omega) (by omega) (fun q19 => ?_) (fun q19 => by exfalso; omega)
      refine V_lload_n C dX5_mixText_51 rfl rfl ?_
      exact V_lret C dX5_mixText_52 rfl hZ (by rw [e2, show k = T by omega]; rfl) rfl
    | succ n ih =>
      intro k h e e2
      have g := ht k (by omega)
      refine V_iload C dX5_mixText_13 rfl ?_
      refine V_aload_n C dX5_mixText_15 rfl rfl ?_
      refine V_getH (L := clL G) C dX5_mixText_16 fX5_146 (by decide) (fun _ => rfl) rfl ?_
      rw [hT]
      refine V_icmp_ge (tgt := 51) C dX5_mixText_19 (by decide) (by omega) (by omega) (fun q19 => by exfalso; omega) (fun q19 => ?_)
      refine V_iload C dX5_mixText_22 rfl ?_
      refine V_aload_n C dX5_mixText_24 rfl rfl ?_
      refine V_getH (L := clL G) C dX5_mixText_25 fX5_23 (by decide) (fun _ => rfl) rfl ?_
      refine V_alenHc C dX5_mixText_28 (by decide) (fun _ => rfl) ?_
      refine V_icmp_ge (tgt := 51) C dX5_mixText_29 (by decide) (by omega) (by omega) (fun q29 => by exfalso; omega) (fun q29 => ?_)
      refine V_lload_n C dX5_mixText_32 rfl rfl ?_
      refine V_aload_n C dX5_mixText_33 rfl rfl ?_
      refine V_getH (L := clL G) C dX5_mixText_34 fX5_23 (by decide) (fun _ => rfl) rfl ?_
      refine V_iload C dX5_mixText_37 rfl ?_
      refine V_caldH C dX5_mixText_39 (by decide) (fun _ => rfl) (by omega) (by decide) ?_
      rw [tnN]
      refine V_i2l C dX5_mixText_40 (by omega) ?_
      refine V_S1 (k2 := 0) (s2 := 0) C dX5_mixText_41 lX5_263 kX5_mix (c_X5_mix _ _ G 34 false _) rfl rfl ⟨Nat.le_of_ble_eq_true rfl, Nat.le_of_ble_eq_true rfl⟩ (Nat.le_of_ble_eq_true rfl) (Nat.le_refl _) (Nat.le_refl _) ?_
      refine V_lstore_n C dX5_mixText_44 rfl (Nat.le_of_ble_eq_true rfl) rfl ?_
      refine V_iinc C dX5_mixText_45 rfl (Nat.le_of_ble_eq_true rfl) rfl ?_
      refine V_goto (tgt := 13) C dX5_mixText_48 (by decide) ?_
      exact ih (k + 1) _ (by omega) (by rw [e2]; rfl)
  refine V_lload_n C dX5_mixText_0 rfl rfl ?_
  refine V_aload_n C dX5_mixText_1 rfl rfl ?_
  refine V_getH (L := clL G) C dX5_mixText_2 fX5_146 (by decide) (fun _ => rfl) rfl ?_
  rw [hT]
  refine V_i2l C dX5_mixText_5 (by omega) ?_
  refine V_S1 (k2 := 0) (s2 := 0) C dX5_mixText_6 lX5_263 kX5_mix (c_X5_mix _ _ G 34 false _) rfl rfl ⟨Nat.le_of_ble_eq_true rfl, Nat.le_of_ble_eq_true rfl⟩ (Nat.le_of_ble_eq_true rfl) (Nat.le_refl _) (Nat.le_refl _) ?_
  refine V_lstore_n C dX5_mixText_9 rfl (Nat.le_of_ble_eq_true rfl) rfl ?_
  refine V_iconst C dX5_mixText_10 ?_
  refine V_istore C dX5_mixText_11 (Nat.le_of_ble_eq_true rfl) rfl ?_
  exact loop T 0 _ (by omega) rfl
theorem rdN_v (z : Nat → Int) : ∀ k, k < (rdZ z).2.2.2.length → (((rdZ z).2.2.2.getD k 0 : Nat) : Int) ≤ 100000 := fun k hk => by have := rdZ_v z hk; omega
set_option maxRecDepth 100000 in
set_option maxHeartbeats 4000000 in
theorem c_X5_mixStream (G : GT) (K : Nat → Nat → Int) (r : Nat → Option Nat) (h0 : Int) (z : Nat → Int) (hq : RQ K 1 z) (hz : GZ z)  : CtO G yX5_mixStream mX5_mixStream [rf G 0, .long (lL h0)] K r (some (.long (lL (dgC z (dgB z (31 * h0 + z 6)))))) ((if 0 < z 6 then (Rd (Rd K ((rdZ z).2.2.2.length : Nat) ((rdZ z).2.2.1 : Nat) ((rdZ z).2.1 : Nat) (foU (K 9) (rdZ z).2.2.2)) ((rdZ (tD z 0)).2.2.2.length : Nat) ((rdZ (tD z 0)).2.2.1 : Nat) ((rdZ (tD z 0)).2.1 : Nat) (foU ((Rd K ((rdZ z).2.2.2.length : Nat) ((rdZ z).2.2.1 : Nat) ((rdZ z).2.1 : Nat) (foU (K 9) (rdZ z).2.2.2)) 9) (rdZ (tD z 0)).2.2.2)) else (Rd K ((rdZ z).2.2.2.length : Nat) ((rdZ z).2.2.1 : Nat) ((rdZ z).2.1 : Nat) (foU (K 9) (rdZ z).2.2.2)))) (r) := by
  refine Ct_of kX5_mixStream.1.1 (by decide) [some (rf G 0), some (.long (lL h0)), none, none, none, none] rfl (Nat.le_of_ble_eq_true rfl) ?_
  intro x C hZ
  have g6 := hz.2.1
  have gd : ∀ j, j < 64 → 0 ≤ z (7 + j) ∧ z (7 + j) ≤ 1 := fun j hj => hz.2.2.1 (7 + j) (by omega) (by omega)
  have rl0 := rdS_le (fun j => z (7 + j)) (z 6).toNat
  have rl : 2 * (rdZ z).2.2.2.length + (rdZ z).2.1 + (rdZ z).2.2.1 ≤ (z 6).toNat := rl0
  obtain ⟨RR, hRR⟩ : ∃ R : Int, R = dgC z (dgB z (31 * h0 + z 6)) := ⟨_, rfl⟩
  rw [← hRR] at hZ
  have loop2 : ∀ (n k : Nat) (h H : Int), k + n = (rdZ z).2.2.2.length → h = mxF (fun k => (((rdZ z).2.2.2.getD k 0 : Nat) : Int)) k H → dgC z (31 * (31 * mxF (fun k => (((rdZ z).2.2.2.getD k 0 : Nat) : Int)) (rdZ z).2.2.2.length H + ((rdZ z).2.2.1 : Nat)) + ((rdZ z).2.1 : Nat)) = RR → V G mX5_mixStream x 89 [some (rf G 0), some (.long (lL h0)), none, some (.long (lL h)), none, some (.int (iI (k : Int)))] [] 34 false (HP G (Rd K ((rdZ z).2.2.2.length : Nat) ((rdZ z).2.2.1 : Nat) ((rdZ z).2.1 : Nat) (foU (K 9) (rdZ z).2.2.2)) r) 0 0 := by
    intro n
    induction n with
    | zero =>
      intro k h H e e2 e3
      rw [show k = (rdZ z).2.2.2.length by omega] at e2
      by_cases c : 0 < z 6
      · unfold dgC at e3
        rw [if_pos c] at hZ e3
        have rl3 := rdS_le (fun j => tD z 0 (7 + j)) (tD z 0 6).toNat
        have rl2 : 2 * (rdZ (tD z 0)).2.2.2.length + (rdZ (tD z 0)).2.1 + (rdZ (tD z 0)).2.2.1 ≤ (tD z 0 6).toNat := rl3
        rw [show tD z 0 6 = z 6 from us_ne _ _ (by decide)] at rl2
        have hc := c_X5_countIfTurned G (Rd K ((rdZ z).2.2.2.length : Nat) ((rdZ z).2.2.1 : Nat) ((rdZ z).2.1 : Nat) (foU (K 9) (rdZ z).2.2.2)) r z hq hz 0 (by omega)
        rw [show Int.toNat 0 = 0 from rfl] at hc
        refine V_iload C dX5_mixStream_89 rfl ?_
        refine V_aload_n C dX5_mixStream_91 rfl rfl ?_
        refine V_getH (L := clL G) C dX5_mixStream_92 fX5_37 (by decide) (fun _ => rfl) rfl ?_
        refine V_getH (L := rdL G) C dX5_mixStream_95 fX5_238 (by decide) (fun _ => rfl) rfl ?_
        rw [show (Rd K ((rdZ z).2.2.2.length : Nat) ((rdZ z).2.2.1 : Nat) ((rdZ z).2.1 : Nat) (foU (K 9) (rdZ z).2.2.2)) 8 1 = ((rdZ z).2.2.2.length : Nat) from rfl]
        refine V_icmp_ge (tgt := 122) C dX5_mixStream_98 (by decide) (by omega) (by omega) (fun q98 => ?_) (fun q98 => by exfalso; omega)
        refine V_lload_n C dX5_mixStream_122 rfl rfl ?_
        refine V_aload_n C dX5_mixStream_123 rfl rfl ?_
        refine V_getH (L := clL G) C dX5_mixStream_124 fX5_37 (by decide) (fun _ => rfl) rfl ?_
        refine V_getH (L := rdL G) C dX5_mixStream_127 fX5_246 (by decide) (fun _ => rfl) rfl ?_
        rw [show (Rd K ((rdZ z).2.2.2.length : Nat) ((rdZ z).2.2.1 : Nat) ((rdZ z).2.1 : Nat) (foU (K 9) (rdZ z).2.2.2)) 8 2 = ((rdZ z).2.2.1 : Nat) from rfl]
        refine V_i2l C dX5_mixStream_130 (by omega) ?_
        refine V_S1 (k2 := 0) (s2 := 0) C dX5_mixStream_131 lX5_263 kX5_mix (c_X5_mix _ _ G 34 false _) rfl rfl ⟨Nat.le_of_ble_eq_true rfl, Nat.le_of_ble_eq_true rfl⟩ (Nat.le_of_ble_eq_true rfl) (Nat.le_refl _) (Nat.le_refl _) ?_
        refine V_lstore_n C dX5_mixStream_134 rfl (Nat.le_of_ble_eq_true rfl) rfl ?_
        refine V_lload_n C dX5_mixStream_135 rfl rfl ?_
        refine V_aload_n C dX5_mixStream_136 rfl rfl ?_
        refine V_getH (L := clL G) C dX5_mixStream_137 fX5_37 (by decide) (fun _ => rfl) rfl ?_
        refine V_getH (L := rdL G) C dX5_mixStream_140 fX5_249 (by decide) (fun _ => rfl) rfl ?_
        rw [show (Rd K ((rdZ z).2.2.2.length : Nat) ((rdZ z).2.2.1 : Nat) ((rdZ z).2.1 : Nat) (foU (K 9) (rdZ z).2.2.2)) 8 3 = ((rdZ z).2.1 : Nat) from rfl]
        refine V_i2l C dX5_mixStream_143 (by omega) ?_
        refine V_S1 (k2 := 0) (s2 := 0) C dX5_mixStream_144 lX5_263 kX5_mix (c_X5_mix _ _ G 34 false _) rfl rfl ⟨Nat.le_of_ble_eq_true rfl, Nat.le_of_ble_eq_true rfl⟩ (Nat.le_of_ble_eq_true rfl) (Nat.le_refl _) (Nat.le_refl _) ?_
        refine V_lstore_n C dX5_mixStream_147 rfl (Nat.le_of_ble_eq_true rfl) rfl ?_
        refine V_aload_n C dX5_mixStream_148 rfl rfl ?_
        refine V_getH (L := clL G) C dX5_mixStream_149 fX5_10 (by decide) (fun _ => rfl) rfl ?_
        refine V_getH (L := stL G 1) C dX5_mixStream_152 fX5_119 (by decide) (fun _ => rfl) rfl ?_
        rw [show (Rd K ((rdZ z).2.2.2.length : Nat) ((rdZ z).2.2.1 : Nat) ((rdZ z).2.1 : Nat) (foU (K 9) (rdZ z).2.2.2)) 1 2 = z 6 from hq.2.2]
        refine V_if_le (tgt := 169) C dX5_mixStream_155 (by decide) (by omega) (fun q155 => by exfalso; omega) (fun q155 => ?_)
        refine V_lload_n C dX5_mixStream_158 rfl rfl ?_
        refine V_aload_n C dX5_mixStream_159 rfl rfl ?_
        refine V_iconst C dX5_mixStream_160 ?_
        refine V_V1 (k2 := 0) (s2 := 0) C dX5_mixStream_161 lX5_252 kX5_countIfTurned (hc) (by decide) (rfl) rfl rfl rfl ⟨Nat.le_of_ble_eq_true rfl, Nat.le_of_ble_eq_true rfl⟩ (Nat.le_of_ble_eq_true rfl) (Nat.le_refl _) (Nat.le_refl _) ?_
        refine V_i2l C dX5_mixStream_164 (by omega) ?_
        refine V_S1 (k2 := 0) (s2 := 0) C dX5_mixStream_165 lX5_263 kX5_mix (c_X5_mix _ _ G 34 false _) rfl rfl ⟨Nat.le_of_ble_eq_true rfl, Nat.le_of_ble_eq_true rfl⟩ (Nat.le_of_ble_eq_true rfl) (Nat.le_refl _) (Nat.le_refl _) ?_
        refine V_lstore_n C dX5_mixStream_168 rfl (Nat.le_of_ble_eq_true rfl) rfl ?_
        refine V_lload_n C dX5_mixStream_169 rfl rfl ?_
        exact V_lret C dX5_mixStream_170 rfl hZ (by rw [← e3, e2]) rfl
      · unfold dgC at e3
        rw [if_neg c] at hZ e3
        refine V_iload C dX5_mixStream_89 rfl ?_
        refine V_aload_n C dX5_mixStream_91 rfl rfl ?_
        refine V_getH (L := clL G) C dX5_mixStream_92 fX5_37 (by decide) (fun _ => rfl) rfl ?_
        refine V_getH (L := rdL G) C dX5_mixStream_95 fX5_238 (by decide) (fun _ => rfl) rfl ?_
        rw [show (Rd K ((rdZ z).2.2.2.length : Nat) ((rdZ z).2.2.1 : Nat) ((rdZ z).2.1 : Nat) (foU (K 9) (rdZ z).2.2.2)) 8 1 = ((rdZ z).2.2.2.length : Nat) from rfl]
        refine V_icmp_ge (tgt := 122) C dX5_mixStream_98 (by decide) (by omega) (by omega) (fun q98 => ?_) (fun q98 => by exfalso; omega)
        refine V_lload_n C dX5_mixStream_122 rfl rfl ?_
        refine V_aload_n C dX5_mixStream_123 rfl rfl ?_
        refine V_getH (L := clL G) C dX5_mixStream_124 fX5_37 (by decide) (fun _ => rfl) rfl ?_
        refine V_getH (L := rdL G) C dX5_mixStream_127 fX5_246 (by decide) (fun _ => rfl) rfl ?_
        rw [show (Rd K ((rdZ z).2.2.2.length : Nat) ((rdZ z).2.2.1 : Nat) ((rdZ z).2.1 : Nat) (foU (K 9) (rdZ z).2.2.2)) 8 2 = ((rdZ z).2.2.1 : Nat) from rfl]
        refine V_i2l C dX5_mixStream_130 (by omega) ?_
        refine V_S1 (k2 := 0) (s2 := 0) C dX5_mixStream_131 lX5_263 kX5_mix (c_X5_mix _ _ G 34 false _) rfl rfl ⟨Nat.le_of_ble_eq_true rfl, Nat.le_of_ble_eq_true rfl⟩ (Nat.le_of_ble_eq_true rfl) (Nat.le_refl _) (Nat.le_refl _) ?_
        refine V_lstore_n C dX5_mixStream_134 rfl (Nat.le_of_ble_eq_true rfl) rfl ?_
        refine V_lload_n C dX5_mixStream_135 rfl rfl ?_
        refine V_aload_n C dX5_mixStream_136 rfl rfl ?_
        refine V_getH (L := clL G) C dX5_mixStream_137 fX5_37 (by decide) (fun _ => rfl) rfl ?_
        refine V_getH (L := rdL G) C dX5_mixStream_140 fX5_249 (by decide) (fun _ => rfl) rfl ?_
        rw [show (Rd K ((rdZ z).2.2.2.length : Nat) ((rdZ z).2.2.1 : Nat) ((rdZ z).2.1 : Nat) (foU (K 9) (rdZ z).2.2.2)) 8 3 = ((rdZ z).2.1 : Nat) from rfl]
        refine V_i2l C dX5_mixStream_143 (by omega) ?_
        refine V_S1 (k2 := 0) (s2 := 0) C dX5_mixStream_144 lX5_263 kX5_mix (c_X5_mix _ _ G 34 false _) rfl rfl ⟨Nat.le_of_ble_eq_true rfl, Nat.le_of_ble_eq_true rfl⟩ (Nat.le_of_ble_eq_true rfl) (Nat.le_refl _) (Nat.le_refl _) ?_
        refine V_lstore_n C dX5_mixStream_147 rfl (Nat.le_of_ble_eq_true rfl) rfl ?_
        refine V_aload_n C dX5_mixStream_148 rfl rfl ?_
        refine V_getH (L := clL G) C dX5_mixStream_149 fX5_10 (by decide) (fun _ => rfl) rfl ?_
        refine V_getH (L := stL G 1) C dX5_mixStream_152 fX5_119 (by decide) (fun _ => rfl) rfl ?_
        rw [show (Rd K ((rdZ z).2.2.2.length : Nat) ((rdZ z).2.2.1 : Nat) ((rdZ z).2.1 : Nat) (foU (K 9) (rdZ z).2.2.2)) 1 2 = z 6 from hq.2.2]
        refine V_if_le (tgt := 169) C dX5_mixStream_155 (by decide) (by omega) (fun q155 => ?_) (fun q155 => by exfalso; omega)
        refine V_lload_n C dX5_mixStream_169 rfl rfl ?_
        exact V_lret C dX5_mixStream_170 rfl hZ (by rw [← e3, e2]) rfl
    | succ n ih =>
      intro k h H e e2 e3
      have gv := rdN_v z k (by omega)
      refine V_iload C dX5_mixStream_89 rfl ?_
      refine V_aload_n C dX5_mixStream_91 rfl rfl ?_
      refine V_getH (L := clL G) C dX5_mixStream_92 fX5_37 (by decide) (fun _ => rfl) rfl ?_
      refine V_getH (L := rdL G) C dX5_mixStream_95 fX5_238 (by decide) (fun _ => rfl) rfl ?_
      rw [show (Rd K ((rdZ z).2.2.2.length : Nat) ((rdZ z).2.2.1 : Nat) ((rdZ z).2.1 : Nat) (foU (K 9) (rdZ z).2.2.2)) 8 1 = ((rdZ z).2.2.2.length : Nat) from rfl]
      refine V_icmp_ge (tgt := 122) C dX5_mixStream_98 (by decide) (by omega) (by omega) (fun q98 => by exfalso; omega) (fun q98 => ?_)
      refine V_lload_n C dX5_mixStream_101 rfl rfl ?_
      refine V_aload_n C dX5_mixStream_102 rfl rfl ?_
      refine V_getH (L := clL G) C dX5_mixStream_103 fX5_37 (by decide) (fun _ => rfl) rfl ?_
      refine V_iload C dX5_mixStream_106 rfl ?_
      refine V_V1 (k2 := 0) (s2 := 0) C dX5_mixStream_108 lX5_243 kX1_numberAt (c_X1_numberAt G _ r (k : Int) (by omega)) (by decide) (rfl) rfl rfl rfl ⟨Nat.le_of_ble_eq_true rfl, Nat.le_of_ble_eq_true rfl⟩ (Nat.le_of_ble_eq_true rfl) (Nat.le_refl _) (Nat.le_refl _) ?_
      rw [tnN, show (Rd K ((rdZ z).2.2.2.length : Nat) ((rdZ z).2.2.1 : Nat) ((rdZ z).2.1 : Nat) (foU (K 9) (rdZ z).2.2.2)) 9 k = (((rdZ z).2.2.2.getD k 0 : Nat) : Int) from if_pos (by omega)]
      refine V_i2l C dX5_mixStream_111 (by omega) ?_
      refine V_S1 (k2 := 0) (s2 := 0) C dX5_mixStream_112 lX5_263 kX5_mix (c_X5_mix _ _ G 34 false _) rfl rfl ⟨Nat.le_of_ble_eq_true rfl, Nat.le_of_ble_eq_true rfl⟩ (Nat.le_of_ble_eq_true rfl) (Nat.le_refl _) (Nat.le_refl _) ?_
      refine V_lstore_n C dX5_mixStream_115 rfl (Nat.le_of_ble_eq_true rfl) rfl ?_
      refine V_iinc C dX5_mixStream_116 rfl (Nat.le_of_ble_eq_true rfl) rfl ?_
      refine V_goto (tgt := 89) C dX5_mixStream_119 (by decide) ?_
      exact ih (k + 1) _ H (by omega) (by rw [e2]; rfl) e3
  have loop1 : ∀ (n k : Nat) (h : Int), k + n = (z 6).toNat → h = mxF (fun k => z (7 + k)) k (31 * h0 + z 6) → V G mX5_mixStream x 16 [some (rf G 0), some (.long (lL h0)), none, some (.long (lL h)), none, some (.int (iI (k : Int)))] [] 34 false (HP G K r) 0 0 := by
    intro n
    induction n with
    | zero =>
      intro k h e e2
      refine V_iload C dX5_mixStream_16 rfl ?_
      refine V_aload_n C dX5_mixStream_18 rfl rfl ?_
      refine V_getH (L := clL G) C dX5_mixStream_19 fX5_10 (by decide) (fun _ => rfl) rfl ?_
      refine V_getH (L := stL G 1) C dX5_mixStream_22 fX5_119 (by decide) (fun _ => rfl) rfl ?_
      rw [hq.2.2]
      refine V_icmp_ge (tgt := 52) C dX5_mixStream_25 (by decide) (by omega) (by omega) (fun q25 => ?_) (fun q25 => by exfalso; omega)
      refine V_aload_n C dX5_mixStream_52 rfl rfl ?_
      refine V_getH (L := clL G) C dX5_mixStream_53 fX5_37 (by decide) (fun _ => rfl) rfl ?_
      refine V_aload_n C dX5_mixStream_56 rfl rfl ?_
      refine V_getH (L := clL G) C dX5_mixStream_57 fX5_10 (by decide) (fun _ => rfl) rfl ?_
      refine V_getH (L := stL G 1) C dX5_mixStream_60 fX5_129 (by decide) (fun _ => rfl) rfl ?_
      rw [hq.2.1]
      refine V_aload_n C dX5_mixStream_63 rfl rfl ?_
      refine V_getH (L := clL G) C dX5_mixStream_64 fX5_10 (by decide) (fun _ => rfl) rfl ?_
      refine V_getH (L := stL G 1) C dX5_mixStream_67 fX5_119 (by decide) (fun _ => rfl) rfl ?_
      rw [hq.2.2]
      refine V_V0 (k2 := 0) (s2 := 0) C dX5_mixStream_70 lX5_234 kX1_readAll (rd_now G K r z hz) (by decide) (rfl) rfl rfl rfl ⟨Nat.le_of_ble_eq_true rfl, Nat.le_of_ble_eq_true rfl⟩ (Nat.le_of_ble_eq_true rfl) (Nat.le_refl _) (Nat.le_refl _) ?_
      refine V_lload_n C dX5_mixStream_73 rfl rfl ?_
      refine V_aload_n C dX5_mixStream_74 rfl rfl ?_
      refine V_getH (L := clL G) C dX5_mixStream_75 fX5_37 (by decide) (fun _ => rfl) rfl ?_
      refine V_getH (L := rdL G) C dX5_mixStream_78 fX5_238 (by decide) (fun _ => rfl) rfl ?_
      rw [show (Rd K ((rdZ z).2.2.2.length : Nat) ((rdZ z).2.2.1 : Nat) ((rdZ z).2.1 : Nat) (foU (K 9) (rdZ z).2.2.2)) 8 1 = ((rdZ z).2.2.2.length : Nat) from rfl]
      refine V_i2l C dX5_mixStream_81 (by omega) ?_
      refine V_S1 (k2 := 0) (s2 := 0) C dX5_mixStream_82 lX5_263 kX5_mix (c_X5_mix _ _ G 34 false _) rfl rfl ⟨Nat.le_of_ble_eq_true rfl, Nat.le_of_ble_eq_true rfl⟩ (Nat.le_of_ble_eq_true rfl) (Nat.le_refl _) (Nat.le_refl _) ?_
      refine V_lstore_n C dX5_mixStream_85 rfl (Nat.le_of_ble_eq_true rfl) rfl ?_
      refine V_iconst C dX5_mixStream_86 ?_
      refine V_istore C dX5_mixStream_87 (Nat.le_of_ble_eq_true rfl) rfl ?_
      exact loop2 (rdZ z).2.2.2.length 0 _ _ (by omega) rfl (by rw [hRR, e2, show k = (z 6).toNat by omega]; rfl)
    | succ n ih =>
      intro k h e e2
      have gk := gd k (by omega)
      refine V_iload C dX5_mixStream_16 rfl ?_
      refine V_aload_n C dX5_mixStream_18 rfl rfl ?_
      refine V_getH (L := clL G) C dX5_mixStream_19 fX5_10 (by decide) (fun _ => rfl) rfl ?_
      refine V_getH (L := stL G 1) C dX5_mixStream_22 fX5_119 (by decide) (fun _ => rfl) rfl ?_
      rw [hq.2.2]
      refine V_icmp_ge (tgt := 52) C dX5_mixStream_25 (by decide) (by omega) (by omega) (fun q25 => by exfalso; omega) (fun q25 => ?_)
      refine V_lload_n C dX5_mixStream_28 rfl rfl ?_
      refine V_aload_n C dX5_mixStream_29 rfl rfl ?_
      refine V_getH (L := clL G) C dX5_mixStream_30 fX5_10 (by decide) (fun _ => rfl) rfl ?_
      refine V_getH (L := stL G 1) C dX5_mixStream_33 fX5_129 (by decide) (fun _ => rfl) rfl ?_
      rw [hq.2.1]
      refine V_iload C dX5_mixStream_36 rfl ?_
      refine V_S1 (k2 := 0) (s2 := 0) C dX5_mixStream_38 lX5_133 kX5_digitOf (i_X5_digitOf G 34 false _ _ (k : Int) (dN_64 _ (by omega)) (by omega)) rfl rfl ⟨Nat.le_of_ble_eq_true rfl, Nat.le_of_ble_eq_true rfl⟩ (Nat.le_of_ble_eq_true rfl) (Nat.le_refl _) (Nat.le_refl _) ?_
      rw [tnN, show ((dN (fun j => z (7 + j)) (z 6).toNat >>> k &&& 1 : Nat) : Int) = z (7 + k) from dN_bit (by omega) gk]
      refine V_i2l C dX5_mixStream_41 (by omega) ?_
      refine V_S1 (k2 := 0) (s2 := 0) C dX5_mixStream_42 lX5_263 kX5_mix (c_X5_mix _ _ G 34 false _) rfl rfl ⟨Nat.le_of_ble_eq_true rfl, Nat.le_of_ble_eq_true rfl⟩ (Nat.le_of_ble_eq_true rfl) (Nat.le_refl _) (Nat.le_refl _) ?_
      refine V_lstore_n C dX5_mixStream_45 rfl (Nat.le_of_ble_eq_true rfl) rfl ?_
      refine V_iinc C dX5_mixStream_46 rfl (Nat.le_of_ble_eq_true rfl) rfl ?_
      refine V_goto (tgt := 16) C dX5_mixStream_49 (by decide) ?_
      exact ih (k + 1) _ (by omega) (by rw [e2]; rfl)
  refine V_lload_n C dX5_mixStream_0 rfl rfl ?_
  refine V_aload_n C dX5_mixStream_1 rfl rfl ?_
  refine V_getH (L := clL G) C dX5_mixStream_2 fX5_10 (by decide) (fun _ => rfl) rfl ?_
  refine V_getH (L := stL G 1) C dX5_mixStream_5 fX5_119 (by decide) (fun _ => rfl) rfl ?_
  rw [hq.2.2]
  refine V_i2l C dX5_mixStream_8 (by omega) ?_
  refine V_S1 (k2 := 0) (s2 := 0) C dX5_mixStream_9 lX5_263 kX5_mix (c_X5_mix _ _ G 34 false _) rfl rfl ⟨Nat.le_of_ble_eq_true rfl, Nat.le_of_ble_eq_true rfl⟩ (Nat.le_of_ble_eq_true rfl) (Nat.le_refl _) (Nat.le_refl _) ?_
  refine V_lstore_n C dX5_mixStream_12 rfl (Nat.le_of_ble_eq_true rfl) rfl ?_
  refine V_iconst C dX5_mixStream_13 ?_
  refine V_istore C dX5_mixStream_14 (Nat.le_of_ble_eq_true rfl) rfl ?_
  exact loop1 (z 6).toNat 0 _ (by omega) rfl
/-- the scratch after the numbers -/
def dW (z : Nat → Int) (K : Nat → Nat → Int) : Nat → Nat → Nat → Int
  | 0 => K
  | k + 1 => tbW 18 12 15 (putW 12 (z k) 1 (us (dW z K k) 12 (us (dW z K k 12) 2 0)))
theorem dW_C (z : Nat → Int) (K : Nat → Nat → Int) : ∀ k, EqC K (dW z K k)
  | 0 => EqC.rf K
  | k + 1 => (dW_C z K k).tr (EqC_tb (dW z K k) (z k))
theorem RS_C {K K' : Nat → Nat → Int} {z : Nat → Int} (e : EqC K K') (h : RS K 1 z) : RS K' 1 z := RS_congr (e 1 (by decide)) (e 2 (by decide)) h
set_option maxRecDepth 100000 in
set_option maxHeartbeats 4000000 in
theorem o_X5_digest (G : GT) (K : Nat → Nat → Int) (r : Nat → Option Nat) (s : Nat → Int) (st : Nat) (kp : Int) (t : Nat → Int) (T : Nat) (h : IC K r s st kp t T) (hg : GI s st kp t T)   : OkO G yX5_digest mX5_digest [rf G 0] K r (.long (lL (dg s st t T))) s st kp t T := by
  have hS := h.2.1
  have hQ := hS.1
  have hz := hg.1
  have g5 := hz.1
  have g6 := hz.2.1
  have hI := h.2.2.1
  have gst := hg.2.1
  have gkp := hg.2.2.1
  have gT := hg.2.2.2.1
  have e12 : K 1 2 = s 6 := hQ.2.2
  have hE2 : EqC K (us (dW s K 6) 11 (adE (gm 18 (s 5).toNat) (gm 18 (s 0).toNat))) := (dW_C s K 6).tr (EqC_us (by decide))
  have hEa : EqC K (Rd (us (dW s K 6) 11 (adE (gm 18 (s 5).toNat) (gm 18 (s 0).toNat))) ((rdZ s).2.2.2.length : Nat) ((rdZ s).2.2.1 : Nat) ((rdZ s).2.1 : Nat) (foU ((us (dW s K 6) 11 (adE (gm 18 (s 5).toNat) (gm 18 (s 0).toNat))) 9) (rdZ s).2.2.2)) := hE2.tr (EqC_Rd _ _ _ _ _)
  have hEb : EqC K (Rd (Rd (us (dW s K 6) 11 (adE (gm 18 (s 5).toNat) (gm 18 (s 0).toNat))) ((rdZ s).2.2.2.length : Nat) ((rdZ s).2.2.1 : Nat) ((rdZ s).2.1 : Nat) (foU ((us (dW s K 6) 11 (adE (gm 18 (s 5).toNat) (gm 18 (s 0).toNat))) 9) (rdZ s).2.2.2)) ((rdZ (tD s 0)).2.2.2.length : Nat) ((rdZ (tD s 0)).2.2.1 : Nat) ((rdZ (tD s 0)).2.1 : Nat) (foU ((Rd (us (dW s K 6) 11 (adE (gm 18 (s 5).toNat) (gm 18 (s 0).toNat))) ((rdZ s).2.2.2.length : Nat) ((rdZ s).2.2.1 : Nat) ((rdZ s).2.1 : Nat) (foU ((us (dW s K 6) 11 (adE (gm 18 (s 5).toNat) (gm 18 (s 0).toNat))) 9) (rdZ s).2.2.2)) 9) (rdZ (tD s 0)).2.2.2)) := hEa.tr (EqC_Rd _ _ _ _ _)
  have hE : EqC K (if 0 < s 6 then (Rd (Rd (us (dW s K 6) 11 (adE (gm 18 (s 5).toNat) (gm 18 (s 0).toNat))) ((rdZ s).2.2.2.length : Nat) ((rdZ s).2.2.1 : Nat) ((rdZ s).2.1 : Nat) (foU ((us (dW s K 6) 11 (adE (gm 18 (s 5).toNat) (gm 18 (s 0).toNat))) 9) (rdZ s).2.2.2)) ((rdZ (tD s 0)).2.2.2.length : Nat) ((rdZ (tD s 0)).2.2.1 : Nat) ((rdZ (tD s 0)).2.1 : Nat) (foU ((Rd (us (dW s K 6) 11 (adE (gm 18 (s 5).toNat) (gm 18 (s 0).toNat))) ((rdZ s).2.2.2.length : Nat) ((rdZ s).2.2.1 : Nat) ((rdZ s).2.1 : Nat) (foU ((us (dW s K 6) 11 (adE (gm 18 (s 5).toNat) (gm 18 (s 0).toNat))) 9) (rdZ s).2.2.2)) 9) (rdZ (tD s 0)).2.2.2)) else (Rd (us (dW s K 6) 11 (adE (gm 18 (s 5).toNat) (gm 18 (s 0).toNat))) ((rdZ s).2.2.2.length : Nat) ((rdZ s).2.2.1 : Nat) ((rdZ s).2.1 : Nat) (foU ((us (dW s K 6) 11 (adE (gm 18 (s 5).toNat) (gm 18 (s 0).toNat))) 9) (rdZ s).2.2.2))) := by
    split
    · exact hEb
    · exact hEa
  have e6 : K 6 = t := h.2.2.2.1
  have hT9 : K 0 6 = T := hI.2.2
  have ht : ∀ j, j < T → 33 ≤ t j ∧ t j ≤ 126 := hg.2.2.2.2.1
  have sr := su_r (f := s) (k := 6) g5
  have rr := ri_le s 5
  have gm0 := gm_18 (s 0).toNat
  have k0 := hQ.1 0 (by decide)
  have z0 := g5 0 (by decide)
  obtain ⟨S, m, b1, b2, b3, b4⟩ := bits_V hz
  refine ⟨(if 0 < s 6 then (Rd (Rd (us (dW s K 6) 11 (adE (gm 18 (s 5).toNat) (gm 18 (s 0).toNat))) ((rdZ s).2.2.2.length : Nat) ((rdZ s).2.2.1 : Nat) ((rdZ s).2.1 : Nat) (foU ((us (dW s K 6) 11 (adE (gm 18 (s 5).toNat) (gm 18 (s 0).toNat))) 9) (rdZ s).2.2.2)) ((rdZ (tD s 0)).2.2.2.length : Nat) ((rdZ (tD s 0)).2.2.1 : Nat) ((rdZ (tD s 0)).2.1 : Nat) (foU ((Rd (us (dW s K 6) 11 (adE (gm 18 (s 5).toNat) (gm 18 (s 0).toNat))) ((rdZ s).2.2.2.length : Nat) ((rdZ s).2.2.1 : Nat) ((rdZ s).2.1 : Nat) (foU ((us (dW s K 6) 11 (adE (gm 18 (s 5).toNat) (gm 18 (s 0).toNat))) 9) (rdZ s).2.2.2)) 9) (rdZ (tD s 0)).2.2.2)) else (Rd (us (dW s K 6) 11 (adE (gm 18 (s 5).toNat) (gm 18 (s 0).toNat))) ((rdZ s).2.2.2.length : Nat) ((rdZ s).2.2.1 : Nat) ((rdZ s).2.1 : Nat) (foU ((us (dW s K 6) 11 (adE (gm 18 (s 5).toNat) (gm 18 (s 0).toNat))) 9) (rdZ s).2.2.2))), r, ?_, IC_C hE h, hE.FR⟩
  refine Ct_of kX5_digest.1.1 (by decide) [some (rf G 0), none, none, none, none] rfl (Nat.le_of_ble_eq_true rfl) ?_
  intro x C hZ

  have fin : ∀ (y4 : Int), V G mX5_digest x 110 [some (rf G 0), some (.long (lL (caH s 6 (stH s 6 (31 * (31 * (31 * 4549 + su s 6) + (ri s 5 : Nat)) + st))))), none, some (.int (iI 6)), some (.int (iI y4))] [] 34 false (HP G (us (dW s K 6) 11 (adE (gm 18 (s 5).toNat) (gm 18 (s 0).toNat))) r) 0 0 := by
    intro y4
    refine V_lload_n C dX5_digest_110 rfl rfl ?_
    refine V_aload_n C dX5_digest_111 rfl rfl ?_
    refine V_getH (L := clL G) C dX5_digest_112 fX5_10 (by decide) (fun _ => rfl) rfl ?_
    refine V_iconst C dX5_digest_115 ?_
    refine V_V1 (k2 := 0) (s2 := 0) C dX5_digest_116 lX5_65 kX2_numberIn (c_X2_numberIn G _ r 1 rfl 0 (by decide)) (by decide) (rfl) rfl rfl rfl ⟨Nat.le_of_ble_eq_true rfl, Nat.le_of_ble_eq_true rfl⟩ (Nat.le_of_ble_eq_true rfl) (Nat.le_refl _) (Nat.le_refl _) ?_
    rw [show (us (dW s K 6) 11 (adE (gm 18 (s 5).toNat) (gm 18 (s 0).toNat))) (1 + 1) (0 : Int).toNat = s 0 from ((RS_C hE2 hS).1.1 0 (by decide))]
    refine V_S1 (k2 := 0) (s2 := 0) C dX5_digest_119 lX5_205 kX5_countedMark (i_X5_countedMark G 34 false _ _ z0) rfl rfl ⟨Nat.le_of_ble_eq_true rfl, Nat.le_of_ble_eq_true rfl⟩ (Nat.le_of_ble_eq_true rfl) (Nat.le_refl _) (Nat.le_refl _) ?_
    refine V_i2l C dX5_digest_122 (by omega) ?_
    refine V_S1 (k2 := 0) (s2 := 0) C dX5_digest_123 lX5_263 kX5_mix (c_X5_mix _ _ G 34 false _) rfl rfl ⟨Nat.le_of_ble_eq_true rfl, Nat.le_of_ble_eq_true rfl⟩ (Nat.le_of_ble_eq_true rfl) (Nat.le_refl _) (Nat.le_refl _) ?_
    refine V_lstore_n C dX5_digest_126 rfl (Nat.le_of_ble_eq_true rfl) rfl ?_
    refine V_aload_n C dX5_digest_127 rfl rfl ?_
    refine V_lload_n C dX5_digest_128 rfl rfl ?_
    refine V_V1 (k2 := 0) (s2 := 0) C dX5_digest_129 lX5_277 kX5_mixStream (c_X5_mixStream G _ r _ s (RS_C hE2 hS).1 hz) (by decide) (rfl) rfl rfl rfl ⟨Nat.le_of_ble_eq_true rfl, Nat.le_of_ble_eq_true rfl⟩ (Nat.le_of_ble_eq_true rfl) (Nat.le_refl _) (Nat.le_refl _) ?_
    refine V_lstore_n C dX5_digest_132 rfl (Nat.le_of_ble_eq_true rfl) rfl ?_
    refine V_aload_n C dX5_digest_133 rfl rfl ?_
    refine V_lload_n C dX5_digest_134 rfl rfl ?_
    refine V_V1 (k2 := 0) (s2 := 0) C dX5_digest_135 lX5_281 kX5_mixStop (c_X5_mixStop G _ r _ s (RS_C hE hS) hz) (by decide) (rfl) rfl rfl rfl ⟨Nat.le_of_ble_eq_true rfl, Nat.le_of_ble_eq_true rfl⟩ (Nat.le_of_ble_eq_true rfl) (Nat.le_refl _) (Nat.le_refl _) ?_
    refine V_lstore_n C dX5_digest_138 rfl (Nat.le_of_ble_eq_true rfl) rfl ?_
    refine V_lload_n C dX5_digest_139 rfl rfl ?_
    refine V_aload_n C dX5_digest_140 rfl rfl ?_
    refine V_V1 (k2 := 0) (s2 := 0) C dX5_digest_141 lX5_284 kX5_sparseShare (c_X5_sparseShare G _ r s (RS_C hE hS).1 hz) (by decide) (rfl) rfl rfl rfl ⟨Nat.le_of_ble_eq_true rfl, Nat.le_of_ble_eq_true rfl⟩ (Nat.le_of_ble_eq_true rfl) (Nat.le_refl _) (Nat.le_refl _) ?_
    refine V_S1 (k2 := 0) (s2 := 0) C dX5_digest_144 lX5_288 kX5_bitsOfShare (c_X5_bitsOfShare _ S m b1 b2 b3 G 34 false _) rfl rfl ⟨Nat.le_of_ble_eq_true rfl, Nat.le_of_ble_eq_true rfl⟩ (Nat.le_of_ble_eq_true rfl) (Nat.le_refl _) (Nat.le_refl _) ?_
    rw [b4]
    refine V_S1 (k2 := 0) (s2 := 0) C dX5_digest_147 lX5_263 kX5_mix (c_X5_mix _ _ G 34 false _) rfl rfl ⟨Nat.le_of_ble_eq_true rfl, Nat.le_of_ble_eq_true rfl⟩ (Nat.le_of_ble_eq_true rfl) (Nat.le_refl _) (Nat.le_refl _) ?_
    refine V_lstore_n C dX5_digest_150 rfl (Nat.le_of_ble_eq_true rfl) rfl ?_
    refine V_aload_n C dX5_digest_151 rfl rfl ?_
    refine V_lload_n C dX5_digest_152 rfl rfl ?_
    refine V_V1 (k2 := 0) (s2 := 0) C dX5_digest_153 lX5_292 kX5_mixText (c_X5_mixText G _ r _ T ((congrFun (hE 0 (by decide)) 6).trans hT9) gT (by rw [hE 6 (by decide), e6]; exact ht)) (by decide) (rfl) rfl rfl rfl ⟨Nat.le_of_ble_eq_true rfl, Nat.le_of_ble_eq_true rfl⟩ (Nat.le_of_ble_eq_true rfl) (Nat.le_refl _) (Nat.le_refl _) ?_
    exact V_lret C dX5_digest_156 rfl hZ (by rw [hE 6 (by decide), e6]; rfl) rfl
  have loop2 : ∀ (n k : Nat) (h : Int) (c : Nat → Int) (o4 : Option Value), (k = 6 → ∃ y4 : Int, o4 = some (.int (iI y4))) → k + n = 6 → h = caH s k (stH s 6 (31 * (31 * (31 * 4549 + su s 6) + (ri s 5 : Nat)) + st)) → (k = 6 → c = (adE (gm 18 (s 5).toNat) (gm 18 (s 0).toNat))) → V G mX5_digest x 64 [some (rf G 0), some (.long (lL h)), none, some (.int (iI (k : Int))), o4] [] 34 false (HP G (us (dW s K 6) 11 c) r) 0 0 := by
    intro n
    induction n with
    | zero =>
      intro k h c o4 e4 e e2 e3
      obtain rfl : k = 6 := by omega
      rw [e3 rfl]
      refine V_iload_n C dX5_digest_64 rfl rfl ?_
      refine V_bipush C dX5_digest_65 (by decide +kernel) ?_
      refine V_icmp_ge (tgt := 110) C dX5_digest_67 (by decide) (by omega) (by omega) (fun q67 => ?_) (fun q67 => by exfalso; omega)
      rw [e2]
      obtain ⟨y4, hy⟩ := e4 rfl
      rw [hy]
      exact fin y4
    | succ n ih =>
      intro k h c o4 e4 e e2 e3
      have gk := g5 k (by omega)
      have gk1 := g5 ((k + 1) % 6) (Nat.mod_lt _ (by decide))
      have ek1 : (((k : Int) + 1) % 6).toNat = (k + 1) % 6 := by omega
      have r1 := mkN_r (adE (gm 18 (s k).toNat) (gm 18 (s ((k + 1) % 6)).toNat))
      have r2 := adC_r (gm 18 (s k).toNat) (gm 18 (s ((k + 1) % 6)).toNat)
      have hqc : RQ (us (dW s K 6) 11 c) 1 s := (RS_C ((dW_C s K 6).tr (EqC_us (by decide))) hS).1
      have hcs := c_X5_carryStalls G (us (dW s K 6) 11 c) r s hqc hz (k : Int) (((k : Int) + 1) % 6) (by omega) (by omega)
      rw [tnN, ek1, us_us] at hcs
      refine V_iload_n C dX5_digest_64 rfl rfl ?_
      refine V_bipush C dX5_digest_65 (by decide +kernel) ?_
      refine V_icmp_ge (tgt := 110) C dX5_digest_67 (by decide) (by omega) (by omega) (fun q67 => by exfalso; omega) (fun q67 => ?_)
      refine V_aload_n C dX5_digest_70 rfl rfl ?_
      refine V_iload_n C dX5_digest_71 rfl rfl ?_
      refine V_iload_n C dX5_digest_72 rfl rfl ?_
      refine V_iconst C dX5_digest_73 ?_
      refine V_iadd C dX5_digest_74 ?_
      refine V_bipush C dX5_digest_75 (by decide +kernel) ?_
      refine V_irem C dX5_digest_77 (by omega) (by omega) ?_
      refine V_V1 (k2 := 0) (s2 := 0) C dX5_digest_78 lX5_83 kX5_carryStalls (hcs) (by decide) (rfl) rfl rfl rfl ⟨Nat.le_of_ble_eq_true rfl, Nat.le_of_ble_eq_true rfl⟩ (Nat.le_of_ble_eq_true rfl) (Nat.le_refl _) (Nat.le_refl _) ?_
      refine V_istore C dX5_digest_81 (Nat.le_of_ble_eq_true rfl) rfl ?_
      refine V_lload_n C dX5_digest_83 rfl rfl ?_
      refine V_aload_n C dX5_digest_84 rfl rfl ?_
      refine V_getH (L := clL G) C dX5_digest_85 fX5_44 (by decide) (fun _ => rfl) rfl ?_
      refine V_V1 (k2 := 0) (s2 := 0) C dX5_digest_88 lX5_231 kX0_toMark (c_X0_toMark G _ r (fun j hj => by rw [us_at]; exact ⟨adE_c0 _ _ j, adE_10 _ _ (by omega)⟩)) (by decide) (rfl) rfl rfl rfl ⟨Nat.le_of_ble_eq_true rfl, Nat.le_of_ble_eq_true rfl⟩ (Nat.le_of_ble_eq_true rfl) (Nat.le_refl _) (Nat.le_refl _) ?_
      rw [us_at]
      refine V_i2l C dX5_digest_91 (by omega) ?_
      refine V_S1 (k2 := 0) (s2 := 0) C dX5_digest_92 lX5_263 kX5_mix (c_X5_mix _ _ G 34 false _) rfl rfl ⟨Nat.le_of_ble_eq_true rfl, Nat.le_of_ble_eq_true rfl⟩ (Nat.le_of_ble_eq_true rfl) (Nat.le_refl _) (Nat.le_refl _) ?_
      refine V_lstore_n C dX5_digest_95 rfl (Nat.le_of_ble_eq_true rfl) rfl ?_
      refine V_lload_n C dX5_digest_96 rfl rfl ?_
      refine V_iload C dX5_digest_97 rfl ?_
      refine V_i2l C dX5_digest_99 (by omega) ?_
      refine V_S1 (k2 := 0) (s2 := 0) C dX5_digest_100 lX5_263 kX5_mix (c_X5_mix _ _ G 34 false _) rfl rfl ⟨Nat.le_of_ble_eq_true rfl, Nat.le_of_ble_eq_true rfl⟩ (Nat.le_of_ble_eq_true rfl) (Nat.le_refl _) (Nat.le_refl _) ?_
      refine V_lstore_n C dX5_digest_103 rfl (Nat.le_of_ble_eq_true rfl) rfl ?_
      refine V_iinc C dX5_digest_104 rfl (Nat.le_of_ble_eq_true rfl) rfl ?_
      refine V_goto (tgt := 64) C dX5_digest_107 (by decide) ?_
      exact ih (k + 1) _ _ _ (fun _ => ⟨_, rfl⟩) (by omega) (by rw [e2]; rfl) (fun w => by rw [show k = 5 by omega])
  have loop1 : ∀ (n k : Nat) (h : Int) (o4 : Option Value), k + n = 6 → h = stH s k (31 * (31 * (31 * 4549 + su s 6) + (ri s 5 : Nat)) + st) → V G mX5_digest x 36 [some (rf G 0), some (.long (lL h)), none, some (.int (iI (k : Int))), o4] [] 34 false (HP G (dW s K k) r) 0 0 := by
    intro n
    induction n with
    | zero =>
      intro k h o4 e e2
      obtain rfl : k = 6 := by omega
      refine V_iload_n C dX5_digest_36 rfl rfl ?_
      refine V_bipush C dX5_digest_37 (by decide +kernel) ?_
      refine V_icmp_ge (tgt := 62) C dX5_digest_39 (by decide) (by omega) (by omega) (fun q39 => ?_) (fun q39 => by exfalso; omega)
      refine V_iconst C dX5_digest_62 ?_
      refine V_istore_n C dX5_digest_63 rfl (Nat.le_of_ble_eq_true rfl) rfl ?_
      refine V_hp (K' := us (dW s K 6) 11 (dW s K 6 11)) (r' := r) (by rw [us_same]) (loop2 6 0 _ _ _ (fun w => absurd w (by decide)) (by omega) (by rw [e2]; rfl) (fun w => absurd w (by decide)))
    | succ n ih =>
      intro k h o4 e e2
      have gk := g5 k (by omega)
      have qk := (RS_C (dW_C s K k) hS).1.1 k (by omega)
      refine V_iload_n C dX5_digest_36 rfl rfl ?_
      refine V_bipush C dX5_digest_37 (by decide +kernel) ?_
      refine V_icmp_ge (tgt := 62) C dX5_digest_39 (by decide) (by omega) (by omega) (fun q39 => by exfalso; omega) (fun q39 => ?_)
      refine V_aload_n C dX5_digest_42 rfl rfl ?_
      refine V_lload_n C dX5_digest_43 rfl rfl ?_
      refine V_aload_n C dX5_digest_44 rfl rfl ?_
      refine V_getH (L := clL G) C dX5_digest_45 fX5_10 (by decide) (fun _ => rfl) rfl ?_
      refine V_iload_n C dX5_digest_48 rfl rfl ?_
      refine V_V1 (k2 := 0) (s2 := 0) C dX5_digest_49 lX5_65 kX2_numberIn (c_X2_numberIn G _ r 1 rfl (k : Int) (by omega)) (by decide) (rfl) rfl rfl rfl ⟨Nat.le_of_ble_eq_true rfl, Nat.le_of_ble_eq_true rfl⟩ (Nat.le_of_ble_eq_true rfl) (Nat.le_refl _) (Nat.le_refl _) ?_
      rw [tnN, qk]
      refine V_V1 (k2 := 0) (s2 := 0) C dX5_digest_52 lX5_273 kX5_mixNumber (c_X5_mixNumber G _ r _ _ gk) (by decide) (rfl) rfl rfl rfl ⟨Nat.le_of_ble_eq_true rfl, Nat.le_of_ble_eq_true rfl⟩ (Nat.le_of_ble_eq_true rfl) (Nat.le_refl _) (Nat.le_refl _) ?_
      refine V_lstore_n C dX5_digest_55 rfl (Nat.le_of_ble_eq_true rfl) rfl ?_
      refine V_iinc C dX5_digest_56 rfl (Nat.le_of_ble_eq_true rfl) rfl ?_
      refine V_goto (tgt := 36) C dX5_digest_59 (by decide) ?_
      exact ih (k + 1) _ _ (by omega) (by rw [e2]; rfl)
  refine V_ldc2 (n := 4549) C dX5_digest_0 qX5_258 (by decide +kernel) ?_
  refine V_lstore_n C dX5_digest_3 rfl (Nat.le_of_ble_eq_true rfl) rfl ?_
  refine V_lload_n C dX5_digest_4 rfl rfl ?_
  refine V_aload_n C dX5_digest_5 rfl rfl ?_
  refine V_V1 (k2 := 0) (s2 := 0) C dX5_digest_6 lX5_260 kX5_total (c_X5_total G K r) (by decide) (rfl) rfl rfl rfl ⟨Nat.le_of_ble_eq_true rfl, Nat.le_of_ble_eq_true rfl⟩ (Nat.le_of_ble_eq_true rfl) (Nat.le_refl _) (Nat.le_refl _) ?_
  rw [su_of hQ.1]
  refine V_i2l C dX5_digest_9 (by omega) ?_
  refine V_S1 (k2 := 0) (s2 := 0) C dX5_digest_10 lX5_263 kX5_mix (c_X5_mix _ _ G 34 false _) rfl rfl ⟨Nat.le_of_ble_eq_true rfl, Nat.le_of_ble_eq_true rfl⟩ (Nat.le_of_ble_eq_true rfl) (Nat.le_refl _) (Nat.le_refl _) ?_
  refine V_lstore_n C dX5_digest_13 rfl (Nat.le_of_ble_eq_true rfl) rfl ?_
  refine V_lload_n C dX5_digest_14 rfl rfl ?_
  refine V_aload_n C dX5_digest_15 rfl rfl ?_
  refine V_V1 (k2 := 0) (s2 := 0) C dX5_digest_16 lX5_267 kX5_richest (c_X5_richest G K r s hQ hz) (by decide) (rfl) rfl rfl rfl ⟨Nat.le_of_ble_eq_true rfl, Nat.le_of_ble_eq_true rfl⟩ (Nat.le_of_ble_eq_true rfl) (Nat.le_refl _) (Nat.le_refl _) ?_
  refine V_i2l C dX5_digest_19 (by omega) ?_
  refine V_S1 (k2 := 0) (s2 := 0) C dX5_digest_20 lX5_263 kX5_mix (c_X5_mix _ _ G 34 false _) rfl rfl ⟨Nat.le_of_ble_eq_true rfl, Nat.le_of_ble_eq_true rfl⟩ (Nat.le_of_ble_eq_true rfl) (Nat.le_refl _) (Nat.le_refl _) ?_
  refine V_lstore_n C dX5_digest_23 rfl (Nat.le_of_ble_eq_true rfl) rfl ?_
  refine V_lload_n C dX5_digest_24 rfl rfl ?_
  refine V_aload_n C dX5_digest_25 rfl rfl ?_
  refine V_V1 (k2 := 0) (s2 := 0) C dX5_digest_26 lX5_270 kX5_savedStates (c_X5_savedStates G K r) (by decide) (rfl) rfl rfl rfl ⟨Nat.le_of_ble_eq_true rfl, Nat.le_of_ble_eq_true rfl⟩ (Nat.le_of_ble_eq_true rfl) (Nat.le_refl _) (Nat.le_refl _) ?_
  rw [hI.2.1]
  refine V_i2l C dX5_digest_29 (by omega) ?_
  refine V_S1 (k2 := 0) (s2 := 0) C dX5_digest_30 lX5_263 kX5_mix (c_X5_mix _ _ G 34 false _) rfl rfl ⟨Nat.le_of_ble_eq_true rfl, Nat.le_of_ble_eq_true rfl⟩ (Nat.le_of_ble_eq_true rfl) (Nat.le_refl _) (Nat.le_refl _) ?_
  refine V_lstore_n C dX5_digest_33 rfl (Nat.le_of_ble_eq_true rfl) rfl ?_
  refine V_iconst C dX5_digest_34 ?_
  refine V_istore_n C dX5_digest_35 rfl (Nat.le_of_ble_eq_true rfl) rfl ?_
  exact loop1 6 0 _ _ (by omega) rfl
