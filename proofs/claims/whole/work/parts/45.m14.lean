set_option maxRecDepth 100000 in
set_option maxHeartbeats 4000000 in
theorem m_X6_cut (G : GT) (K : Nat → Nat → Int) (r : Nat → Option Nat) (p : Int) (hp : -2147483648 ≤ p ∧ p < 2147483648) (hc : ¬ (1 ≤ p ∧ p ≤ 64)) : CtO G yX6_cut mX6_cut [rf G 28, .int (iI p)] K r (some (.int (iI 0))) (kT K 1) (r) := by
  refine Ct_of kX6_cut.1.1 (by decide) [some (rf G 28), some (.int (iI p)), none, none] rfl (Nat.le_of_ble_eq_true rfl) ?_
  intro x C hZ
  refine V_iload_n C dX6_cut_0 rfl rfl ?_
  refine V_iconst C dX6_cut_1 ?_
  refine V_bipush C dX6_cut_2 (by decide +kernel) ?_
  refine V_S1 (k2 := 0) (s2 := 0) C dX6_cut_4 lX6_57 kX6_in (Ct_v (b2n (show ¬ (1 ≤ p ∧ p ≤ 64) from by omega)) (c_X6_in p 1 64 (by omega) (by omega) (by omega) G 34 false _)) rfl rfl ⟨Nat.le_of_ble_eq_true rfl, Nat.le_of_ble_eq_true rfl⟩ (Nat.le_of_ble_eq_true rfl) (Nat.le_refl _) (Nat.le_refl _) ?_
  refine V_istore_n C dX6_cut_7 rfl (Nat.le_of_ble_eq_true rfl) rfl ?_
  refine V_aload_n C dX6_cut_8 rfl rfl ?_
  refine V_iload_n C dX6_cut_9 rfl rfl ?_
  refine V_iload_n C dX6_cut_10 rfl rfl ?_
  refine V_if_eq (tgt := 29) C dX6_cut_11 (by decide) (by omega) (fun q11 => ?_) (fun q11 => by exfalso; omega)
  refine V_iconst C dX6_cut_29 ?_
  refine V_iconst C dX6_cut_30 ?_
  refine V_V1 (k2 := 0) (s2 := 0) C dX6_cut_31 lX6_68 kX6_goes (Ct_v (v' := 0) rfl (c_X6_goes G _ r false false true)) (by decide) (rfl) rfl rfl rfl ⟨Nat.le_of_ble_eq_true rfl, Nat.le_of_ble_eq_true rfl⟩ (Nat.le_of_ble_eq_true rfl) (Nat.le_refl _) (Nat.le_refl _) ?_
  refine V_if_ne (tgt := 39) C dX6_cut_34 (by decide) (by omega) (fun q34 => by exfalso; omega) (fun q34 => ?_)
  refine V_iconst C dX6_cut_37 ?_
  exact V_iret C dX6_cut_38 rfl hZ (by first | rfl | omega) rfl
set_option maxRecDepth 100000 in
set_option maxHeartbeats 4000000 in
theorem n_X6_cut (G : GT) (K : Nat → Nat → Int) (r : Nat → Option Nat) (hG : GZ (K 29))(p : Int) (hp : -2147483648 ≤ p ∧ p < 2147483648) (hc : 1 ≤ p ∧ p ≤ 64) (hd : ¬ (p ≤ K 29 6)) : CtO G yX6_cut mX6_cut [rf G 28, .int (iI p)] K r (some (.int (iI 0))) (kT K 2) (r) := by
  refine Ct_of kX6_cut.1.1 (by decide) [some (rf G 28), some (.int (iI p)), none, none] rfl (Nat.le_of_ble_eq_true rfl) ?_
  intro x C hZ
  have g6 := hG.2.1
  refine V_iload_n C dX6_cut_0 rfl rfl ?_
  refine V_iconst C dX6_cut_1 ?_
  refine V_bipush C dX6_cut_2 (by decide +kernel) ?_
  refine V_S1 (k2 := 0) (s2 := 0) C dX6_cut_4 lX6_57 kX6_in (Ct_v (b2y (show 1 ≤ p ∧ p ≤ 64 from by omega)) (c_X6_in p 1 64 (by omega) (by omega) (by omega) G 34 false _)) rfl rfl ⟨Nat.le_of_ble_eq_true rfl, Nat.le_of_ble_eq_true rfl⟩ (Nat.le_of_ble_eq_true rfl) (Nat.le_refl _) (Nat.le_refl _) ?_
  refine V_istore_n C dX6_cut_7 rfl (Nat.le_of_ble_eq_true rfl) rfl ?_
  refine V_aload_n C dX6_cut_8 rfl rfl ?_
  refine V_iload_n C dX6_cut_9 rfl rfl ?_
  refine V_iload_n C dX6_cut_10 rfl rfl ?_
  refine V_if_eq (tgt := 29) C dX6_cut_11 (by decide) (by omega) (fun q11 => by exfalso; omega) (fun q11 => ?_)
  refine V_iload_n C dX6_cut_14 rfl rfl ?_
  refine V_aload_n C dX6_cut_15 rfl rfl ?_
  refine V_getH (L := mOl G) C dX6_cut_16 fX6_7 (by decide) (fun _ => rfl) rfl ?_
  refine V_bipush C dX6_cut_19 (by decide +kernel) ?_
  refine V_ialdH C dX6_cut_21 (by decide) (fun _ => rfl) (by omega) (by decide) ?_
  rw [show (6 : Int).toNat = 6 from rfl]
  refine V_icmp_gt (tgt := 29) C dX6_cut_22 (by decide) (by omega) (by omega) (fun q22 => ?_) (fun q22 => by exfalso; omega)
  refine V_iconst C dX6_cut_29 ?_
  refine V_iconst C dX6_cut_30 ?_
  refine V_V1 (k2 := 0) (s2 := 0) C dX6_cut_31 lX6_68 kX6_goes (Ct_v (v' := 0) rfl (c_X6_goes G _ r true false true)) (by decide) (rfl) rfl rfl rfl ⟨Nat.le_of_ble_eq_true rfl, Nat.le_of_ble_eq_true rfl⟩ (Nat.le_of_ble_eq_true rfl) (Nat.le_refl _) (Nat.le_refl _) ?_
  refine V_if_ne (tgt := 39) C dX6_cut_34 (by decide) (by omega) (fun q34 => by exfalso; omega) (fun q34 => ?_)
  refine V_iconst C dX6_cut_37 ?_
  exact V_iret C dX6_cut_38 rfl hZ (by first | rfl | omega) rfl
set_option maxRecDepth 100000 in
set_option maxHeartbeats 4000000 in
theorem c_X6_cut (G : GT) (K : Nat → Nat → Int) (r : Nat → Option Nat) (st : Nat) (hs : st ≤ 5) (hst : K 28 1 = st)(hG : GZ (K 29))(p : Int) (hp : -2147483648 ≤ p ∧ p < 2147483648) (hc : 1 ≤ p ∧ p ≤ 64) (hd : p ≤ K 29 6) : CtO G yX6_cut mX6_cut [rf G 28, .int (iI p)] K r (some (.int (iI (K 29 6 - p)))) (us (kS (kT K 0) st) 29 (ctF (svS (K 29) st) p.toNat (K 29 6 - p).toNat (K 29 6 - p).toNat)) (r) := by
  refine Ct_of kX6_cut.1.1 (by decide) [some (rf G 28), some (.int (iI p)), none, none] rfl (Nat.le_of_ble_eq_true rfl) ?_
  intro x C hZ
  have g6 := hG.2.1
  have eL : ((K 29 6 - p).toNat : Int) = K 29 6 - p := by omega
  have loop : ∀ (n k : Nat), k + n = (K 29 6 - p).toNat → V G mX6_cut x 56 [some (rf G 28), some (.int (iI p)), some (.int (iI 1)), some (.int (iI (k : Int)))] [] 34 false (HP G (us (kS (kT K 0) st) 29 (ctF (svS (K 29) st) p.toNat (K 29 6 - p).toNat k)) r) 0 0 := by
    intro n
    induction n with
    | zero =>
      intro k e
      refine V_iload_n C dX6_cut_56 rfl rfl ?_
      refine V_aload_n C dX6_cut_57 rfl rfl ?_
      refine V_getH (L := mOl G) C dX6_cut_58 fX6_7 (by decide) (fun _ => rfl) rfl ?_
      refine V_bipush C dX6_cut_61 (by decide +kernel) ?_
      refine V_ialdH C dX6_cut_63 (by decide) (fun _ => rfl) (by omega) (by decide) ?_
      rw [us_29, show (6 : Int).toNat = 6 from rfl, ctF_6]
      refine V_icmp_ge (tgt := 93) C dX6_cut_64 (by decide) (by omega) (by omega) (fun q64 => ?_) (fun q64 => by exfalso; omega)
      refine V_aload_n C dX6_cut_93 rfl rfl ?_
      refine V_getH (L := mOl G) C dX6_cut_94 fX6_7 (by decide) (fun _ => rfl) rfl ?_
      refine V_bipush C dX6_cut_97 (by decide +kernel) ?_
      refine V_ialdH C dX6_cut_99 (by decide) (fun _ => rfl) (by omega) (by decide) ?_
      rw [us_29, show (6 : Int).toNat = 6 from rfl, ctF_6]
      exact V_iret C dX6_cut_100 rfl hZ (by omega) (by rw [show k = (K 29 6 - p).toNat by omega])
    | succ n ih =>
      intro k e
      refine V_iload_n C dX6_cut_56 rfl rfl ?_
      refine V_aload_n C dX6_cut_57 rfl rfl ?_
      refine V_getH (L := mOl G) C dX6_cut_58 fX6_7 (by decide) (fun _ => rfl) rfl ?_
      refine V_bipush C dX6_cut_61 (by decide +kernel) ?_
      refine V_ialdH C dX6_cut_63 (by decide) (fun _ => rfl) (by omega) (by decide) ?_
      rw [us_29, show (6 : Int).toNat = 6 from rfl, ctF_6]
      refine V_icmp_ge (tgt := 93) C dX6_cut_64 (by decide) (by omega) (by omega) (fun q64 => by exfalso; omega) (fun q64 => ?_)
      refine V_aload_n C dX6_cut_67 rfl rfl ?_
      refine V_getH (L := mOl G) C dX6_cut_68 fX6_7 (by decide) (fun _ => rfl) rfl ?_
      refine V_bipush C dX6_cut_71 (by decide +kernel) ?_
      refine V_iload_n C dX6_cut_73 rfl rfl ?_
      refine V_iadd C dX6_cut_74 ?_
      refine V_aload_n C dX6_cut_75 rfl rfl ?_
      refine V_getH (L := mOl G) C dX6_cut_76 fX6_7 (by decide) (fun _ => rfl) rfl ?_
      refine V_bipush C dX6_cut_79 (by decide +kernel) ?_
      refine V_iload_n C dX6_cut_81 rfl rfl ?_
      refine V_iadd C dX6_cut_82 ?_
      refine V_iload_n C dX6_cut_83 rfl rfl ?_
      refine V_iadd C dX6_cut_84 ?_
      refine V_ialdH C dX6_cut_85 (by decide) (fun _ => rfl) (by omega) (by decide) ?_
      rw [us_29, show ((7 : Int) + (k : Int) + p).toNat = 7 + k + p.toNat by omega, ctF_up (by omega)]
      refine V_iastH C dX6_cut_86 (by decide) (fun _ => rfl) (by omega) (by decide) ?_
      refine V_iinc C dX6_cut_87 rfl (Nat.le_of_ble_eq_true rfl) rfl ?_
      refine V_goto (tgt := 56) C dX6_cut_90 (by decide) ?_
      refine V_hp ?_ (ih (k + 1) (by omega))
      rw [us_us, us_29, show ((7 : Int) + (k : Int)).toNat = 7 + k by omega, ctF_s]
  refine V_iload_n C dX6_cut_0 rfl rfl ?_
  refine V_iconst C dX6_cut_1 ?_
  refine V_bipush C dX6_cut_2 (by decide +kernel) ?_
  refine V_S1 (k2 := 0) (s2 := 0) C dX6_cut_4 lX6_57 kX6_in (Ct_v (b2y (show 1 ≤ p ∧ p ≤ 64 from by omega)) (c_X6_in p 1 64 (by omega) (by omega) (by omega) G 34 false _)) rfl rfl ⟨Nat.le_of_ble_eq_true rfl, Nat.le_of_ble_eq_true rfl⟩ (Nat.le_of_ble_eq_true rfl) (Nat.le_refl _) (Nat.le_refl _) ?_
  refine V_istore_n C dX6_cut_7 rfl (Nat.le_of_ble_eq_true rfl) rfl ?_
  refine V_aload_n C dX6_cut_8 rfl rfl ?_
  refine V_iload_n C dX6_cut_9 rfl rfl ?_
  refine V_iload_n C dX6_cut_10 rfl rfl ?_
  refine V_if_eq (tgt := 29) C dX6_cut_11 (by decide) (by omega) (fun q11 => by exfalso; omega) (fun q11 => ?_)
  refine V_iload_n C dX6_cut_14 rfl rfl ?_
  refine V_aload_n C dX6_cut_15 rfl rfl ?_
  refine V_getH (L := mOl G) C dX6_cut_16 fX6_7 (by decide) (fun _ => rfl) rfl ?_
  refine V_bipush C dX6_cut_19 (by decide +kernel) ?_
  refine V_ialdH C dX6_cut_21 (by decide) (fun _ => rfl) (by omega) (by decide) ?_
  rw [show (6 : Int).toNat = 6 from rfl]
  refine V_icmp_gt (tgt := 29) C dX6_cut_22 (by decide) (by omega) (by omega) (fun q22 => by exfalso; omega) (fun q22 => ?_)
  refine V_iconst C dX6_cut_25 ?_
  refine V_goto (tgt := 30) C dX6_cut_26 (by decide) ?_
  refine V_iconst C dX6_cut_30 ?_
  refine V_V1 (k2 := 0) (s2 := 0) C dX6_cut_31 lX6_68 kX6_goes (Ct_v (v' := 1) rfl (c_X6_goes G _ r true true true)) (by decide) (rfl) rfl rfl rfl ⟨Nat.le_of_ble_eq_true rfl, Nat.le_of_ble_eq_true rfl⟩ (Nat.le_of_ble_eq_true rfl) (Nat.le_refl _) (Nat.le_refl _) ?_
  refine V_if_ne (tgt := 39) C dX6_cut_34 (by decide) (by omega) (fun q34 => ?_) (fun q34 => by exfalso; omega)
  refine V_aload_n C dX6_cut_39 rfl rfl ?_
  refine V_V0 (k2 := 0) (s2 := 0) C dX6_cut_40 lX6_72 kX6_saves (s_X6_saves G (kT K 0) r st hs hst) (by decide) (rfl) rfl rfl rfl ⟨Nat.le_of_ble_eq_true rfl, Nat.le_of_ble_eq_true rfl⟩ (Nat.le_of_ble_eq_true rfl) (Nat.le_refl _) (Nat.le_refl _) ?_
  refine V_aload_n C dX6_cut_43 rfl rfl ?_
  refine V_getH (L := mOl G) C dX6_cut_44 fX6_7 (by decide) (fun _ => rfl) rfl ?_
  refine V_bipush C dX6_cut_47 (by decide +kernel) ?_
  refine V_dup2 C dX6_cut_49 rfl rfl ?_
  refine V_ialdH C dX6_cut_50 (by decide) (fun _ => rfl) (by omega) (by decide) ?_
  rw [show (kS (kT K 0) st) 29 (6 : Int).toNat = K 29 6 from svS_0 (by decide)]
  refine V_iload_n C dX6_cut_51 rfl rfl ?_
  refine V_isub C dX6_cut_52 ?_
  refine V_iastH C dX6_cut_53 (by decide) (fun _ => rfl) (by omega) (by decide) ?_
  refine V_iconst C dX6_cut_54 ?_
  refine V_istore_n C dX6_cut_55 rfl (Nat.le_of_ble_eq_true rfl) rfl ?_
  refine V_hp ?_ (loop (K 29 6 - p).toNat 0 (by omega))
  rw [← ctF_0, eL]; rfl
set_option maxRecDepth 100000 in
set_option maxHeartbeats 4000000 in
theorem c_X6_hashOfStalls (G : GT) (K : Nat → Nat → Int) (r : Nat → Option Nat) (h0 : Int) (hG : GZ (K 29)) : CtO G yX6_hashOfStalls mX6_hashOfStalls [rf G 28, .long (lL h0)] K r (some (.long (lL (caH (K 29) 6 (stH (K 29) 6 h0))))) (Wc K (adE (gm 18 (K 29 5).toNat) (gm 18 (K 29 0).toNat)) (adC (gm 18 (K 29 5).toNat) (gm 18 (K 29 0).toNat) : Nat)) (r) := by
  refine Ct_of kX6_hashOfStalls.1.1 (by decide) [some (rf G 28), some (.long (lL h0)), none, none, none, none, none, none, none] rfl (Nat.le_of_ble_eq_true rfl) ?_
  intro x C hZ
  have g5 := hG.1
  have loop2 : ∀ (f k : Nat) (h : Int) (c : Nat → Int) (n : Int) (o6 : Option Value), k + f = 6 → h = caH (K 29) k (stH (K 29) 6 h0) → (k = 6 → c = adE (gm 18 (K 29 5).toNat) (gm 18 (K 29 0).toNat) ∧ n = (adC (gm 18 (K 29 5).toNat) (gm 18 (K 29 0).toNat) : Nat)) → ∀ (o7 o8 : Option Value), V G mX6_hashOfStalls x 189 [some (rf G 28), some (.long (lL h0)), none, some (.long (lL h)), none, some (.int (iI (k : Int))), o6, o7, o8] [] 34 false (HP G (Wc K c n) r) 0 0 := by
    intro f
    induction f with
    | zero =>
      intro k h c n o6 e e2 e3 o7 o8
      have e4 := e3 (by omega)
      refine V_iload C dX6_hashOfStalls_189 rfl ?_
      refine V_bipush C dX6_hashOfStalls_191 (by decide +kernel) ?_
      refine V_icmp_ge (tgt := 251) C dX6_hashOfStalls_193 (by decide) (by omega) (by omega) (fun q193 => ?_) (fun q193 => by exfalso; omega)
      refine V_lload_n C dX6_hashOfStalls_251 rfl rfl ?_
      exact V_lret C dX6_hashOfStalls_252 rfl hZ (by rw [e2, show k = 6 by omega]) (by rw [e4.1, e4.2])
    | succ f ih =>
      intro k h c n o6 e e2 e3 o7 o8
      have gk := g5 k (by omega)
      have gk1 := g5 ((k + 1) % 6) (Nat.mod_lt _ (by decide))
      have w1 := wo_gm (n := (K 29 k).toNat) (by omega)
      have w2 := wo_gm (n := (K 29 ((k + 1) % 6)).toNat) (by omega)
      have m1 := gm_18 (K 29 k).toNat
      have m2 := gm_18 (K 29 ((k + 1) % 6)).toNat
      have r1 := mkN_r (adE (gm 18 (K 29 k).toNat) (gm 18 (K 29 ((k + 1) % 6)).toNat))
      have r2 := adC_r (gm 18 (K 29 k).toNat) (gm 18 (K 29 ((k + 1) % 6)).toNat)
      have ek1 : (((k : Int) + 1) % 6).toNat = (k + 1) % 6 := by omega
      refine V_iload C dX6_hashOfStalls_189 rfl ?_
      refine V_bipush C dX6_hashOfStalls_191 (by decide +kernel) ?_
      refine V_icmp_ge (tgt := 251) C dX6_hashOfStalls_193 (by decide) (by omega) (by omega) (fun q193 => by exfalso; omega) (fun q193 => ?_)
      refine V_ldc2 (n := 31) C dX6_hashOfStalls_196 qX6_179 (by decide +kernel) ?_
      refine V_lload_n C dX6_hashOfStalls_199 rfl rfl ?_
      refine V_lmul C dX6_hashOfStalls_200 ?_
      refine V_aload_n C dX6_hashOfStalls_201 rfl rfl ?_
      refine V_aload_n C dX6_hashOfStalls_202 rfl rfl ?_
      refine V_getH (L := mOl G) C dX6_hashOfStalls_203 fX6_7 (by decide) (fun _ => rfl) rfl ?_
      refine V_iload C dX6_hashOfStalls_206 rfl ?_
      refine V_ialdH C dX6_hashOfStalls_208 (by decide) (fun _ => rfl) (by omega) (by decide) ?_
      rw [Wc_29, tnN]
      refine V_S1 (k2 := 0) (s2 := 0) C dX6_hashOfStalls_209 lX6_40 kX6_said (i_X6_said G 34 false _ _ gk) rfl rfl ⟨Nat.le_of_ble_eq_true rfl, Nat.le_of_ble_eq_true rfl⟩ (Nat.le_of_ble_eq_true rfl) (Nat.le_refl _) (Nat.le_refl _) ?_
      refine V_aload_n C dX6_hashOfStalls_212 rfl rfl ?_
      refine V_getH (L := mOl G) C dX6_hashOfStalls_213 fX6_7 (by decide) (fun _ => rfl) rfl ?_
      refine V_iload C dX6_hashOfStalls_216 rfl ?_
      refine V_iconst C dX6_hashOfStalls_218 ?_
      refine V_iadd C dX6_hashOfStalls_219 ?_
      refine V_bipush C dX6_hashOfStalls_220 (by decide +kernel) ?_
      refine V_irem C dX6_hashOfStalls_222 (by omega) (by omega) ?_
      refine V_ialdH C dX6_hashOfStalls_223 (by decide) (fun _ => rfl) (by omega) (by decide) ?_
      rw [Wc_29, ek1]
      refine V_S1 (k2 := 0) (s2 := 0) C dX6_hashOfStalls_224 lX6_40 kX6_said (i_X6_said G 34 false _ _ gk1) rfl rfl ⟨Nat.le_of_ble_eq_true rfl, Nat.le_of_ble_eq_true rfl⟩ (Nat.le_of_ble_eq_true rfl) (Nat.le_refl _) (Nat.le_refl _) ?_
      refine V_V1 (k2 := 0) (s2 := 0) C dX6_hashOfStalls_227 lX6_75 kX6_adds (c_X6_adds G (Wc K c n) r _ _ m1 m2 (by omega)) (by decide) (rfl) rfl rfl rfl ⟨Nat.le_of_ble_eq_true rfl, Nat.le_of_ble_eq_true rfl⟩ (Nat.le_of_ble_eq_true rfl) (Nat.le_refl _) (Nat.le_refl _) ?_
      refine V_i2l C dX6_hashOfStalls_230 (by omega) ?_
      refine V_ladd C dX6_hashOfStalls_231 ?_
      refine V_lstore_n C dX6_hashOfStalls_232 rfl (Nat.le_of_ble_eq_true rfl) rfl ?_
      refine V_ldc2 (n := 31) C dX6_hashOfStalls_233 qX6_179 (by decide +kernel) ?_
      refine V_lload_n C dX6_hashOfStalls_236 rfl rfl ?_
      refine V_lmul C dX6_hashOfStalls_237 ?_
      refine V_aload_n C dX6_hashOfStalls_238 rfl rfl ?_
      refine V_getH (L := mOl G) C dX6_hashOfStalls_239 fX6_50 (by decide) (fun _ => rfl) rfl ?_
      rw [Wc_Wc, Wc_10]
      refine V_i2l C dX6_hashOfStalls_242 (by omega) ?_
      refine V_ladd C dX6_hashOfStalls_243 ?_
      refine V_lstore_n C dX6_hashOfStalls_244 rfl (Nat.le_of_ble_eq_true rfl) rfl ?_
      refine V_iinc C dX6_hashOfStalls_245 rfl (Nat.le_of_ble_eq_true rfl) rfl ?_
      refine V_goto (tgt := 189) C dX6_hashOfStalls_248 (by decide) ?_
      refine V_hp rfl (ih (k + 1) _ _ _ _ (by omega) (by rw [e2]; rfl) (fun w => ⟨by rw [show k = 5 by omega], by rw [show k = 5 by omega]⟩) o7 o8)
  have loop1 : ∀ (f k : Nat) (h : Int) (o6 o7 o8 : Option Value), k + f = 6 → h = stH (K 29) k h0 → V G mX6_hashOfStalls x 5 [some (rf G 28), some (.long (lL h0)), none, some (.long (lL h)), none, some (.int (iI (k : Int))), o6, o7, o8] [] 34 false (HP G K r) 0 0 := by
    intro f
    induction f with
    | zero =>
      intro k h o6 o7 o8 e e2
      refine V_iload C dX6_hashOfStalls_5 rfl ?_
      refine V_bipush C dX6_hashOfStalls_7 (by decide +kernel) ?_
      refine V_icmp_ge (tgt := 186) C dX6_hashOfStalls_9 (by decide) (by omega) (by omega) (fun q9 => ?_) (fun q9 => by exfalso; omega)
      refine V_iconst C dX6_hashOfStalls_186 ?_
      refine V_istore C dX6_hashOfStalls_187 (Nat.le_of_ble_eq_true rfl) rfl ?_
      refine V_hp (congrArg (fun w => HP G w r) (Wc_self K).symm) (loop2 6 0 _ _ _ _ (by omega) (by rw [e2, show k = 6 by omega]; rfl) (fun w => absurd w (by decide)) _ _)
    | succ f ih =>
      intro k h o6 o7 o8 e e2
      have gk := g5 k (by omega)
      have m1 := gm_18 (K 29 k).toNat
      have f5 := cn_le 22 (gm 18 (K 29 k).toNat)
      have f6 := fm_18 (K 29 k).toNat
      have f7 := cw_r (n := (K 29 k).toNat) (by omega)
      obtain ⟨HB, hHB⟩ : ∃ HB, HB = 31 * (31 * (31 * (31 * (31 * (31 * h + K 29 k) + (gm 18 (K 29 k).toNat : Nat)) + (fm 18 (K 29 k).toNat : Nat)) + cw (gm 18 (K 29 k).toNat)) + cw (gm 18 (K 29 k).toNat)) + (cn 22 (gm 18 (K 29 k).toNat) : Nat) := ⟨_, rfl⟩
      have hN : nuH h (K 29 k) = trH (gm 18 (K 29 k).toNat) 3 HB := by rw [hHB]; rfl
      have trib : ∀ (f tr : Nat) (h : Int) (o8 : Option Value), tr + f = 3 → h = trH (gm 18 (K 29 k).toNat) tr HB → V G mX6_hashOfStalls x 119 [some (rf G 28), some (.long (lL h0)), none, some (.long (lL h)), none, some (.int (iI (k : Int))), some (.int (iI ((gm 18 (K 29 k).toNat : Nat) : Int))), some (.int (iI (tr : Int))), o8] [] 34 false (HP G K r) 0 0 := by
        intro f
        induction f with
        | zero =>
          intro tr h o8 e3 e4
          refine V_iload C dX6_hashOfStalls_119 rfl ?_
          refine V_iconst C dX6_hashOfStalls_121 ?_
          refine V_icmp_ge (tgt := 180) C dX6_hashOfStalls_122 (by decide) (by omega) (by omega) (fun q122 => ?_) (fun q122 => by exfalso; omega)
          refine V_iinc C dX6_hashOfStalls_180 rfl (Nat.le_of_ble_eq_true rfl) rfl ?_
          refine V_goto (tgt := 5) C dX6_hashOfStalls_183 (by decide) ?_
          exact ih (k + 1) _ _ _ _ (by omega) (by rw [e4, show tr = 3 by omega, ← hN, e2]; rfl)
        | succ f ih2 =>
          intro tr h o8 e3 e4
          have word : ∀ (f p : Nat) (h : Int), p + f = cn 22 (gm 18 (K 29 k).toNat) → h = mxF (fun p => wd (gm 18 (K 29 k).toNat) tr p) p (31 * trH (gm 18 (K 29 k).toNat) tr HB + (cn 22 (gm 18 (K 29 k).toNat) : Nat)) → V G mX6_hashOfStalls x 141 [some (rf G 28), some (.long (lL h0)), none, some (.long (lL h)), none, some (.int (iI (k : Int))), some (.int (iI ((gm 18 (K 29 k).toNat : Nat) : Int))), some (.int (iI (tr : Int))), some (.int (iI (p : Int)))] [] 34 false (HP G K r) 0 0 := by
            intro f
            induction f with
            | zero =>
              intro p h e5 e6
              refine V_iload C dX6_hashOfStalls_141 rfl ?_
              refine V_iload C dX6_hashOfStalls_143 rfl ?_
              refine V_S1 (k2 := 0) (s2 := 0) C dX6_hashOfStalls_145 lX6_47 kX6_many (c_X6_many _ (by omega) G 34 false _) rfl rfl ⟨Nat.le_of_ble_eq_true rfl, Nat.le_of_ble_eq_true rfl⟩ (Nat.le_of_ble_eq_true rfl) (Nat.le_refl _) (Nat.le_refl _) ?_
              refine V_icmp_ge (tgt := 174) C dX6_hashOfStalls_148 (by decide) (by omega) (by omega) (fun q148 => ?_) (fun q148 => by exfalso; omega)
              refine V_iinc C dX6_hashOfStalls_174 rfl (Nat.le_of_ble_eq_true rfl) rfl ?_
              refine V_goto (tgt := 119) C dX6_hashOfStalls_177 (by decide) ?_
              exact ih2 (tr + 1) _ _ (by omega) (by rw [e6, show p = cn 22 (gm 18 (K 29 k).toNat) by omega]; rfl)
            | succ f ih3 =>
              intro p h e5 e6
              have f8 := wd_r (gm 18 (K 29 k).toNat) tr p
              refine V_iload C dX6_hashOfStalls_141 rfl ?_
              refine V_iload C dX6_hashOfStalls_143 rfl ?_
              refine V_S1 (k2 := 0) (s2 := 0) C dX6_hashOfStalls_145 lX6_47 kX6_many (c_X6_many _ (by omega) G 34 false _) rfl rfl ⟨Nat.le_of_ble_eq_true rfl, Nat.le_of_ble_eq_true rfl⟩ (Nat.le_of_ble_eq_true rfl) (Nat.le_refl _) (Nat.le_refl _) ?_
              refine V_icmp_ge (tgt := 174) C dX6_hashOfStalls_148 (by decide) (by omega) (by omega) (fun q148 => by exfalso; omega) (fun q148 => ?_)
              refine V_ldc2 (n := 31) C dX6_hashOfStalls_151 qX6_179 (by decide +kernel) ?_
              refine V_lload_n C dX6_hashOfStalls_154 rfl rfl ?_
              refine V_lmul C dX6_hashOfStalls_155 ?_
              refine V_iload C dX6_hashOfStalls_156 rfl ?_
              refine V_iload C dX6_hashOfStalls_158 rfl ?_
              refine V_iload C dX6_hashOfStalls_160 rfl ?_
              refine V_S1 (k2 := 0) (s2 := 0) C dX6_hashOfStalls_162 lX6_156 kX6_word (c_X6_word (tr : Int) _ (p : Int) m1 (by omega) (by omega) G 34 false _) rfl rfl ⟨Nat.le_of_ble_eq_true rfl, Nat.le_of_ble_eq_true rfl⟩ (Nat.le_of_ble_eq_true rfl) (Nat.le_refl _) (Nat.le_refl _) ?_
              refine V_i2l C dX6_hashOfStalls_165 (by omega) ?_
              refine V_ladd C dX6_hashOfStalls_166 ?_
              refine V_lstore_n C dX6_hashOfStalls_167 rfl (Nat.le_of_ble_eq_true rfl) rfl ?_
              refine V_iinc C dX6_hashOfStalls_168 rfl (Nat.le_of_ble_eq_true rfl) rfl ?_
              refine V_goto (tgt := 141) C dX6_hashOfStalls_171 (by decide) ?_
              exact ih3 (p + 1) _ (by omega) (by rw [e6]; rfl)
          refine V_iload C dX6_hashOfStalls_119 rfl ?_
          refine V_iconst C dX6_hashOfStalls_121 ?_
          refine V_icmp_ge (tgt := 180) C dX6_hashOfStalls_122 (by decide) (by omega) (by omega) (fun q122 => by exfalso; omega) (fun q122 => ?_)
          refine V_ldc2 (n := 31) C dX6_hashOfStalls_125 qX6_179 (by decide +kernel) ?_
          refine V_lload_n C dX6_hashOfStalls_128 rfl rfl ?_
          refine V_lmul C dX6_hashOfStalls_129 ?_
          refine V_iload C dX6_hashOfStalls_130 rfl ?_
          refine V_S1 (k2 := 0) (s2 := 0) C dX6_hashOfStalls_132 lX6_47 kX6_many (c_X6_many _ (by omega) G 34 false _) rfl rfl ⟨Nat.le_of_ble_eq_true rfl, Nat.le_of_ble_eq_true rfl⟩ (Nat.le_of_ble_eq_true rfl) (Nat.le_refl _) (Nat.le_refl _) ?_
          refine V_i2l C dX6_hashOfStalls_135 (by omega) ?_
          refine V_ladd C dX6_hashOfStalls_136 ?_
          refine V_lstore_n C dX6_hashOfStalls_137 rfl (Nat.le_of_ble_eq_true rfl) rfl ?_
          refine V_iconst C dX6_hashOfStalls_138 ?_
          refine V_istore C dX6_hashOfStalls_139 (Nat.le_of_ble_eq_true rfl) rfl ?_
          exact word _ 0 _ (Nat.zero_add _) (by rw [e4]; rfl)
      refine V_iload C dX6_hashOfStalls_5 rfl ?_
      refine V_bipush C dX6_hashOfStalls_7 (by decide +kernel) ?_
      refine V_icmp_ge (tgt := 186) C dX6_hashOfStalls_9 (by decide) (by omega) (by omega) (fun q9 => by exfalso; omega) (fun q9 => ?_)
      refine V_aload_n C dX6_hashOfStalls_12 rfl rfl ?_
      refine V_getH (L := mOl G) C dX6_hashOfStalls_13 fX6_7 (by decide) (fun _ => rfl) rfl ?_
      refine V_iload C dX6_hashOfStalls_16 rfl ?_
      refine V_ialdH C dX6_hashOfStalls_18 (by decide) (fun _ => rfl) (by omega) (by decide) ?_
      rw [tnN]
      refine V_S1 (k2 := 0) (s2 := 0) C dX6_hashOfStalls_19 lX6_40 kX6_said (i_X6_said G 34 false _ _ gk) rfl rfl ⟨Nat.le_of_ble_eq_true rfl, Nat.le_of_ble_eq_true rfl⟩ (Nat.le_of_ble_eq_true rfl) (Nat.le_refl _) (Nat.le_refl _) ?_
      refine V_istore C dX6_hashOfStalls_22 (Nat.le_of_ble_eq_true rfl) rfl ?_
      refine V_ldc2 (n := 31) C dX6_hashOfStalls_24 qX6_179 (by decide +kernel) ?_
      refine V_lload_n C dX6_hashOfStalls_27 rfl rfl ?_
      refine V_lmul C dX6_hashOfStalls_28 ?_
      refine V_aload_n C dX6_hashOfStalls_29 rfl rfl ?_
      refine V_getH (L := mOl G) C dX6_hashOfStalls_30 fX6_7 (by decide) (fun _ => rfl) rfl ?_
      refine V_iload C dX6_hashOfStalls_33 rfl ?_
      refine V_ialdH C dX6_hashOfStalls_35 (by decide) (fun _ => rfl) (by omega) (by decide) ?_
      rw [tnN]
      refine V_i2l C dX6_hashOfStalls_36 (by omega) ?_
      refine V_ladd C dX6_hashOfStalls_37 ?_
      refine V_lstore_n C dX6_hashOfStalls_38 rfl (Nat.le_of_ble_eq_true rfl) rfl ?_
      refine V_ldc2 (n := 31) C dX6_hashOfStalls_39 qX6_179 (by decide +kernel) ?_
      refine V_lload_n C dX6_hashOfStalls_42 rfl rfl ?_
      refine V_lmul C dX6_hashOfStalls_43 ?_
      refine V_iload C dX6_hashOfStalls_44 rfl ?_
      refine V_i2l C dX6_hashOfStalls_46 (by omega) ?_
      refine V_ladd C dX6_hashOfStalls_47 ?_
      refine V_lstore_n C dX6_hashOfStalls_48 rfl (Nat.le_of_ble_eq_true rfl) rfl ?_
      refine V_ldc2 (n := 31) C dX6_hashOfStalls_49 qX6_179 (by decide +kernel) ?_
      refine V_lload_n C dX6_hashOfStalls_52 rfl rfl ?_
      refine V_lmul C dX6_hashOfStalls_53 ?_
      refine V_aload_n C dX6_hashOfStalls_54 rfl rfl ?_
      refine V_getH (L := mOl G) C dX6_hashOfStalls_55 fX6_7 (by decide) (fun _ => rfl) rfl ?_
      refine V_iload C dX6_hashOfStalls_58 rfl ?_
      refine V_ialdH C dX6_hashOfStalls_60 (by decide) (fun _ => rfl) (by omega) (by decide) ?_
      rw [tnN]
      refine V_S1 (k2 := 0) (s2 := 0) C dX6_hashOfStalls_61 lX6_150 kX6_full (i_X6_full G 34 false _ _ gk) rfl rfl ⟨Nat.le_of_ble_eq_true rfl, Nat.le_of_ble_eq_true rfl⟩ (Nat.le_of_ble_eq_true rfl) (Nat.le_refl _) (Nat.le_refl _) ?_
      refine V_i2l C dX6_hashOfStalls_64 (by omega) ?_
      refine V_ladd C dX6_hashOfStalls_65 ?_
      refine V_lstore_n C dX6_hashOfStalls_66 rfl (Nat.le_of_ble_eq_true rfl) rfl ?_
      refine V_ldc2 (n := 31) C dX6_hashOfStalls_67 qX6_179 (by decide +kernel) ?_
      refine V_lload_n C dX6_hashOfStalls_70 rfl rfl ?_
      refine V_lmul C dX6_hashOfStalls_71 ?_
      refine V_aload_n C dX6_hashOfStalls_72 rfl rfl ?_
      refine V_getH (L := mOl G) C dX6_hashOfStalls_73 fX6_7 (by decide) (fun _ => rfl) rfl ?_
      refine V_iload C dX6_hashOfStalls_76 rfl ?_
      refine V_ialdH C dX6_hashOfStalls_78 (by decide) (fun _ => rfl) (by omega) (by decide) ?_
      rw [tnN]
      refine V_S1 (k2 := 0) (s2 := 0) C dX6_hashOfStalls_79 lX6_153 kX6_countWays (i_X6_countWays G 34 false _ _ gk) rfl rfl ⟨Nat.le_of_ble_eq_true rfl, Nat.le_of_ble_eq_true rfl⟩ (Nat.le_of_ble_eq_true rfl) (Nat.le_refl _) (Nat.le_refl _) ?_
      refine V_i2l C dX6_hashOfStalls_82 (by omega) ?_
      refine V_ladd C dX6_hashOfStalls_83 ?_
      refine V_lstore_n C dX6_hashOfStalls_84 rfl (Nat.le_of_ble_eq_true rfl) rfl ?_
      refine V_ldc2 (n := 31) C dX6_hashOfStalls_85 qX6_179 (by decide +kernel) ?_
      refine V_lload_n C dX6_hashOfStalls_88 rfl rfl ?_
      refine V_lmul C dX6_hashOfStalls_89 ?_
      refine V_aload_n C dX6_hashOfStalls_90 rfl rfl ?_
      refine V_getH (L := mOl G) C dX6_hashOfStalls_91 fX6_7 (by decide) (fun _ => rfl) rfl ?_
      refine V_iload C dX6_hashOfStalls_94 rfl ?_
      refine V_ialdH C dX6_hashOfStalls_96 (by decide) (fun _ => rfl) (by omega) (by decide) ?_
      rw [tnN]
      refine V_S1 (k2 := 0) (s2 := 0) C dX6_hashOfStalls_97 lX6_153 kX6_countWays (i_X6_countWays G 34 false _ _ gk) rfl rfl ⟨Nat.le_of_ble_eq_true rfl, Nat.le_of_ble_eq_true rfl⟩ (Nat.le_of_ble_eq_true rfl) (Nat.le_refl _) (Nat.le_refl _) ?_
      refine V_i2l C dX6_hashOfStalls_100 (by omega) ?_
      refine V_ladd C dX6_hashOfStalls_101 ?_
      refine V_lstore_n C dX6_hashOfStalls_102 rfl (Nat.le_of_ble_eq_true rfl) rfl ?_
      refine V_ldc2 (n := 31) C dX6_hashOfStalls_103 qX6_179 (by decide +kernel) ?_
      refine V_lload_n C dX6_hashOfStalls_106 rfl rfl ?_
      refine V_lmul C dX6_hashOfStalls_107 ?_
      refine V_iload C dX6_hashOfStalls_108 rfl ?_
      refine V_S1 (k2 := 0) (s2 := 0) C dX6_hashOfStalls_110 lX6_47 kX6_many (c_X6_many _ (by omega) G 34 false _) rfl rfl ⟨Nat.le_of_ble_eq_true rfl, Nat.le_of_ble_eq_true rfl⟩ (Nat.le_of_ble_eq_true rfl) (Nat.le_refl _) (Nat.le_refl _) ?_
      refine V_i2l C dX6_hashOfStalls_113 (by omega) ?_
      refine V_ladd C dX6_hashOfStalls_114 ?_
      refine V_lstore_n C dX6_hashOfStalls_115 rfl (Nat.le_of_ble_eq_true rfl) rfl ?_
      refine V_iconst C dX6_hashOfStalls_116 ?_
      refine V_istore C dX6_hashOfStalls_117 (Nat.le_of_ble_eq_true rfl) rfl ?_
      exact trib 3 0 _ _ (by omega) (by rw [hHB]; rfl)
  refine V_lload_n C dX6_hashOfStalls_0 rfl rfl ?_
  refine V_lstore_n C dX6_hashOfStalls_1 rfl (Nat.le_of_ble_eq_true rfl) rfl ?_
  refine V_iconst C dX6_hashOfStalls_2 ?_
  refine V_istore C dX6_hashOfStalls_3 (Nat.le_of_ble_eq_true rfl) rfl ?_
  exact loop1 6 0 _ _ _ _ (by omega) rfl
