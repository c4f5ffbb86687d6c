set_option maxRecDepth 100000 in
set_option maxHeartbeats 4000000 in
theorem n_X6_work (G : GT) (K : Nat → Nat → Int) (r : Nat → Option Nat) (T : Nat) (hT : K 28 5 = T) (h60 : T ≤ 60) (ht : ∀ j, j < T → 33 ≤ K 30 j ∧ K 30 j ≤ 126) (hw : (wh (K 30) T (T + 1) 0).1 = false) : CtO G yX6_work mX6_work [rf G 28] K r (some (.int (iI 0))) (kT (Wq K ((wh (K 30) T (T + 1) 0).2 : Nat) (whF (K 30) T (T + 1) (K 28 8) 0).1 (whF (K 30) T (T + 1) (K 28 8) 0).2) 1) (r) := by
  refine Ct_of kX6_work.1.1 (by decide) [some (rf G 28), none, none, none] rfl (Nat.le_of_ble_eq_true rfl) ?_
  intro x C hZ
  refine V_aload_n C dX6_work_0 rfl rfl ?_
  refine V_aload_n C dX6_work_1 rfl rfl ?_
  refine V_V1 (k2 := 0) (s2 := 0) C dX6_work_2 lX6_131 kX6_isWhole (Ct_v (v' := b2 false) (by rw [hw]) (c_X6_isWhole G K r T hT h60 ht)) (by decide) (rfl) rfl rfl rfl ⟨Nat.le_of_ble_eq_true rfl, Nat.le_of_ble_eq_true rfl⟩ (Nat.le_of_ble_eq_true rfl) (Nat.le_refl _) (Nat.le_refl _) ?_
  refine V_iconst C dX6_work_5 ?_
  refine V_iconst C dX6_work_6 ?_
  refine V_V1 (k2 := 0) (s2 := 0) C dX6_work_7 lX6_68 kX6_goes (Ct_v (v' := 0) rfl (c_X6_goes G (Wq K ((wh (K 30) T (T + 1) 0).2 : Nat) (whF (K 30) T (T + 1) (K 28 8) 0).1 (whF (K 30) T (T + 1) (K 28 8) 0).2) r false true true)) (by decide) (rfl) rfl rfl rfl ⟨Nat.le_of_ble_eq_true rfl, Nat.le_of_ble_eq_true rfl⟩ (Nat.le_of_ble_eq_true rfl) (Nat.le_refl _) (Nat.le_refl _) ?_
  refine V_if_ne (tgt := 15) C dX6_work_10 (by decide) (by omega) (fun q10 => by exfalso; omega) (fun q10 => ?_)
  refine V_iconst C dX6_work_13 ?_
  exact V_iret C dX6_work_14 rfl hZ rfl rfl
set_option maxRecDepth 100000 in
set_option maxHeartbeats 4000000 in
theorem c_X6_work (G : GT) (K : Nat → Nat → Int) (r : Nat → Option Nat) (T : Nat) (hT : K 28 5 = T) (h60 : T ≤ 60) (ht : ∀ j, j < T → 33 ≤ K 30 j ∧ K 30 j ≤ 126) (hw : (wh (K 30) T (T + 1) 0).1 = true) (hG : GZ (K 29)) (st : Nat) (hs : st ≤ 5) (hst : K 28 1 = st) : CtO G yX6_work mX6_work [rf G 28] K r (some (.int (iI ((wk (K 30) T (T + 1) (svS (K 29) st) (whF (K 30) T (T + 1) (K 28 8) 0).1 (whF (K 30) T (T + 1) (K 28 8) 0).2 0 0).2.1 : Nat)))) (wkE (kS (kT (Wq K ((wh (K 30) T (T + 1) 0).2 : Nat) (whF (K 30) T (T + 1) (K 28 8) 0).1 (whF (K 30) T (T + 1) (K 28 8) 0).2) 0) st) (wk (K 30) T (T + 1) (svS (K 29) st) (whF (K 30) T (T + 1) (K 28 8) 0).1 (whF (K 30) T (T + 1) (K 28 8) 0).2 0 0)) (r) := by
  refine Ct_of kX6_work.1.1 (by decide) [some (rf G 28), none, none, none] rfl (Nat.le_of_ble_eq_true rfl) ?_
  intro x C hZ
  obtain ⟨R, hR⟩ : ∃ R, R = wk (K 30) T (T + 1) (svS (K 29) st) (whF (K 30) T (T + 1) (K 28 8) 0).1 (whF (K 30) T (T + 1) (K 28 8) 0).2 0 0 := ⟨_, rfl⟩
  obtain ⟨K3, hK3⟩ : ∃ K3, K3 = (kS (kT (Wq K ((wh (K 30) T (T + 1) 0).2 : Nat) (whF (K 30) T (T + 1) (K 28 8) 0).1 (whF (K 30) T (T + 1) (K 28 8) 0).2) 0) st) := ⟨_, rfl⟩
  rw [← hR, ← hK3] at hZ
  have k5 : K3 28 5 = T := by rw [hK3]; exact hT
  have k30 : K3 30 = K 30 := by rw [hK3]; rfl
  have ht3 : ∀ z j, j < T → 33 ≤ us K3 29 z 30 j ∧ us K3 29 z 30 j ≤ 126 := fun z j h => by rw [show us K3 29 z 30 = K3 30 from rfl, k30]; exact ht j h
  have fin : ∀ (z : Nat → Int) (m : Nat) (why : Int) (a : Nat) (p q : Int) (o3 : Option Value), 0 ≤ why ∧ why ≤ 4 → m ≤ 61 → (z, m, why, a, p, q) = R → V G mX6_work x 79 [some (rf G 28), some (.int (iI (m : Int))), some (.int (iI why)), o3] [] 34 false (HP G (Wq (us K3 29 z) (a : Int) p q) r) 0 0 := by
    intro z m why a p q o3 h1 h2 hE
    subst hE
    by_cases hy : 0 < why
    · have e1 : (if 0 < why then (1 : Int) else 0) = 1 := if_pos hy
      refine V_aload_n C dX6_work_79 rfl rfl ?_
      refine V_getH (L := mOl G) C dX6_work_80 fX6_7 (by decide) (fun _ => rfl) rfl ?_
      refine V_bipush C dX6_work_83 (by decide +kernel) ?_
      refine V_iload_n C dX6_work_85 rfl rfl ?_
      refine V_if_le (tgt := 93) C dX6_work_86 (by decide) (by omega) (fun q86 => by exfalso; omega) (fun q86 => ?_)
      refine V_iconst C dX6_work_89 ?_
      refine V_goto (tgt := 94) C dX6_work_90 (by decide) ?_
      refine V_iastH C dX6_work_94 (by decide) (fun _ => rfl) (by omega) (by decide) ?_
      rw [show us (Wq (us K3 29 z) a p q) 29 (us (Wq (us K3 29 z) a p q 29) (71 : Int).toNat 1) = Wq (us K3 29 (us z 71 1)) a p q from by rw [Wq_us29, us_us]; rfl]
      refine V_aload_n C dX6_work_95 rfl rfl ?_
      refine V_getH (L := mOl G) C dX6_work_96 fX6_7 (by decide) (fun _ => rfl) rfl ?_
      refine V_bipush C dX6_work_99 (by decide +kernel) ?_
      refine V_iload_n C dX6_work_101 rfl rfl ?_
      refine V_iastH C dX6_work_102 (by decide) (fun _ => rfl) (by omega) (by decide) ?_
      rw [show us (Wq (us K3 29 (us z 71 1)) a p q) 29 (us (Wq (us K3 29 (us z 71 1)) a p q 29) (72 : Int).toNat m) = Wq (us K3 29 (us (us z 71 1) 72 m)) a p q from by rw [Wq_us29, us_us]; rfl]
      refine V_aload_n C dX6_work_103 rfl rfl ?_
      refine V_getH (L := mOl G) C dX6_work_104 fX6_7 (by decide) (fun _ => rfl) rfl ?_
      refine V_bipush C dX6_work_107 (by decide +kernel) ?_
      refine V_iload_n C dX6_work_109 rfl rfl ?_
      refine V_iastH C dX6_work_110 (by decide) (fun _ => rfl) (by omega) (by decide) ?_
      rw [show us (Wq (us K3 29 (us (us z 71 1) 72 m)) a p q) 29 (us (Wq (us K3 29 (us (us z 71 1) 72 m)) a p q 29) (73 : Int).toNat why) = Wq (us K3 29 (us (us (us z 71 1) 72 m) 73 why)) a p q from by rw [Wq_us29, us_us]; rfl]
      refine V_aload_n C dX6_work_111 rfl rfl ?_
      refine V_iconst C dX6_work_112 ?_
      refine V_putH (L := mOl G) (ty := .int) C dX6_work_113 fX6_105 (by decide) (fun _ => rfl) rfl (by decide +kernel) (rfl) (rfl) (Nat.le_of_ble_eq_true rfl) rfl ?_
      refine V_iload_n C dX6_work_116 rfl rfl ?_
      exact V_iret C dX6_work_117 rfl hZ rfl (by unfold wkE stS; dsimp only; rw [e1])
    · have e1 : (if 0 < why then (1 : Int) else 0) = 0 := if_neg hy
      refine V_aload_n C dX6_work_79 rfl rfl ?_
      refine V_getH (L := mOl G) C dX6_work_80 fX6_7 (by decide) (fun _ => rfl) rfl ?_
      refine V_bipush C dX6_work_83 (by decide +kernel) ?_
      refine V_iload_n C dX6_work_85 rfl rfl ?_
      refine V_if_le (tgt := 93) C dX6_work_86 (by decide) (by omega) (fun q86 => ?_) (fun q86 => by exfalso; omega)
      refine V_iconst C dX6_work_93 ?_
      refine V_iastH C dX6_work_94 (by decide) (fun _ => rfl) (by omega) (by decide) ?_
      rw [show us (Wq (us K3 29 z) a p q) 29 (us (Wq (us K3 29 z) a p q 29) (71 : Int).toNat 0) = Wq (us K3 29 (us z 71 0)) a p q from by rw [Wq_us29, us_us]; rfl]
      refine V_aload_n C dX6_work_95 rfl rfl ?_
      refine V_getH (L := mOl G) C dX6_work_96 fX6_7 (by decide) (fun _ => rfl) rfl ?_
      refine V_bipush C dX6_work_99 (by decide +kernel) ?_
      refine V_iload_n C dX6_work_101 rfl rfl ?_
      refine V_iastH C dX6_work_102 (by decide) (fun _ => rfl) (by omega) (by decide) ?_
      rw [show us (Wq (us K3 29 (us z 71 0)) a p q) 29 (us (Wq (us K3 29 (us z 71 0)) a p q 29) (72 : Int).toNat m) = Wq (us K3 29 (us (us z 71 0) 72 m)) a p q from by rw [Wq_us29, us_us]; rfl]
      refine V_aload_n C dX6_work_103 rfl rfl ?_
      refine V_getH (L := mOl G) C dX6_work_104 fX6_7 (by decide) (fun _ => rfl) rfl ?_
      refine V_bipush C dX6_work_107 (by decide +kernel) ?_
      refine V_iload_n C dX6_work_109 rfl rfl ?_
      refine V_iastH C dX6_work_110 (by decide) (fun _ => rfl) (by omega) (by decide) ?_
      rw [show us (Wq (us K3 29 (us (us z 71 0) 72 m)) a p q) 29 (us (Wq (us K3 29 (us (us z 71 0) 72 m)) a p q 29) (73 : Int).toNat why) = Wq (us K3 29 (us (us (us z 71 0) 72 m) 73 why)) a p q from by rw [Wq_us29, us_us]; rfl]
      refine V_aload_n C dX6_work_111 rfl rfl ?_
      refine V_iconst C dX6_work_112 ?_
      refine V_putH (L := mOl G) (ty := .int) C dX6_work_113 fX6_105 (by decide) (fun _ => rfl) rfl (by decide +kernel) (rfl) (rfl) (Nat.le_of_ble_eq_true rfl) rfl ?_
      refine V_iload_n C dX6_work_116 rfl rfl ?_
      exact V_iret C dX6_work_117 rfl hZ rfl (by unfold wkE stS; dsimp only; rw [e1])
  have loop : ∀ (f : Nat) (z : Nat → Int) (p q : Int) (a m : Nat) (o3 : Option Value), T + 1 ≤ a + f → GZ z → m + f ≤ T + 1 → ((a ≤ T ∧ (wh (K 30) T f a).1 = true) ∨ a = T + 1) → wk (K 30) T f z p q a m = R → V G mX6_work x 28 [some (rf G 28), some (.int (iI (m : Int))), some (.int (iI 0)), o3] [] 34 false (HP G (Wq (us K3 29 z) (a : Int) p q) r) 0 0 := by
    intro f
    induction f with
    | zero =>
      intro z p q a m o3 e hz hm hc hE
      rcases hc with hc | hc
      · omega
      simp only [wk] at hE
      refine V_iload_n C dX6_work_28 rfl rfl ?_
      refine V_if_ne (tgt := 79) C dX6_work_29 (by decide) (by omega) (fun q29 => by exfalso; omega) (fun q29 => ?_)
      refine V_aload_n C dX6_work_32 rfl rfl ?_
      refine V_getH (L := mOl G) C dX6_work_33 fX6_108 (by decide) (fun _ => rfl) rfl ?_
      rw [Wq_6]
      refine V_aload_n C dX6_work_36 rfl rfl ?_
      refine V_getH (L := mOl G) C dX6_work_37 fX6_105 (by decide) (fun _ => rfl) rfl ?_
      rw [Wq_5, show us K3 29 z 28 5 = (T : Int) from k5]
      refine V_icmp_ge (tgt := 79) C dX6_work_40 (by decide) (by omega) (by omega) (fun q40 => ?_) (fun q40 => by exfalso; omega)
      exact fin z m 0 a p q _ (by omega) (by omega) hE
    | succ f ih =>
      intro z p q a m o3 e hz hm hc hE
      simp only [wk] at hE
      by_cases hA : T ≤ a
      · rw [if_neg (by omega)] at hE
        refine V_iload_n C dX6_work_28 rfl rfl ?_
        refine V_if_ne (tgt := 79) C dX6_work_29 (by decide) (by omega) (fun q29 => by exfalso; omega) (fun q29 => ?_)
        refine V_aload_n C dX6_work_32 rfl rfl ?_
        refine V_getH (L := mOl G) C dX6_work_33 fX6_108 (by decide) (fun _ => rfl) rfl ?_
        rw [Wq_6]
        refine V_aload_n C dX6_work_36 rfl rfl ?_
        refine V_getH (L := mOl G) C dX6_work_37 fX6_105 (by decide) (fun _ => rfl) rfl ?_
        rw [Wq_5, show us K3 29 z 28 5 = (T : Int) from k5]
        refine V_icmp_ge (tgt := 79) C dX6_work_40 (by decide) (by omega) (by omega) (fun q40 => ?_) (fun q40 => by exfalso; omega)
        exact fin z m 0 a p q _ (by omega) (by omega) hE
      · rw [if_pos (by omega)] at hE
        have hc : a ≤ T ∧ (wh (K 30) T (f + 1) a).1 = true := hc.elim id (fun h => absurd h (by omega))
        obtain ⟨hc1, hc2⟩ := hc
        have pb := pt_b (t := K 30) hc1
        simp only [wh] at hc2
        by_cases c1 : (pt (K 30) T a).1 = 32
        · rw [if_pos c1] at hc2; exact Bool.noConfusion hc2
        rw [if_neg c1] at hc2
        have ok := pt_pOK hc1 c1 q
        have rr := rsn_r z (pt (K 30) T a).1 (pt (K 30) T a).2.1 (pz (K 30) T q a)
        have cp : CtO G yX6_part mX6_part [rf G 28] (Wq (us K3 29 z) a p q) r (some (.int (iI ((pt (K 30) T a).1)))) (Wq (us K3 29 z) ((pt (K 30) T a).2.2.2 : Nat) (pt (K 30) T a).2.1 (pz (K 30) T q a)) r := by
          have h := c_X6_part G (us K3 29 z) r T a p q k5 h60 hc1 (ht3 z)
          rw [show us K3 29 z 30 = K 30 from k30] at h
          exact h
        have nx : ((pt (K 30) T a).2.2.2 + 1 ≤ T ∧ (wh (K 30) T f ((pt (K 30) T a).2.2.2 + 1)).1 = true) ∨ (pt (K 30) T a).2.2.2 + 1 = T + 1 := by
          by_cases c2 : iA (K 30) T 59 59 (pt (K 30) T a).2.2.2 = true
          · rw [if_pos c2] at hc2
            have := iA_t c2
            exact .inl ⟨by omega, hc2⟩
          · rw [if_neg c2] at hc2
            have := of_decide_eq_true hc2
            exact .inr (by omega)
        by_cases c3 : rsn z (pt (K 30) T a).1 (pt (K 30) T a).2.1 (pz (K 30) T q a) = 0
        · rw [if_pos c3] at hE
          refine V_iload_n C dX6_work_28 rfl rfl ?_
          refine V_if_ne (tgt := 79) C dX6_work_29 (by decide) (by omega) (fun q29 => by exfalso; omega) (fun q29 => ?_)
          refine V_aload_n C dX6_work_32 rfl rfl ?_
          refine V_getH (L := mOl G) C dX6_work_33 fX6_108 (by decide) (fun _ => rfl) rfl ?_
          rw [Wq_6]
          refine V_aload_n C dX6_work_36 rfl rfl ?_
          refine V_getH (L := mOl G) C dX6_work_37 fX6_105 (by decide) (fun _ => rfl) rfl ?_
          rw [Wq_5, show us K3 29 z 28 5 = (T : Int) from k5]
          refine V_icmp_ge (tgt := 79) C dX6_work_40 (by decide) (by omega) (by omega) (fun q40 => by exfalso; omega) (fun q40 => ?_)
          refine V_aload_n C dX6_work_43 rfl rfl ?_
          refine V_V1 (k2 := 0) (s2 := 0) C dX6_work_44 lX6_127 kX6_part (cp) (by decide) (rfl) rfl rfl rfl ⟨Nat.le_of_ble_eq_true rfl, Nat.le_of_ble_eq_true rfl⟩ (Nat.le_of_ble_eq_true rfl) (Nat.le_refl _) (Nat.le_refl _) ?_
          refine V_istore_n C dX6_work_47 rfl (Nat.le_of_ble_eq_true rfl) rfl ?_
          refine V_aload_n C dX6_work_48 rfl rfl ?_
          refine V_iload_n C dX6_work_49 rfl rfl ?_
          refine V_V1 (k2 := 0) (s2 := 0) C dX6_work_50 lX6_135 kX6_reason (Ct_v (v' := 0) c3 (c_X6_reason G (us K3 29 z) r _ _ _ _ ok hz)) (by decide) (rfl) rfl rfl rfl ⟨Nat.le_of_ble_eq_true rfl, Nat.le_of_ble_eq_true rfl⟩ (Nat.le_of_ble_eq_true rfl) (Nat.le_refl _) (Nat.le_refl _) ?_
          refine V_istore_n C dX6_work_53 rfl (Nat.le_of_ble_eq_true rfl) rfl ?_
          refine V_iload_n C dX6_work_54 rfl rfl ?_
          refine V_if_ne (tgt := 66) C dX6_work_55 (by decide) (by omega) (fun q55 => by exfalso; omega) (fun q55 => ?_)
          refine V_aload_n C dX6_work_58 rfl rfl ?_
          refine V_iload_n C dX6_work_59 rfl rfl ?_
          refine V_V0 (k2 := 0) (s2 := 0) C dX6_work_60 lX6_138 kX6_does (c_X6_does G (us K3 29 z) r _ _ _ _ ok hz c3) (by decide) (rfl) rfl rfl rfl ⟨Nat.le_of_ble_eq_true rfl, Nat.le_of_ble_eq_true rfl⟩ (Nat.le_of_ble_eq_true rfl) (Nat.le_refl _) (Nat.le_refl _) ?_
          rw [Wq_us29, us_us]
          refine V_iinc C dX6_work_63 rfl (Nat.le_of_ble_eq_true rfl) rfl ?_
          refine V_aload_n C dX6_work_66 rfl rfl ?_
          refine V_dup C dX6_work_67 rfl ?_
          refine V_getH (L := mOl G) C dX6_work_68 fX6_108 (by decide) (fun _ => rfl) rfl ?_
          rw [Wq_6]
          refine V_iconst C dX6_work_71 ?_
          refine V_iadd C dX6_work_72 ?_
          refine V_putH (L := mOl G) (ty := .int) C dX6_work_73 fX6_108 (by decide) (fun _ => rfl) rfl (by decide +kernel) (rfl) (rfl) (Nat.le_of_ble_eq_true rfl) rfl ?_
          rw [Wq_p6]
          refine V_goto (tgt := 28) C dX6_work_76 (by decide) ?_
          exact ih _ _ _ ((pt (K 30) T a).2.2.2 + 1) (m + 1) _ (by omega) (dos_GZ hz ok c3) (by omega) nx hE
        · rw [if_neg c3] at hE
          refine V_iload_n C dX6_work_28 rfl rfl ?_
          refine V_if_ne (tgt := 79) C dX6_work_29 (by decide) (by omega) (fun q29 => by exfalso; omega) (fun q29 => ?_)
          refine V_aload_n C dX6_work_32 rfl rfl ?_
          refine V_getH (L := mOl G) C dX6_work_33 fX6_108 (by decide) (fun _ => rfl) rfl ?_
          rw [Wq_6]
          refine V_aload_n C dX6_work_36 rfl rfl ?_
          refine V_getH (L := mOl G) C dX6_work_37 fX6_105 (by decide) (fun _ => rfl) rfl ?_
          rw [Wq_5, show us K3 29 z 28 5 = (T : Int) from k5]
          refine V_icmp_ge (tgt := 79) C dX6_work_40 (by decide) (by omega) (by omega) (fun q40 => by exfalso; omega) (fun q40 => ?_)
          refine V_aload_n C dX6_work_43 rfl rfl ?_
          refine V_V1 (k2 := 0) (s2 := 0) C dX6_work_44 lX6_127 kX6_part (cp) (by decide) (rfl) rfl rfl rfl ⟨Nat.le_of_ble_eq_true rfl, Nat.le_of_ble_eq_true rfl⟩ (Nat.le_of_ble_eq_true rfl) (Nat.le_refl _) (Nat.le_refl _) ?_
          refine V_istore_n C dX6_work_47 rfl (Nat.le_of_ble_eq_true rfl) rfl ?_
          refine V_aload_n C dX6_work_48 rfl rfl ?_
          refine V_iload_n C dX6_work_49 rfl rfl ?_
          refine V_V1 (k2 := 0) (s2 := 0) C dX6_work_50 lX6_135 kX6_reason (Ct_v (v' := rsn z (pt (K 30) T a).1 (pt (K 30) T a).2.1 (pz (K 30) T q a)) rfl (c_X6_reason G (us K3 29 z) r _ _ _ _ ok hz)) (by decide) (rfl) rfl rfl rfl ⟨Nat.le_of_ble_eq_true rfl, Nat.le_of_ble_eq_true rfl⟩ (Nat.le_of_ble_eq_true rfl) (Nat.le_refl _) (Nat.le_refl _) ?_
          refine V_istore_n C dX6_work_53 rfl (Nat.le_of_ble_eq_true rfl) rfl ?_
          refine V_iload_n C dX6_work_54 rfl rfl ?_
          refine V_if_ne (tgt := 66) C dX6_work_55 (by decide) (by omega) (fun q55 => ?_) (fun q55 => by exfalso; omega)
          refine V_aload_n C dX6_work_66 rfl rfl ?_
          refine V_dup C dX6_work_67 rfl ?_
          refine V_getH (L := mOl G) C dX6_work_68 fX6_108 (by decide) (fun _ => rfl) rfl ?_
          rw [Wq_6]
          refine V_iconst C dX6_work_71 ?_
          refine V_iadd C dX6_work_72 ?_
          refine V_putH (L := mOl G) (ty := .int) C dX6_work_73 fX6_108 (by decide) (fun _ => rfl) rfl (by decide +kernel) (rfl) (rfl) (Nat.le_of_ble_eq_true rfl) rfl ?_
          rw [Wq_p6]
          refine V_goto (tgt := 28) C dX6_work_76 (by decide) ?_
          refine V_iload_n C dX6_work_28 rfl rfl ?_
          refine V_if_ne (tgt := 79) C dX6_work_29 (by decide) (by omega) (fun q29 => ?_) (fun q29 => by exfalso; omega)
          exact fin z m _ ((pt (K 30) T a).2.2.2 + 1) _ _ _ rr (by omega) hE
  refine V_aload_n C dX6_work_0 rfl rfl ?_
  refine V_aload_n C dX6_work_1 rfl rfl ?_
  refine V_V1 (k2 := 0) (s2 := 0) C dX6_work_2 lX6_131 kX6_isWhole (Ct_v (v' := b2 true) (by rw [hw]) (c_X6_isWhole G K r T hT h60 ht)) (by decide) (rfl) rfl rfl rfl ⟨Nat.le_of_ble_eq_true rfl, Nat.le_of_ble_eq_true rfl⟩ (Nat.le_of_ble_eq_true rfl) (Nat.le_refl _) (Nat.le_refl _) ?_
  refine V_iconst C dX6_work_5 ?_
  refine V_iconst C dX6_work_6 ?_
  refine V_V1 (k2 := 0) (s2 := 0) C dX6_work_7 lX6_68 kX6_goes (Ct_v (v' := 1) rfl (c_X6_goes G (Wq K ((wh (K 30) T (T + 1) 0).2 : Nat) (whF (K 30) T (T + 1) (K 28 8) 0).1 (whF (K 30) T (T + 1) (K 28 8) 0).2) r true true true)) (by decide) (rfl) rfl rfl rfl ⟨Nat.le_of_ble_eq_true rfl, Nat.le_of_ble_eq_true rfl⟩ (Nat.le_of_ble_eq_true rfl) (Nat.le_refl _) (Nat.le_refl _) ?_
  refine V_if_ne (tgt := 15) C dX6_work_10 (by decide) (by omega) (fun q10 => ?_) (fun q10 => by exfalso; omega)
  refine V_aload_n C dX6_work_15 rfl rfl ?_
  refine V_V0 (k2 := 0) (s2 := 0) C dX6_work_16 lX6_72 kX6_saves (c_X6_saves G (kT (Wq K ((wh (K 30) T (T + 1) 0).2 : Nat) (whF (K 30) T (T + 1) (K 28 8) 0).1 (whF (K 30) T (T + 1) (K 28 8) 0).2) 0) r st hs hst) (by decide) (rfl) rfl rfl rfl ⟨Nat.le_of_ble_eq_true rfl, Nat.le_of_ble_eq_true rfl⟩ (Nat.le_of_ble_eq_true rfl) (Nat.le_refl _) (Nat.le_refl _) ?_
  refine V_iconst C dX6_work_19 ?_
  refine V_istore_n C dX6_work_20 rfl (Nat.le_of_ble_eq_true rfl) rfl ?_
  refine V_iconst C dX6_work_21 ?_
  refine V_istore_n C dX6_work_22 rfl (Nat.le_of_ble_eq_true rfl) rfl ?_
  refine V_aload_n C dX6_work_23 rfl rfl ?_
  refine V_iconst C dX6_work_24 ?_
  refine V_putH (L := mOl G) (ty := .int) C dX6_work_25 fX6_108 (by decide) (fun _ => rfl) rfl (by decide +kernel) (rfl) (rfl) (Nat.le_of_ble_eq_true rfl) rfl ?_
  refine V_hp ?_ (loop (T + 1) (svS (K 29) st) _ _ 0 0 none (by omega) (GZ_of hG fun j hj => svS_0 hj) (by omega) (.inl ⟨by omega, hw⟩) hR.symm)
  rw [hK3]
  show HP G (us (kS (kT (Wq K ((wh (K 30) T (T + 1) 0).2 : Nat) (whF (K 30) T (T + 1) (K 28 8) 0).1 (whF (K 30) T (T + 1) (K 28 8) 0).2) 0) st) 28 (us ((kS (kT (Wq K ((wh (K 30) T (T + 1) 0).2 : Nat) (whF (K 30) T (T + 1) (K 28 8) 0).1 (whF (K 30) T (T + 1) (K 28 8) 0).2) 0) st) 28) 6 0)) r = _
  rw [Wq_s6, show us (kS (kT (Wq K ((wh (K 30) T (T + 1) 0).2 : Nat) (whF (K 30) T (T + 1) (K 28 8) 0).1 (whF (K 30) T (T + 1) (K 28 8) 0).2) 0) st) 29 (svS (K 29) st) = (kS (kT (Wq K ((wh (K 30) T (T + 1) 0).2 : Nat) (whF (K 30) T (T + 1) (K 28 8) 0).1 (whF (K 30) T (T + 1) (K 28 8) 0).2) 0) st) from us_same (kS (kT (Wq K ((wh (K 30) T (T + 1) 0).2 : Nat) (whF (K 30) T (T + 1) (K 28 8) 0).1 (whF (K 30) T (T + 1) (K 28 8) 0).2) 0) st) 29]
  rfl
