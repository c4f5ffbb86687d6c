set_option maxRecDepth 100000 in
set_option maxHeartbeats 4000000 in
theorem m_X6_set (G : GT) (K : Nat → Nat → Int) (r : Nat → Option Nat) (p : Int) (hp : -2147483648 ≤ p ∧ p < 2147483648) (q : Int) (hq : -2147483648 ≤ q ∧ q < 2147483648) (hc : ¬ (0 ≤ p ∧ p ≤ 5)) : CtO G yX6_set mX6_set [rf G 28, .int (iI p), .int (iI q)] K r (some (.int (iI 0))) (kT K 1) (r) := by
  refine Ct_of kX6_set.1.1 (by decide) [some (rf G 28), some (.int (iI p)), some (.int (iI q)), none] rfl (Nat.le_of_ble_eq_true rfl) ?_
  intro x C hZ
  refine V_aload_n C dX6_set_0 rfl rfl ?_
  refine V_iload_n C dX6_set_1 rfl rfl ?_
  refine V_S1 (k2 := 0) (s2 := 0) C dX6_set_2 lX6_62 kX6_isStall (Ct_v (b2n (show ¬ (0 ≤ p ∧ p ≤ 5) from by omega)) (c_X6_isStall p (by omega) G 34 false _)) rfl rfl ⟨Nat.le_of_ble_eq_true rfl, Nat.le_of_ble_eq_true rfl⟩ (Nat.le_of_ble_eq_true rfl) (Nat.le_refl _) (Nat.le_refl _) ?_
  refine V_iload_n C dX6_set_5 rfl rfl ?_
  refine V_S1 (k2 := 0) (s2 := 0) C dX6_set_6 lX6_65 kX6_isNumber (c_X6_isNumber q (by omega) G 34 false _) rfl rfl ⟨Nat.le_of_ble_eq_true rfl, Nat.le_of_ble_eq_true rfl⟩ (Nat.le_of_ble_eq_true rfl) (Nat.le_refl _) (Nat.le_refl _) ?_
  refine V_iconst C dX6_set_9 ?_
  refine V_V1 (k2 := 0) (s2 := 0) C dX6_set_10 lX6_68 kX6_goes (Ct_v (v' := 0) rfl (c_X6_goes G _ r false _ true)) (by decide) (rfl) rfl rfl rfl ⟨Nat.le_of_ble_eq_true rfl, Nat.le_of_ble_eq_true rfl⟩ (Nat.le_of_ble_eq_true rfl) (Nat.le_refl _) (Nat.le_refl _) ?_
  refine V_if_ne (tgt := 18) C dX6_set_13 (by decide) (by omega) (fun q13 => by exfalso; omega) (fun q13 => ?_)
  refine V_iconst C dX6_set_16 ?_
  exact V_iret C dX6_set_17 rfl hZ (by first | rfl | omega) rfl
set_option maxRecDepth 100000 in
set_option maxHeartbeats 4000000 in
theorem n_X6_set (G : GT) (K : Nat → Nat → Int) (r : Nat → Option Nat) (p : Int) (hp : -2147483648 ≤ p ∧ p < 2147483648) (q : Int) (hq : -2147483648 ≤ q ∧ q < 2147483648) (hc : 0 ≤ p ∧ p ≤ 5) (hd : ¬ (0 ≤ q ∧ q ≤ 6764)) : CtO G yX6_set mX6_set [rf G 28, .int (iI p), .int (iI q)] K r (some (.int (iI 0))) (kT K 2) (r) := by
  refine Ct_of kX6_set.1.1 (by decide) [some (rf G 28), some (.int (iI p)), some (.int (iI q)), none] rfl (Nat.le_of_ble_eq_true rfl) ?_
  intro x C hZ
  refine V_aload_n C dX6_set_0 rfl rfl ?_
  refine V_iload_n C dX6_set_1 rfl rfl ?_
  refine V_S1 (k2 := 0) (s2 := 0) C dX6_set_2 lX6_62 kX6_isStall (Ct_v (b2y (show 0 ≤ p ∧ p ≤ 5 from by omega)) (c_X6_isStall p (by omega) G 34 false _)) rfl rfl ⟨Nat.le_of_ble_eq_true rfl, Nat.le_of_ble_eq_true rfl⟩ (Nat.le_of_ble_eq_true rfl) (Nat.le_refl _) (Nat.le_refl _) ?_
  refine V_iload_n C dX6_set_5 rfl rfl ?_
  refine V_S1 (k2 := 0) (s2 := 0) C dX6_set_6 lX6_65 kX6_isNumber (Ct_v (b2n (show ¬ (0 ≤ q ∧ q ≤ 6764) from by omega)) (c_X6_isNumber q (by omega) G 34 false _)) rfl rfl ⟨Nat.le_of_ble_eq_true rfl, Nat.le_of_ble_eq_true rfl⟩ (Nat.le_of_ble_eq_true rfl) (Nat.le_refl _) (Nat.le_refl _) ?_
  refine V_iconst C dX6_set_9 ?_
  refine V_V1 (k2 := 0) (s2 := 0) C dX6_set_10 lX6_68 kX6_goes (Ct_v (v' := 0) rfl (c_X6_goes G _ r true false true)) (by decide) (rfl) rfl rfl rfl ⟨Nat.le_of_ble_eq_true rfl, Nat.le_of_ble_eq_true rfl⟩ (Nat.le_of_ble_eq_true rfl) (Nat.le_refl _) (Nat.le_refl _) ?_
  refine V_if_ne (tgt := 18) C dX6_set_13 (by decide) (by omega) (fun q13 => by exfalso; omega) (fun q13 => ?_)
  refine V_iconst C dX6_set_16 ?_
  exact V_iret C dX6_set_17 rfl hZ (by first | rfl | omega) rfl
set_option maxRecDepth 100000 in
set_option maxHeartbeats 4000000 in
theorem c_X6_set (G : GT) (K : Nat → Nat → Int) (r : Nat → Option Nat) (st : Nat) (hs : st ≤ 5) (hst : K 28 1 = st)(p : Int) (hp : -2147483648 ≤ p ∧ p < 2147483648) (q : Int) (hq : -2147483648 ≤ q ∧ q < 2147483648) (hc : 0 ≤ p ∧ p ≤ 5) (hd : 0 ≤ q ∧ q ≤ 6764) : CtO G yX6_set mX6_set [rf G 28, .int (iI p), .int (iI q)] K r (some (.int (iI (K 29 p.toNat)))) (us (kS (kT K 0) st) 29 (us ((kS (kT K 0) st) 29) p.toNat q)) (r) := by
  refine Ct_of kX6_set.1.1 (by decide) [some (rf G 28), some (.int (iI p)), some (.int (iI q)), none] rfl (Nat.le_of_ble_eq_true rfl) ?_
  intro x C hZ
  refine V_aload_n C dX6_set_0 rfl rfl ?_
  refine V_iload_n C dX6_set_1 rfl rfl ?_
  refine V_S1 (k2 := 0) (s2 := 0) C dX6_set_2 lX6_62 kX6_isStall (Ct_v (b2y (show 0 ≤ p ∧ p ≤ 5 from by omega)) (c_X6_isStall p (by omega) G 34 false _)) rfl rfl ⟨Nat.le_of_ble_eq_true rfl, Nat.le_of_ble_eq_true rfl⟩ (Nat.le_of_ble_eq_true rfl) (Nat.le_refl _) (Nat.le_refl _) ?_
  refine V_iload_n C dX6_set_5 rfl rfl ?_
  refine V_S1 (k2 := 0) (s2 := 0) C dX6_set_6 lX6_65 kX6_isNumber (Ct_v (b2y (show 0 ≤ q ∧ q ≤ 6764 from by omega)) (c_X6_isNumber q (by omega) G 34 false _)) rfl rfl ⟨Nat.le_of_ble_eq_true rfl, Nat.le_of_ble_eq_true rfl⟩ (Nat.le_of_ble_eq_true rfl) (Nat.le_refl _) (Nat.le_refl _) ?_
  refine V_iconst C dX6_set_9 ?_
  refine V_V1 (k2 := 0) (s2 := 0) C dX6_set_10 lX6_68 kX6_goes (Ct_v (v' := 1) rfl (c_X6_goes G _ r true true true)) (by decide) (rfl) rfl rfl rfl ⟨Nat.le_of_ble_eq_true rfl, Nat.le_of_ble_eq_true rfl⟩ (Nat.le_of_ble_eq_true rfl) (Nat.le_refl _) (Nat.le_refl _) ?_
  refine V_if_ne (tgt := 18) C dX6_set_13 (by decide) (by omega) (fun q13 => ?_) (fun q13 => by exfalso; omega)
  refine V_aload_n C dX6_set_18 rfl rfl ?_
  refine V_V0 (k2 := 0) (s2 := 0) C dX6_set_19 lX6_72 kX6_saves (s_X6_saves G (kT K 0) r st hs hst) (by decide) (rfl) rfl rfl rfl ⟨Nat.le_of_ble_eq_true rfl, Nat.le_of_ble_eq_true rfl⟩ (Nat.le_of_ble_eq_true rfl) (Nat.le_refl _) (Nat.le_refl _) ?_
  refine V_aload_n C dX6_set_22 rfl rfl ?_
  refine V_getH (L := mOl G) C dX6_set_23 fX6_7 (by decide) (fun _ => rfl) rfl ?_
  refine V_iload_n C dX6_set_26 rfl rfl ?_
  refine V_ialdH C dX6_set_27 (by decide) (fun _ => rfl) (by omega) (by decide) ?_
  rw [show (kS (kT K 0) st) 29 p.toNat = K 29 p.toNat from svS_0 (by omega)]
  refine V_istore_n C dX6_set_28 rfl (Nat.le_of_ble_eq_true rfl) rfl ?_
  refine V_aload_n C dX6_set_29 rfl rfl ?_
  refine V_getH (L := mOl G) C dX6_set_30 fX6_7 (by decide) (fun _ => rfl) rfl ?_
  refine V_iload_n C dX6_set_33 rfl rfl ?_
  refine V_iload_n C dX6_set_34 rfl rfl ?_
  refine V_iastH C dX6_set_35 (by decide) (fun _ => rfl) (by omega) (by decide) ?_
  refine V_iload_n C dX6_set_36 rfl rfl ?_
  exact V_iret C dX6_set_37 rfl hZ (by first | rfl | omega) rfl
set_option maxRecDepth 100000 in
set_option maxHeartbeats 4000000 in
theorem m_X6_sumByCarries (G : GT) (K : Nat → Nat → Int) (r : Nat → Option Nat) (p : Int) (hp : -2147483648 ≤ p ∧ p < 2147483648) (q : Int) (hq : -2147483648 ≤ q ∧ q < 2147483648) (hc : ¬ ((0 ≤ p ∧ p ≤ 5) ∧ 0 ≤ q ∧ q ≤ 5)) : CtO G yX6_sumByCarries mX6_sumByCarries [rf G 28, .int (iI p), .int (iI q)] K r (some (.int (iI 0))) (kT K 1) (r) := by
  refine Ct_of kX6_sumByCarries.1.1 (by decide) [some (rf G 28), some (.int (iI p)), some (.int (iI q))] rfl (Nat.le_of_ble_eq_true rfl) ?_
  intro x C hZ
  by_cases c1 : 0 ≤ p ∧ p ≤ 5
  · by_cases c2 : 0 ≤ q ∧ q ≤ 5
    · exact absurd ⟨c1, c2⟩ hc
    · skip
      refine V_aload_n C dX6_sumByCarries_0 rfl rfl ?_
      refine V_iload_n C dX6_sumByCarries_1 rfl rfl ?_
      refine V_S1 (k2 := 0) (s2 := 0) C dX6_sumByCarries_2 lX6_62 kX6_isStall (Ct_v (b2y (show 0 ≤ p ∧ p ≤ 5 from by omega)) (c_X6_isStall p (by omega) G 34 false _)) rfl rfl ⟨Nat.le_of_ble_eq_true rfl, Nat.le_of_ble_eq_true rfl⟩ (Nat.le_of_ble_eq_true rfl) (Nat.le_refl _) (Nat.le_refl _) ?_
      refine V_if_eq (tgt := 19) C dX6_sumByCarries_5 (by decide) (by omega) (fun q5 => by exfalso; omega) (fun q5 => ?_)
      refine V_iload_n C dX6_sumByCarries_8 rfl rfl ?_
      refine V_S1 (k2 := 0) (s2 := 0) C dX6_sumByCarries_9 lX6_62 kX6_isStall (Ct_v (b2n (show ¬ (0 ≤ q ∧ q ≤ 5) from by omega)) (c_X6_isStall q (by omega) G 34 false _)) rfl rfl ⟨Nat.le_of_ble_eq_true rfl, Nat.le_of_ble_eq_true rfl⟩ (Nat.le_of_ble_eq_true rfl) (Nat.le_refl _) (Nat.le_refl _) ?_
      refine V_if_eq (tgt := 19) C dX6_sumByCarries_12 (by decide) (by omega) (fun q12 => ?_) (fun q12 => by exfalso; omega)
      refine V_iconst C dX6_sumByCarries_19 ?_
      refine V_iconst C dX6_sumByCarries_20 ?_
      refine V_iconst C dX6_sumByCarries_21 ?_
      refine V_V1 (k2 := 0) (s2 := 0) C dX6_sumByCarries_22 lX6_68 kX6_goes (Ct_v (v' := 0) rfl (c_X6_goes G _ r false true true)) (by decide) (rfl) rfl rfl rfl ⟨Nat.le_of_ble_eq_true rfl, Nat.le_of_ble_eq_true rfl⟩ (Nat.le_of_ble_eq_true rfl) (Nat.le_refl _) (Nat.le_refl _) ?_
      refine V_if_eq (tgt := 53) C dX6_sumByCarries_25 (by decide) (by omega) (fun q25 => ?_) (fun q25 => by exfalso; omega)
      refine V_iconst C dX6_sumByCarries_53 ?_
      exact V_iret C dX6_sumByCarries_54 rfl hZ (by first | rfl | omega) rfl
  · skip
    refine V_aload_n C dX6_sumByCarries_0 rfl rfl ?_
    refine V_iload_n C dX6_sumByCarries_1 rfl rfl ?_
    refine V_S1 (k2 := 0) (s2 := 0) C dX6_sumByCarries_2 lX6_62 kX6_isStall (Ct_v (b2n (show ¬ (0 ≤ p ∧ p ≤ 5) from by omega)) (c_X6_isStall p (by omega) G 34 false _)) rfl rfl ⟨Nat.le_of_ble_eq_true rfl, Nat.le_of_ble_eq_true rfl⟩ (Nat.le_of_ble_eq_true rfl) (Nat.le_refl _) (Nat.le_refl _) ?_
    refine V_if_eq (tgt := 19) C dX6_sumByCarries_5 (by decide) (by omega) (fun q5 => ?_) (fun q5 => by exfalso; omega)
    refine V_iconst C dX6_sumByCarries_19 ?_
    refine V_iconst C dX6_sumByCarries_20 ?_
    refine V_iconst C dX6_sumByCarries_21 ?_
    refine V_V1 (k2 := 0) (s2 := 0) C dX6_sumByCarries_22 lX6_68 kX6_goes (Ct_v (v' := 0) rfl (c_X6_goes G _ r false true true)) (by decide) (rfl) rfl rfl rfl ⟨Nat.le_of_ble_eq_true rfl, Nat.le_of_ble_eq_true rfl⟩ (Nat.le_of_ble_eq_true rfl) (Nat.le_refl _) (Nat.le_refl _) ?_
    refine V_if_eq (tgt := 53) C dX6_sumByCarries_25 (by decide) (by omega) (fun q25 => ?_) (fun q25 => by exfalso; omega)
    refine V_iconst C dX6_sumByCarries_53 ?_
    exact V_iret C dX6_sumByCarries_54 rfl hZ (by first | rfl | omega) rfl
set_option maxRecDepth 100000 in
set_option maxHeartbeats 4000000 in
theorem c_X6_sumByCarries (G : GT) (K : Nat → Nat → Int) (r : Nat → Option Nat) (hG : GZ (K 29))(p : Int) (hp : -2147483648 ≤ p ∧ p < 2147483648) (q : Int) (hq : -2147483648 ≤ q ∧ q < 2147483648) (hc : (0 ≤ p ∧ p ≤ 5) ∧ 0 ≤ q ∧ q ≤ 5) : CtO G yX6_sumByCarries mX6_sumByCarries [rf G 28, .int (iI p), .int (iI q)] K r (some (.int (iI (mkN (adE (gm 18 (K 29 p.toNat).toNat) (gm 18 (K 29 q.toNat).toNat)) 22 : Nat)))) ((us (us (kT K 0) 31 (adE (gm 18 (K 29 p.toNat).toNat) (gm 18 (K 29 q.toNat).toNat))) 28 (us (kT K 0 28) 10 (adC (gm 18 (K 29 p.toNat).toNat) (gm 18 (K 29 q.toNat).toNat) : Nat)))) (r) := by
  refine Ct_of kX6_sumByCarries.1.1 (by decide) [some (rf G 28), some (.int (iI p)), some (.int (iI q))] rfl (Nat.le_of_ble_eq_true rfl) ?_
  intro x C hZ
  have g5 := hG.1
  have gp := g5 p.toNat (by omega)
  have gq := g5 q.toNat (by omega)
  have w1 := wo_gm (n := (K 29 p.toNat).toNat) (by omega)
  have w2 := wo_gm (n := (K 29 q.toNat).toNat) (by omega)
  have m1 := gm_18 (K 29 p.toNat).toNat
  have m2 := gm_18 (K 29 q.toNat).toNat
  refine V_aload_n C dX6_sumByCarries_0 rfl rfl ?_
  refine V_iload_n C dX6_sumByCarries_1 rfl rfl ?_
  refine V_S1 (k2 := 0) (s2 := 0) C dX6_sumByCarries_2 lX6_62 kX6_isStall (Ct_v (b2y (show 0 ≤ p ∧ p ≤ 5 from by omega)) (c_X6_isStall p (by omega) G 34 false _)) rfl rfl ⟨Nat.le_of_ble_eq_true rfl, Nat.le_of_ble_eq_true rfl⟩ (Nat.le_of_ble_eq_true rfl) (Nat.le_refl _) (Nat.le_refl _) ?_
  refine V_if_eq (tgt := 19) C dX6_sumByCarries_5 (by decide) (by omega) (fun q5 => by exfalso; omega) (fun q5 => ?_)
  refine V_iload_n C dX6_sumByCarries_8 rfl rfl ?_
  refine V_S1 (k2 := 0) (s2 := 0) C dX6_sumByCarries_9 lX6_62 kX6_isStall (Ct_v (b2y (show 0 ≤ q ∧ q ≤ 5 from by omega)) (c_X6_isStall q (by omega) G 34 false _)) rfl rfl ⟨Nat.le_of_ble_eq_true rfl, Nat.le_of_ble_eq_true rfl⟩ (Nat.le_of_ble_eq_true rfl) (Nat.le_refl _) (Nat.le_refl _) ?_
  refine V_if_eq (tgt := 19) C dX6_sumByCarries_12 (by decide) (by omega) (fun q12 => by exfalso; omega) (fun q12 => ?_)
  refine V_iconst C dX6_sumByCarries_15 ?_
  refine V_goto (tgt := 20) C dX6_sumByCarries_16 (by decide) ?_
  refine V_iconst C dX6_sumByCarries_20 ?_
  refine V_iconst C dX6_sumByCarries_21 ?_
  refine V_V1 (k2 := 0) (s2 := 0) C dX6_sumByCarries_22 lX6_68 kX6_goes (Ct_v (v' := 1) rfl (c_X6_goes G _ r true true true)) (by decide) (rfl) rfl rfl rfl ⟨Nat.le_of_ble_eq_true rfl, Nat.le_of_ble_eq_true rfl⟩ (Nat.le_of_ble_eq_true rfl) (Nat.le_refl _) (Nat.le_refl _) ?_
  refine V_if_eq (tgt := 53) C dX6_sumByCarries_25 (by decide) (by omega) (fun q25 => by exfalso; omega) (fun q25 => ?_)
  refine V_aload_n C dX6_sumByCarries_28 rfl rfl ?_
  refine V_aload_n C dX6_sumByCarries_29 rfl rfl ?_
  refine V_getH (L := mOl G) C dX6_sumByCarries_30 fX6_7 (by decide) (fun _ => rfl) rfl ?_
  refine V_iload_n C dX6_sumByCarries_33 rfl rfl ?_
  refine V_ialdH C dX6_sumByCarries_34 (by decide) (fun _ => rfl) (by omega) (by decide) ?_
  rw [kT_29]
  refine V_S1 (k2 := 0) (s2 := 0) C dX6_sumByCarries_35 lX6_40 kX6_said (i_X6_said G 34 false _ _ gp) rfl rfl ⟨Nat.le_of_ble_eq_true rfl, Nat.le_of_ble_eq_true rfl⟩ (Nat.le_of_ble_eq_true rfl) (Nat.le_refl _) (Nat.le_refl _) ?_
  refine V_aload_n C dX6_sumByCarries_38 rfl rfl ?_
  refine V_getH (L := mOl G) C dX6_sumByCarries_39 fX6_7 (by decide) (fun _ => rfl) rfl ?_
  refine V_iload_n C dX6_sumByCarries_42 rfl rfl ?_
  refine V_ialdH C dX6_sumByCarries_43 (by decide) (fun _ => rfl) (by omega) (by decide) ?_
  rw [kT_29]
  refine V_S1 (k2 := 0) (s2 := 0) C dX6_sumByCarries_44 lX6_40 kX6_said (i_X6_said G 34 false _ _ gq) rfl rfl ⟨Nat.le_of_ble_eq_true rfl, Nat.le_of_ble_eq_true rfl⟩ (Nat.le_of_ble_eq_true rfl) (Nat.le_refl _) (Nat.le_refl _) ?_
  refine V_V1 (k2 := 0) (s2 := 0) C dX6_sumByCarries_47 lX6_75 kX6_adds (c_X6_adds G (kT K 0) r (gm 18 (K 29 p.toNat).toNat) (gm 18 (K 29 q.toNat).toNat) m1 m2 (by omega)) (by decide) (rfl) rfl rfl rfl ⟨Nat.le_of_ble_eq_true rfl, Nat.le_of_ble_eq_true rfl⟩ (Nat.le_of_ble_eq_true rfl) (Nat.le_refl _) (Nat.le_refl _) ?_
  refine V_goto (tgt := 54) C dX6_sumByCarries_50 (by decide) ?_
  exact V_iret C dX6_sumByCarries_54 rfl hZ (by first | rfl | omega) rfl
set_option maxRecDepth 100000 in
set_option maxHeartbeats 4000000 in
theorem m_X6_carries (G : GT) (K : Nat → Nat → Int) (r : Nat → Option Nat) (p : Int) (hp : -2147483648 ≤ p ∧ p < 2147483648) (q : Int) (hq : -2147483648 ≤ q ∧ q < 2147483648) (hc : ¬ ((0 ≤ p ∧ p ≤ 5) ∧ 0 ≤ q ∧ q ≤ 5)) : CtO G yX6_carries mX6_carries [rf G 28, .int (iI p), .int (iI q)] K r (some (.int (iI 0))) (kT K 1) (r) := by
  refine Ct_of kX6_carries.1.1 (by decide) [some (rf G 28), some (.int (iI p)), some (.int (iI q))] rfl (Nat.le_of_ble_eq_true rfl) ?_
  intro x C hZ
  by_cases c1 : 0 ≤ p ∧ p ≤ 5
  · by_cases c2 : 0 ≤ q ∧ q ≤ 5
    · exact absurd ⟨c1, c2⟩ hc
    · skip
      refine V_aload_n C dX6_carries_0 rfl rfl ?_
      refine V_iload_n C dX6_carries_1 rfl rfl ?_
      refine V_S1 (k2 := 0) (s2 := 0) C dX6_carries_2 lX6_62 kX6_isStall (Ct_v (b2y (show 0 ≤ p ∧ p ≤ 5 from by omega)) (c_X6_isStall p (by omega) G 34 false _)) rfl rfl ⟨Nat.le_of_ble_eq_true rfl, Nat.le_of_ble_eq_true rfl⟩ (Nat.le_of_ble_eq_true rfl) (Nat.le_refl _) (Nat.le_refl _) ?_
      refine V_if_eq (tgt := 19) C dX6_carries_5 (by decide) (by omega) (fun q5 => by exfalso; omega) (fun q5 => ?_)
      refine V_iload_n C dX6_carries_8 rfl rfl ?_
      refine V_S1 (k2 := 0) (s2 := 0) C dX6_carries_9 lX6_62 kX6_isStall (Ct_v (b2n (show ¬ (0 ≤ q ∧ q ≤ 5) from by omega)) (c_X6_isStall q (by omega) G 34 false _)) rfl rfl ⟨Nat.le_of_ble_eq_true rfl, Nat.le_of_ble_eq_true rfl⟩ (Nat.le_of_ble_eq_true rfl) (Nat.le_refl _) (Nat.le_refl _) ?_
      refine V_if_eq (tgt := 19) C dX6_carries_12 (by decide) (by omega) (fun q12 => ?_) (fun q12 => by exfalso; omega)
      refine V_iconst C dX6_carries_19 ?_
      refine V_iconst C dX6_carries_20 ?_
      refine V_iconst C dX6_carries_21 ?_
      refine V_V1 (k2 := 0) (s2 := 0) C dX6_carries_22 lX6_68 kX6_goes (Ct_v (v' := 0) rfl (c_X6_goes G _ r false true true)) (by decide) (rfl) rfl rfl rfl ⟨Nat.le_of_ble_eq_true rfl, Nat.le_of_ble_eq_true rfl⟩ (Nat.le_of_ble_eq_true rfl) (Nat.le_refl _) (Nat.le_refl _) ?_
      refine V_if_ne (tgt := 30) C dX6_carries_25 (by decide) (by omega) (fun q25 => by exfalso; omega) (fun q25 => ?_)
      refine V_iconst C dX6_carries_28 ?_
      exact V_iret C dX6_carries_29 rfl hZ (by first | rfl | omega) rfl
  · skip
    refine V_aload_n C dX6_carries_0 rfl rfl ?_
    refine V_iload_n C dX6_carries_1 rfl rfl ?_
    refine V_S1 (k2 := 0) (s2 := 0) C dX6_carries_2 lX6_62 kX6_isStall (Ct_v (b2n (show ¬ (0 ≤ p ∧ p ≤ 5) from by omega)) (c_X6_isStall p (by omega) G 34 false _)) rfl rfl ⟨Nat.le_of_ble_eq_true rfl, Nat.le_of_ble_eq_true rfl⟩ (Nat.le_of_ble_eq_true rfl) (Nat.le_refl _) (Nat.le_refl _) ?_
    refine V_if_eq (tgt := 19) C dX6_carries_5 (by decide) (by omega) (fun q5 => ?_) (fun q5 => by exfalso; omega)
    refine V_iconst C dX6_carries_19 ?_
    refine V_iconst C dX6_carries_20 ?_
    refine V_iconst C dX6_carries_21 ?_
    refine V_V1 (k2 := 0) (s2 := 0) C dX6_carries_22 lX6_68 kX6_goes (Ct_v (v' := 0) rfl (c_X6_goes G _ r false true true)) (by decide) (rfl) rfl rfl rfl ⟨Nat.le_of_ble_eq_true rfl, Nat.le_of_ble_eq_true rfl⟩ (Nat.le_of_ble_eq_true rfl) (Nat.le_refl _) (Nat.le_refl _) ?_
    refine V_if_ne (tgt := 30) C dX6_carries_25 (by decide) (by omega) (fun q25 => by exfalso; omega) (fun q25 => ?_)
    refine V_iconst C dX6_carries_28 ?_
    exact V_iret C dX6_carries_29 rfl hZ (by first | rfl | omega) rfl
set_option maxRecDepth 100000 in
set_option maxHeartbeats 4000000 in
theorem c_X6_carries (G : GT) (K : Nat → Nat → Int) (r : Nat → Option Nat) (hG : GZ (K 29))(p : Int) (hp : -2147483648 ≤ p ∧ p < 2147483648) (q : Int) (hq : -2147483648 ≤ q ∧ q < 2147483648) (hc : (0 ≤ p ∧ p ≤ 5) ∧ 0 ≤ q ∧ q ≤ 5) : CtO G yX6_carries mX6_carries [rf G 28, .int (iI p), .int (iI q)] K r (some (.int (iI (adC (gm 18 (K 29 p.toNat).toNat) (gm 18 (K 29 q.toNat).toNat) : Nat)))) ((us (us (kT K 0) 31 (adE (gm 18 (K 29 p.toNat).toNat) (gm 18 (K 29 q.toNat).toNat))) 28 (us (kT K 0 28) 10 (adC (gm 18 (K 29 p.toNat).toNat) (gm 18 (K 29 q.toNat).toNat) : Nat)))) (r) := by
  refine Ct_of kX6_carries.1.1 (by decide) [some (rf G 28), some (.int (iI p)), some (.int (iI q))] rfl (Nat.le_of_ble_eq_true rfl) ?_
  intro x C hZ
  have g5 := hG.1
  have gp := g5 p.toNat (by omega)
  have gq := g5 q.toNat (by omega)
  have w1 := wo_gm (n := (K 29 p.toNat).toNat) (by omega)
  have w2 := wo_gm (n := (K 29 q.toNat).toNat) (by omega)
  have m1 := gm_18 (K 29 p.toNat).toNat
  have m2 := gm_18 (K 29 q.toNat).toNat
  refine V_aload_n C dX6_carries_0 rfl rfl ?_
  refine V_iload_n C dX6_carries_1 rfl rfl ?_
  refine V_S1 (k2 := 0) (s2 := 0) C dX6_carries_2 lX6_62 kX6_isStall (Ct_v (b2y (show 0 ≤ p ∧ p ≤ 5 from by omega)) (c_X6_isStall p (by omega) G 34 false _)) rfl rfl ⟨Nat.le_of_ble_eq_true rfl, Nat.le_of_ble_eq_true rfl⟩ (Nat.le_of_ble_eq_true rfl) (Nat.le_refl _) (Nat.le_refl _) ?_
  refine V_if_eq (tgt := 19) C dX6_carries_5 (by decide) (by omega) (fun q5 => by exfalso; omega) (fun q5 => ?_)
  refine V_iload_n C dX6_carries_8 rfl rfl ?_
  refine V_S1 (k2 := 0) (s2 := 0) C dX6_carries_9 lX6_62 kX6_isStall (Ct_v (b2y (show 0 ≤ q ∧ q ≤ 5 from by omega)) (c_X6_isStall q (by omega) G 34 false _)) rfl rfl ⟨Nat.le_of_ble_eq_true rfl, Nat.le_of_ble_eq_true rfl⟩ (Nat.le_of_ble_eq_true rfl) (Nat.le_refl _) (Nat.le_refl _) ?_
  refine V_if_eq (tgt := 19) C dX6_carries_12 (by decide) (by omega) (fun q12 => by exfalso; omega) (fun q12 => ?_)
  refine V_iconst C dX6_carries_15 ?_
  refine V_goto (tgt := 20) C dX6_carries_16 (by decide) ?_
  refine V_iconst C dX6_carries_20 ?_
  refine V_iconst C dX6_carries_21 ?_
  refine V_V1 (k2 := 0) (s2 := 0) C dX6_carries_22 lX6_68 kX6_goes (Ct_v (v' := 1) rfl (c_X6_goes G _ r true true true)) (by decide) (rfl) rfl rfl rfl ⟨Nat.le_of_ble_eq_true rfl, Nat.le_of_ble_eq_true rfl⟩ (Nat.le_of_ble_eq_true rfl) (Nat.le_refl _) (Nat.le_refl _) ?_
  refine V_if_ne (tgt := 30) C dX6_carries_25 (by decide) (by omega) (fun q25 => ?_) (fun q25 => by exfalso; omega)
  refine V_aload_n C dX6_carries_30 rfl rfl ?_
  refine V_aload_n C dX6_carries_31 rfl rfl ?_
  refine V_getH (L := mOl G) C dX6_carries_32 fX6_7 (by decide) (fun _ => rfl) rfl ?_
  refine V_iload_n C dX6_carries_35 rfl rfl ?_
  refine V_ialdH C dX6_carries_36 (by decide) (fun _ => rfl) (by omega) (by decide) ?_
  rw [kT_29]
  refine V_S1 (k2 := 0) (s2 := 0) C dX6_carries_37 lX6_40 kX6_said (i_X6_said G 34 false _ _ gp) rfl rfl ⟨Nat.le_of_ble_eq_true rfl, Nat.le_of_ble_eq_true rfl⟩ (Nat.le_of_ble_eq_true rfl) (Nat.le_refl _) (Nat.le_refl _) ?_
  refine V_aload_n C dX6_carries_40 rfl rfl ?_
  refine V_getH (L := mOl G) C dX6_carries_41 fX6_7 (by decide) (fun _ => rfl) rfl ?_
  refine V_iload_n C dX6_carries_44 rfl rfl ?_
  refine V_ialdH C dX6_carries_45 (by decide) (fun _ => rfl) (by omega) (by decide) ?_
  rw [kT_29]
  refine V_S1 (k2 := 0) (s2 := 0) C dX6_carries_46 lX6_40 kX6_said (i_X6_said G 34 false _ _ gq) rfl rfl ⟨Nat.le_of_ble_eq_true rfl, Nat.le_of_ble_eq_true rfl⟩ (Nat.le_of_ble_eq_true rfl) (Nat.le_refl _) (Nat.le_refl _) ?_
  refine V_V1 (k2 := 0) (s2 := 0) C dX6_carries_49 lX6_75 kX6_adds (c_X6_adds G (kT K 0) r (gm 18 (K 29 p.toNat).toNat) (gm 18 (K 29 q.toNat).toNat) m1 m2 (by omega)) (by decide) (rfl) rfl rfl rfl ⟨Nat.le_of_ble_eq_true rfl, Nat.le_of_ble_eq_true rfl⟩ (Nat.le_of_ble_eq_true rfl) (Nat.le_refl _) (Nat.le_refl _) ?_
  refine V_pop C dX6_carries_52 rfl ?_
  refine V_aload_n C dX6_carries_53 rfl rfl ?_
  refine V_getH (L := mOl G) C dX6_carries_54 fX6_50 (by decide) (fun _ => rfl) rfl ?_
  exact V_iret C dX6_carries_57 rfl hZ (by first | rfl | omega) rfl
set_option maxRecDepth 100000 in
set_option maxHeartbeats 4000000 in
theorem m_X6_add (G : GT) (K : Nat → Nat → Int) (r : Nat → Option Nat) (p : Int) (hp : -2147483648 ≤ p ∧ p < 2147483648) (q : Int) (hq : -2147483648 ≤ q ∧ q < 2147483648) (hc : ¬ ((0 ≤ p ∧ p ≤ 5) ∧ 0 ≤ q ∧ q ≤ 5)) : CtO G yX6_add mX6_add [rf G 28, .int (iI p), .int (iI q)] K r (some (.int (iI 0))) (kT K 1) (r) := by
  refine Ct_of kX6_add.1.1 (by decide) [some (rf G 28), some (.int (iI p)), some (.int (iI q)), none] rfl (Nat.le_of_ble_eq_true rfl) ?_
  intro x C hZ
  by_cases c1 : 0 ≤ p ∧ p ≤ 5
  · by_cases c2 : 0 ≤ q ∧ q ≤ 5
    · exact absurd ⟨c1, c2⟩ hc
    · skip
      refine V_iload_n C dX6_add_0 rfl rfl ?_
      refine V_S1 (k2 := 0) (s2 := 0) C dX6_add_1 lX6_62 kX6_isStall (Ct_v (b2y (show 0 ≤ p ∧ p ≤ 5 from by omega)) (c_X6_isStall p (by omega) G 34 false _)) rfl rfl ⟨Nat.le_of_ble_eq_true rfl, Nat.le_of_ble_eq_true rfl⟩ (Nat.le_of_ble_eq_true rfl) (Nat.le_refl _) (Nat.le_refl _) ?_
      refine V_if_eq (tgt := 18) C dX6_add_4 (by decide) (by omega) (fun q4 => by exfalso; omega) (fun q4 => ?_)
      refine V_iload_n C dX6_add_7 rfl rfl ?_
      refine V_S1 (k2 := 0) (s2 := 0) C dX6_add_8 lX6_62 kX6_isStall (Ct_v (b2n (show ¬ (0 ≤ q ∧ q ≤ 5) from by omega)) (c_X6_isStall q (by omega) G 34 false _)) rfl rfl ⟨Nat.le_of_ble_eq_true rfl, Nat.le_of_ble_eq_true rfl⟩ (Nat.le_of_ble_eq_true rfl) (Nat.le_refl _) (Nat.le_refl _) ?_
      refine V_if_eq (tgt := 18) C dX6_add_11 (by decide) (by omega) (fun q11 => ?_) (fun q11 => by exfalso; omega)
      refine V_iconst C dX6_add_18 ?_
      refine V_istore_n C dX6_add_19 rfl (Nat.le_of_ble_eq_true rfl) rfl ?_
      refine V_aload_n C dX6_add_20 rfl rfl ?_
      refine V_iload_n C dX6_add_21 rfl rfl ?_
      refine V_iload_n C dX6_add_22 rfl rfl ?_
      refine V_if_eq (tgt := 49) C dX6_add_23 (by decide) (by omega) (fun q23 => ?_) (fun q23 => by exfalso; omega)
      refine V_iconst C dX6_add_49 ?_
      refine V_iconst C dX6_add_50 ?_
      refine V_V1 (k2 := 0) (s2 := 0) C dX6_add_51 lX6_68 kX6_goes (Ct_v (v' := 0) rfl (c_X6_goes G _ r false false true)) (by decide) (rfl) rfl rfl rfl ⟨Nat.le_of_ble_eq_true rfl, Nat.le_of_ble_eq_true rfl⟩ (Nat.le_of_ble_eq_true rfl) (Nat.le_refl _) (Nat.le_refl _) ?_
      refine V_if_ne (tgt := 59) C dX6_add_54 (by decide) (by omega) (fun q54 => by exfalso; omega) (fun q54 => ?_)
      refine V_iconst C dX6_add_57 ?_
      exact V_iret C dX6_add_58 rfl hZ (by first | rfl | omega) rfl
  · skip
    refine V_iload_n C dX6_add_0 rfl rfl ?_
    refine V_S1 (k2 := 0) (s2 := 0) C dX6_add_1 lX6_62 kX6_isStall (Ct_v (b2n (show ¬ (0 ≤ p ∧ p ≤ 5) from by omega)) (c_X6_isStall p (by omega) G 34 false _)) rfl rfl ⟨Nat.le_of_ble_eq_true rfl, Nat.le_of_ble_eq_true rfl⟩ (Nat.le_of_ble_eq_true rfl) (Nat.le_refl _) (Nat.le_refl _) ?_
    refine V_if_eq (tgt := 18) C dX6_add_4 (by decide) (by omega) (fun q4 => ?_) (fun q4 => by exfalso; omega)
    refine V_iconst C dX6_add_18 ?_
    refine V_istore_n C dX6_add_19 rfl (Nat.le_of_ble_eq_true rfl) rfl ?_
    refine V_aload_n C dX6_add_20 rfl rfl ?_
    refine V_iload_n C dX6_add_21 rfl rfl ?_
    refine V_iload_n C dX6_add_22 rfl rfl ?_
    refine V_if_eq (tgt := 49) C dX6_add_23 (by decide) (by omega) (fun q23 => ?_) (fun q23 => by exfalso; omega)
    refine V_iconst C dX6_add_49 ?_
    refine V_iconst C dX6_add_50 ?_
    refine V_V1 (k2 := 0) (s2 := 0) C dX6_add_51 lX6_68 kX6_goes (Ct_v (v' := 0) rfl (c_X6_goes G _ r false false true)) (by decide) (rfl) rfl rfl rfl ⟨Nat.le_of_ble_eq_true rfl, Nat.le_of_ble_eq_true rfl⟩ (Nat.le_of_ble_eq_true rfl) (Nat.le_refl _) (Nat.le_refl _) ?_
    refine V_if_ne (tgt := 59) C dX6_add_54 (by decide) (by omega) (fun q54 => by exfalso; omega) (fun q54 => ?_)
    refine V_iconst C dX6_add_57 ?_
    exact V_iret C dX6_add_58 rfl hZ (by first | rfl | omega) rfl
set_option maxRecDepth 100000 in
set_option maxHeartbeats 4000000 in
theorem n_X6_add (G : GT) (K : Nat → Nat → Int) (r : Nat → Option Nat) (hG : GZ (K 29))(p : Int) (hp : -2147483648 ≤ p ∧ p < 2147483648) (q : Int) (hq : -2147483648 ≤ q ∧ q < 2147483648) (hc : (0 ≤ p ∧ p ≤ 5) ∧ 0 ≤ q ∧ q ≤ 5) (hd : ¬ (K 29 p.toNat + K 29 q.toNat ≤ 6764)) : CtO G yX6_add mX6_add [rf G 28, .int (iI p), .int (iI q)] K r (some (.int (iI 0))) (kT K 2) (r) := by
  refine Ct_of kX6_add.1.1 (by decide) [some (rf G 28), some (.int (iI p)), some (.int (iI q)), none] rfl (Nat.le_of_ble_eq_true rfl) ?_
  intro x C hZ
  have g5 := hG.1
  have gp := g5 p.toNat (by omega)
  have gq := g5 q.toNat (by omega)
  have w1 := wo_gm (n := (K 29 p.toNat).toNat) (by omega)
  have w2 := wo_gm (n := (K 29 q.toNat).toNat) (by omega)
  have m1 := gm_18 (K 29 p.toNat).toNat
  have m2 := gm_18 (K 29 q.toNat).toNat
  refine V_iload_n C dX6_add_0 rfl rfl ?_
  refine V_S1 (k2 := 0) (s2 := 0) C dX6_add_1 lX6_62 kX6_isStall (Ct_v (b2y (show 0 ≤ p ∧ p ≤ 5 from by omega)) (c_X6_isStall p (by omega) G 34 false _)) rfl rfl ⟨Nat.le_of_ble_eq_true rfl, Nat.le_of_ble_eq_true rfl⟩ (Nat.le_of_ble_eq_true rfl) (Nat.le_refl _) (Nat.le_refl _) ?_
  refine V_if_eq (tgt := 18) C dX6_add_4 (by decide) (by omega) (fun q4 => by exfalso; omega) (fun q4 => ?_)
  refine V_iload_n C dX6_add_7 rfl rfl ?_
  refine V_S1 (k2 := 0) (s2 := 0) C dX6_add_8 lX6_62 kX6_isStall (Ct_v (b2y (show 0 ≤ q ∧ q ≤ 5 from by omega)) (c_X6_isStall q (by omega) G 34 false _)) rfl rfl ⟨Nat.le_of_ble_eq_true rfl, Nat.le_of_ble_eq_true rfl⟩ (Nat.le_of_ble_eq_true rfl) (Nat.le_refl _) (Nat.le_refl _) ?_
  refine V_if_eq (tgt := 18) C dX6_add_11 (by decide) (by omega) (fun q11 => by exfalso; omega) (fun q11 => ?_)
  refine V_iconst C dX6_add_14 ?_
  refine V_goto (tgt := 19) C dX6_add_15 (by decide) ?_
  refine V_istore_n C dX6_add_19 rfl (Nat.le_of_ble_eq_true rfl) rfl ?_
  refine V_aload_n C dX6_add_20 rfl rfl ?_
  refine V_iload_n C dX6_add_21 rfl rfl ?_
  refine V_iload_n C dX6_add_22 rfl rfl ?_
  refine V_if_eq (tgt := 49) C dX6_add_23 (by decide) (by omega) (fun q23 => by exfalso; omega) (fun q23 => ?_)
  refine V_aload_n C dX6_add_26 rfl rfl ?_
  refine V_getH (L := mOl G) C dX6_add_27 fX6_7 (by decide) (fun _ => rfl) rfl ?_
  refine V_iload_n C dX6_add_30 rfl rfl ?_
  refine V_ialdH C dX6_add_31 (by decide) (fun _ => rfl) (by omega) (by decide) ?_
  refine V_aload_n C dX6_add_32 rfl rfl ?_
  refine V_getH (L := mOl G) C dX6_add_33 fX6_7 (by decide) (fun _ => rfl) rfl ?_
  refine V_iload_n C dX6_add_36 rfl rfl ?_
  refine V_ialdH C dX6_add_37 (by decide) (fun _ => rfl) (by omega) (by decide) ?_
  refine V_iadd C dX6_add_38 ?_
  refine V_sipush C dX6_add_39 (by decide +kernel) ?_
  refine V_icmp_gt (tgt := 49) C dX6_add_42 (by decide) (by omega) (by omega) (fun q42 => ?_) (fun q42 => by exfalso; omega)
  refine V_iconst C dX6_add_49 ?_
  refine V_iconst C dX6_add_50 ?_
  refine V_V1 (k2 := 0) (s2 := 0) C dX6_add_51 lX6_68 kX6_goes (Ct_v (v' := 0) rfl (c_X6_goes G _ r true false true)) (by decide) (rfl) rfl rfl rfl ⟨Nat.le_of_ble_eq_true rfl, Nat.le_of_ble_eq_true rfl⟩ (Nat.le_of_ble_eq_true rfl) (Nat.le_refl _) (Nat.le_refl _) ?_
  refine V_if_ne (tgt := 59) C dX6_add_54 (by decide) (by omega) (fun q54 => by exfalso; omega) (fun q54 => ?_)
  refine V_iconst C dX6_add_57 ?_
  exact V_iret C dX6_add_58 rfl hZ (by first | rfl | omega) rfl
set_option maxRecDepth 100000 in
set_option maxHeartbeats 4000000 in
theorem c_X6_add (G : GT) (K : Nat → Nat → Int) (r : Nat → Option Nat) (st : Nat) (hs : st ≤ 5) (hst : K 28 1 = st)(hG : GZ (K 29))(p : Int) (hp : -2147483648 ≤ p ∧ p < 2147483648) (q : Int) (hq : -2147483648 ≤ q ∧ q < 2147483648) (hc : (0 ≤ p ∧ p ≤ 5) ∧ 0 ≤ q ∧ q ≤ 5) (hd : K 29 p.toNat + K 29 q.toNat ≤ 6764) : CtO G yX6_add mX6_add [rf G 28, .int (iI p), .int (iI q)] K r (some (.int (iI (adC (gm 18 (K 29 p.toNat).toNat) (gm 18 (K 29 q.toNat).toNat) : Nat)))) (us (us (us (kS (kT K 0) st) 31 (adE (gm 18 (K 29 p.toNat).toNat) (gm 18 (K 29 q.toNat).toNat))) 28 (us ((kS (kT K 0) st) 28) 10 (adC (gm 18 (K 29 p.toNat).toNat) (gm 18 (K 29 q.toNat).toNat) : Nat))) 29 (us ((us (us (kS (kT K 0) st) 31 (adE (gm 18 (K 29 p.toNat).toNat) (gm 18 (K 29 q.toNat).toNat))) 28 (us ((kS (kT K 0) st) 28) 10 (adC (gm 18 (K 29 p.toNat).toNat) (gm 18 (K 29 q.toNat).toNat) : Nat))) 29) p.toNat (K 29 p.toNat + K 29 q.toNat))) (r) := by
  refine Ct_of kX6_add.1.1 (by decide) [some (rf G 28), some (.int (iI p)), some (.int (iI q)), none] rfl (Nat.le_of_ble_eq_true rfl) ?_
  intro x C hZ
  have g5 := hG.1
  have gp := g5 p.toNat (by omega)
  have gq := g5 q.toNat (by omega)
  have w1 := wo_gm (n := (K 29 p.toNat).toNat) (by omega)
  have w2 := wo_gm (n := (K 29 q.toNat).toNat) (by omega)
  have m1 := gm_18 (K 29 p.toNat).toNat
  have m2 := gm_18 (K 29 q.toNat).toNat
  refine V_iload_n C dX6_add_0 rfl rfl ?_
  refine V_S1 (k2 := 0) (s2 := 0) C dX6_add_1 lX6_62 kX6_isStall (Ct_v (b2y (show 0 ≤ p ∧ p ≤ 5 from by omega)) (c_X6_isStall p (by omega) G 34 false _)) rfl rfl ⟨Nat.le_of_ble_eq_true rfl, Nat.le_of_ble_eq_true rfl⟩ (Nat.le_of_ble_eq_true rfl) (Nat.le_refl _) (Nat.le_refl _) ?_
  refine V_if_eq (tgt := 18) C dX6_add_4 (by decide) (by omega) (fun q4 => by exfalso; omega) (fun q4 => ?_)
  refine V_iload_n C dX6_add_7 rfl rfl ?_
  refine V_S1 (k2 := 0) (s2 := 0) C dX6_add_8 lX6_62 kX6_isStall (Ct_v (b2y (show 0 ≤ q ∧ q ≤ 5 from by omega)) (c_X6_isStall q (by omega) G 34 false _)) rfl rfl ⟨Nat.le_of_ble_eq_true rfl, Nat.le_of_ble_eq_true rfl⟩ (Nat.le_of_ble_eq_true rfl) (Nat.le_refl _) (Nat.le_refl _) ?_
  refine V_if_eq (tgt := 18) C dX6_add_11 (by decide) (by omega) (fun q11 => by exfalso; omega) (fun q11 => ?_)
  refine V_iconst C dX6_add_14 ?_
  refine V_goto (tgt := 19) C dX6_add_15 (by decide) ?_
  refine V_istore_n C dX6_add_19 rfl (Nat.le_of_ble_eq_true rfl) rfl ?_
  refine V_aload_n C dX6_add_20 rfl rfl ?_
  refine V_iload_n C dX6_add_21 rfl rfl ?_
  refine V_iload_n C dX6_add_22 rfl rfl ?_
  refine V_if_eq (tgt := 49) C dX6_add_23 (by decide) (by omega) (fun q23 => by exfalso; omega) (fun q23 => ?_)
  refine V_aload_n C dX6_add_26 rfl rfl ?_
  refine V_getH (L := mOl G) C dX6_add_27 fX6_7 (by decide) (fun _ => rfl) rfl ?_
  refine V_iload_n C dX6_add_30 rfl rfl ?_
  refine V_ialdH C dX6_add_31 (by decide) (fun _ => rfl) (by omega) (by decide) ?_
  refine V_aload_n C dX6_add_32 rfl rfl ?_
  refine V_getH (L := mOl G) C dX6_add_33 fX6_7 (by decide) (fun _ => rfl) rfl ?_
  refine V_iload_n C dX6_add_36 rfl rfl ?_
  refine V_ialdH C dX6_add_37 (by decide) (fun _ => rfl) (by omega) (by decide) ?_
  refine V_iadd C dX6_add_38 ?_
  refine V_sipush C dX6_add_39 (by decide +kernel) ?_
  refine V_icmp_gt (tgt := 49) C dX6_add_42 (by decide) (by omega) (by omega) (fun q42 => by exfalso; omega) (fun q42 => ?_)
  refine V_iconst C dX6_add_45 ?_
  refine V_goto (tgt := 50) C dX6_add_46 (by decide) ?_
  refine V_iconst C dX6_add_50 ?_
  refine V_V1 (k2 := 0) (s2 := 0) C dX6_add_51 lX6_68 kX6_goes (Ct_v (v' := 1) rfl (c_X6_goes G _ r true true true)) (by decide) (rfl) rfl rfl rfl ⟨Nat.le_of_ble_eq_true rfl, Nat.le_of_ble_eq_true rfl⟩ (Nat.le_of_ble_eq_true rfl) (Nat.le_refl _) (Nat.le_refl _) ?_
  refine V_if_ne (tgt := 59) C dX6_add_54 (by decide) (by omega) (fun q54 => ?_) (fun q54 => by exfalso; omega)
  refine V_aload_n C dX6_add_59 rfl rfl ?_
  refine V_V0 (k2 := 0) (s2 := 0) C dX6_add_60 lX6_72 kX6_saves (s_X6_saves G (kT K 0) r st hs hst) (by decide) (rfl) rfl rfl rfl ⟨Nat.le_of_ble_eq_true rfl, Nat.le_of_ble_eq_true rfl⟩ (Nat.le_of_ble_eq_true rfl) (Nat.le_refl _) (Nat.le_refl _) ?_
  refine V_aload_n C dX6_add_63 rfl rfl ?_
  refine V_aload_n C dX6_add_64 rfl rfl ?_
  refine V_getH (L := mOl G) C dX6_add_65 fX6_7 (by decide) (fun _ => rfl) rfl ?_
  refine V_iload_n C dX6_add_68 rfl rfl ?_
  refine V_ialdH C dX6_add_69 (by decide) (fun _ => rfl) (by omega) (by decide) ?_
  rw [show (kS (kT K 0) st) 29 p.toNat = K 29 p.toNat from svS_0 (by omega)]
  refine V_S1 (k2 := 0) (s2 := 0) C dX6_add_70 lX6_40 kX6_said (i_X6_said G 34 false _ _ gp) rfl rfl ⟨Nat.le_of_ble_eq_true rfl, Nat.le_of_ble_eq_true rfl⟩ (Nat.le_of_ble_eq_true rfl) (Nat.le_refl _) (Nat.le_refl _) ?_
  refine V_aload_n C dX6_add_73 rfl rfl ?_
  refine V_getH (L := mOl G) C dX6_add_74 fX6_7 (by decide) (fun _ => rfl) rfl ?_
  refine V_iload_n C dX6_add_77 rfl rfl ?_
  refine V_ialdH C dX6_add_78 (by decide) (fun _ => rfl) (by omega) (by decide) ?_
  rw [show (kS (kT K 0) st) 29 q.toNat = K 29 q.toNat from svS_0 (by omega)]
  refine V_S1 (k2 := 0) (s2 := 0) C dX6_add_79 lX6_40 kX6_said (i_X6_said G 34 false _ _ gq) rfl rfl ⟨Nat.le_of_ble_eq_true rfl, Nat.le_of_ble_eq_true rfl⟩ (Nat.le_of_ble_eq_true rfl) (Nat.le_refl _) (Nat.le_refl _) ?_
  refine V_V1 (k2 := 0) (s2 := 0) C dX6_add_82 lX6_75 kX6_adds (c_X6_adds G (kS (kT K 0) st) r (gm 18 (K 29 p.toNat).toNat) (gm 18 (K 29 q.toNat).toNat) m1 m2 (by omega)) (by decide) (rfl) rfl rfl rfl ⟨Nat.le_of_ble_eq_true rfl, Nat.le_of_ble_eq_true rfl⟩ (Nat.le_of_ble_eq_true rfl) (Nat.le_refl _) (Nat.le_refl _) ?_
  refine V_pop C dX6_add_85 rfl ?_
  refine V_aload_n C dX6_add_86 rfl rfl ?_
  refine V_getH (L := mOl G) C dX6_add_87 fX6_7 (by decide) (fun _ => rfl) rfl ?_
  refine V_iload_n C dX6_add_90 rfl rfl ?_
  refine V_dup2 C dX6_add_91 rfl rfl ?_
  refine V_ialdH C dX6_add_92 (by decide) (fun _ => rfl) (by omega) (by decide) ?_
  rw [show (us (us (kS (kT K 0) st) 31 (adE (gm 18 (K 29 p.toNat).toNat) (gm 18 (K 29 q.toNat).toNat))) 28 (us ((kS (kT K 0) st) 28) 10 (adC (gm 18 (K 29 p.toNat).toNat) (gm 18 (K 29 q.toNat).toNat) : Nat))) 29 p.toNat = K 29 p.toNat from svS_0 (by omega)]
  refine V_aload_n C dX6_add_93 rfl rfl ?_
  refine V_getH (L := mOl G) C dX6_add_94 fX6_7 (by decide) (fun _ => rfl) rfl ?_
  refine V_iload_n C dX6_add_97 rfl rfl ?_
  refine V_ialdH C dX6_add_98 (by decide) (fun _ => rfl) (by omega) (by decide) ?_
  rw [show (us (us (kS (kT K 0) st) 31 (adE (gm 18 (K 29 p.toNat).toNat) (gm 18 (K 29 q.toNat).toNat))) 28 (us ((kS (kT K 0) st) 28) 10 (adC (gm 18 (K 29 p.toNat).toNat) (gm 18 (K 29 q.toNat).toNat) : Nat))) 29 q.toNat = K 29 q.toNat from svS_0 (by omega)]
  refine V_iadd C dX6_add_99 ?_
  refine V_iastH C dX6_add_100 (by decide) (fun _ => rfl) (by omega) (by decide) ?_
  refine V_aload_n C dX6_add_101 rfl rfl ?_
  refine V_getH (L := mOl G) C dX6_add_102 fX6_50 (by decide) (fun _ => rfl) rfl ?_
  exact V_iret C dX6_add_105 rfl hZ (by first | rfl | omega) rfl
set_option maxRecDepth 100000 in
set_option maxHeartbeats 4000000 in
theorem m_X6_takeAway (G : GT) (K : Nat → Nat → Int) (r : Nat → Option Nat) (p : Int) (hp : -2147483648 ≤ p ∧ p < 2147483648) (q : Int) (hq : -2147483648 ≤ q ∧ q < 2147483648) (hc : ¬ ((0 ≤ p ∧ p ≤ 5) ∧ 0 ≤ q ∧ q ≤ 5)) : CtO G yX6_takeAway mX6_takeAway [rf G 28, .int (iI p), .int (iI q)] K r (some (.int (iI 0))) (kT K 1) (r) := by
  refine Ct_of kX6_takeAway.1.1 (by decide) [some (rf G 28), some (.int (iI p)), some (.int (iI q)), none] rfl (Nat.le_of_ble_eq_true rfl) ?_
  intro x C hZ
  by_cases c1 : 0 ≤ p ∧ p ≤ 5
  · by_cases c2 : 0 ≤ q ∧ q ≤ 5
    · exact absurd ⟨c1, c2⟩ hc
    · skip
      refine V_iload_n C dX6_takeAway_0 rfl rfl ?_
      refine V_S1 (k2 := 0) (s2 := 0) C dX6_takeAway_1 lX6_62 kX6_isStall (Ct_v (b2y (show 0 ≤ p ∧ p ≤ 5 from by omega)) (c_X6_isStall p (by omega) G 34 false _)) rfl rfl ⟨Nat.le_of_ble_eq_true rfl, Nat.le_of_ble_eq_true rfl⟩ (Nat.le_of_ble_eq_true rfl) (Nat.le_refl _) (Nat.le_refl _) ?_
      refine V_if_eq (tgt := 18) C dX6_takeAway_4 (by decide) (by omega) (fun q4 => by exfalso; omega) (fun q4 => ?_)
      refine V_iload_n C dX6_takeAway_7 rfl rfl ?_
      refine V_S1 (k2 := 0) (s2 := 0) C dX6_takeAway_8 lX6_62 kX6_isStall (Ct_v (b2n (show ¬ (0 ≤ q ∧ q ≤ 5) from by omega)) (c_X6_isStall q (by omega) G 34 false _)) rfl rfl ⟨Nat.le_of_ble_eq_true rfl, Nat.le_of_ble_eq_true rfl⟩ (Nat.le_of_ble_eq_true rfl) (Nat.le_refl _) (Nat.le_refl _) ?_
      refine V_if_eq (tgt := 18) C dX6_takeAway_11 (by decide) (by omega) (fun q11 => ?_) (fun q11 => by exfalso; omega)
      refine V_iconst C dX6_takeAway_18 ?_
      refine V_istore_n C dX6_takeAway_19 rfl (Nat.le_of_ble_eq_true rfl) rfl ?_
      refine V_aload_n C dX6_takeAway_20 rfl rfl ?_
      refine V_iload_n C dX6_takeAway_21 rfl rfl ?_
      refine V_iload_n C dX6_takeAway_22 rfl rfl ?_
      refine V_if_eq (tgt := 45) C dX6_takeAway_23 (by decide) (by omega) (fun q23 => ?_) (fun q23 => by exfalso; omega)
      refine V_iconst C dX6_takeAway_45 ?_
      refine V_iconst C dX6_takeAway_46 ?_
      refine V_V1 (k2 := 0) (s2 := 0) C dX6_takeAway_47 lX6_68 kX6_goes (Ct_v (v' := 0) rfl (c_X6_goes G _ r false false true)) (by decide) (rfl) rfl rfl rfl ⟨Nat.le_of_ble_eq_true rfl, Nat.le_of_ble_eq_true rfl⟩ (Nat.le_of_ble_eq_true rfl) (Nat.le_refl _) (Nat.le_refl _) ?_
      refine V_if_ne (tgt := 55) C dX6_takeAway_50 (by decide) (by omega) (fun q50 => by exfalso; omega) (fun q50 => ?_)
      refine V_iconst C dX6_takeAway_53 ?_
      exact V_iret C dX6_takeAway_54 rfl hZ (by first | rfl | omega) rfl
  · skip
    refine V_iload_n C dX6_takeAway_0 rfl rfl ?_
    refine V_S1 (k2 := 0) (s2 := 0) C dX6_takeAway_1 lX6_62 kX6_isStall (Ct_v (b2n (show ¬ (0 ≤ p ∧ p ≤ 5) from by omega)) (c_X6_isStall p (by omega) G 34 false _)) rfl rfl ⟨Nat.le_of_ble_eq_true rfl, Nat.le_of_ble_eq_true rfl⟩ (Nat.le_of_ble_eq_true rfl) (Nat.le_refl _) (Nat.le_refl _) ?_
    refine V_if_eq (tgt := 18) C dX6_takeAway_4 (by decide) (by omega) (fun q4 => ?_) (fun q4 => by exfalso; omega)
    refine V_iconst C dX6_takeAway_18 ?_
    refine V_istore_n C dX6_takeAway_19 rfl (Nat.le_of_ble_eq_true rfl) rfl ?_
    refine V_aload_n C dX6_takeAway_20 rfl rfl ?_
    refine V_iload_n C dX6_takeAway_21 rfl rfl ?_
    refine V_iload_n C dX6_takeAway_22 rfl rfl ?_
    refine V_if_eq (tgt := 45) C dX6_takeAway_23 (by decide) (by omega) (fun q23 => ?_) (fun q23 => by exfalso; omega)
    refine V_iconst C dX6_takeAway_45 ?_
    refine V_iconst C dX6_takeAway_46 ?_
    refine V_V1 (k2 := 0) (s2 := 0) C dX6_takeAway_47 lX6_68 kX6_goes (Ct_v (v' := 0) rfl (c_X6_goes G _ r false false true)) (by decide) (rfl) rfl rfl rfl ⟨Nat.le_of_ble_eq_true rfl, Nat.le_of_ble_eq_true rfl⟩ (Nat.le_of_ble_eq_true rfl) (Nat.le_refl _) (Nat.le_refl _) ?_
    refine V_if_ne (tgt := 55) C dX6_takeAway_50 (by decide) (by omega) (fun q50 => by exfalso; omega) (fun q50 => ?_)
    refine V_iconst C dX6_takeAway_53 ?_
    exact V_iret C dX6_takeAway_54 rfl hZ (by first | rfl | omega) rfl
set_option maxRecDepth 100000 in
set_option maxHeartbeats 4000000 in
theorem n_X6_takeAway (G : GT) (K : Nat → Nat → Int) (r : Nat → Option Nat) (hG : GZ (K 29))(p : Int) (hp : -2147483648 ≤ p ∧ p < 2147483648) (q : Int) (hq : -2147483648 ≤ q ∧ q < 2147483648) (hc : (0 ≤ p ∧ p ≤ 5) ∧ 0 ≤ q ∧ q ≤ 5) (hd : ¬ (K 29 q.toNat ≤ K 29 p.toNat)) : CtO G yX6_takeAway mX6_takeAway [rf G 28, .int (iI p), .int (iI q)] K r (some (.int (iI 0))) (kT K 2) (r) := by
  refine Ct_of kX6_takeAway.1.1 (by decide) [some (rf G 28), some (.int (iI p)), some (.int (iI q)), none] rfl (Nat.le_of_ble_eq_true rfl) ?_
  intro x C hZ
  have g5 := hG.1
  have gp := g5 p.toNat (by omega)
  have gq := g5 q.toNat (by omega)
  have w1 := wo_gm (n := (K 29 p.toNat).toNat) (by omega)
  have w2 := wo_gm (n := (K 29 q.toNat).toNat) (by omega)
  have m1 := gm_18 (K 29 p.toNat).toNat
  have m2 := gm_18 (K 29 q.toNat).toNat
  refine V_iload_n C dX6_takeAway_0 rfl rfl ?_
  refine V_S1 (k2 := 0) (s2 := 0) C dX6_takeAway_1 lX6_62 kX6_isStall (Ct_v (b2y (show 0 ≤ p ∧ p ≤ 5 from by omega)) (c_X6_isStall p (by omega) G 34 false _)) rfl rfl ⟨Nat.le_of_ble_eq_true rfl, Nat.le_of_ble_eq_true rfl⟩ (Nat.le_of_ble_eq_true rfl) (Nat.le_refl _) (Nat.le_refl _) ?_
  refine V_if_eq (tgt := 18) C dX6_takeAway_4 (by decide) (by omega) (fun q4 => by exfalso; omega) (fun q4 => ?_)
  refine V_iload_n C dX6_takeAway_7 rfl rfl ?_
  refine V_S1 (k2 := 0) (s2 := 0) C dX6_takeAway_8 lX6_62 kX6_isStall (Ct_v (b2y (show 0 ≤ q ∧ q ≤ 5 from by omega)) (c_X6_isStall q (by omega) G 34 false _)) rfl rfl ⟨Nat.le_of_ble_eq_true rfl, Nat.le_of_ble_eq_true rfl⟩ (Nat.le_of_ble_eq_true rfl) (Nat.le_refl _) (Nat.le_refl _) ?_
  refine V_if_eq (tgt := 18) C dX6_takeAway_11 (by decide) (by omega) (fun q11 => by exfalso; omega) (fun q11 => ?_)
  refine V_iconst C dX6_takeAway_14 ?_
  refine V_goto (tgt := 19) C dX6_takeAway_15 (by decide) ?_
  refine V_istore_n C dX6_takeAway_19 rfl (Nat.le_of_ble_eq_true rfl) rfl ?_
  refine V_aload_n C dX6_takeAway_20 rfl rfl ?_
  refine V_iload_n C dX6_takeAway_21 rfl rfl ?_
  refine V_iload_n C dX6_takeAway_22 rfl rfl ?_
  refine V_if_eq (tgt := 45) C dX6_takeAway_23 (by decide) (by omega) (fun q23 => by exfalso; omega) (fun q23 => ?_)
  refine V_aload_n C dX6_takeAway_26 rfl rfl ?_
  refine V_getH (L := mOl G) C dX6_takeAway_27 fX6_7 (by decide) (fun _ => rfl) rfl ?_
  refine V_iload_n C dX6_takeAway_30 rfl rfl ?_
  refine V_ialdH C dX6_takeAway_31 (by decide) (fun _ => rfl) (by omega) (by decide) ?_
  refine V_aload_n C dX6_takeAway_32 rfl rfl ?_
  refine V_getH (L := mOl G) C dX6_takeAway_33 fX6_7 (by decide) (fun _ => rfl) rfl ?_
  refine V_iload_n C dX6_takeAway_36 rfl rfl ?_
  refine V_ialdH C dX6_takeAway_37 (by decide) (fun _ => rfl) (by omega) (by decide) ?_
  refine V_icmp_lt (tgt := 45) C dX6_takeAway_38 (by decide) (by omega) (by omega) (fun q38 => ?_) (fun q38 => by exfalso; omega)
  refine V_iconst C dX6_takeAway_45 ?_
  refine V_iconst C dX6_takeAway_46 ?_
  refine V_V1 (k2 := 0) (s2 := 0) C dX6_takeAway_47 lX6_68 kX6_goes (Ct_v (v' := 0) rfl (c_X6_goes G _ r true false true)) (by decide) (rfl) rfl rfl rfl ⟨Nat.le_of_ble_eq_true rfl, Nat.le_of_ble_eq_true rfl⟩ (Nat.le_of_ble_eq_true rfl) (Nat.le_refl _) (Nat.le_refl _) ?_
  refine V_if_ne (tgt := 55) C dX6_takeAway_50 (by decide) (by omega) (fun q50 => by exfalso; omega) (fun q50 => ?_)
  refine V_iconst C dX6_takeAway_53 ?_
  exact V_iret C dX6_takeAway_54 rfl hZ (by first | rfl | omega) rfl
set_option maxRecDepth 100000 in
set_option maxHeartbeats 4000000 in
theorem c_X6_takeAway (G : GT) (K : Nat → Nat → Int) (r : Nat → Option Nat) (st : Nat) (hs : st ≤ 5) (hst : K 28 1 = st)(hG : GZ (K 29))(p : Int) (hp : -2147483648 ≤ p ∧ p < 2147483648) (q : Int) (hq : -2147483648 ≤ q ∧ q < 2147483648) (hc : (0 ≤ p ∧ p ≤ 5) ∧ 0 ≤ q ∧ q ≤ 5) (hd : K 29 q.toNat ≤ K 29 p.toNat) : CtO G yX6_takeAway mX6_takeAway [rf G 28, .int (iI p), .int (iI q)] K r (some (.int (iI (K 29 p.toNat - K 29 q.toNat)))) (us (kS (kT K 0) st) 29 (us ((kS (kT K 0) st) 29) p.toNat (K 29 p.toNat - K 29 q.toNat))) (r) := by
  refine Ct_of kX6_takeAway.1.1 (by decide) [some (rf G 28), some (.int (iI p)), some (.int (iI q)), none] rfl (Nat.le_of_ble_eq_true rfl) ?_
  intro x C hZ
  have g5 := hG.1
  have gp := g5 p.toNat (by omega)
  have gq := g5 q.toNat (by omega)
  have w1 := wo_gm (n := (K 29 p.toNat).toNat) (by omega)
  have w2 := wo_gm (n := (K 29 q.toNat).toNat) (by omega)
  have m1 := gm_18 (K 29 p.toNat).toNat
  have m2 := gm_18 (K 29 q.toNat).toNat
  refine V_iload_n C dX6_takeAway_0 rfl rfl ?_
  refine V_S1 (k2 := 0) (s2 := 0) C dX6_takeAway_1 lX6_62 kX6_isStall (Ct_v (b2y (show 0 ≤ p ∧ p ≤ 5 from by omega)) (c_X6_isStall p (by omega) G 34 false _)) rfl rfl ⟨Nat.le_of_ble_eq_true rfl, Nat.le_of_ble_eq_true rfl⟩ (Nat.le_of_ble_eq_true rfl) (Nat.le_refl _) (Nat.le_refl _) ?_
  refine V_if_eq (tgt := 18) C dX6_takeAway_4 (by decide) (by omega) (fun q4 => by exfalso; omega) (fun q4 => ?_)
  refine V_iload_n C dX6_takeAway_7 rfl rfl ?_
  refine V_S1 (k2 := 0) (s2 := 0) C dX6_takeAway_8 lX6_62 kX6_isStall (Ct_v (b2y (show 0 ≤ q ∧ q ≤ 5 from by omega)) (c_X6_isStall q (by omega) G 34 false _)) rfl rfl ⟨Nat.le_of_ble_eq_true rfl, Nat.le_of_ble_eq_true rfl⟩ (Nat.le_of_ble_eq_true rfl) (Nat.le_refl _) (Nat.le_refl _) ?_
  refine V_if_eq (tgt := 18) C dX6_takeAway_11 (by decide) (by omega) (fun q11 => by exfalso; omega) (fun q11 => ?_)
  refine V_iconst C dX6_takeAway_14 ?_
  refine V_goto (tgt := 19) C dX6_takeAway_15 (by decide) ?_
  refine V_istore_n C dX6_takeAway_19 rfl (Nat.le_of_ble_eq_true rfl) rfl ?_
  refine V_aload_n C dX6_takeAway_20 rfl rfl ?_
  refine V_iload_n C dX6_takeAway_21 rfl rfl ?_
  refine V_iload_n C dX6_takeAway_22 rfl rfl ?_
  refine V_if_eq (tgt := 45) C dX6_takeAway_23 (by decide) (by omega) (fun q23 => by exfalso; omega) (fun q23 => ?_)
  refine V_aload_n C dX6_takeAway_26 rfl rfl ?_
  refine V_getH (L := mOl G) C dX6_takeAway_27 fX6_7 (by decide) (fun _ => rfl) rfl ?_
  refine V_iload_n C dX6_takeAway_30 rfl rfl ?_
  refine V_ialdH C dX6_takeAway_31 (by decide) (fun _ => rfl) (by omega) (by decide) ?_
  refine V_aload_n C dX6_takeAway_32 rfl rfl ?_
  refine V_getH (L := mOl G) C dX6_takeAway_33 fX6_7 (by decide) (fun _ => rfl) rfl ?_
  refine V_iload_n C dX6_takeAway_36 rfl rfl ?_
  refine V_ialdH C dX6_takeAway_37 (by decide) (fun _ => rfl) (by omega) (by decide) ?_
  refine V_icmp_lt (tgt := 45) C dX6_takeAway_38 (by decide) (by omega) (by omega) (fun q38 => by exfalso; omega) (fun q38 => ?_)
  refine V_iconst C dX6_takeAway_41 ?_
  refine V_goto (tgt := 46) C dX6_takeAway_42 (by decide) ?_
  refine V_iconst C dX6_takeAway_46 ?_
  refine V_V1 (k2 := 0) (s2 := 0) C dX6_takeAway_47 lX6_68 kX6_goes (Ct_v (v' := 1) rfl (c_X6_goes G _ r true true true)) (by decide) (rfl) rfl rfl rfl ⟨Nat.le_of_ble_eq_true rfl, Nat.le_of_ble_eq_true rfl⟩ (Nat.le_of_ble_eq_true rfl) (Nat.le_refl _) (Nat.le_refl _) ?_
  refine V_if_ne (tgt := 55) C dX6_takeAway_50 (by decide) (by omega) (fun q50 => ?_) (fun q50 => by exfalso; omega)
  refine V_aload_n C dX6_takeAway_55 rfl rfl ?_
  refine V_V0 (k2 := 0) (s2 := 0) C dX6_takeAway_56 lX6_72 kX6_saves (s_X6_saves G (kT K 0) r st hs hst) (by decide) (rfl) rfl rfl rfl ⟨Nat.le_of_ble_eq_true rfl, Nat.le_of_ble_eq_true rfl⟩ (Nat.le_of_ble_eq_true rfl) (Nat.le_refl _) (Nat.le_refl _) ?_
  refine V_aload_n C dX6_takeAway_59 rfl rfl ?_
  refine V_getH (L := mOl G) C dX6_takeAway_60 fX6_7 (by decide) (fun _ => rfl) rfl ?_
  refine V_iload_n C dX6_takeAway_63 rfl rfl ?_
  refine V_dup2 C dX6_takeAway_64 rfl rfl ?_
  refine V_ialdH C dX6_takeAway_65 (by decide) (fun _ => rfl) (by omega) (by decide) ?_
  rw [show (kS (kT K 0) st) 29 p.toNat = K 29 p.toNat from svS_0 (by omega)]
  refine V_aload_n C dX6_takeAway_66 rfl rfl ?_
  refine V_getH (L := mOl G) C dX6_takeAway_67 fX6_7 (by decide) (fun _ => rfl) rfl ?_
  refine V_iload_n C dX6_takeAway_70 rfl rfl ?_
  refine V_ialdH C dX6_takeAway_71 (by decide) (fun _ => rfl) (by omega) (by decide) ?_
  rw [show (kS (kT K 0) st) 29 q.toNat = K 29 q.toNat from svS_0 (by omega)]
  refine V_isub C dX6_takeAway_72 ?_
  refine V_iastH C dX6_takeAway_73 (by decide) (fun _ => rfl) (by omega) (by decide) ?_
  refine V_aload_n C dX6_takeAway_74 rfl rfl ?_
  refine V_getH (L := mOl G) C dX6_takeAway_75 fX6_7 (by decide) (fun _ => rfl) rfl ?_
  refine V_iload_n C dX6_takeAway_78 rfl rfl ?_
  refine V_ialdH C dX6_takeAway_79 (by decide) (fun _ => rfl) (by omega) (by decide) ?_
  rw [us_29, us_at]
  exact V_iret C dX6_takeAway_80 rfl hZ (by first | rfl | omega) rfl
set_option maxRecDepth 100000 in
set_option maxHeartbeats 4000000 in
theorem m_X6_raise (G : GT) (K : Nat → Nat → Int) (r : Nat → Option Nat) (p : Int) (hp : -2147483648 ≤ p ∧ p < 2147483648) (hc : ¬ (0 ≤ p ∧ p ≤ 5)) : CtO G yX6_raise mX6_raise [rf G 28, .int (iI p)] K r (some (.int (iI 0))) (kT K 1) (r) := by
  refine Ct_of kX6_raise.1.1 (by decide) [some (rf G 28), some (.int (iI p)), none] rfl (Nat.le_of_ble_eq_true rfl) ?_
  intro x C hZ
  refine V_iload_n C dX6_raise_0 rfl rfl ?_
  refine V_S1 (k2 := 0) (s2 := 0) C dX6_raise_1 lX6_62 kX6_isStall (Ct_v (b2n (show ¬ (0 ≤ p ∧ p ≤ 5) from by omega)) (c_X6_isStall p (by omega) G 34 false _)) rfl rfl ⟨Nat.le_of_ble_eq_true rfl, Nat.le_of_ble_eq_true rfl⟩ (Nat.le_of_ble_eq_true rfl) (Nat.le_refl _) (Nat.le_refl _) ?_
  refine V_istore_n C dX6_raise_4 rfl (Nat.le_of_ble_eq_true rfl) rfl ?_
  refine V_aload_n C dX6_raise_5 rfl rfl ?_
  refine V_iload_n C dX6_raise_6 rfl rfl ?_
  refine V_iload_n C dX6_raise_7 rfl rfl ?_
  refine V_if_eq (tgt := 23) C dX6_raise_8 (by decide) (by omega) (fun q8 => ?_) (fun q8 => by exfalso; omega)
  refine V_iconst C dX6_raise_23 ?_
  refine V_iconst C dX6_raise_24 ?_
  refine V_V1 (k2 := 0) (s2 := 0) C dX6_raise_25 lX6_68 kX6_goes (Ct_v (v' := 0) rfl (c_X6_goes G _ r false false true)) (by decide) (rfl) rfl rfl rfl ⟨Nat.le_of_ble_eq_true rfl, Nat.le_of_ble_eq_true rfl⟩ (Nat.le_of_ble_eq_true rfl) (Nat.le_refl _) (Nat.le_refl _) ?_
  refine V_if_ne (tgt := 33) C dX6_raise_28 (by decide) (by omega) (fun q28 => by exfalso; omega) (fun q28 => ?_)
  refine V_iconst C dX6_raise_31 ?_
  exact V_iret C dX6_raise_32 rfl hZ (by first | rfl | omega) rfl
set_option maxRecDepth 100000 in
set_option maxHeartbeats 4000000 in
theorem n_X6_raise (G : GT) (K : Nat → Nat → Int) (r : Nat → Option Nat) (hG : GZ (K 29))(p : Int) (hp : -2147483648 ≤ p ∧ p < 2147483648) (hc : 0 ≤ p ∧ p ≤ 5) (hd : ¬ (gm 18 (K 29 p.toNat).toNat < 131072)) : CtO G yX6_raise mX6_raise [rf G 28, .int (iI p)] K r (some (.int (iI 0))) (kT K 2) (r) := by
  refine Ct_of kX6_raise.1.1 (by decide) [some (rf G 28), some (.int (iI p)), none] rfl (Nat.le_of_ble_eq_true rfl) ?_
  intro x C hZ
  have g5 := hG.1
  have gp := g5 p.toNat (by omega)
  have hp1 : ((p.toNat : Nat) : Int) = p := by omega
  refine V_iload_n C dX6_raise_0 rfl rfl ?_
  refine V_S1 (k2 := 0) (s2 := 0) C dX6_raise_1 lX6_62 kX6_isStall (Ct_v (b2y (show 0 ≤ p ∧ p ≤ 5 from by omega)) (c_X6_isStall p (by omega) G 34 false _)) rfl rfl ⟨Nat.le_of_ble_eq_true rfl, Nat.le_of_ble_eq_true rfl⟩ (Nat.le_of_ble_eq_true rfl) (Nat.le_refl _) (Nat.le_refl _) ?_
  refine V_istore_n C dX6_raise_4 rfl (Nat.le_of_ble_eq_true rfl) rfl ?_
  refine V_aload_n C dX6_raise_5 rfl rfl ?_
  refine V_iload_n C dX6_raise_6 rfl rfl ?_
  refine V_iload_n C dX6_raise_7 rfl rfl ?_
  refine V_if_eq (tgt := 23) C dX6_raise_8 (by decide) (by omega) (fun q8 => by exfalso; omega) (fun q8 => ?_)
  refine V_aload_n C dX6_raise_11 rfl rfl ?_
  refine V_iload_n C dX6_raise_12 rfl rfl ?_
  rw [← hp1]
  refine V_V1 (k2 := 0) (s2 := 0) C dX6_raise_13 lX6_78 kX6_canRaise (Ct_v (b2n (show ¬ (gm 18 (K 29 p.toNat).toNat < 131072) from hd)) (c_X6_canRaise G K r p.toNat (by omega) gp)) (by decide) (rfl) rfl rfl rfl ⟨Nat.le_of_ble_eq_true rfl, Nat.le_of_ble_eq_true rfl⟩ (Nat.le_of_ble_eq_true rfl) (Nat.le_refl _) (Nat.le_refl _) ?_
  refine V_if_eq (tgt := 23) C dX6_raise_16 (by decide) (by omega) (fun q16 => ?_) (fun q16 => by exfalso; omega)
  refine V_iconst C dX6_raise_23 ?_
  refine V_iconst C dX6_raise_24 ?_
  refine V_V1 (k2 := 0) (s2 := 0) C dX6_raise_25 lX6_68 kX6_goes (Ct_v (v' := 0) rfl (c_X6_goes G _ r true false true)) (by decide) (rfl) rfl rfl rfl ⟨Nat.le_of_ble_eq_true rfl, Nat.le_of_ble_eq_true rfl⟩ (Nat.le_of_ble_eq_true rfl) (Nat.le_refl _) (Nat.le_refl _) ?_
  refine V_if_ne (tgt := 33) C dX6_raise_28 (by decide) (by omega) (fun q28 => by exfalso; omega) (fun q28 => ?_)
  refine V_iconst C dX6_raise_31 ?_
  exact V_iret C dX6_raise_32 rfl hZ (by first | rfl | omega) rfl
set_option maxRecDepth 100000 in
set_option maxHeartbeats 4000000 in
theorem c_X6_raise (G : GT) (K : Nat → Nat → Int) (r : Nat → Option Nat) (st : Nat) (hs : st ≤ 5) (hst : K 28 1 = st)(hG : GZ (K 29))(p : Int) (hp : -2147483648 ≤ p ∧ p < 2147483648) (hc : 0 ≤ p ∧ p ≤ 5) (hd : gm 18 (K 29 p.toNat).toNat < 131072) : CtO G yX6_raise mX6_raise [rf G 28, .int (iI p)] K r (some (.int (iI ((wo 22 (gm 18 (K 29 p.toNat).toNat <<< 1) : Nat) : Int)))) (us (kS (kT K 0) st) 29 (us ((kS (kT K 0) st) 29) p.toNat ((wo 22 (gm 18 (K 29 p.toNat).toNat <<< 1) : Nat) : Int))) (r) := by
  refine Ct_of kX6_raise.1.1 (by decide) [some (rf G 28), some (.int (iI p)), none] rfl (Nat.le_of_ble_eq_true rfl) ?_
  intro x C hZ
  have g5 := hG.1
  have gp := g5 p.toNat (by omega)
  have hp1 : ((p.toNat : Nat) : Int) = p := by omega
  have eK : (kS (kT K 0) st) 29 p.toNat = K 29 p.toNat := svS_0 (by omega)
  refine V_iload_n C dX6_raise_0 rfl rfl ?_
  refine V_S1 (k2 := 0) (s2 := 0) C dX6_raise_1 lX6_62 kX6_isStall (Ct_v (b2y (show 0 ≤ p ∧ p ≤ 5 from by omega)) (c_X6_isStall p (by omega) G 34 false _)) rfl rfl ⟨Nat.le_of_ble_eq_true rfl, Nat.le_of_ble_eq_true rfl⟩ (Nat.le_of_ble_eq_true rfl) (Nat.le_refl _) (Nat.le_refl _) ?_
  refine V_istore_n C dX6_raise_4 rfl (Nat.le_of_ble_eq_true rfl) rfl ?_
  refine V_aload_n C dX6_raise_5 rfl rfl ?_
  refine V_iload_n C dX6_raise_6 rfl rfl ?_
  refine V_iload_n C dX6_raise_7 rfl rfl ?_
  refine V_if_eq (tgt := 23) C dX6_raise_8 (by decide) (by omega) (fun q8 => by exfalso; omega) (fun q8 => ?_)
  refine V_aload_n C dX6_raise_11 rfl rfl ?_
  refine V_iload_n C dX6_raise_12 rfl rfl ?_
  rw [← hp1]
  refine V_V1 (k2 := 0) (s2 := 0) C dX6_raise_13 lX6_78 kX6_canRaise (Ct_v (b2y (show gm 18 (K 29 p.toNat).toNat < 131072 from hd)) (c_X6_canRaise G K r p.toNat (by omega) gp)) (by decide) (rfl) rfl rfl rfl ⟨Nat.le_of_ble_eq_true rfl, Nat.le_of_ble_eq_true rfl⟩ (Nat.le_of_ble_eq_true rfl) (Nat.le_refl _) (Nat.le_refl _) ?_
  refine V_if_eq (tgt := 23) C dX6_raise_16 (by decide) (by omega) (fun q16 => by exfalso; omega) (fun q16 => ?_)
  refine V_iconst C dX6_raise_19 ?_
  refine V_goto (tgt := 24) C dX6_raise_20 (by decide) ?_
  refine V_iconst C dX6_raise_24 ?_
  refine V_V1 (k2 := 0) (s2 := 0) C dX6_raise_25 lX6_68 kX6_goes (Ct_v (v' := 1) rfl (c_X6_goes G _ r true true true)) (by decide) (rfl) rfl rfl rfl ⟨Nat.le_of_ble_eq_true rfl, Nat.le_of_ble_eq_true rfl⟩ (Nat.le_of_ble_eq_true rfl) (Nat.le_refl _) (Nat.le_refl _) ?_
  refine V_if_ne (tgt := 33) C dX6_raise_28 (by decide) (by omega) (fun q28 => ?_) (fun q28 => by exfalso; omega)
  refine V_aload_n C dX6_raise_33 rfl rfl ?_
  refine V_V0 (k2 := 0) (s2 := 0) C dX6_raise_34 lX6_72 kX6_saves (s_X6_saves G (kT K 0) r st hs hst) (by decide) (rfl) rfl rfl rfl ⟨Nat.le_of_ble_eq_true rfl, Nat.le_of_ble_eq_true rfl⟩ (Nat.le_of_ble_eq_true rfl) (Nat.le_refl _) (Nat.le_refl _) ?_
  refine V_aload_n C dX6_raise_37 rfl rfl ?_
  refine V_getH (L := mOl G) C dX6_raise_38 fX6_7 (by decide) (fun _ => rfl) rfl ?_
  refine V_iload_n C dX6_raise_41 rfl rfl ?_
  refine V_aload_n C dX6_raise_42 rfl rfl ?_
  refine V_iload_n C dX6_raise_43 rfl rfl ?_
  refine V_V1 (k2 := 0) (s2 := 0) C dX6_raise_44 lX6_81 kX6_raised (Ct_v (v' := ((wo 22 (gm 18 (K 29 p.toNat).toNat <<< 1) : Nat) : Int)) (by rw [eK]) (c_X6_raised G (kS (kT K 0) st) r p.toNat (by omega) (by rw [eK]; exact gp))) (by decide) (rfl) rfl rfl rfl ⟨Nat.le_of_ble_eq_true rfl, Nat.le_of_ble_eq_true rfl⟩ (Nat.le_of_ble_eq_true rfl) (Nat.le_refl _) (Nat.le_refl _) ?_
  refine V_iastH C dX6_raise_47 (by decide) (fun _ => rfl) (by omega) (by decide) ?_
  refine V_aload_n C dX6_raise_48 rfl rfl ?_
  refine V_getH (L := mOl G) C dX6_raise_49 fX6_7 (by decide) (fun _ => rfl) rfl ?_
  refine V_iload_n C dX6_raise_52 rfl rfl ?_
  refine V_ialdH C dX6_raise_53 (by decide) (fun _ => rfl) (by omega) (by decide) ?_
  rw [us_29, tnN, us_at]
  exact V_iret C dX6_raise_54 rfl hZ (by first | rfl | omega) rfl
