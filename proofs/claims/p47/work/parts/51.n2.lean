/-! the class's carries -/
def fkI : Option Nat → Int
  | none => -1
  | some k => (k : Int)
set_option maxRecDepth 100000 in
set_option maxHeartbeats 4000000 in
theorem c_X0_countOf (G : GT) (K : Nat → Nat → Int) (r : Nat → Option Nat) (p : Int) (hp : 0 ≤ p ∧ p ≤ 21)  : CtO G yX0_countOf mX0_countOf [rf G 10, .int (iI p)] K r (some (.int (iI (K 11 p.toNat)))) (K) (r) := by
  refine Ct_of kX0_countOf.1.1 (by decide) [some (rf G 10), some (.int (iI p))] rfl (Nat.le_of_ble_eq_true rfl) ?_
  intro x C hZ
  refine V_iload_n C dX0_countOf_0 rfl rfl ?_
  refine V_if_lt (tgt := 22) C dX0_countOf_1 (by decide) (by omega) (fun q1 => by exfalso; omega) (fun q1 => ?_)
  refine V_iload_n C dX0_countOf_4 rfl rfl ?_
  refine V_aload_n C dX0_countOf_5 rfl rfl ?_
  refine V_getH (L := kyL G) C dX0_countOf_6 fX0_9 (by decide) (fun _ => rfl) rfl ?_
  refine V_alenH C dX0_countOf_9 (by decide) (fun _ => rfl) ?_
  refine V_icmp_ge (tgt := 22) C dX0_countOf_10 (by decide) (by omega) (by omega) (fun q10 => by exfalso; omega) (fun q10 => ?_)
  refine V_aload_n C dX0_countOf_13 rfl rfl ?_
  refine V_getH (L := kyL G) C dX0_countOf_14 fX0_9 (by decide) (fun _ => rfl) rfl ?_
  refine V_iload_n C dX0_countOf_17 rfl rfl ?_
  refine V_ialdH C dX0_countOf_18 (by decide) (fun _ => rfl) (by omega) (by decide) ?_
  refine V_goto (tgt := 23) C dX0_countOf_19 (by decide) ?_
  exact V_iret C dX0_countOf_23 rfl hZ (by first | rfl | omega) rfl
set_option maxRecDepth 100000 in
set_option maxHeartbeats 4000000 in
theorem c_X0_change (G : GT) (K : Nat → Nat → Int) (r : Nat → Option Nat) (p : Int) (hp : 0 ≤ p ∧ p ≤ 21) (v : Int) : CtO G yX0_change mX0_change [rf G 10, .int (iI p), .int (iI v)] K r (none) (us K 11 (us (K 11) p.toNat (K 11 p.toNat + v))) (r) := by
  refine Ct_of kX0_change.1.1 (by decide) [some (rf G 10), some (.int (iI p)), some (.int (iI v))] rfl (Nat.le_of_ble_eq_true rfl) ?_
  intro x C hZ
  refine V_iload_n C dX0_change_0 rfl rfl ?_
  refine V_if_lt (tgt := 23) C dX0_change_1 (by decide) (by omega) (fun q1 => by exfalso; omega) (fun q1 => ?_)
  refine V_iload_n C dX0_change_4 rfl rfl ?_
  refine V_aload_n C dX0_change_5 rfl rfl ?_
  refine V_getH (L := kyL G) C dX0_change_6 fX0_9 (by decide) (fun _ => rfl) rfl ?_
  refine V_alenH C dX0_change_9 (by decide) (fun _ => rfl) ?_
  refine V_icmp_ge (tgt := 23) C dX0_change_10 (by decide) (by omega) (by omega) (fun q10 => by exfalso; omega) (fun q10 => ?_)
  refine V_aload_n C dX0_change_13 rfl rfl ?_
  refine V_getH (L := kyL G) C dX0_change_14 fX0_9 (by decide) (fun _ => rfl) rfl ?_
  refine V_iload_n C dX0_change_17 rfl rfl ?_
  refine V_dup2 C dX0_change_18 rfl rfl ?_
  refine V_ialdH C dX0_change_19 (by decide) (fun _ => rfl) (by omega) (by decide) ?_
  refine V_iload_n C dX0_change_20 rfl rfl ?_
  refine V_iadd C dX0_change_21 ?_
  refine V_iastH C dX0_change_22 (by decide) (fun _ => rfl) (by omega) (by decide) ?_
  exact V_vret C dX0_change_23 rfl hZ rfl
set_option maxRecDepth 100000 in
set_option maxHeartbeats 4000000 in
theorem c_X0_countsWithNext (G : GT) (K : Nat → Nat → Int) (r : Nat → Option Nat) (k : Nat) (hk : k ≤ 19) (hc : ∀ j, j < 22 → 0 ≤ K 11 j ∧ K 11 j ≤ 10000) : CtO G yX0_countsWithNext mX0_countsWithNext [rf G 10, .int (iI (k : Int))] K r (some (.int (iI (b2 (decide (0 < K 11 k ∧ 0 < K 11 (k + 1))))))) (K) (r) := by
  refine Ct_of kX0_countsWithNext.1.1 (by decide) [some (rf G 10), some (.int (iI (k : Int)))] rfl (Nat.le_of_ble_eq_true rfl) ?_
  intro x C hZ
  have ek : ((k : Int)).toNat = k := by omega
  have ek1 : ((k : Int) + 1).toNat = k + 1 := by omega
  have ek2 : ((k : Int) + 2).toNat = k + 2 := by omega
  have g0 := hc k (by omega)
  have g1 := hc (k + 1) (by omega)
  refine V_aload_n C dX0_countsWithNext_0 rfl rfl ?_
  refine V_iload_n C dX0_countsWithNext_1 rfl rfl ?_
  refine V_V1 (k2 := 0) (s2 := 0) C dX0_countsWithNext_2 lX0_21 kX0_countOf (c_X0_countOf G K r (k : Int) (by omega)) (by decide) (rfl) rfl rfl rfl ⟨Nat.le_of_ble_eq_true rfl, Nat.le_of_ble_eq_true rfl⟩ (Nat.le_of_ble_eq_true rfl) (Nat.le_refl _) (Nat.le_refl _) ?_
  rw [ek]
  refine V_iconst C dX0_countsWithNext_5 ?_
  refine V_icmp_lt (tgt := 24) C dX0_countsWithNext_6 (by decide) (by omega) (by omega) (fun q6 => ?_) (fun q6 => ?_)
  · refine V_iconst C dX0_countsWithNext_24 ?_
    exact V_zret C dX0_countsWithNext_25 rfl hZ (b2_01 _) (by first | exact b2_t _ (by omega) | exact b2_f _ (by omega)) rfl
  · refine V_aload_n C dX0_countsWithNext_9 rfl rfl ?_
    refine V_iload_n C dX0_countsWithNext_10 rfl rfl ?_
    refine V_iconst C dX0_countsWithNext_11 ?_
    refine V_iadd C dX0_countsWithNext_12 ?_
    refine V_V1 (k2 := 0) (s2 := 0) C dX0_countsWithNext_13 lX0_21 kX0_countOf (c_X0_countOf G K r ((k : Int) + 1) (by omega)) (by decide) (rfl) rfl rfl rfl ⟨Nat.le_of_ble_eq_true rfl, Nat.le_of_ble_eq_true rfl⟩ (Nat.le_of_ble_eq_true rfl) (Nat.le_refl _) (Nat.le_refl _) ?_
    rw [ek1]
    refine V_iconst C dX0_countsWithNext_16 ?_
    refine V_icmp_lt (tgt := 24) C dX0_countsWithNext_17 (by decide) (by omega) (by omega) (fun q17 => ?_) (fun q17 => ?_)
    · refine V_iconst C dX0_countsWithNext_24 ?_
      exact V_zret C dX0_countsWithNext_25 rfl hZ (b2_01 _) (by first | exact b2_t _ (by omega) | exact b2_f _ (by omega)) rfl
    · refine V_iconst C dX0_countsWithNext_20 ?_
      refine V_goto (tgt := 25) C dX0_countsWithNext_21 (by decide) ?_
      exact V_zret C dX0_countsWithNext_25 rfl hZ (b2_01 _) (by first | exact b2_t _ (by omega) | exact b2_f _ (by omega)) rfl
set_option maxRecDepth 100000 in
set_option maxHeartbeats 4000000 in
theorem c_X0_carryAt (G : GT) (K : Nat → Nat → Int) (r : Nat → Option Nat) (k : Nat) (hk : k ≤ 19) (hc : ∀ j, j < 22 → 0 ≤ K 11 j ∧ K 11 j ≤ 10000) (hb : cyB (K 11) k = true) : CtO G yX0_carryAt mX0_carryAt [rf G 10, .int (iI (k : Int))] K r (none) (us K 11 (cyF (K 11) k)) (r) := by
  refine Ct_of kX0_carryAt.1.1 (by decide) [some (rf G 10), some (.int (iI (k : Int)))] rfl (Nat.le_of_ble_eq_true rfl) ?_
  intro x C hZ
  have ek : ((k : Int)).toNat = k := by omega
  have ek1 : ((k : Int) + 1).toNat = k + 1 := by omega
  have ek2 : ((k : Int) + 2).toNat = k + 2 := by omega
  have g0 := hc k (by omega)
  have g1 := hc (k + 1) (by omega)
  by_cases hn : 0 < K 11 k ∧ 0 < K 11 (k + 1)
  · skip
    refine V_aload_n C dX0_carryAt_0 rfl rfl ?_
    refine V_iload_n C dX0_carryAt_1 rfl rfl ?_
    refine V_V1 (k2 := 0) (s2 := 0) C dX0_carryAt_2 lX0_25 kX0_countsWithNext (Ct_v (b2y hn) (c_X0_countsWithNext G K r k hk hc)) (by decide) (rfl) rfl rfl rfl ⟨Nat.le_of_ble_eq_true rfl, Nat.le_of_ble_eq_true rfl⟩ (Nat.le_of_ble_eq_true rfl) (Nat.le_refl _) (Nat.le_refl _) ?_
    refine V_if_eq (tgt := 31) C dX0_carryAt_5 (by decide) (by omega) (fun q5 => by exfalso; omega) (fun q5 => ?_)
    refine V_aload_n C dX0_carryAt_8 rfl rfl ?_
    refine V_iload_n C dX0_carryAt_9 rfl rfl ?_
    refine V_iconst C dX0_carryAt_10 ?_
    refine V_V0 (k2 := 0) (s2 := 0) C dX0_carryAt_11 lX0_29 kX0_change (c_X0_change G _ r (k : Int) (by omega) (-1)) (by decide) (rfl) rfl rfl rfl ⟨Nat.le_of_ble_eq_true rfl, Nat.le_of_ble_eq_true rfl⟩ (Nat.le_of_ble_eq_true rfl) (Nat.le_refl _) (Nat.le_refl _) ?_
    refine V_aload_n C dX0_carryAt_14 rfl rfl ?_
    refine V_iload_n C dX0_carryAt_15 rfl rfl ?_
    refine V_iconst C dX0_carryAt_16 ?_
    refine V_iadd C dX0_carryAt_17 ?_
    refine V_iconst C dX0_carryAt_18 ?_
    refine V_V0 (k2 := 0) (s2 := 0) C dX0_carryAt_19 lX0_29 kX0_change (c_X0_change G _ r ((k : Int) + 1) (by omega) (-1)) (by decide) (rfl) rfl rfl rfl ⟨Nat.le_of_ble_eq_true rfl, Nat.le_of_ble_eq_true rfl⟩ (Nat.le_of_ble_eq_true rfl) (Nat.le_refl _) (Nat.le_refl _) ?_
    refine V_aload_n C dX0_carryAt_22 rfl rfl ?_
    refine V_iload_n C dX0_carryAt_23 rfl rfl ?_
    refine V_iconst C dX0_carryAt_24 ?_
    refine V_iadd C dX0_carryAt_25 ?_
    refine V_iconst C dX0_carryAt_26 ?_
    refine V_V0 (k2 := 0) (s2 := 0) C dX0_carryAt_27 lX0_29 kX0_change (c_X0_change G _ r ((k : Int) + 2) (by omega) 1) (by decide) (rfl) rfl rfl rfl ⟨Nat.le_of_ble_eq_true rfl, Nat.le_of_ble_eq_true rfl⟩ (Nat.le_of_ble_eq_true rfl) (Nat.le_refl _) (Nat.le_refl _) ?_
    exact V_vret C dX0_carryAt_30 rfl hZ (by unfold cyF; rw [if_pos hn]; simp only [us_us, us_at, ek, ek1, ek2]; rw [us_ne _ _ (show k + 1 ≠ k by omega), us_ne _ _ (show k + 2 ≠ k + 1 by omega), us_ne _ _ (show k + 2 ≠ k by omega)]; rfl)
  · have h1 : 1 < K 11 k := by
      simp only [cyB, Bool.or_eq_true, decide_eq_true_eq] at hb
      omega
    match k, hk, hZ, g0, g1, hn, h1, hb, ek, ek1 with
    | 0, hk, hZ, g0, g1, hn, h1, hb, ek, ek1 =>
      refine V_aload_n C dX0_carryAt_0 rfl rfl ?_
      refine V_iload_n C dX0_carryAt_1 rfl rfl ?_
      refine V_V1 (k2 := 0) (s2 := 0) C dX0_carryAt_2 lX0_25 kX0_countsWithNext (Ct_v (b2n hn) (c_X0_countsWithNext G K r (0) hk hc)) (by decide) (rfl) rfl rfl rfl ⟨Nat.le_of_ble_eq_true rfl, Nat.le_of_ble_eq_true rfl⟩ (Nat.le_of_ble_eq_true rfl) (Nat.le_refl _) (Nat.le_refl _) ?_
      refine V_if_eq (tgt := 31) C dX0_carryAt_5 (by decide) (by omega) (fun q5 => ?_) (fun q5 => by exfalso; omega)
      refine V_aload_n C dX0_carryAt_31 rfl rfl ?_
      refine V_iload_n C dX0_carryAt_32 rfl rfl ?_
      refine V_bipush C dX0_carryAt_33 (by decide +kernel) ?_
      refine V_V0 (k2 := 0) (s2 := 0) C dX0_carryAt_35 lX0_29 kX0_change (c_X0_change G _ r ((0 : Nat) : Int) (by omega) (-2)) (by decide) (rfl) rfl rfl rfl ⟨Nat.le_of_ble_eq_true rfl, Nat.le_of_ble_eq_true rfl⟩ (Nat.le_of_ble_eq_true rfl) (Nat.le_refl _) (Nat.le_refl _) ?_
      refine V_aload_n C dX0_carryAt_38 rfl rfl ?_
      refine V_iload_n C dX0_carryAt_39 rfl rfl ?_
      refine V_iconst C dX0_carryAt_40 ?_
      refine V_iadd C dX0_carryAt_41 ?_
      refine V_iconst C dX0_carryAt_42 ?_
      refine V_V0 (k2 := 0) (s2 := 0) C dX0_carryAt_43 lX0_29 kX0_change (c_X0_change G _ r (((0 : Nat) : Int) + 1) (by omega) 1) (by decide) (rfl) rfl rfl rfl ⟨Nat.le_of_ble_eq_true rfl, Nat.le_of_ble_eq_true rfl⟩ (Nat.le_of_ble_eq_true rfl) (Nat.le_refl _) (Nat.le_refl _) ?_
      refine V_iload_n C dX0_carryAt_46 rfl rfl ?_
      refine V_iconst C dX0_carryAt_47 ?_
      refine V_icmp_ne (tgt := 60) C dX0_carryAt_48 (by decide) (by omega) (by omega) (fun q48 => ?_) (fun q48 => by exfalso; omega)
      refine V_iload_n C dX0_carryAt_60 rfl rfl ?_
      refine V_iconst C dX0_carryAt_61 ?_
      refine V_icmp_le (tgt := 73) C dX0_carryAt_62 (by decide) (by omega) (by omega) (fun q62 => ?_) (fun q62 => by exfalso; omega)
      exact V_vret C dX0_carryAt_73 rfl hZ (by unfold cyF; rw [if_neg hn, if_pos h1]; simp only [us_us, us_at, ek, ek1]; rw [us_ne _ _ (show (1 : Nat) ≠ 0 by decide)]; rfl)
    | 1, hk, hZ, g0, g1, hn, h1, hb, ek, ek1 =>
      refine V_aload_n C dX0_carryAt_0 rfl rfl ?_
      refine V_iload_n C dX0_carryAt_1 rfl rfl ?_
      refine V_V1 (k2 := 0) (s2 := 0) C dX0_carryAt_2 lX0_25 kX0_countsWithNext (Ct_v (b2n hn) (c_X0_countsWithNext G K r (1) hk hc)) (by decide) (rfl) rfl rfl rfl ⟨Nat.le_of_ble_eq_true rfl, Nat.le_of_ble_eq_true rfl⟩ (Nat.le_of_ble_eq_true rfl) (Nat.le_refl _) (Nat.le_refl _) ?_
      refine V_if_eq (tgt := 31) C dX0_carryAt_5 (by decide) (by omega) (fun q5 => ?_) (fun q5 => by exfalso; omega)
      refine V_aload_n C dX0_carryAt_31 rfl rfl ?_
      refine V_iload_n C dX0_carryAt_32 rfl rfl ?_
      refine V_bipush C dX0_carryAt_33 (by decide +kernel) ?_
      refine V_V0 (k2 := 0) (s2 := 0) C dX0_carryAt_35 lX0_29 kX0_change (c_X0_change G _ r ((1 : Nat) : Int) (by omega) (-2)) (by decide) (rfl) rfl rfl rfl ⟨Nat.le_of_ble_eq_true rfl, Nat.le_of_ble_eq_true rfl⟩ (Nat.le_of_ble_eq_true rfl) (Nat.le_refl _) (Nat.le_refl _) ?_
      refine V_aload_n C dX0_carryAt_38 rfl rfl ?_
      refine V_iload_n C dX0_carryAt_39 rfl rfl ?_
      refine V_iconst C dX0_carryAt_40 ?_
      refine V_iadd C dX0_carryAt_41 ?_
      refine V_iconst C dX0_carryAt_42 ?_
      refine V_V0 (k2 := 0) (s2 := 0) C dX0_carryAt_43 lX0_29 kX0_change (c_X0_change G _ r (((1 : Nat) : Int) + 1) (by omega) 1) (by decide) (rfl) rfl rfl rfl ⟨Nat.le_of_ble_eq_true rfl, Nat.le_of_ble_eq_true rfl⟩ (Nat.le_of_ble_eq_true rfl) (Nat.le_refl _) (Nat.le_refl _) ?_
      refine V_iload_n C dX0_carryAt_46 rfl rfl ?_
      refine V_iconst C dX0_carryAt_47 ?_
      refine V_icmp_ne (tgt := 60) C dX0_carryAt_48 (by decide) (by omega) (by omega) (fun q48 => by exfalso; omega) (fun q48 => ?_)
      refine V_aload_n C dX0_carryAt_51 rfl rfl ?_
      refine V_iconst C dX0_carryAt_52 ?_
      refine V_iconst C dX0_carryAt_53 ?_
      refine V_V0 (k2 := 0) (s2 := 0) C dX0_carryAt_54 lX0_29 kX0_change (c_X0_change G _ r 0 (by omega) 1) (by decide) (rfl) rfl rfl rfl ⟨Nat.le_of_ble_eq_true rfl, Nat.le_of_ble_eq_true rfl⟩ (Nat.le_of_ble_eq_true rfl) (Nat.le_refl _) (Nat.le_refl _) ?_
      refine V_goto (tgt := 73) C dX0_carryAt_57 (by decide) ?_
      exact V_vret C dX0_carryAt_73 rfl hZ (by unfold cyF; rw [if_neg hn, if_pos h1]; simp only [us_us, us_at, ek, ek1]; rw [us_ne _ _ (show (2 : Nat) ≠ 1 by decide), show (0 : Int).toNat = 0 from rfl, us_ne _ _ (show (0 : Nat) ≠ 2 by decide), us_ne _ _ (show (0 : Nat) ≠ 1 by decide)]; rfl)
    | j + 2, hk, hZ, g0, g1, hn, h1, hb, ek, ek1 =>
      have ej0 : (((j + 2 : Nat) : Int) - 2).toNat = j := by omega
      have ej3 : j + 2 + 1 = j + 3 := rfl
      refine V_aload_n C dX0_carryAt_0 rfl rfl ?_
      refine V_iload_n C dX0_carryAt_1 rfl rfl ?_
      refine V_V1 (k2 := 0) (s2 := 0) C dX0_carryAt_2 lX0_25 kX0_countsWithNext (Ct_v (b2n hn) (c_X0_countsWithNext G K r (j + 2) hk hc)) (by decide) (rfl) rfl rfl rfl ⟨Nat.le_of_ble_eq_true rfl, Nat.le_of_ble_eq_true rfl⟩ (Nat.le_of_ble_eq_true rfl) (Nat.le_refl _) (Nat.le_refl _) ?_
      refine V_if_eq (tgt := 31) C dX0_carryAt_5 (by decide) (by omega) (fun q5 => ?_) (fun q5 => by exfalso; omega)
      refine V_aload_n C dX0_carryAt_31 rfl rfl ?_
      refine V_iload_n C dX0_carryAt_32 rfl rfl ?_
      refine V_bipush C dX0_carryAt_33 (by decide +kernel) ?_
      refine V_V0 (k2 := 0) (s2 := 0) C dX0_carryAt_35 lX0_29 kX0_change (c_X0_change G _ r ((j + 2 : Nat) : Int) (by omega) (-2)) (by decide) (rfl) rfl rfl rfl ⟨Nat.le_of_ble_eq_true rfl, Nat.le_of_ble_eq_true rfl⟩ (Nat.le_of_ble_eq_true rfl) (Nat.le_refl _) (Nat.le_refl _) ?_
      refine V_aload_n C dX0_carryAt_38 rfl rfl ?_
      refine V_iload_n C dX0_carryAt_39 rfl rfl ?_
      refine V_iconst C dX0_carryAt_40 ?_
      refine V_iadd C dX0_carryAt_41 ?_
      refine V_iconst C dX0_carryAt_42 ?_
      refine V_V0 (k2 := 0) (s2 := 0) C dX0_carryAt_43 lX0_29 kX0_change (c_X0_change G _ r (((j + 2 : Nat) : Int) + 1) (by omega) 1) (by decide) (rfl) rfl rfl rfl ⟨Nat.le_of_ble_eq_true rfl, Nat.le_of_ble_eq_true rfl⟩ (Nat.le_of_ble_eq_true rfl) (Nat.le_refl _) (Nat.le_refl _) ?_
      refine V_iload_n C dX0_carryAt_46 rfl rfl ?_
      refine V_iconst C dX0_carryAt_47 ?_
      refine V_icmp_ne (tgt := 60) C dX0_carryAt_48 (by decide) (by omega) (by omega) (fun q48 => ?_) (fun q48 => by exfalso; omega)
      refine V_iload_n C dX0_carryAt_60 rfl rfl ?_
      refine V_iconst C dX0_carryAt_61 ?_
      refine V_icmp_le (tgt := 73) C dX0_carryAt_62 (by decide) (by omega) (by omega) (fun q62 => by exfalso; omega) (fun q62 => ?_)
      refine V_aload_n C dX0_carryAt_65 rfl rfl ?_
      refine V_iload_n C dX0_carryAt_66 rfl rfl ?_
      refine V_iconst C dX0_carryAt_67 ?_
      refine V_isub C dX0_carryAt_68 ?_
      refine V_iconst C dX0_carryAt_69 ?_
      refine V_V0 (k2 := 0) (s2 := 0) C dX0_carryAt_70 lX0_29 kX0_change (c_X0_change G _ r (((j + 2 : Nat) : Int) - 2) (by omega) 1) (by decide) (rfl) rfl rfl rfl ⟨Nat.le_of_ble_eq_true rfl, Nat.le_of_ble_eq_true rfl⟩ (Nat.le_of_ble_eq_true rfl) (Nat.le_refl _) (Nat.le_refl _) ?_
      exact V_vret C dX0_carryAt_73 rfl hZ (by unfold cyF; rw [if_neg hn, if_pos h1]; simp only [us_us, us_at, ek, ek1]; rw [us_ne _ _ (show j + 3 ≠ j + 2 by omega), ej0, us_ne _ _ (show j ≠ j + 3 by omega), us_ne _ _ (show j ≠ j + 2 by omega)]; rfl)
set_option maxRecDepth 100000 in
set_option maxHeartbeats 4000000 in
theorem c_X0_firstToCarry (G : GT) (K : Nat → Nat → Int) (r : Nat → Option Nat) (hc : ∀ j, j < 22 → 0 ≤ K 11 j ∧ K 11 j ≤ 10000) : CtO G yX0_firstToCarry mX0_firstToCarry [rf G 10] K r (some (.int (iI (fkI (fk 20 (K 11)))))) (K) (r) := by
  refine Ct_of kX0_firstToCarry.1.1 (by decide) [some (rf G 10), none] rfl (Nat.le_of_ble_eq_true rfl) ?_
  intro x C hZ
  have loop : ∀ (j : Nat) (at0 : Int), j ≤ 20 → at0 = (j : Int) - 1 → fk 20 (K 11) = fk j (K 11) → V G mX0_firstToCarry x 3 [some (rf G 10), some (.int (iI at0))] [] 28 false (HP G K r) 0 0 := by
    intro j
    induction j with
    | zero =>
      intro at0 hj e0 e
      refine V_iload_n C dX0_firstToCarry_3 rfl rfl ?_
      refine V_if_lt (tgt := 32) C dX0_firstToCarry_4 (by decide) (by omega) (fun q4 => ?_) (fun q4 => by exfalso; omega)
      refine V_iconst C dX0_firstToCarry_32 ?_
      exact V_iret C dX0_firstToCarry_33 rfl hZ (by rw [e]; rfl) rfl
    | succ j ih =>
      intro at0 hj e0 e
      obtain rfl : at0 = (j : Int) := by omega
      have g0 := hc j (by omega)
      have ek : ((j : Int)).toNat = j := by omega
      by_cases hn : 0 < K 11 j ∧ 0 < K 11 (j + 1)
      · have hb : cyB (K 11) j = true := by simp only [cyB, Bool.or_eq_true, decide_eq_true_eq]; exact Or.inl hn
        refine V_iload_n C dX0_firstToCarry_3 rfl rfl ?_
        refine V_if_lt (tgt := 32) C dX0_firstToCarry_4 (by decide) (by omega) (fun q4 => by exfalso; omega) (fun q4 => ?_)
        refine V_aload_n C dX0_firstToCarry_7 rfl rfl ?_
        refine V_iload_n C dX0_firstToCarry_8 rfl rfl ?_
        refine V_V1 (k2 := 0) (s2 := 0) C dX0_firstToCarry_9 lX0_25 kX0_countsWithNext (Ct_v (b2y hn) (c_X0_countsWithNext G K r j (by omega) hc)) (by decide) (rfl) rfl rfl rfl ⟨Nat.le_of_ble_eq_true rfl, Nat.le_of_ble_eq_true rfl⟩ (Nat.le_of_ble_eq_true rfl) (Nat.le_refl _) (Nat.le_refl _) ?_
        refine V_if_ne (tgt := 24) C dX0_firstToCarry_12 (by decide) (by omega) (fun q12 => ?_) (fun q12 => by exfalso; omega)
        refine V_iload_n C dX0_firstToCarry_24 rfl rfl ?_
        exact V_iret C dX0_firstToCarry_25 rfl hZ (by rw [e, fk_1 hb]; rfl) rfl
      · by_cases h1 : 1 < K 11 j
        · have hb : cyB (K 11) j = true := by simp only [cyB, Bool.or_eq_true, decide_eq_true_eq]; exact Or.inr h1
          refine V_iload_n C dX0_firstToCarry_3 rfl rfl ?_
          refine V_if_lt (tgt := 32) C dX0_firstToCarry_4 (by decide) (by omega) (fun q4 => by exfalso; omega) (fun q4 => ?_)
          refine V_aload_n C dX0_firstToCarry_7 rfl rfl ?_
          refine V_iload_n C dX0_firstToCarry_8 rfl rfl ?_
          refine V_V1 (k2 := 0) (s2 := 0) C dX0_firstToCarry_9 lX0_25 kX0_countsWithNext (Ct_v (b2n hn) (c_X0_countsWithNext G K r j (by omega) hc)) (by decide) (rfl) rfl rfl rfl ⟨Nat.le_of_ble_eq_true rfl, Nat.le_of_ble_eq_true rfl⟩ (Nat.le_of_ble_eq_true rfl) (Nat.le_refl _) (Nat.le_refl _) ?_
          refine V_if_ne (tgt := 24) C dX0_firstToCarry_12 (by decide) (by omega) (fun q12 => by exfalso; omega) (fun q12 => ?_)
          refine V_aload_n C dX0_firstToCarry_15 rfl rfl ?_
          refine V_iload_n C dX0_firstToCarry_16 rfl rfl ?_
          refine V_V1 (k2 := 0) (s2 := 0) C dX0_firstToCarry_17 lX0_21 kX0_countOf (c_X0_countOf G K r (j : Int) (by omega)) (by decide) (rfl) rfl rfl rfl ⟨Nat.le_of_ble_eq_true rfl, Nat.le_of_ble_eq_true rfl⟩ (Nat.le_of_ble_eq_true rfl) (Nat.le_refl _) (Nat.le_refl _) ?_
          rw [ek]
          refine V_iconst C dX0_firstToCarry_20 ?_
          refine V_icmp_lt (tgt := 26) C dX0_firstToCarry_21 (by decide) (by omega) (by omega) (fun q21 => by exfalso; omega) (fun q21 => ?_)
          refine V_iload_n C dX0_firstToCarry_24 rfl rfl ?_
          exact V_iret C dX0_firstToCarry_25 rfl hZ (by rw [e, fk_1 hb]; rfl) rfl
        · have hb : cyB (K 11) j = false := by
            have h3 : ¬ (cyB (K 11) j = true) := by simp only [cyB, Bool.or_eq_true, decide_eq_true_eq]; omega
            simpa using h3
          refine V_iload_n C dX0_firstToCarry_3 rfl rfl ?_
          refine V_if_lt (tgt := 32) C dX0_firstToCarry_4 (by decide) (by omega) (fun q4 => by exfalso; omega) (fun q4 => ?_)
          refine V_aload_n C dX0_firstToCarry_7 rfl rfl ?_
          refine V_iload_n C dX0_firstToCarry_8 rfl rfl ?_
          refine V_V1 (k2 := 0) (s2 := 0) C dX0_firstToCarry_9 lX0_25 kX0_countsWithNext (Ct_v (b2n hn) (c_X0_countsWithNext G K r j (by omega) hc)) (by decide) (rfl) rfl rfl rfl ⟨Nat.le_of_ble_eq_true rfl, Nat.le_of_ble_eq_true rfl⟩ (Nat.le_of_ble_eq_true rfl) (Nat.le_refl _) (Nat.le_refl _) ?_
          refine V_if_ne (tgt := 24) C dX0_firstToCarry_12 (by decide) (by omega) (fun q12 => by exfalso; omega) (fun q12 => ?_)
          refine V_aload_n C dX0_firstToCarry_15 rfl rfl ?_
          refine V_iload_n C dX0_firstToCarry_16 rfl rfl ?_
          refine V_V1 (k2 := 0) (s2 := 0) C dX0_firstToCarry_17 lX0_21 kX0_countOf (c_X0_countOf G K r (j : Int) (by omega)) (by decide) (rfl) rfl rfl rfl ⟨Nat.le_of_ble_eq_true rfl, Nat.le_of_ble_eq_true rfl⟩ (Nat.le_of_ble_eq_true rfl) (Nat.le_refl _) (Nat.le_refl _) ?_
          rw [ek]
          refine V_iconst C dX0_firstToCarry_20 ?_
          refine V_icmp_lt (tgt := 26) C dX0_firstToCarry_21 (by decide) (by omega) (by omega) (fun q21 => ?_) (fun q21 => by exfalso; omega)
          refine V_iinc C dX0_firstToCarry_26 rfl (Nat.le_of_ble_eq_true rfl) rfl ?_
          refine V_goto (tgt := 3) C dX0_firstToCarry_29 (by decide) ?_
          exact ih _ (by omega) (by omega) (by rw [e, fk_0 hb])
  refine V_bipush C dX0_firstToCarry_0 (by decide +kernel) ?_
  refine V_istore_n C dX0_firstToCarry_2 rfl (Nat.le_of_ble_eq_true rfl) rfl ?_
  exact loop 20 19 (by omega) (by omega) rfl
set_option maxRecDepth 100000 in
set_option maxHeartbeats 4000000 in
theorem c_X0_carryAll (G : GT) (K : Nat → Nat → Int) (r : Nat → Option Nat) (m o : Nat) (hm : m < 262144) (ho : o < 262144) : CtO G yX0_carryAll mX0_carryAll [rf G 10, .int (iI (m : Int)), .int (iI (o : Int))] K r (some (.int (iI (adC m o : Nat)))) (us K 11 (adE m o)) (r) := by
  refine Ct_of kX0_carryAll.1.1 (by decide) [some (rf G 10), some (.int (iI (m : Int))), some (.int (iI (o : Int))), none, none] rfl (Nat.le_of_ble_eq_true rfl) ?_
  intro x C hZ
  have loop2 : ∀ (f : Nat) (c : Nat → Int) (n : Int) (o4 : Option Value), c0 c → sm wP c 24 < f → sm wP c 24 ≤ 2000 → (0 ≤ n) → n + cyN f c = (adC m o : Nat) → cyE f c = adE m o → V G mX0_carryAll x 36 [some (rf G 10), some (.int (iI (m : Int))), some (.int (iI (o : Int))), some (.int (iI n)), o4] [] 28 false (HP G (us K 11 c) r) 0 0 := by
    intro f
    induction f with
    | zero =>
      intro c n o4 hc0 hp
      have := sm_nn wP_nn hc0 24
      omega
    | succ f ih =>
      intro c n o4 hc0 hp hp2 hn hN hE
      have hcy := adC_r m o
      rcases hf : fk 20 c with _ | k
      · rw [cyN_n hf] at hN
        rw [cyE_n hf] at hE
        refine V_iload_n C dX0_carryAll_36 rfl rfl ?_
        refine V_sipush C dX0_carryAll_37 (by decide +kernel) ?_
        refine V_icmp_ge (tgt := 68) C dX0_carryAll_40 (by decide) (by omega) (by omega) (fun q40 => by exfalso; omega) (fun q40 => ?_)
        refine V_aload_n C dX0_carryAll_43 rfl rfl ?_
        refine V_V1 (k2 := 0) (s2 := 0) C dX0_carryAll_44 lX0_13 kX0_firstToCarry (Ct_v (v' := -1) (by rw [us_at, hf]; rfl) (c_X0_firstToCarry G (us K 11 c) r (fun j hj => by rw [us_at]; exact ⟨hc0 j, by have := c_le_pot hc0 (show j < 24 by omega); omega⟩))) (by decide) (rfl) rfl rfl rfl ⟨Nat.le_of_ble_eq_true rfl, Nat.le_of_ble_eq_true rfl⟩ (Nat.le_of_ble_eq_true rfl) (Nat.le_refl _) (Nat.le_refl _) ?_
        refine V_istore C dX0_carryAll_47 (Nat.le_of_ble_eq_true rfl) rfl ?_
        refine V_iload C dX0_carryAll_49 rfl ?_
        refine V_if_ge (tgt := 56) C dX0_carryAll_51 (by decide) (by omega) (fun q51 => by exfalso; omega) (fun q51 => ?_)
        refine V_iload_n C dX0_carryAll_54 rfl rfl ?_
        exact V_iret C dX0_carryAll_55 rfl hZ (by omega) (by rw [hE])
      · rw [cyN_s hf] at hN
        rw [cyE_s hf] at hE
        obtain ⟨hk, hb⟩ := fk_some hf
        have hpot := cyF_pot c (k := k) (by omega) hb
        have hc0' := cyF_c0 hc0 k
        refine V_iload_n C dX0_carryAll_36 rfl rfl ?_
        refine V_sipush C dX0_carryAll_37 (by decide +kernel) ?_
        refine V_icmp_ge (tgt := 68) C dX0_carryAll_40 (by decide) (by omega) (by omega) (fun q40 => by exfalso; omega) (fun q40 => ?_)
        refine V_aload_n C dX0_carryAll_43 rfl rfl ?_
        refine V_V1 (k2 := 0) (s2 := 0) C dX0_carryAll_44 lX0_13 kX0_firstToCarry (Ct_v (v' := (k : Int)) (by rw [us_at, hf]; rfl) (c_X0_firstToCarry G (us K 11 c) r (fun j hj => by rw [us_at]; exact ⟨hc0 j, by have := c_le_pot hc0 (show j < 24 by omega); omega⟩))) (by decide) (rfl) rfl rfl rfl ⟨Nat.le_of_ble_eq_true rfl, Nat.le_of_ble_eq_true rfl⟩ (Nat.le_of_ble_eq_true rfl) (Nat.le_refl _) (Nat.le_refl _) ?_
        refine V_istore C dX0_carryAll_47 (Nat.le_of_ble_eq_true rfl) rfl ?_
        refine V_iload C dX0_carryAll_49 rfl ?_
        refine V_if_ge (tgt := 56) C dX0_carryAll_51 (by decide) (by omega) (fun q51 => ?_) (fun q51 => by exfalso; omega)
        refine V_aload_n C dX0_carryAll_56 rfl rfl ?_
        refine V_iload C dX0_carryAll_57 rfl ?_
        refine V_V0 (k2 := 0) (s2 := 0) C dX0_carryAll_59 lX0_17 kX0_carryAt (c_X0_carryAt G (us K 11 c) r k (by omega) (fun j hj => by rw [us_at]; exact ⟨hc0 j, by have := c_le_pot hc0 (show j < 24 by omega); omega⟩) (by rw [us_at]; exact hb)) (by decide) (rfl) rfl rfl rfl ⟨Nat.le_of_ble_eq_true rfl, Nat.le_of_ble_eq_true rfl⟩ (Nat.le_of_ble_eq_true rfl) (Nat.le_refl _) (Nat.le_refl _) ?_
        refine V_iinc C dX0_carryAll_62 rfl (Nat.le_of_ble_eq_true rfl) rfl ?_
        refine V_goto (tgt := 36) C dX0_carryAll_65 (by decide) ?_
        refine V_hp ?_ (ih (cyF c k) (n + 1) _ hc0' (by omega) (by omega) (by omega) (by omega) hE)
        rw [us_at, us_us]
  have loop1 : ∀ (n k : Nat), k + n = 22 → V G mX0_carryAll x 2 [some (rf G 10), some (.int (iI (m : Int))), some (.int (iI (o : Int))), some (.int (iI (k : Int))), none] [] 28 false (HP G (us K 11 (cIk (K 11) m o k)) r) 0 0 := by
    intro n
    induction n with
    | zero =>
      intro k e
      refine V_iload_n C dX0_carryAll_2 rfl rfl ?_
      refine V_aload_n C dX0_carryAll_3 rfl rfl ?_
      refine V_getH (L := kyL G) C dX0_carryAll_4 fX0_9 (by decide) (fun _ => rfl) rfl ?_
      refine V_alenH C dX0_carryAll_7 (by decide) (fun _ => rfl) ?_
      refine V_icmp_ge (tgt := 34) C dX0_carryAll_8 (by decide) (by omega) (by omega) (fun q8 => ?_) (fun q8 => by exfalso; omega)
      refine V_aext 11 22 (cI m o) (fun _ => rfl) (fun j hj => ?_) ?_
      · rw [us_at]; simp only [cIk, cI]; rw [if_pos (by omega), if_pos (by omega)]
      · rw [us_us]
        refine V_iconst C dX0_carryAll_34 ?_
        refine V_istore_n C dX0_carryAll_35 rfl (Nat.le_of_ble_eq_true rfl) rfl ?_
        exact loop2 3000 (cI m o) 0 _ (cI_c0 m o) (by have := cI_pot m o; omega) (cI_pot m o) (by omega) (by unfold adC; omega) rfl
    | succ n ih =>
      intro k e
      have ek : ((k : Int)).toNat = k := by omega
      have b1 := b1_le m k
      have b9 := b1_le o k
      refine V_iload_n C dX0_carryAll_2 rfl rfl ?_
      refine V_aload_n C dX0_carryAll_3 rfl rfl ?_
      refine V_getH (L := kyL G) C dX0_carryAll_4 fX0_9 (by decide) (fun _ => rfl) rfl ?_
      refine V_alenH C dX0_carryAll_7 (by decide) (fun _ => rfl) ?_
      refine V_icmp_ge (tgt := 34) C dX0_carryAll_8 (by decide) (by omega) (by omega) (fun q8 => by exfalso; omega) (fun q8 => ?_)
      refine V_aload_n C dX0_carryAll_11 rfl rfl ?_
      refine V_getH (L := kyL G) C dX0_carryAll_12 fX0_9 (by decide) (fun _ => rfl) rfl ?_
      refine V_iload_n C dX0_carryAll_15 rfl rfl ?_
      refine V_iload_n C dX0_carryAll_16 rfl rfl ?_
      refine V_iload_n C dX0_carryAll_17 rfl rfl ?_
      refine V_ishr C dX0_carryAll_18 m k (by first | rfl | omega) (by first | rfl | omega) (by omega) (by omega) ?_
      refine V_iconst C dX0_carryAll_19 ?_
      refine V_iand C dX0_carryAll_20 (m >>> k) 1 (by first | rfl | omega) (by first | rfl | omega) ?_
      refine V_iload_n C dX0_carryAll_21 rfl rfl ?_
      refine V_iload_n C dX0_carryAll_22 rfl rfl ?_
      refine V_ishr C dX0_carryAll_23 o k (by first | rfl | omega) (by first | rfl | omega) (by omega) (by omega) ?_
      refine V_iconst C dX0_carryAll_24 ?_
      refine V_iand C dX0_carryAll_25 (o >>> k) 1 (by first | rfl | omega) (by first | rfl | omega) ?_
      refine V_iadd C dX0_carryAll_26 ?_
      refine V_iastH C dX0_carryAll_27 (by decide) (fun _ => rfl) (by omega) (by decide) ?_
      refine V_iinc C dX0_carryAll_28 rfl (Nat.le_of_ble_eq_true rfl) rfl ?_
      refine V_goto (tgt := 2) C dX0_carryAll_31 (by decide) ?_
      refine V_hp ?_ (ih (k + 1) (by omega))
      rw [ek, us_us, us_at, cIk_s]
  refine V_iconst C dX0_carryAll_0 ?_
  refine V_istore_n C dX0_carryAll_1 rfl (Nat.le_of_ble_eq_true rfl) rfl ?_
  refine V_hp ?_ (loop1 22 0 (by omega))
  rw [cIk_0, us_same]
set_option maxRecDepth 100000 in
set_option maxHeartbeats 4000000 in
theorem c_X0_toMark (G : GT) (K : Nat → Nat → Int) (r : Nat → Option Nat) (hc : ∀ j, j < 22 → 0 ≤ K 11 j ∧ K 11 j ≤ 10000) : CtO G yX0_toMark mX0_toMark [rf G 10] K r (some (.int (iI (mkN (K 11) 22 : Nat)))) (K) (r) := by
  refine Ct_of kX0_toMark.1.1 (by decide) [some (rf G 10), none, none] rfl (Nat.le_of_ble_eq_true rfl) ?_
  intro x C hZ
  have loop : ∀ (n k : Nat) (v : Int), k + n = 22 → v = (mkN (K 11) k : Nat) → V G mX0_toMark x 4 [some (rf G 10), some (.int (iI v)), some (.int (iI (k : Int)))] [] 28 false (HP G K r) 0 0 := by
    intro n
    induction n with
    | zero =>
      intro k v e e2
      refine V_iload_n C dX0_toMark_4 rfl rfl ?_
      refine V_aload_n C dX0_toMark_5 rfl rfl ?_
      refine V_getH (L := kyL G) C dX0_toMark_6 fX0_9 (by decide) (fun _ => rfl) rfl ?_
      refine V_alenH C dX0_toMark_9 (by decide) (fun _ => rfl) ?_
      refine V_icmp_ge (tgt := 34) C dX0_toMark_10 (by decide) (by omega) (by omega) (fun q10 => ?_) (fun q10 => by exfalso; omega)
      refine V_iload_n C dX0_toMark_34 rfl rfl ?_
      exact V_iret C dX0_toMark_35 rfl hZ (by rw [e2, show k = 22 by omega]) rfl
    | succ n ih =>
      intro k v e e2
      subst e2
      have ek : ((k : Int)).toNat = k := by omega
      have g0 := hc k (by omega)
      have g5 : 1 <<< k < 4294967296 := by
        rw [Nat.shiftLeft_eq, Nat.one_mul]
        exact Nat.lt_of_le_of_lt (Nat.pow_le_pow_right (by decide) (show k ≤ 22 by omega)) (by decide)
      by_cases g : 0 < K 11 k
      · skip
        refine V_iload_n C dX0_toMark_4 rfl rfl ?_
        refine V_aload_n C dX0_toMark_5 rfl rfl ?_
        refine V_getH (L := kyL G) C dX0_toMark_6 fX0_9 (by decide) (fun _ => rfl) rfl ?_
        refine V_alenH C dX0_toMark_9 (by decide) (fun _ => rfl) ?_
        refine V_icmp_ge (tgt := 34) C dX0_toMark_10 (by decide) (by omega) (by omega) (fun q10 => by exfalso; omega) (fun q10 => ?_)
        refine V_aload_n C dX0_toMark_13 rfl rfl ?_
        refine V_getH (L := kyL G) C dX0_toMark_14 fX0_9 (by decide) (fun _ => rfl) rfl ?_
        refine V_iload_n C dX0_toMark_17 rfl rfl ?_
        refine V_ialdH C dX0_toMark_18 (by decide) (fun _ => rfl) (by omega) (by decide) ?_
        rw [ek]
        refine V_if_le (tgt := 28) C dX0_toMark_19 (by decide) (by omega) (fun q19 => by exfalso; omega) (fun q19 => ?_)
        refine V_iload_n C dX0_toMark_22 rfl rfl ?_
        refine V_iconst C dX0_toMark_23 ?_
        refine V_iload_n C dX0_toMark_24 rfl rfl ?_
        refine V_ishl C dX0_toMark_25 1 k (by first | rfl | omega) (by first | rfl | omega) (by omega) (by omega) ?_
        refine V_ior C dX0_toMark_26 (mkN (K 11) k) (1 <<< k) (by first | rfl | omega) (by first | rfl | omega) ?_
        refine V_istore_n C dX0_toMark_27 rfl (Nat.le_of_ble_eq_true rfl) rfl ?_
        refine V_iinc C dX0_toMark_28 rfl (Nat.le_of_ble_eq_true rfl) rfl ?_
        refine V_goto (tgt := 4) C dX0_toMark_31 (by decide) ?_
        exact ih (k + 1) _ (by omega) (by simp only [mkN]; rw [if_pos g])
      · skip
        refine V_iload_n C dX0_toMark_4 rfl rfl ?_
        refine V_aload_n C dX0_toMark_5 rfl rfl ?_
        refine V_getH (L := kyL G) C dX0_toMark_6 fX0_9 (by decide) (fun _ => rfl) rfl ?_
        refine V_alenH C dX0_toMark_9 (by decide) (fun _ => rfl) ?_
        refine V_icmp_ge (tgt := 34) C dX0_toMark_10 (by decide) (by omega) (by omega) (fun q10 => by exfalso; omega) (fun q10 => ?_)
        refine V_aload_n C dX0_toMark_13 rfl rfl ?_
        refine V_getH (L := kyL G) C dX0_toMark_14 fX0_9 (by decide) (fun _ => rfl) rfl ?_
        refine V_iload_n C dX0_toMark_17 rfl rfl ?_
        refine V_ialdH C dX0_toMark_18 (by decide) (fun _ => rfl) (by omega) (by decide) ?_
        rw [ek]
        refine V_if_le (tgt := 28) C dX0_toMark_19 (by decide) (by omega) (fun q19 => ?_) (fun q19 => by exfalso; omega)
        refine V_iinc C dX0_toMark_28 rfl (Nat.le_of_ble_eq_true rfl) rfl ?_
        refine V_goto (tgt := 4) C dX0_toMark_31 (by decide) ?_
        exact ih (k + 1) _ (by omega) (by simp only [mkN]; rw [if_neg g])
  refine V_iconst C dX0_toMark_0 ?_
  refine V_istore_n C dX0_toMark_1 rfl (Nat.le_of_ble_eq_true rfl) rfl ?_
  refine V_iconst C dX0_toMark_2 ?_
  refine V_istore_n C dX0_toMark_3 rfl (Nat.le_of_ble_eq_true rfl) rfl ?_
  exact loop 22 0 0 (by omega) rfl
