theorem kS_s {K : Nat → Nat → Int} {st j : Nat} (hj : j < 74) : kS K st 29 j = K 29 j := svS_0 hj
theorem us_29 {K : Nat → Nat → Int} {F : Nat → Int} : us K 29 F 29 = F := rfl
/-- the stream with a digit turned -/
def tD (z : Nat → Int) (p : Nat) : Nat → Int := us z (7 + p) (1 - z (7 + p))
theorem tD_tD (z : Nat → Int) (p : Nat) : tD (tD z p) p = z := by
  unfold tD
  rw [us_us, us_at]
  have : (1 - (1 - z (7 + p))) = z (7 + p) := by omega
  rw [this, us_same]
theorem Wd_us29 (K : Nat → Nat → Int) (w l : Int) (fo F : Nat → Int) : us (Wd K w l fo) 29 F = Wd (us K 29 F) w l fo := by
  unfold Wd
  rw [us_comm (us K 28 _) fo F (by decide), us_comm K _ F (by decide)]; rfl
/-- the stream's reading -/
def rdZ (z : Nat → Int) : Nat × Nat × Nat × List Nat := rdS (fun j => z (7 + j)) (z 6).toNat
def WdZ (K : Nat → Nat → Int) (z : Nat → Int) : Nat → Nat → Int := Wd K ((rdZ z).2.2.1 : Nat) ((rdZ z).2.1 : Nat) (foU (K 32) (rdZ z).2.2.2)
set_option maxRecDepth 100000 in
set_option maxHeartbeats 4000000 in
theorem c_X6_readTurned (G : GT) (K : Nat → Nat → Int) (r : Nat → Option Nat) (p : Nat) (hp : p < 64) (hG : GZ (K 29)) : CtO G yX6_readTurned mX6_readTurned [rf G 28, .int (iI (p : Int))] K r (some (.int (iI ((rdZ (tD (K 29) p)).2.2.2.length : Nat)))) (WdZ K (tD (K 29) p)) (r) := by
  refine Ct_of kX6_readTurned.1.1 (by decide) [some (rf G 28), some (.int (iI (p : Int))), none] rfl (Nat.le_of_ble_eq_true rfl) ?_
  intro x C hZ
  have g6 := hG.2.1
  have g8 := GZ_turn hG hp
  have hd : ∀ j, j < 64 → 0 ≤ tD (K 29) p (7 + j) ∧ tD (K 29) p (7 + j) ≤ 1 := fun j hj => g8.2.2.1 (7 + j) (by omega) (by omega)
  have e6 : tD (K 29) p 6 = K 29 6 := us_ne _ _ (by omega)
  refine V_aload_n C dX6_readTurned_0 rfl rfl ?_
  refine V_iload_n C dX6_readTurned_1 rfl rfl ?_
  refine V_V1 (k2 := 0) (s2 := 0) C dX6_readTurned_2 lX6_96 kX6_turns (c_X6_turns G _ r p hp) (by decide) (rfl) rfl rfl rfl ⟨Nat.le_of_ble_eq_true rfl, Nat.le_of_ble_eq_true rfl⟩ (Nat.le_of_ble_eq_true rfl) (Nat.le_refl _) (Nat.le_refl _) ?_
  refine V_pop C dX6_readTurned_5 rfl ?_
  refine V_aload_n C dX6_readTurned_6 rfl rfl ?_
  refine V_V1 (k2 := 0) (s2 := 0) C dX6_readTurned_7 lX6_163 kX6_reads (c_X6_reads G (us K 29 (tD (K 29) p)) r (K 29 6).toNat (by show tD (K 29) p 6 = _; rw [e6]; exact (toN g6.1).symm) (by omega) hd) (by decide) (rfl) rfl rfl rfl ⟨Nat.le_of_ble_eq_true rfl, Nat.le_of_ble_eq_true rfl⟩ (Nat.le_of_ble_eq_true rfl) (Nat.le_refl _) (Nat.le_refl _) ?_
  refine V_istore_n C dX6_readTurned_10 rfl (Nat.le_of_ble_eq_true rfl) rfl ?_
  refine V_aload_n C dX6_readTurned_11 rfl rfl ?_
  refine V_iload_n C dX6_readTurned_12 rfl rfl ?_
  refine V_V1 (k2 := 0) (s2 := 0) C dX6_readTurned_13 lX6_96 kX6_turns (c_X6_turns G _ r p hp) (by decide) (rfl) rfl rfl rfl ⟨Nat.le_of_ble_eq_true rfl, Nat.le_of_ble_eq_true rfl⟩ (Nat.le_of_ble_eq_true rfl) (Nat.le_refl _) (Nat.le_refl _) ?_
  refine V_pop C dX6_readTurned_16 rfl ?_
  refine V_iload_n C dX6_readTurned_17 rfl rfl ?_
  exact V_iret C dX6_readTurned_18 rfl hZ (by unfold rdZ; rw [e6]; rfl) (by rw [Wd_us29, us_us, show us (Wd (us K 29 (tD (K 29) p)) _ _ _ 29) (7 + p) (1 - Wd (us K 29 (tD (K 29) p)) _ _ _ 29 (7 + p)) = K 29 from tD_tD _ _, us_same]; unfold WdZ rdZ; rw [e6]; rfl)
set_option maxRecDepth 100000 in
set_option maxHeartbeats 4000000 in
theorem n_X6_readIfTurned (G : GT) (K : Nat → Nat → Int) (r : Nat → Option Nat) (hG : GZ (K 29)) (p : Int) (hp : -2147483648 ≤ p ∧ p < 2147483648) (hc : ¬ (0 ≤ p ∧ p ≤ K 29 6 - 1)) : CtO G yX6_readIfTurned mX6_readIfTurned [rf G 28, .int (iI p)] K r (some (.int (iI 0))) (kT K 1) (r) := by
  refine Ct_of kX6_readIfTurned.1.1 (by decide) [some (rf G 28), some (.int (iI p))] rfl (Nat.le_of_ble_eq_true rfl) ?_
  intro x C hZ
  refine V_aload_n C dX6_readIfTurned_0 rfl rfl ?_
  refine V_aload_n C dX6_readIfTurned_1 rfl rfl ?_
  refine V_iload_n C dX6_readIfTurned_2 rfl rfl ?_
  refine V_V1 (k2 := 0) (s2 := 0) C dX6_readIfTurned_3 lX6_93 kX6_isDigit (Ct_v (b2n (show ¬ (0 ≤ p ∧ p ≤ K 29 6 - 1) from by omega)) (c_X6_isDigit G K r hG.2.1 p (by omega))) (by decide) (rfl) rfl rfl rfl ⟨Nat.le_of_ble_eq_true rfl, Nat.le_of_ble_eq_true rfl⟩ (Nat.le_of_ble_eq_true rfl) (Nat.le_refl _) (Nat.le_refl _) ?_
  refine V_iconst C dX6_readIfTurned_6 ?_
  refine V_iconst C dX6_readIfTurned_7 ?_
  refine V_V1 (k2 := 0) (s2 := 0) C dX6_readIfTurned_8 lX6_68 kX6_goes (Ct_v (v' := 0) rfl (c_X6_goes G _ r false true true)) (by decide) (rfl) rfl rfl rfl ⟨Nat.le_of_ble_eq_true rfl, Nat.le_of_ble_eq_true rfl⟩ (Nat.le_of_ble_eq_true rfl) (Nat.le_refl _) (Nat.le_refl _) ?_
  refine V_if_eq (tgt := 22) C dX6_readIfTurned_11 (by decide) (by omega) (fun q11 => ?_) (fun q11 => by exfalso; omega)
  refine V_iconst C dX6_readIfTurned_22 ?_
  exact V_iret C dX6_readIfTurned_23 rfl hZ (by first | rfl | omega) rfl
set_option maxRecDepth 100000 in
set_option maxHeartbeats 4000000 in
theorem c_X6_readIfTurned (G : GT) (K : Nat → Nat → Int) (r : Nat → Option Nat) (hG : GZ (K 29)) (p : Int) (hp : -2147483648 ≤ p ∧ p < 2147483648) (hc : 0 ≤ p ∧ p ≤ K 29 6 - 1) : CtO G yX6_readIfTurned mX6_readIfTurned [rf G 28, .int (iI p)] K r (some (.int (iI ((rdZ (tD (K 29) p.toNat)).2.2.2.length : Nat)))) (WdZ (kT K 0) (tD (K 29) p.toNat)) (r) := by
  refine Ct_of kX6_readIfTurned.1.1 (by decide) [some (rf G 28), some (.int (iI p))] rfl (Nat.le_of_ble_eq_true rfl) ?_
  intro x C hZ
  have g6 := hG.2.1
  have hp1 : ((p.toNat : Nat) : Int) = p := by omega
  refine V_aload_n C dX6_readIfTurned_0 rfl rfl ?_
  refine V_aload_n C dX6_readIfTurned_1 rfl rfl ?_
  refine V_iload_n C dX6_readIfTurned_2 rfl rfl ?_
  refine V_V1 (k2 := 0) (s2 := 0) C dX6_readIfTurned_3 lX6_93 kX6_isDigit (Ct_v (b2y (show 0 ≤ p ∧ p ≤ K 29 6 - 1 from by omega)) (c_X6_isDigit G K r hG.2.1 p (by omega))) (by decide) (rfl) rfl rfl rfl ⟨Nat.le_of_ble_eq_true rfl, Nat.le_of_ble_eq_true rfl⟩ (Nat.le_of_ble_eq_true rfl) (Nat.le_refl _) (Nat.le_refl _) ?_
  refine V_iconst C dX6_readIfTurned_6 ?_
  refine V_iconst C dX6_readIfTurned_7 ?_
  refine V_V1 (k2 := 0) (s2 := 0) C dX6_readIfTurned_8 lX6_68 kX6_goes (Ct_v (v' := 1) rfl (c_X6_goes G _ r true true true)) (by decide) (rfl) rfl rfl rfl ⟨Nat.le_of_ble_eq_true rfl, Nat.le_of_ble_eq_true rfl⟩ (Nat.le_of_ble_eq_true rfl) (Nat.le_refl _) (Nat.le_refl _) ?_
  refine V_if_eq (tgt := 22) C dX6_readIfTurned_11 (by decide) (by omega) (fun q11 => by exfalso; omega) (fun q11 => ?_)
  refine V_aload_n C dX6_readIfTurned_14 rfl rfl ?_
  refine V_iload_n C dX6_readIfTurned_15 rfl rfl ?_
  rw [← hp1]
  refine V_V1 (k2 := 0) (s2 := 0) C dX6_readIfTurned_16 lX6_166 kX6_readTurned (c_X6_readTurned G (kT K 0) r p.toNat (by omega) hG) (by decide) (rfl) rfl rfl rfl ⟨Nat.le_of_ble_eq_true rfl, Nat.le_of_ble_eq_true rfl⟩ (Nat.le_of_ble_eq_true rfl) (Nat.le_refl _) (Nat.le_refl _) ?_
  refine V_goto (tgt := 23) C dX6_readIfTurned_19 (by decide) ?_
  exact V_iret C dX6_readIfTurned_23 rfl hZ (by first | rfl | omega) rfl
set_option maxRecDepth 100000 in
set_option maxHeartbeats 4000000 in
theorem n_X6_readAt (G : GT) (K : Nat → Nat → Int) (r : Nat → Option Nat) (hG : GZ (K 29)) (p : Int) (hp : -2147483648 ≤ p ∧ p < 2147483648) (hc : ¬ (0 ≤ p ∧ p < ((rdZ (K 29)).2.2.2.length : Nat))) : CtO G yX6_readAt mX6_readAt [rf G 28, .int (iI p)] K r (some (.int (iI 0))) (kT (WdZ K (K 29)) 1) (r) := by
  refine Ct_of kX6_readAt.1.1 (by decide) [some (rf G 28), some (.int (iI p))] rfl (Nat.le_of_ble_eq_true rfl) ?_
  intro x C hZ
  have g6 := hG.2.1
  have hd : ∀ j, j < 64 → 0 ≤ K 29 (7 + j) ∧ K 29 (7 + j) ≤ 1 := fun j hj => hG.2.2.1 (7 + j) (by omega) (by omega)
  have hr := rdS_le (fun j => K 29 (7 + j)) (K 29 6).toNat
  refine V_aload_n C dX6_readAt_0 rfl rfl ?_
  refine V_iload_n C dX6_readAt_1 rfl rfl ?_
  refine V_iconst C dX6_readAt_2 ?_
  refine V_aload_n C dX6_readAt_3 rfl rfl ?_
  refine V_V1 (k2 := 0) (s2 := 0) C dX6_readAt_4 lX6_163 kX6_reads (c_X6_reads G K r (K 29 6).toNat (toN g6.1).symm (by omega) hd) (by decide) (rfl) rfl rfl rfl ⟨Nat.le_of_ble_eq_true rfl, Nat.le_of_ble_eq_true rfl⟩ (Nat.le_of_ble_eq_true rfl) (Nat.le_refl _) (Nat.le_refl _) ?_
  refine V_iconst C dX6_readAt_7 ?_
  refine V_isub C dX6_readAt_8 ?_
  refine V_S1 (k2 := 0) (s2 := 0) C dX6_readAt_9 lX6_57 kX6_in (Ct_v (b2n (show ¬ (0 ≤ p ∧ p ≤ ((rdS (fun j => K 29 (7 + j)) (K 29 6).toNat).2.2.2.length : Nat) - 1) from by unfold rdZ at hc; omega)) (c_X6_in p 0 _ (by omega) (by omega) (by omega) G 34 false _)) rfl rfl ⟨Nat.le_of_ble_eq_true rfl, Nat.le_of_ble_eq_true rfl⟩ (Nat.le_of_ble_eq_true rfl) (Nat.le_refl _) (Nat.le_refl _) ?_
  refine V_iconst C dX6_readAt_12 ?_
  refine V_iconst C dX6_readAt_13 ?_
  refine V_V1 (k2 := 0) (s2 := 0) C dX6_readAt_14 lX6_68 kX6_goes (Ct_v (v' := 0) rfl (c_X6_goes G _ r false true true)) (by decide) (rfl) rfl rfl rfl ⟨Nat.le_of_ble_eq_true rfl, Nat.le_of_ble_eq_true rfl⟩ (Nat.le_of_ble_eq_true rfl) (Nat.le_refl _) (Nat.le_refl _) ?_
  refine V_if_eq (tgt := 29) C dX6_readAt_17 (by decide) (by omega) (fun q17 => ?_) (fun q17 => by exfalso; omega)
  refine V_iconst C dX6_readAt_29 ?_
  exact V_iret C dX6_readAt_30 rfl hZ (by first | rfl | omega) rfl
set_option maxRecDepth 100000 in
set_option maxHeartbeats 4000000 in
theorem c_X6_readAt (G : GT) (K : Nat → Nat → Int) (r : Nat → Option Nat) (hG : GZ (K 29)) (p : Int) (hp : -2147483648 ≤ p ∧ p < 2147483648) (hc : 0 ≤ p ∧ p < ((rdZ (K 29)).2.2.2.length : Nat)) : CtO G yX6_readAt mX6_readAt [rf G 28, .int (iI p)] K r (some (.int (iI (((rdZ (K 29)).2.2.2.getD p.toNat 0 : Nat) : Int)))) (kT (WdZ K (K 29)) 0) (r) := by
  refine Ct_of kX6_readAt.1.1 (by decide) [some (rf G 28), some (.int (iI p))] rfl (Nat.le_of_ble_eq_true rfl) ?_
  intro x C hZ
  have g6 := hG.2.1
  have hd : ∀ j, j < 64 → 0 ≤ K 29 (7 + j) ∧ K 29 (7 + j) ≤ 1 := fun j hj => hG.2.2.1 (7 + j) (by omega) (by omega)
  have hr := rdS_le (fun j => K 29 (7 + j)) (K 29 6).toNat
  have hl : (rdZ (K 29)).2.2.2.length ≤ 32 := by unfold rdZ; omega
  refine V_aload_n C dX6_readAt_0 rfl rfl ?_
  refine V_iload_n C dX6_readAt_1 rfl rfl ?_
  refine V_iconst C dX6_readAt_2 ?_
  refine V_aload_n C dX6_readAt_3 rfl rfl ?_
  refine V_V1 (k2 := 0) (s2 := 0) C dX6_readAt_4 lX6_163 kX6_reads (c_X6_reads G K r (K 29 6).toNat (toN g6.1).symm (by omega) hd) (by decide) (rfl) rfl rfl rfl ⟨Nat.le_of_ble_eq_true rfl, Nat.le_of_ble_eq_true rfl⟩ (Nat.le_of_ble_eq_true rfl) (Nat.le_refl _) (Nat.le_refl _) ?_
  refine V_iconst C dX6_readAt_7 ?_
  refine V_isub C dX6_readAt_8 ?_
  refine V_S1 (k2 := 0) (s2 := 0) C dX6_readAt_9 lX6_57 kX6_in (Ct_v (b2y (show 0 ≤ p ∧ p ≤ ((rdS (fun j => K 29 (7 + j)) (K 29 6).toNat).2.2.2.length : Nat) - 1 from by unfold rdZ at hc; omega)) (c_X6_in p 0 _ (by omega) (by omega) (by omega) G 34 false _)) rfl rfl ⟨Nat.le_of_ble_eq_true rfl, Nat.le_of_ble_eq_true rfl⟩ (Nat.le_of_ble_eq_true rfl) (Nat.le_refl _) (Nat.le_refl _) ?_
  refine V_iconst C dX6_readAt_12 ?_
  refine V_iconst C dX6_readAt_13 ?_
  refine V_V1 (k2 := 0) (s2 := 0) C dX6_readAt_14 lX6_68 kX6_goes (Ct_v (v' := 1) rfl (c_X6_goes G _ r true true true)) (by decide) (rfl) rfl rfl rfl ⟨Nat.le_of_ble_eq_true rfl, Nat.le_of_ble_eq_true rfl⟩ (Nat.le_of_ble_eq_true rfl) (Nat.le_refl _) (Nat.le_refl _) ?_
  refine V_if_eq (tgt := 29) C dX6_readAt_17 (by decide) (by omega) (fun q17 => by exfalso; omega) (fun q17 => ?_)
  refine V_aload_n C dX6_readAt_20 rfl rfl ?_
  refine V_getH (L := mOl G) C dX6_readAt_21 fX6_19 (by decide) (fun _ => rfl) rfl ?_
  refine V_iload_n C dX6_readAt_24 rfl rfl ?_
  refine V_ialdH C dX6_readAt_25 (by decide) (fun _ => rfl) (by omega) (by decide) ?_
  refine V_goto (tgt := 30) C dX6_readAt_26 (by decide) ?_
  exact V_iret C dX6_readAt_30 rfl hZ (by show foU (K 32) (rdZ (K 29)).2.2.2 p.toNat = _; unfold foU; rw [if_pos (by omega)]) rfl
