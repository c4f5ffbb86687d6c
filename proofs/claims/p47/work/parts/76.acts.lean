/-! a change by a cell: what it does -/
def AC (s : Nat → Int) (st : Nat) (sd : Bool) (told : Int) (s1 : Nat → Int) (st2 : Nat) : Prop :=
  (told < 0 ∧ s1 = s ∧ st2 = st) ∨ (0 ≤ told ∧ st2 = st1 st ∧ (∀ j, 74 ≤ j → s1 j = svS s st j) ∧ (sd = true → ∃ p : Nat, (1 ≤ p ∧ p ≤ 6764) ∧ (s 6).toNat + cl (p : Int) ≤ 64 ∧ s1 = sdF (svS s st) (s 6).toNat (gm 18 p) (cl (p : Int)) (cl (p : Int))))
def OkB (G : GT) (y : MethodName) (me : MeT) (as : List Value) (K : Nat → Nat → Int) (r : Nat → Option Nat) (sd : Bool) (s : Nat → Int) (st : Nat) (kp : Int) (t : Nat → Int) : Prop :=
  ∃ (told : Int) (s1 : Nat → Int) (st2 T1 : Nat) (K1 : Nat → Nat → Int) (r1 : Nat → Option Nat), CtH G y me as 28 false (HP G K r) 1 6 (some (.int (iI told))) 28 false (HP G K1 r1) ∧ IC K1 r1 s1 st2 kp t T1 ∧ GI s1 st2 kp t T1 ∧ (-2147483648 ≤ told ∧ told < 2147483648) ∧ AC s st sd told s1 st2
def OkA (G : GT) (K : Nat → Nat → Int) (r : Nat → Option Nat) (y : Nat) (s : Nat → Int) (st : Nat) (kp : Int) : Prop :=
  ∃ (told : Int) (s1 : Nat → Int) (st2 : Nat) (t1 : Nat → Int) (T1 : Nat) (K1 : Nat → Nat → Int) (r1 : Nat → Option Nat), Ct G yL_acts mL_acts [rf G 0, .int (iI (y : Int))] 28 false (HP G K r) 1 6 (some (.int (iI told))) 28 false (HP G K1 r1) ∧ IC K1 r1 s1 st2 kp t1 T1 ∧ GI s1 st2 kp t1 T1 ∧ (-2147483648 ≤ told ∧ told < 2147483648) ∧ AC s st (decide (8 ≤ y % 16 ∧ y % 16 ≤ 10)) told s1 st2
set_option maxRecDepth 100000 in
set_option maxHeartbeats 4000000 in
theorem h6_L_set (G : GT) (K : Nat → Nat → Int) (r : Nat → Option Nat) (p : Int) (hp : -2147483648 ≤ p ∧ p < 2147483648) (q : Int) (hq : -2147483648 ≤ q ∧ q < 2147483648) (v : Int) (K1 : Nat → Nat → Int) (r1 : Nat → Option Nat) (hc : CtO G yX5_set mX5_set [rf G 0, .int (iI p), .int (iI q)] K r (some (.int (iI v))) K1 r1) : CtH G yL_set mL_set [rf G 0, .int (iI p), .int (iI q)] 28 false (HP G K r) 1 6 (some (.int (iI v))) 28 false (HP G K1 r1) := by
  refine CtH_of kL_set (by decide) [some (rf G 0), some (.int (iI p)), some (.int (iI q)), none] rfl (Nat.le_of_ble_eq_true rfl) ?_
  intro x C hZ
  refine V_aload_n C dL_set_0 rfl rfl ?_
  refine V_iload_n C dL_set_1 rfl rfl ?_
  refine V_iload_n C dL_set_2 rfl rfl ?_
  refine V_V1 (k2 := 1) (s2 := 6) C dL_set_3 lL_9 kX5_set (hc) (by decide) (rfl) rfl rfl rfl ⟨Nat.le_of_ble_eq_true rfl, Nat.le_of_ble_eq_true rfl⟩ (Nat.le_of_ble_eq_true rfl) (Nat.le_refl _) (Nat.le_refl _) ?_
  exact V_iret C dL_set_6 rfl hZ rfl rfl
set_option maxRecDepth 100000 in
set_option maxHeartbeats 4000000 in
theorem h6_L_add (G : GT) (K : Nat → Nat → Int) (r : Nat → Option Nat) (p : Int) (hp : -2147483648 ≤ p ∧ p < 2147483648) (q : Int) (hq : -2147483648 ≤ q ∧ q < 2147483648) (v : Int) (K1 : Nat → Nat → Int) (r1 : Nat → Option Nat) (hc : CtO G yX5_add mX5_add [rf G 0, .int (iI p), .int (iI q)] K r (some (.int (iI v))) K1 r1) : CtH G yL_add mL_add [rf G 0, .int (iI p), .int (iI q)] 28 false (HP G K r) 1 6 (some (.int (iI v))) 28 false (HP G K1 r1) := by
  refine CtH_of kL_add (by decide) [some (rf G 0), some (.int (iI p)), some (.int (iI q)), none] rfl (Nat.le_of_ble_eq_true rfl) ?_
  intro x C hZ
  refine V_aload_n C dL_add_0 rfl rfl ?_
  refine V_iload_n C dL_add_1 rfl rfl ?_
  refine V_iload_n C dL_add_2 rfl rfl ?_
  refine V_V1 (k2 := 1) (s2 := 6) C dL_add_3 lL_21 kX5_add (hc) (by decide) (rfl) rfl rfl rfl ⟨Nat.le_of_ble_eq_true rfl, Nat.le_of_ble_eq_true rfl⟩ (Nat.le_of_ble_eq_true rfl) (Nat.le_refl _) (Nat.le_refl _) ?_
  exact V_iret C dL_add_6 rfl hZ rfl rfl
set_option maxRecDepth 100000 in
set_option maxHeartbeats 4000000 in
theorem h6_L_take (G : GT) (K : Nat → Nat → Int) (r : Nat → Option Nat) (p : Int) (hp : -2147483648 ≤ p ∧ p < 2147483648) (q : Int) (hq : -2147483648 ≤ q ∧ q < 2147483648) (v : Int) (K1 : Nat → Nat → Int) (r1 : Nat → Option Nat) (hc : CtO G yX5_takeAway mX5_takeAway [rf G 0, .int (iI p), .int (iI q)] K r (some (.int (iI v))) K1 r1) : CtH G yL_take mL_take [rf G 0, .int (iI p), .int (iI q)] 28 false (HP G K r) 1 6 (some (.int (iI v))) 28 false (HP G K1 r1) := by
  refine CtH_of kL_take (by decide) [some (rf G 0), some (.int (iI p)), some (.int (iI q)), none] rfl (Nat.le_of_ble_eq_true rfl) ?_
  intro x C hZ
  refine V_aload_n C dL_take_0 rfl rfl ?_
  refine V_iload_n C dL_take_1 rfl rfl ?_
  refine V_iload_n C dL_take_2 rfl rfl ?_
  refine V_V1 (k2 := 1) (s2 := 6) C dL_take_3 lL_26 kX5_takeAway (hc) (by decide) (rfl) rfl rfl rfl ⟨Nat.le_of_ble_eq_true rfl, Nat.le_of_ble_eq_true rfl⟩ (Nat.le_of_ble_eq_true rfl) (Nat.le_refl _) (Nat.le_refl _) ?_
  exact V_iret C dL_take_6 rfl hZ rfl rfl
set_option maxRecDepth 100000 in
set_option maxHeartbeats 4000000 in
theorem h6_L_raise (G : GT) (K : Nat → Nat → Int) (r : Nat → Option Nat) (p : Int) (hp : -2147483648 ≤ p ∧ p < 2147483648) (v : Int) (K1 : Nat → Nat → Int) (r1 : Nat → Option Nat) (hc : CtO G yX5_raise mX5_raise [rf G 0, .int (iI p)] K r (some (.int (iI v))) K1 r1) : CtH G yL_raise mL_raise [rf G 0, .int (iI p)] 28 false (HP G K r) 1 6 (some (.int (iI v))) 28 false (HP G K1 r1) := by
  refine CtH_of kL_raise (by decide) [some (rf G 0), some (.int (iI p)), none] rfl (Nat.le_of_ble_eq_true rfl) ?_
  intro x C hZ
  refine V_aload_n C dL_raise_0 rfl rfl ?_
  refine V_iload_n C dL_raise_1 rfl rfl ?_
  refine V_V1 (k2 := 1) (s2 := 6) C dL_raise_2 lL_29 kX5_raise (hc) (by decide) (rfl) rfl rfl rfl ⟨Nat.le_of_ble_eq_true rfl, Nat.le_of_ble_eq_true rfl⟩ (Nat.le_of_ble_eq_true rfl) (Nat.le_refl _) (Nat.le_refl _) ?_
  exact V_iret C dL_raise_5 rfl hZ rfl rfl
set_option maxRecDepth 100000 in
set_option maxHeartbeats 4000000 in
theorem h6_L_pay (G : GT) (K : Nat → Nat → Int) (r : Nat → Option Nat) (p : Int) (hp : -2147483648 ≤ p ∧ p < 2147483648) (q : Int) (hq : -2147483648 ≤ q ∧ q < 2147483648) (u : Int) (hu : -2147483648 ≤ u ∧ u < 2147483648) (v : Int) (K1 : Nat → Nat → Int) (r1 : Nat → Option Nat) (hc : CtO G yX5_pay mX5_pay [rf G 0, .int (iI p), .int (iI q), .int (iI u)] K r (some (.int (iI v))) K1 r1) : CtH G yL_pay mL_pay [rf G 0, .int (iI p), .int (iI q), .int (iI u)] 28 false (HP G K r) 1 6 (some (.int (iI v))) 28 false (HP G K1 r1) := by
  refine CtH_of kL_pay (by decide) [some (rf G 0), some (.int (iI p)), some (.int (iI q)), some (.int (iI u)), none] rfl (Nat.le_of_ble_eq_true rfl) ?_
  intro x C hZ
  refine V_aload_n C dL_pay_0 rfl rfl ?_
  refine V_iload_n C dL_pay_1 rfl rfl ?_
  refine V_iload_n C dL_pay_2 rfl rfl ?_
  refine V_iload_n C dL_pay_3 rfl rfl ?_
  refine V_V1 (k2 := 1) (s2 := 6) C dL_pay_4 lL_33 kX5_pay (hc) (by decide) (rfl) rfl rfl rfl ⟨Nat.le_of_ble_eq_true rfl, Nat.le_of_ble_eq_true rfl⟩ (Nat.le_of_ble_eq_true rfl) (Nat.le_refl _) (Nat.le_refl _) ?_
  exact V_iret C dL_pay_7 rfl hZ rfl rfl
set_option maxRecDepth 100000 in
set_option maxHeartbeats 4000000 in
theorem h6_L_send (G : GT) (K : Nat → Nat → Int) (r : Nat → Option Nat) (p : Int) (hp : -2147483648 ≤ p ∧ p < 2147483648) (v : Int) (K1 : Nat → Nat → Int) (r1 : Nat → Option Nat) (hc : CtO G yX5_send mX5_send [rf G 0, .int (iI p)] K r (some (.int (iI v))) K1 r1) : CtH G yL_send mL_send [rf G 0, .int (iI p)] 28 false (HP G K r) 1 6 (some (.int (iI v))) 28 false (HP G K1 r1) := by
  refine CtH_of kL_send (by decide) [some (rf G 0), some (.int (iI p)), none] rfl (Nat.le_of_ble_eq_true rfl) ?_
  intro x C hZ
  refine V_aload_n C dL_send_0 rfl rfl ?_
  refine V_iload_n C dL_send_1 rfl rfl ?_
  refine V_V1 (k2 := 1) (s2 := 6) C dL_send_2 lL_38 kX5_send (hc) (by decide) (rfl) rfl rfl rfl ⟨Nat.le_of_ble_eq_true rfl, Nat.le_of_ble_eq_true rfl⟩ (Nat.le_of_ble_eq_true rfl) (Nat.le_refl _) (Nat.le_refl _) ?_
  exact V_iret C dL_send_5 rfl hZ rfl rfl
set_option maxRecDepth 100000 in
set_option maxHeartbeats 4000000 in
theorem h6_L_turn (G : GT) (K : Nat → Nat → Int) (r : Nat → Option Nat) (p : Int) (hp : -2147483648 ≤ p ∧ p < 2147483648) (v : Int) (K1 : Nat → Nat → Int) (r1 : Nat → Option Nat) (hc : CtO G yX5_turn mX5_turn [rf G 0, .int (iI p)] K r (some (.int (iI v))) K1 r1) : CtH G yL_turn mL_turn [rf G 0, .int (iI p)] 28 false (HP G K r) 1 6 (some (.int (iI v))) 28 false (HP G K1 r1) := by
  refine CtH_of kL_turn (by decide) [some (rf G 0), some (.int (iI p)), none] rfl (Nat.le_of_ble_eq_true rfl) ?_
  intro x C hZ
  refine V_aload_n C dL_turn_0 rfl rfl ?_
  refine V_iload_n C dL_turn_1 rfl rfl ?_
  refine V_V1 (k2 := 1) (s2 := 6) C dL_turn_2 lL_41 kX5_turn (hc) (by decide) (rfl) rfl rfl rfl ⟨Nat.le_of_ble_eq_true rfl, Nat.le_of_ble_eq_true rfl⟩ (Nat.le_of_ble_eq_true rfl) (Nat.le_refl _) (Nat.le_refl _) ?_
  exact V_iret C dL_turn_5 rfl hZ rfl rfl
set_option maxRecDepth 100000 in
set_option maxHeartbeats 4000000 in
theorem h6_L_cut (G : GT) (K : Nat → Nat → Int) (r : Nat → Option Nat) (p : Int) (hp : -2147483648 ≤ p ∧ p < 2147483648) (v : Int) (K1 : Nat → Nat → Int) (r1 : Nat → Option Nat) (hc : CtO G yX5_cut mX5_cut [rf G 0, .int (iI p)] K r (some (.int (iI v))) K1 r1) : CtH G yL_cut mL_cut [rf G 0, .int (iI p)] 28 false (HP G K r) 1 6 (some (.int (iI v))) 28 false (HP G K1 r1) := by
  refine CtH_of kL_cut (by decide) [some (rf G 0), some (.int (iI p)), none] rfl (Nat.le_of_ble_eq_true rfl) ?_
  intro x C hZ
  refine V_aload_n C dL_cut_0 rfl rfl ?_
  refine V_iload_n C dL_cut_1 rfl rfl ?_
  refine V_V1 (k2 := 1) (s2 := 6) C dL_cut_2 lL_44 kX5_cut (hc) (by decide) (rfl) rfl rfl rfl ⟨Nat.le_of_ble_eq_true rfl, Nat.le_of_ble_eq_true rfl⟩ (Nat.le_of_ble_eq_true rfl) (Nat.le_refl _) (Nat.le_refl _) ?_
  exact V_iret C dL_cut_5 rfl hZ rfl rfl
set_option maxRecDepth 100000 in
set_option maxHeartbeats 4000000 in
theorem h6_L_work (G : GT) (K : Nat → Nat → Int) (r : Nat → Option Nat)  (v : Int) (K1 : Nat → Nat → Int) (r1 : Nat → Option Nat) (hc : CtO G yX5_work mX5_work [rf G 0] K r (some (.int (iI v))) K1 r1) : CtH G yL_work mL_work [rf G 0] 28 false (HP G K r) 1 6 (some (.int (iI v))) 28 false (HP G K1 r1) := by
  refine CtH_of kL_work (by decide) [some (rf G 0), none] rfl (Nat.le_of_ble_eq_true rfl) ?_
  intro x C hZ
  refine V_aload_n C dL_work_0 rfl rfl ?_
  refine V_V1 (k2 := 1) (s2 := 6) C dL_work_1 lL_50 kX5_work (hc) (by decide) (rfl) rfl rfl rfl ⟨Nat.le_of_ble_eq_true rfl, Nat.le_of_ble_eq_true rfl⟩ (Nat.le_of_ble_eq_true rfl) (Nat.le_refl _) (Nat.le_refl _) ?_
  exact V_iret C dL_work_4 rfl hZ rfl rfl
set_option maxRecDepth 100000 in
set_option maxHeartbeats 4000000 in
theorem a_set (G : GT) (K : Nat → Nat → Int) (r : Nat → Option Nat) (s : Nat → Int) (st : Nat) (kp : Int) (t : Nat → Int) (T : Nat) (h : IC K r s st kp t T) (hg : GI s st kp t T) (p : Int) (hp : -2147483648 ≤ p ∧ p < 2147483648) (q : Int) (hq : -2147483648 ≤ q ∧ q < 2147483648) : OkB G yL_set mL_set [rf G 0, .int (iI p), .int (iI q)] K r false s st kp t := by
  by_cases c1 : 0 ≤ p ∧ p ≤ 5
  · skip
    by_cases c2 : 0 ≤ q ∧ q ≤ 6764
    · obtain ⟨K1, r1, hc, hI, -⟩ := o_X5_set G K r s st kp t T h hg p hp q hq c1 c2
      have g0 := hg.1.1 p.toNat (by omega)
      exact ⟨_, _, _, _, K1, r1, h6_L_set G K r p hp q hq _ K1 r1 hc, hI, gi_set s st kp t T hg p hp q hq c1 c2, by omega, .inr ⟨by omega, rfl, fun j hj => us_ne _ _ (by omega), fun w => by cases w⟩⟩
    · obtain ⟨K1, hc, hI, -⟩ := x2_X5_set G K r s st kp t T h hg p hp q hq c1 c2
      exact ⟨_, _, _, _, K1, r, e2_L_set G K r p hp q hq K1 hc, hI, hg, by decide, .inl ⟨by decide, rfl, rfl⟩⟩
  · obtain ⟨K1, hc, hI, -⟩ := x1_X5_set G K r s st kp t T h hg p hp q hq c1
    exact ⟨_, _, _, _, K1, r, e1_L_set G K r p hp q hq K1 hc, hI, hg, by decide, .inl ⟨by decide, rfl, rfl⟩⟩
set_option maxRecDepth 100000 in
set_option maxHeartbeats 4000000 in
theorem a_add (G : GT) (K : Nat → Nat → Int) (r : Nat → Option Nat) (s : Nat → Int) (st : Nat) (kp : Int) (t : Nat → Int) (T : Nat) (h : IC K r s st kp t T) (hg : GI s st kp t T) (p : Int) (hp : -2147483648 ≤ p ∧ p < 2147483648) (q : Int) (hq : -2147483648 ≤ q ∧ q < 2147483648) : OkB G yL_add mL_add [rf G 0, .int (iI p), .int (iI q)] K r false s st kp t := by
  by_cases c1 : (0 ≤ p ∧ p ≤ 5) ∧ 0 ≤ q ∧ q ≤ 5
  · skip
    by_cases c2 : s p.toNat + s q.toNat ≤ 6764
    · obtain ⟨K1, r1, hc, hI, -⟩ := o_X5_add G K r s st kp t T h hg p hp q hq c1 c2
      have g0 := adC_r (gm 18 (s p.toNat).toNat) (gm 18 (s q.toNat).toNat)
      exact ⟨_, _, _, _, K1, r1, h6_L_add G K r p hp q hq _ K1 r1 hc, hI, gi_add s st kp t T hg p hp q hq c1 c2, by omega, .inr ⟨by omega, rfl, fun j hj => us_ne _ _ (by omega), fun w => by cases w⟩⟩
    · obtain ⟨K1, hc, hI, -⟩ := x2_X5_add G K r s st kp t T h hg p hp q hq c1 c2
      exact ⟨_, _, _, _, K1, r, e2_L_add G K r p hp q hq K1 hc, hI, hg, by decide, .inl ⟨by decide, rfl, rfl⟩⟩
  · obtain ⟨K1, hc, hI, -⟩ := x1_X5_add G K r s st kp t T h hg p hp q hq c1
    exact ⟨_, _, _, _, K1, r, e1_L_add G K r p hp q hq K1 hc, hI, hg, by decide, .inl ⟨by decide, rfl, rfl⟩⟩
set_option maxRecDepth 100000 in
set_option maxHeartbeats 4000000 in
theorem a_take (G : GT) (K : Nat → Nat → Int) (r : Nat → Option Nat) (s : Nat → Int) (st : Nat) (kp : Int) (t : Nat → Int) (T : Nat) (h : IC K r s st kp t T) (hg : GI s st kp t T) (p : Int) (hp : -2147483648 ≤ p ∧ p < 2147483648) (q : Int) (hq : -2147483648 ≤ q ∧ q < 2147483648) : OkB G yL_take mL_take [rf G 0, .int (iI p), .int (iI q)] K r false s st kp t := by
  by_cases c1 : (0 ≤ p ∧ p ≤ 5) ∧ 0 ≤ q ∧ q ≤ 5
  · skip
    by_cases c2 : s q.toNat ≤ s p.toNat
    · obtain ⟨K1, r1, hc, hI, -⟩ := o_X5_takeAway G K r s st kp t T h hg p hp q hq c1 c2
      have g0 := hg.1.1 p.toNat (by omega)
      have g1 := hg.1.1 q.toNat (by omega)
      exact ⟨_, _, _, _, K1, r1, h6_L_take G K r p hp q hq _ K1 r1 hc, hI, gi_takeAway s st kp t T hg p hp q hq c1 c2, by omega, .inr ⟨by omega, rfl, fun j hj => us_ne _ _ (by omega), fun w => by cases w⟩⟩
    · obtain ⟨K1, hc, hI, -⟩ := x2_X5_takeAway G K r s st kp t T h hg p hp q hq c1 c2
      exact ⟨_, _, _, _, K1, r, e2_L_take G K r p hp q hq K1 hc, hI, hg, by decide, .inl ⟨by decide, rfl, rfl⟩⟩
  · obtain ⟨K1, hc, hI, -⟩ := x1_X5_takeAway G K r s st kp t T h hg p hp q hq c1
    exact ⟨_, _, _, _, K1, r, e1_L_take G K r p hp q hq K1 hc, hI, hg, by decide, .inl ⟨by decide, rfl, rfl⟩⟩
set_option maxRecDepth 100000 in
set_option maxHeartbeats 4000000 in
theorem a_raise (G : GT) (K : Nat → Nat → Int) (r : Nat → Option Nat) (s : Nat → Int) (st : Nat) (kp : Int) (t : Nat → Int) (T : Nat) (h : IC K r s st kp t T) (hg : GI s st kp t T) (p : Int) (hp : -2147483648 ≤ p ∧ p < 2147483648) : OkB G yL_raise mL_raise [rf G 0, .int (iI p)] K r false s st kp t := by
  by_cases c1 : 0 ≤ p ∧ p ≤ 5
  · skip
    by_cases c2 : gm 18 (s p.toNat).toNat < 131072
    · obtain ⟨K1, r1, hc, hI, -⟩ := o_X5_raise G K r s st kp t T h hg p hp c1 c2
      have g0 := hg.1.1 p.toNat (by omega)
      have g1 := wo_up (n := (s p.toNat).toNat) (by omega) c2
      exact ⟨_, _, _, _, K1, r1, h6_L_raise G K r p hp _ K1 r1 hc, hI, gi_raise s st kp t T hg p hp c1 c2, by omega, .inr ⟨by omega, rfl, fun j hj => us_ne _ _ (by omega), fun w => by cases w⟩⟩
    · obtain ⟨K1, hc, hI, -⟩ := x2_X5_raise G K r s st kp t T h hg p hp c1 c2
      exact ⟨_, _, _, _, K1, r, e2_L_raise G K r p hp K1 hc, hI, hg, by decide, .inl ⟨by decide, rfl, rfl⟩⟩
  · obtain ⟨K1, hc, hI, -⟩ := x1_X5_raise G K r s st kp t T h hg p hp c1
    exact ⟨_, _, _, _, K1, r, e1_L_raise G K r p hp K1 hc, hI, hg, by decide, .inl ⟨by decide, rfl, rfl⟩⟩
set_option maxRecDepth 100000 in
set_option maxHeartbeats 4000000 in
theorem a_pay (G : GT) (K : Nat → Nat → Int) (r : Nat → Option Nat) (s : Nat → Int) (st : Nat) (kp : Int) (t : Nat → Int) (T : Nat) (h : IC K r s st kp t T) (hg : GI s st kp t T) (p : Int) (hp : -2147483648 ≤ p ∧ p < 2147483648) (q : Int) (hq : -2147483648 ≤ q ∧ q < 2147483648) (u : Int) (hu : -2147483648 ≤ u ∧ u < 2147483648) : OkB G yL_pay mL_pay [rf G 0, .int (iI p), .int (iI q), .int (iI u)] K r false s st kp t := by
  by_cases c1 : (0 ≤ p ∧ p ≤ 5) ∧ 0 ≤ q ∧ q ≤ 5
  · skip
    by_cases c2 : p ≠ q ∧ 1 ≤ u ∧ u ≤ 6764
    · skip
      by_cases c3 : u ≤ s p.toNat ∧ s q.toNat + u ≤ 6764
      · obtain ⟨K1, r1, hc, hI, -⟩ := o_X5_pay G K r s st kp t T h hg p hp q hq u hu c1 c2 c3
        have g0 := hg.1.1 p.toNat (by omega)
        have g1 := hg.1.1 q.toNat (by omega)
        exact ⟨_, _, _, _, K1, r1, h6_L_pay G K r p hp q hq u hu _ K1 r1 hc, hI, gi_pay s st kp t T hg p hp q hq u hu c1 c2 c3, by omega, .inr ⟨by omega, rfl, fun j hj => (us_ne _ _ (by omega)).trans (us_ne _ _ (by omega)), fun w => by cases w⟩⟩
      · obtain ⟨K1, hc, hI, -⟩ := x3_X5_pay G K r s st kp t T h hg p hp q hq u hu c1 c2 c3
        exact ⟨_, _, _, _, K1, r, e3_L_pay G K r p hp q hq u hu K1 hc, hI, hg, by decide, .inl ⟨by decide, rfl, rfl⟩⟩
    · obtain ⟨K1, hc, hI, -⟩ := x2_X5_pay G K r s st kp t T h hg p hp q hq u hu c1 c2
      exact ⟨_, _, _, _, K1, r, e2_L_pay G K r p hp q hq u hu K1 hc, hI, hg, by decide, .inl ⟨by decide, rfl, rfl⟩⟩
  · obtain ⟨K1, hc, hI, -⟩ := x1_X5_pay G K r s st kp t T h hg p hp q hq u hu c1
    exact ⟨_, _, _, _, K1, r, e1_L_pay G K r p hp q hq u hu K1 hc, hI, hg, by decide, .inl ⟨by decide, rfl, rfl⟩⟩
set_option maxRecDepth 100000 in
set_option maxHeartbeats 4000000 in
theorem a_turn (G : GT) (K : Nat → Nat → Int) (r : Nat → Option Nat) (s : Nat → Int) (st : Nat) (kp : Int) (t : Nat → Int) (T : Nat) (h : IC K r s st kp t T) (hg : GI s st kp t T) (p : Int) (hp : -2147483648 ≤ p ∧ p < 2147483648) : OkB G yL_turn mL_turn [rf G 0, .int (iI p)] K r false s st kp t := by
  by_cases c1 : 0 ≤ p ∧ p ≤ s 6 - 1
  · obtain ⟨K1, r1, hc, hI, -⟩ := o_X5_turn G K r s st kp t T h hg p hp c1
    have g6 := hg.1.2.1
    have g0 := hg.1.2.2.1 (7 + p.toNat) (by omega) (by omega)
    exact ⟨_, _, _, _, K1, r1, h6_L_turn G K r p hp _ K1 r1 hc, hI, gi_turn s st kp t T hg p hp c1, by omega, .inr ⟨by omega, rfl, fun j hj => us_ne _ _ (by omega), fun w => by cases w⟩⟩
  · obtain ⟨K1, hc, hI, -⟩ := x1_X5_turn G K r s st kp t T h hg p hp c1
    exact ⟨_, _, _, _, K1, r, e1_L_turn G K r p hp K1 hc, hI, hg, by decide, .inl ⟨by decide, rfl, rfl⟩⟩
set_option maxRecDepth 100000 in
set_option maxHeartbeats 4000000 in
theorem a_cut (G : GT) (K : Nat → Nat → Int) (r : Nat → Option Nat) (s : Nat → Int) (st : Nat) (kp : Int) (t : Nat → Int) (T : Nat) (h : IC K r s st kp t T) (hg : GI s st kp t T) (p : Int) (hp : -2147483648 ≤ p ∧ p < 2147483648) : OkB G yL_cut mL_cut [rf G 0, .int (iI p)] K r false s st kp t := by
  by_cases c1 : 1 ≤ p ∧ p ≤ 64
  · skip
    by_cases c2 : p ≤ s 6
    · obtain ⟨K1, r1, hc, hI, -⟩ := o_X5_cut G K r s st kp t T h hg p hp c1 c2
      have g6 := hg.1.2.1
      exact ⟨_, _, _, _, K1, r1, h6_L_cut G K r p hp _ K1 r1 hc, hI, gi_cut s st kp t T hg p hp c1 c2, by omega, .inr ⟨by omega, rfl, fun j hj => ctF_up (by omega), fun w => by cases w⟩⟩
    · obtain ⟨K1, hc, hI, -⟩ := x2_X5_cut G K r s st kp t T h hg p hp c1 c2
      exact ⟨_, _, _, _, K1, r, e2_L_cut G K r p hp K1 hc, hI, hg, by decide, .inl ⟨by decide, rfl, rfl⟩⟩
  · obtain ⟨K1, hc, hI, -⟩ := x1_X5_cut G K r s st kp t T h hg p hp c1
    exact ⟨_, _, _, _, K1, r, e1_L_cut G K r p hp K1 hc, hI, hg, by decide, .inl ⟨by decide, rfl, rfl⟩⟩
set_option maxRecDepth 100000 in
set_option maxHeartbeats 4000000 in
theorem a_send (G : GT) (K : Nat → Nat → Int) (r : Nat → Option Nat) (s : Nat → Int) (st : Nat) (kp : Int) (t : Nat → Int) (T : Nat) (h : IC K r s st kp t T) (hg : GI s st kp t T) (p : Int) (hp : -2147483648 ≤ p ∧ p < 2147483648) : OkB G yL_send mL_send [rf G 0, .int (iI p)] K r true s st kp t := by
  by_cases c1 : 1 ≤ p ∧ p ≤ 6764
  · skip
    by_cases c2 : s 6 + (cl p : Nat) ≤ 64
    · obtain ⟨K1, r1, hc, hI, -⟩ := o_X5_send G K r s st kp t T h hg p hp c1 c2
      have g6 := hg.1.2.1
      have g0 := cl_19 p
      exact ⟨_, _, _, _, K1, r1, h6_L_send G K r p hp _ K1 r1 hc, hI, gi_send s st kp t T hg p hp c1 c2, by omega, .inr ⟨by omega, rfl, fun j hj => sdF_ne (by omega) (by omega), fun _ => ⟨p.toNat, by omega, by rw [show ((p.toNat : Nat) : Int) = p by omega]; omega, by rw [show ((p.toNat : Nat) : Int) = p by omega]⟩⟩⟩
    · obtain ⟨K1, hc, hI, -⟩ := x2_X5_send G K r s st kp t T h hg p hp c1 c2
      exact ⟨_, _, _, _, K1, r, e2_L_send G K r p hp K1 hc, hI, hg, by decide, .inl ⟨by decide, rfl, rfl⟩⟩
  · obtain ⟨K1, hc, hI, -⟩ := x1_X5_send G K r s st kp t T h hg p hp c1
    exact ⟨_, _, _, _, K1, r, e1_L_send G K r p hp K1 hc, hI, hg, by decide, .inl ⟨by decide, rfl, rfl⟩⟩
set_option maxRecDepth 100000 in
set_option maxHeartbeats 4000000 in
theorem a_work (G : GT) (K : Nat → Nat → Int) (r : Nat → Option Nat) (s : Nat → Int) (st : Nat) (kp : Int) (t : Nat → Int) (T : Nat) (h : IC K r s st kp t T) (hg : GI s st kp t T) : OkB G yL_work mL_work [rf G 0] K r false s st kp t := by
  rcases c1 : (wh t T (T + 1) 0).1 with _ | _
  · obtain ⟨K1, hc, hI, -⟩ := x1_X5_work G K r s st kp t T h hg c1
    exact ⟨_, _, _, _, K1, r, e1_L_work G K r K1 hc, hI, hg, by decide, .inl ⟨by decide, rfl, rfl⟩⟩
  · obtain ⟨K1, r1, hc, hI, -⟩ := o_X5_work G K r s st kp t T h hg c1 0 0
    have hg1 := GI_save hg
    have gT := hg.2.2.2.1
    obtain ⟨o1, o2, o3, o4, o5⟩ := wk_ok (t := t) (T := T) (T + 1) (svS s st) 0 0 0 0 (Nat.zero_le _) (by omega) c1 hg1.1
    exact ⟨_, _, _, _, K1, r1, h6_L_work G K r _ K1 r1 hc, hI, gi_work s st kp t T hg c1 0 0, by omega, .inr ⟨by omega, rfl, fun j hj => (stS_hi hj).trans (o2 j (by omega)), fun w => by cases w⟩⟩
set_option maxRecDepth 100000 in
set_option maxHeartbeats 4000000 in
theorem ac_0 (G : GT) (K : Nat → Nat → Int) (r : Nat → Option Nat) (s : Nat → Int) (st : Nat) (kp : Int) (t : Nat → Int) (h : IC K r s st kp t 0) (hg : GI s st kp t 0) (y : Nat) (hy : y < 2147483648) (e0 : y % 16 = 0) : OkA G K r y s st kp := by
  obtain ⟨z, ez, hz⟩ : ∃ z : Nat, (y : Int) / 16 = (z : Int) ∧ z < 134217728 := ⟨y / 16, by omega, by omega⟩
  obtain ⟨a, ea, ha⟩ : ∃ a : Nat, (z : Int) % 7 = (a : Int) ∧ a ≤ 6 := ⟨z % 7, by omega, by omega⟩
  obtain ⟨b, eb, hb⟩ : ∃ b : Nat, (z : Int) / 7 % 6 = (b : Int) ∧ b ≤ 5 := ⟨z / 7 % 6, by omega, by omega⟩
  obtain ⟨v, ev, hv⟩ : ∃ v : Nat, (z : Int) / 42 = (v : Int) ∧ v < 3200000 := ⟨z / 42, by omega, by omega⟩
  have em : (y : Int) % 16 = 0 := by omega
  have hsd : decide (8 ≤ y % 16 ∧ y % 16 ≤ 10) = false := decide_eq_false (by omega)
  by_cases c0 : (v : Int) % 4 = 0
  · obtain ⟨told, s1, st2, T1, K1, r1, hc, hI, hG, ht, hA⟩ := a_set G K r s st kp t 0 h hg (a : Int) (by omega) ((v : Int) / 4 % 7000) (by omega)
    refine ⟨told, s1, st2, _, T1, K1, r1, ?_, hI, hG, ht, by rw [hsd]; exact hA⟩
    refine Ct_of kL_acts.1 (by decide) [some (rf G 0), some (.int (iI (y : Int))), none, none, none, none] rfl (Nat.le_of_ble_eq_true rfl) ?_
    intro x C hZ
    refine V_iload_n C dL_acts_0 rfl rfl ?_
    refine V_bipush C dL_acts_1 (by decide +kernel) ?_
    refine V_idiv C dL_acts_3 (by omega) (by omega) ?_
    rw [ez]
    refine V_istore_n C dL_acts_4 rfl (Nat.le_of_ble_eq_true rfl) rfl ?_
    refine V_iload_n C dL_acts_5 rfl rfl ?_
    refine V_bipush C dL_acts_6 (by decide +kernel) ?_
    refine V_irem C dL_acts_8 (by omega) (by omega) ?_
    rw [ea]
    refine V_istore_n C dL_acts_9 rfl (Nat.le_of_ble_eq_true rfl) rfl ?_
    refine V_iload_n C dL_acts_10 rfl rfl ?_
    refine V_bipush C dL_acts_11 (by decide +kernel) ?_
    refine V_idiv C dL_acts_13 (by omega) (by omega) ?_
    refine V_bipush C dL_acts_14 (by decide +kernel) ?_
    refine V_irem C dL_acts_16 (by omega) (by omega) ?_
    rw [eb]
    refine V_istore C dL_acts_17 (Nat.le_of_ble_eq_true rfl) rfl ?_
    refine V_iload_n C dL_acts_19 rfl rfl ?_
    refine V_bipush C dL_acts_20 (by decide +kernel) ?_
    refine V_idiv C dL_acts_22 (by omega) (by omega) ?_
    rw [ev]
    refine V_istore C dL_acts_23 (Nat.le_of_ble_eq_true rfl) rfl ?_
    refine V_iload_n C dL_acts_25 rfl rfl ?_
    refine V_bipush C dL_acts_26 (by decide +kernel) ?_
    refine V_irem C dL_acts_28 (by omega) (by omega) ?_
    rw [em]
    refine V_tableIn (tgt := 100) C dL_acts_29 (by decide) (by decide) (by decide) rfl (by decide) ?_
    refine V_aload_n C dL_acts_100 rfl rfl ?_
    refine V_iload_n C dL_acts_101 rfl rfl ?_
    refine V_iload C dL_acts_102 rfl ?_
    refine V_iconst C dL_acts_104 ?_
    refine V_irem C dL_acts_105 (by omega) (by omega) ?_
    refine V_if_ne (tgt := 120) C dL_acts_106 (by decide) (by omega) (fun q106 => by exfalso; omega) (fun q106 => ?_)
    refine V_iload C dL_acts_109 rfl ?_
    refine V_iconst C dL_acts_111 ?_
    refine V_idiv C dL_acts_112 (by omega) (by omega) ?_
    refine V_sipush C dL_acts_113 (by decide +kernel) ?_
    refine V_irem C dL_acts_116 (by omega) (by omega) ?_
    refine V_goto (tgt := 128) C dL_acts_117 (by decide) ?_
    refine V_SH1 (k2 := 0) (s2 := 0) C dL_acts_128 lL_117 kL_set (hc) rfl rfl ⟨Nat.le_of_ble_eq_true rfl, Nat.le_of_ble_eq_true rfl⟩ (Nat.le_of_ble_eq_true rfl) (by omega) (by omega) ?_
    exact V_iret C dL_acts_131 rfl hZ rfl rfl
  · obtain ⟨told, s1, st2, T1, K1, r1, hc, hI, hG, ht, hA⟩ := a_set G K r s st kp t 0 h hg (a : Int) (by omega) ((v : Int) / 4 % 900) (by omega)
    refine ⟨told, s1, st2, _, T1, K1, r1, ?_, hI, hG, ht, by rw [hsd]; exact hA⟩
    refine Ct_of kL_acts.1 (by decide) [some (rf G 0), some (.int (iI (y : Int))), none, none, none, none] rfl (Nat.le_of_ble_eq_true rfl) ?_
    intro x C hZ
    refine V_iload_n C dL_acts_0 rfl rfl ?_
    refine V_bipush C dL_acts_1 (by decide +kernel) ?_
    refine V_idiv C dL_acts_3 (by omega) (by omega) ?_
    rw [ez]
    refine V_istore_n C dL_acts_4 rfl (Nat.le_of_ble_eq_true rfl) rfl ?_
    refine V_iload_n C dL_acts_5 rfl rfl ?_
    refine V_bipush C dL_acts_6 (by decide +kernel) ?_
    refine V_irem C dL_acts_8 (by omega) (by omega) ?_
    rw [ea]
    refine V_istore_n C dL_acts_9 rfl (Nat.le_of_ble_eq_true rfl) rfl ?_
    refine V_iload_n C dL_acts_10 rfl rfl ?_
    refine V_bipush C dL_acts_11 (by decide +kernel) ?_
    refine V_idiv C dL_acts_13 (by omega) (by omega) ?_
    refine V_bipush C dL_acts_14 (by decide +kernel) ?_
    refine V_irem C dL_acts_16 (by omega) (by omega) ?_
    rw [eb]
    refine V_istore C dL_acts_17 (Nat.le_of_ble_eq_true rfl) rfl ?_
    refine V_iload_n C dL_acts_19 rfl rfl ?_
    refine V_bipush C dL_acts_20 (by decide +kernel) ?_
    refine V_idiv C dL_acts_22 (by omega) (by omega) ?_
    rw [ev]
    refine V_istore C dL_acts_23 (Nat.le_of_ble_eq_true rfl) rfl ?_
    refine V_iload_n C dL_acts_25 rfl rfl ?_
    refine V_bipush C dL_acts_26 (by decide +kernel) ?_
    refine V_irem C dL_acts_28 (by omega) (by omega) ?_
    rw [em]
    refine V_tableIn (tgt := 100) C dL_acts_29 (by decide) (by decide) (by decide) rfl (by decide) ?_
    refine V_aload_n C dL_acts_100 rfl rfl ?_
    refine V_iload_n C dL_acts_101 rfl rfl ?_
    refine V_iload C dL_acts_102 rfl ?_
    refine V_iconst C dL_acts_104 ?_
    refine V_irem C dL_acts_105 (by omega) (by omega) ?_
    refine V_if_ne (tgt := 120) C dL_acts_106 (by decide) (by omega) (fun q106 => ?_) (fun q106 => by exfalso; omega)
    refine V_iload C dL_acts_120 rfl ?_
    refine V_iconst C dL_acts_122 ?_
    refine V_idiv C dL_acts_123 (by omega) (by omega) ?_
    refine V_sipush C dL_acts_124 (by decide +kernel) ?_
    refine V_irem C dL_acts_127 (by omega) (by omega) ?_
    refine V_SH1 (k2 := 0) (s2 := 0) C dL_acts_128 lL_117 kL_set (hc) rfl rfl ⟨Nat.le_of_ble_eq_true rfl, Nat.le_of_ble_eq_true rfl⟩ (Nat.le_of_ble_eq_true rfl) (by omega) (by omega) ?_
    exact V_iret C dL_acts_131 rfl hZ rfl rfl
set_option maxRecDepth 100000 in
set_option maxHeartbeats 4000000 in
theorem ac_1 (G : GT) (K : Nat → Nat → Int) (r : Nat → Option Nat) (s : Nat → Int) (st : Nat) (kp : Int) (t : Nat → Int) (h : IC K r s st kp t 0) (hg : GI s st kp t 0) (y : Nat) (hy : y < 2147483648) (e0 : y % 16 = 1) : OkA G K r y s st kp := by
  obtain ⟨z, ez, hz⟩ : ∃ z : Nat, (y : Int) / 16 = (z : Int) ∧ z < 134217728 := ⟨y / 16, by omega, by omega⟩
  obtain ⟨a, ea, ha⟩ : ∃ a : Nat, (z : Int) % 7 = (a : Int) ∧ a ≤ 6 := ⟨z % 7, by omega, by omega⟩
  obtain ⟨b, eb, hb⟩ : ∃ b : Nat, (z : Int) / 7 % 6 = (b : Int) ∧ b ≤ 5 := ⟨z / 7 % 6, by omega, by omega⟩
  obtain ⟨v, ev, hv⟩ : ∃ v : Nat, (z : Int) / 42 = (v : Int) ∧ v < 3200000 := ⟨z / 42, by omega, by omega⟩
  have em : (y : Int) % 16 = 1 := by omega
  have hsd : decide (8 ≤ y % 16 ∧ y % 16 ≤ 10) = false := decide_eq_false (by omega)
  by_cases c0 : (v : Int) % 4 = 0
  · obtain ⟨told, s1, st2, T1, K1, r1, hc, hI, hG, ht, hA⟩ := a_set G K r s st kp t 0 h hg (a : Int) (by omega) ((v : Int) / 4 % 7000) (by omega)
    refine ⟨told, s1, st2, _, T1, K1, r1, ?_, hI, hG, ht, by rw [hsd]; exact hA⟩
    refine Ct_of kL_acts.1 (by decide) [some (rf G 0), some (.int (iI (y : Int))), none, none, none, none] rfl (Nat.le_of_ble_eq_true rfl) ?_
    intro x C hZ
    refine V_iload_n C dL_acts_0 rfl rfl ?_
    refine V_bipush C dL_acts_1 (by decide +kernel) ?_
    refine V_idiv C dL_acts_3 (by omega) (by omega) ?_
    rw [ez]
    refine V_istore_n C dL_acts_4 rfl (Nat.le_of_ble_eq_true rfl) rfl ?_
    refine V_iload_n C dL_acts_5 rfl rfl ?_
    refine V_bipush C dL_acts_6 (by decide +kernel) ?_
    refine V_irem C dL_acts_8 (by omega) (by omega) ?_
    rw [ea]
    refine V_istore_n C dL_acts_9 rfl (Nat.le_of_ble_eq_true rfl) rfl ?_
    refine V_iload_n C dL_acts_10 rfl rfl ?_
    refine V_bipush C dL_acts_11 (by decide +kernel) ?_
    refine V_idiv C dL_acts_13 (by omega) (by omega) ?_
    refine V_bipush C dL_acts_14 (by decide +kernel) ?_
    refine V_irem C dL_acts_16 (by omega) (by omega) ?_
    rw [eb]
    refine V_istore C dL_acts_17 (Nat.le_of_ble_eq_true rfl) rfl ?_
    refine V_iload_n C dL_acts_19 rfl rfl ?_
    refine V_bipush C dL_acts_20 (by decide +kernel) ?_
    refine V_idiv C dL_acts_22 (by omega) (by omega) ?_
    rw [ev]
    refine V_istore C dL_acts_23 (Nat.le_of_ble_eq_true rfl) rfl ?_
    refine V_iload_n C dL_acts_25 rfl rfl ?_
    refine V_bipush C dL_acts_26 (by decide +kernel) ?_
    refine V_irem C dL_acts_28 (by omega) (by omega) ?_
    rw [em]
    refine V_tableIn (tgt := 100) C dL_acts_29 (by decide) (by decide) (by decide) rfl (by decide) ?_
    refine V_aload_n C dL_acts_100 rfl rfl ?_
    refine V_iload_n C dL_acts_101 rfl rfl ?_
    refine V_iload C dL_acts_102 rfl ?_
    refine V_iconst C dL_acts_104 ?_
    refine V_irem C dL_acts_105 (by omega) (by omega) ?_
    refine V_if_ne (tgt := 120) C dL_acts_106 (by decide) (by omega) (fun q106 => by exfalso; omega) (fun q106 => ?_)
    refine V_iload C dL_acts_109 rfl ?_
    refine V_iconst C dL_acts_111 ?_
    refine V_idiv C dL_acts_112 (by omega) (by omega) ?_
    refine V_sipush C dL_acts_113 (by decide +kernel) ?_
    refine V_irem C dL_acts_116 (by omega) (by omega) ?_
    refine V_goto (tgt := 128) C dL_acts_117 (by decide) ?_
    refine V_SH1 (k2 := 0) (s2 := 0) C dL_acts_128 lL_117 kL_set (hc) rfl rfl ⟨Nat.le_of_ble_eq_true rfl, Nat.le_of_ble_eq_true rfl⟩ (Nat.le_of_ble_eq_true rfl) (by omega) (by omega) ?_
    exact V_iret C dL_acts_131 rfl hZ rfl rfl
  · obtain ⟨told, s1, st2, T1, K1, r1, hc, hI, hG, ht, hA⟩ := a_set G K r s st kp t 0 h hg (a : Int) (by omega) ((v : Int) / 4 % 900) (by omega)
    refine ⟨told, s1, st2, _, T1, K1, r1, ?_, hI, hG, ht, by rw [hsd]; exact hA⟩
    refine Ct_of kL_acts.1 (by decide) [some (rf G 0), some (.int (iI (y : Int))), none, none, none, none] rfl (Nat.le_of_ble_eq_true rfl) ?_
    intro x C hZ
    refine V_iload_n C dL_acts_0 rfl rfl ?_
    refine V_bipush C dL_acts_1 (by decide +kernel) ?_
    refine V_idiv C dL_acts_3 (by omega) (by omega) ?_
    rw [ez]
    refine V_istore_n C dL_acts_4 rfl (Nat.le_of_ble_eq_true rfl) rfl ?_
    refine V_iload_n C dL_acts_5 rfl rfl ?_
    refine V_bipush C dL_acts_6 (by decide +kernel) ?_
    refine V_irem C dL_acts_8 (by omega) (by omega) ?_
    rw [ea]
    refine V_istore_n C dL_acts_9 rfl (Nat.le_of_ble_eq_true rfl) rfl ?_
    refine V_iload_n C dL_acts_10 rfl rfl ?_
    refine V_bipush C dL_acts_11 (by decide +kernel) ?_
    refine V_idiv C dL_acts_13 (by omega) (by omega) ?_
    refine V_bipush C dL_acts_14 (by decide +kernel) ?_
    refine V_irem C dL_acts_16 (by omega) (by omega) ?_
    rw [eb]
    refine V_istore C dL_acts_17 (Nat.le_of_ble_eq_true rfl) rfl ?_
    refine V_iload_n C dL_acts_19 rfl rfl ?_
    refine V_bipush C dL_acts_20 (by decide +kernel) ?_
    refine V_idiv C dL_acts_22 (by omega) (by omega) ?_
    rw [ev]
    refine V_istore C dL_acts_23 (Nat.le_of_ble_eq_true rfl) rfl ?_
    refine V_iload_n C dL_acts_25 rfl rfl ?_
    refine V_bipush C dL_acts_26 (by decide +kernel) ?_
    refine V_irem C dL_acts_28 (by omega) (by omega) ?_
    rw [em]
    refine V_tableIn (tgt := 100) C dL_acts_29 (by decide) (by decide) (by decide) rfl (by decide) ?_
    refine V_aload_n C dL_acts_100 rfl rfl ?_
    refine V_iload_n C dL_acts_101 rfl rfl ?_
    refine V_iload C dL_acts_102 rfl ?_
    refine V_iconst C dL_acts_104 ?_
    refine V_irem C dL_acts_105 (by omega) (by omega) ?_
    refine V_if_ne (tgt := 120) C dL_acts_106 (by decide) (by omega) (fun q106 => ?_) (fun q106 => by exfalso; omega)
    refine V_iload C dL_acts_120 rfl ?_
    refine V_iconst C dL_acts_122 ?_
    refine V_idiv C dL_acts_123 (by omega) (by omega) ?_
    refine V_sipush C dL_acts_124 (by decide +kernel) ?_
    refine V_irem C dL_acts_127 (by omega) (by omega) ?_
    refine V_SH1 (k2 := 0) (s2 := 0) C dL_acts_128 lL_117 kL_set (hc) rfl rfl ⟨Nat.le_of_ble_eq_true rfl, Nat.le_of_ble_eq_true rfl⟩ (Nat.le_of_ble_eq_true rfl) (by omega) (by omega) ?_
    exact V_iret C dL_acts_131 rfl hZ rfl rfl
set_option maxRecDepth 100000 in
set_option maxHeartbeats 4000000 in
theorem ac_2 (G : GT) (K : Nat → Nat → Int) (r : Nat → Option Nat) (s : Nat → Int) (st : Nat) (kp : Int) (t : Nat → Int) (h : IC K r s st kp t 0) (hg : GI s st kp t 0) (y : Nat) (hy : y < 2147483648) (e0 : y % 16 = 2) : OkA G K r y s st kp := by
  obtain ⟨z, ez, hz⟩ : ∃ z : Nat, (y : Int) / 16 = (z : Int) ∧ z < 134217728 := ⟨y / 16, by omega, by omega⟩
  obtain ⟨a, ea, ha⟩ : ∃ a : Nat, (z : Int) % 7 = (a : Int) ∧ a ≤ 6 := ⟨z % 7, by omega, by omega⟩
  obtain ⟨b, eb, hb⟩ : ∃ b : Nat, (z : Int) / 7 % 6 = (b : Int) ∧ b ≤ 5 := ⟨z / 7 % 6, by omega, by omega⟩
  obtain ⟨v, ev, hv⟩ : ∃ v : Nat, (z : Int) / 42 = (v : Int) ∧ v < 3200000 := ⟨z / 42, by omega, by omega⟩
  have em : (y : Int) % 16 = 2 := by omega
  have hsd : decide (8 ≤ y % 16 ∧ y % 16 ≤ 10) = false := decide_eq_false (by omega)
  by_cases c0 : (v : Int) % 4 = 0
  · obtain ⟨told, s1, st2, T1, K1, r1, hc, hI, hG, ht, hA⟩ := a_set G K r s st kp t 0 h hg (a : Int) (by omega) ((v : Int) / 4 % 7000) (by omega)
    refine ⟨told, s1, st2, _, T1, K1, r1, ?_, hI, hG, ht, by rw [hsd]; exact hA⟩
    refine Ct_of kL_acts.1 (by decide) [some (rf G 0), some (.int (iI (y : Int))), none, none, none, none] rfl (Nat.le_of_ble_eq_true rfl) ?_
    intro x C hZ
    refine V_iload_n C dL_acts_0 rfl rfl ?_
    refine V_bipush C dL_acts_1 (by decide +kernel) ?_
    refine V_idiv C dL_acts_3 (by omega) (by omega) ?_
    rw [ez]
    refine V_istore_n C dL_acts_4 rfl (Nat.le_of_ble_eq_true rfl) rfl ?_
    refine V_iload_n C dL_acts_5 rfl rfl ?_
    refine V_bipush C dL_acts_6 (by decide +kernel) ?_
    refine V_irem C dL_acts_8 (by omega) (by omega) ?_
    rw [ea]
    refine V_istore_n C dL_acts_9 rfl (Nat.le_of_ble_eq_true rfl) rfl ?_
    refine V_iload_n C dL_acts_10 rfl rfl ?_
    refine V_bipush C dL_acts_11 (by decide +kernel) ?_
    refine V_idiv C dL_acts_13 (by omega) (by omega) ?_
    refine V_bipush C dL_acts_14 (by decide +kernel) ?_
    refine V_irem C dL_acts_16 (by omega) (by omega) ?_
    rw [eb]
    refine V_istore C dL_acts_17 (Nat.le_of_ble_eq_true rfl) rfl ?_
    refine V_iload_n C dL_acts_19 rfl rfl ?_
    refine V_bipush C dL_acts_20 (by decide +kernel) ?_
    refine V_idiv C dL_acts_22 (by omega) (by omega) ?_
    rw [ev]
    refine V_istore C dL_acts_23 (Nat.le_of_ble_eq_true rfl) rfl ?_
    refine V_iload_n C dL_acts_25 rfl rfl ?_
    refine V_bipush C dL_acts_26 (by decide +kernel) ?_
    refine V_irem C dL_acts_28 (by omega) (by omega) ?_
    rw [em]
    refine V_tableIn (tgt := 100) C dL_acts_29 (by decide) (by decide) (by decide) rfl (by decide) ?_
    refine V_aload_n C dL_acts_100 rfl rfl ?_
    refine V_iload_n C dL_acts_101 rfl rfl ?_
    refine V_iload C dL_acts_102 rfl ?_
    refine V_iconst C dL_acts_104 ?_
    refine V_irem C dL_acts_105 (by omega) (by omega) ?_
    refine V_if_ne (tgt := 120) C dL_acts_106 (by decide) (by omega) (fun q106 => by exfalso; omega) (fun q106 => ?_)
    refine V_iload C dL_acts_109 rfl ?_
    refine V_iconst C dL_acts_111 ?_
    refine V_idiv C dL_acts_112 (by omega) (by omega) ?_
    refine V_sipush C dL_acts_113 (by decide +kernel) ?_
    refine V_irem C dL_acts_116 (by omega) (by omega) ?_
    refine V_goto (tgt := 128) C dL_acts_117 (by decide) ?_
    refine V_SH1 (k2 := 0) (s2 := 0) C dL_acts_128 lL_117 kL_set (hc) rfl rfl ⟨Nat.le_of_ble_eq_true rfl, Nat.le_of_ble_eq_true rfl⟩ (Nat.le_of_ble_eq_true rfl) (by omega) (by omega) ?_
    exact V_iret C dL_acts_131 rfl hZ rfl rfl
  · obtain ⟨told, s1, st2, T1, K1, r1, hc, hI, hG, ht, hA⟩ := a_set G K r s st kp t 0 h hg (a : Int) (by omega) ((v : Int) / 4 % 900) (by omega)
    refine ⟨told, s1, st2, _, T1, K1, r1, ?_, hI, hG, ht, by rw [hsd]; exact hA⟩
    refine Ct_of kL_acts.1 (by decide) [some (rf G 0), some (.int (iI (y : Int))), none, none, none, none] rfl (Nat.le_of_ble_eq_true rfl) ?_
    intro x C hZ
    refine V_iload_n C dL_acts_0 rfl rfl ?_
    refine V_bipush C dL_acts_1 (by decide +kernel) ?_
    refine V_idiv C dL_acts_3 (by omega) (by omega) ?_
    rw [ez]
    refine V_istore_n C dL_acts_4 rfl (Nat.le_of_ble_eq_true rfl) rfl ?_
    refine V_iload_n C dL_acts_5 rfl rfl ?_
    refine V_bipush C dL_acts_6 (by decide +kernel) ?_
    refine V_irem C dL_acts_8 (by omega) (by omega) ?_
    rw [ea]
    refine V_istore_n C dL_acts_9 rfl (Nat.le_of_ble_eq_true rfl) rfl ?_
    refine V_iload_n C dL_acts_10 rfl rfl ?_
    refine V_bipush C dL_acts_11 (by decide +kernel) ?_
    refine V_idiv C dL_acts_13 (by omega) (by omega) ?_
    refine V_bipush C dL_acts_14 (by decide +kernel) ?_
    refine V_irem C dL_acts_16 (by omega) (by omega) ?_
    rw [eb]
    refine V_istore C dL_acts_17 (Nat.le_of_ble_eq_true rfl) rfl ?_
    refine V_iload_n C dL_acts_19 rfl rfl ?_
    refine V_bipush C dL_acts_20 (by decide +kernel) ?_
    refine V_idiv C dL_acts_22 (by omega) (by omega) ?_
    rw [ev]
    refine V_istore C dL_acts_23 (Nat.le_of_ble_eq_true rfl) rfl ?_
    refine V_iload_n C dL_acts_25 rfl rfl ?_
    refine V_bipush C dL_acts_26 (by decide +kernel) ?_
    refine V_irem C dL_acts_28 (by omega) (by omega) ?_
    rw [em]
    refine V_tableIn (tgt := 100) C dL_acts_29 (by decide) (by decide) (by decide) rfl (by decide) ?_
    refine V_aload_n C dL_acts_100 rfl rfl ?_
    refine V_iload_n C dL_acts_101 rfl rfl ?_
    refine V_iload C dL_acts_102 rfl ?_
    refine V_iconst C dL_acts_104 ?_
    refine V_irem C dL_acts_105 (by omega) (by omega) ?_
    refine V_if_ne (tgt := 120) C dL_acts_106 (by decide) (by omega) (fun q106 => ?_) (fun q106 => by exfalso; omega)
    refine V_iload C dL_acts_120 rfl ?_
    refine V_iconst C dL_acts_122 ?_
    refine V_idiv C dL_acts_123 (by omega) (by omega) ?_
    refine V_sipush C dL_acts_124 (by decide +kernel) ?_
    refine V_irem C dL_acts_127 (by omega) (by omega) ?_
    refine V_SH1 (k2 := 0) (s2 := 0) C dL_acts_128 lL_117 kL_set (hc) rfl rfl ⟨Nat.le_of_ble_eq_true rfl, Nat.le_of_ble_eq_true rfl⟩ (Nat.le_of_ble_eq_true rfl) (by omega) (by omega) ?_
    exact V_iret C dL_acts_131 rfl hZ rfl rfl
set_option maxRecDepth 100000 in
set_option maxHeartbeats 4000000 in
theorem ac_3 (G : GT) (K : Nat → Nat → Int) (r : Nat → Option Nat) (s : Nat → Int) (st : Nat) (kp : Int) (t : Nat → Int) (h : IC K r s st kp t 0) (hg : GI s st kp t 0) (y : Nat) (hy : y < 2147483648) (e0 : y % 16 = 3) : OkA G K r y s st kp := by
  obtain ⟨z, ez, hz⟩ : ∃ z : Nat, (y : Int) / 16 = (z : Int) ∧ z < 134217728 := ⟨y / 16, by omega, by omega⟩
  obtain ⟨a, ea, ha⟩ : ∃ a : Nat, (z : Int) % 7 = (a : Int) ∧ a ≤ 6 := ⟨z % 7, by omega, by omega⟩
  obtain ⟨b, eb, hb⟩ : ∃ b : Nat, (z : Int) / 7 % 6 = (b : Int) ∧ b ≤ 5 := ⟨z / 7 % 6, by omega, by omega⟩
  obtain ⟨v, ev, hv⟩ : ∃ v : Nat, (z : Int) / 42 = (v : Int) ∧ v < 3200000 := ⟨z / 42, by omega, by omega⟩
  have em : (y : Int) % 16 = 3 := by omega
  have hsd : decide (8 ≤ y % 16 ∧ y % 16 ≤ 10) = false := decide_eq_false (by omega)
  obtain ⟨told, s1, st2, T1, K1, r1, hc, hI, hG, ht, hA⟩ := a_add G K r s st kp t 0 h hg (a : Int) (by omega) (b : Int) (by omega)
  refine ⟨told, s1, st2, _, T1, K1, r1, ?_, hI, hG, ht, by rw [hsd]; exact hA⟩
  refine Ct_of kL_acts.1 (by decide) [some (rf G 0), some (.int (iI (y : Int))), none, none, none, none] rfl (Nat.le_of_ble_eq_true rfl) ?_
  intro x C hZ
  refine V_iload_n C dL_acts_0 rfl rfl ?_
  refine V_bipush C dL_acts_1 (by decide +kernel) ?_
  refine V_idiv C dL_acts_3 (by omega) (by omega) ?_
  rw [ez]
  refine V_istore_n C dL_acts_4 rfl (Nat.le_of_ble_eq_true rfl) rfl ?_
  refine V_iload_n C dL_acts_5 rfl rfl ?_
  refine V_bipush C dL_acts_6 (by decide +kernel) ?_
  refine V_irem C dL_acts_8 (by omega) (by omega) ?_
  rw [ea]
  refine V_istore_n C dL_acts_9 rfl (Nat.le_of_ble_eq_true rfl) rfl ?_
  refine V_iload_n C dL_acts_10 rfl rfl ?_
  refine V_bipush C dL_acts_11 (by decide +kernel) ?_
  refine V_idiv C dL_acts_13 (by omega) (by omega) ?_
  refine V_bipush C dL_acts_14 (by decide +kernel) ?_
  refine V_irem C dL_acts_16 (by omega) (by omega) ?_
  rw [eb]
  refine V_istore C dL_acts_17 (Nat.le_of_ble_eq_true rfl) rfl ?_
  refine V_iload_n C dL_acts_19 rfl rfl ?_
  refine V_bipush C dL_acts_20 (by decide +kernel) ?_
  refine V_idiv C dL_acts_22 (by omega) (by omega) ?_
  rw [ev]
  refine V_istore C dL_acts_23 (Nat.le_of_ble_eq_true rfl) rfl ?_
  refine V_iload_n C dL_acts_25 rfl rfl ?_
  refine V_bipush C dL_acts_26 (by decide +kernel) ?_
  refine V_irem C dL_acts_28 (by omega) (by omega) ?_
  rw [em]
  refine V_tableIn (tgt := 132) C dL_acts_29 (by decide) (by decide) (by decide) rfl (by decide) ?_
  refine V_aload_n C dL_acts_132 rfl rfl ?_
  refine V_iload_n C dL_acts_133 rfl rfl ?_
  refine V_iload C dL_acts_134 rfl ?_
  refine V_SH1 (k2 := 0) (s2 := 0) C dL_acts_136 lL_122 kL_add (hc) rfl rfl ⟨Nat.le_of_ble_eq_true rfl, Nat.le_of_ble_eq_true rfl⟩ (Nat.le_of_ble_eq_true rfl) (by omega) (by omega) ?_
  exact V_iret C dL_acts_139 rfl hZ rfl rfl
set_option maxRecDepth 100000 in
set_option maxHeartbeats 4000000 in
theorem ac_4 (G : GT) (K : Nat → Nat → Int) (r : Nat → Option Nat) (s : Nat → Int) (st : Nat) (kp : Int) (t : Nat → Int) (h : IC K r s st kp t 0) (hg : GI s st kp t 0) (y : Nat) (hy : y < 2147483648) (e0 : y % 16 = 4) : OkA G K r y s st kp := by
  obtain ⟨z, ez, hz⟩ : ∃ z : Nat, (y : Int) / 16 = (z : Int) ∧ z < 134217728 := ⟨y / 16, by omega, by omega⟩
  obtain ⟨a, ea, ha⟩ : ∃ a : Nat, (z : Int) % 7 = (a : Int) ∧ a ≤ 6 := ⟨z % 7, by omega, by omega⟩
  obtain ⟨b, eb, hb⟩ : ∃ b : Nat, (z : Int) / 7 % 6 = (b : Int) ∧ b ≤ 5 := ⟨z / 7 % 6, by omega, by omega⟩
  obtain ⟨v, ev, hv⟩ : ∃ v : Nat, (z : Int) / 42 = (v : Int) ∧ v < 3200000 := ⟨z / 42, by omega, by omega⟩
  have em : (y : Int) % 16 = 4 := by omega
  have hsd : decide (8 ≤ y % 16 ∧ y % 16 ≤ 10) = false := decide_eq_false (by omega)
  obtain ⟨told, s1, st2, T1, K1, r1, hc, hI, hG, ht, hA⟩ := a_add G K r s st kp t 0 h hg (a : Int) (by omega) (b : Int) (by omega)
  refine ⟨told, s1, st2, _, T1, K1, r1, ?_, hI, hG, ht, by rw [hsd]; exact hA⟩
  refine Ct_of kL_acts.1 (by decide) [some (rf G 0), some (.int (iI (y : Int))), none, none, none, none] rfl (Nat.le_of_ble_eq_true rfl) ?_
  intro x C hZ
  refine V_iload_n C dL_acts_0 rfl rfl ?_
  refine V_bipush C dL_acts_1 (by decide +kernel) ?_
  refine V_idiv C dL_acts_3 (by omega) (by omega) ?_
  rw [ez]
  refine V_istore_n C dL_acts_4 rfl (Nat.le_of_ble_eq_true rfl) rfl ?_
  refine V_iload_n C dL_acts_5 rfl rfl ?_
  refine V_bipush C dL_acts_6 (by decide +kernel) ?_
  refine V_irem C dL_acts_8 (by omega) (by omega) ?_
  rw [ea]
  refine V_istore_n C dL_acts_9 rfl (Nat.le_of_ble_eq_true rfl) rfl ?_
  refine V_iload_n C dL_acts_10 rfl rfl ?_
  refine V_bipush C dL_acts_11 (by decide +kernel) ?_
  refine V_idiv C dL_acts_13 (by omega) (by omega) ?_
  refine V_bipush C dL_acts_14 (by decide +kernel) ?_
  refine V_irem C dL_acts_16 (by omega) (by omega) ?_
  rw [eb]
  refine V_istore C dL_acts_17 (Nat.le_of_ble_eq_true rfl) rfl ?_
  refine V_iload_n C dL_acts_19 rfl rfl ?_
  refine V_bipush C dL_acts_20 (by decide +kernel) ?_
  refine V_idiv C dL_acts_22 (by omega) (by omega) ?_
  rw [ev]
  refine V_istore C dL_acts_23 (Nat.le_of_ble_eq_true rfl) rfl ?_
  refine V_iload_n C dL_acts_25 rfl rfl ?_
  refine V_bipush C dL_acts_26 (by decide +kernel) ?_
  refine V_irem C dL_acts_28 (by omega) (by omega) ?_
  rw [em]
  refine V_tableIn (tgt := 132) C dL_acts_29 (by decide) (by decide) (by decide) rfl (by decide) ?_
  refine V_aload_n C dL_acts_132 rfl rfl ?_
  refine V_iload_n C dL_acts_133 rfl rfl ?_
  refine V_iload C dL_acts_134 rfl ?_
  refine V_SH1 (k2 := 0) (s2 := 0) C dL_acts_136 lL_122 kL_add (hc) rfl rfl ⟨Nat.le_of_ble_eq_true rfl, Nat.le_of_ble_eq_true rfl⟩ (Nat.le_of_ble_eq_true rfl) (by omega) (by omega) ?_
  exact V_iret C dL_acts_139 rfl hZ rfl rfl
set_option maxRecDepth 100000 in
set_option maxHeartbeats 4000000 in
theorem ac_5 (G : GT) (K : Nat → Nat → Int) (r : Nat → Option Nat) (s : Nat → Int) (st : Nat) (kp : Int) (t : Nat → Int) (h : IC K r s st kp t 0) (hg : GI s st kp t 0) (y : Nat) (hy : y < 2147483648) (e0 : y % 16 = 5) : OkA G K r y s st kp := by
  obtain ⟨z, ez, hz⟩ : ∃ z : Nat, (y : Int) / 16 = (z : Int) ∧ z < 134217728 := ⟨y / 16, by omega, by omega⟩
  obtain ⟨a, ea, ha⟩ : ∃ a : Nat, (z : Int) % 7 = (a : Int) ∧ a ≤ 6 := ⟨z % 7, by omega, by omega⟩
  obtain ⟨b, eb, hb⟩ : ∃ b : Nat, (z : Int) / 7 % 6 = (b : Int) ∧ b ≤ 5 := ⟨z / 7 % 6, by omega, by omega⟩
  obtain ⟨v, ev, hv⟩ : ∃ v : Nat, (z : Int) / 42 = (v : Int) ∧ v < 3200000 := ⟨z / 42, by omega, by omega⟩
  have em : (y : Int) % 16 = 5 := by omega
  have hsd : decide (8 ≤ y % 16 ∧ y % 16 ≤ 10) = false := decide_eq_false (by omega)
  obtain ⟨told, s1, st2, T1, K1, r1, hc, hI, hG, ht, hA⟩ := a_take G K r s st kp t 0 h hg (a : Int) (by omega) (b : Int) (by omega)
  refine ⟨told, s1, st2, _, T1, K1, r1, ?_, hI, hG, ht, by rw [hsd]; exact hA⟩
  refine Ct_of kL_acts.1 (by decide) [some (rf G 0), some (.int (iI (y : Int))), none, none, none, none] rfl (Nat.le_of_ble_eq_true rfl) ?_
  intro x C hZ
  refine V_iload_n C dL_acts_0 rfl rfl ?_
  refine V_bipush C dL_acts_1 (by decide +kernel) ?_
  refine V_idiv C dL_acts_3 (by omega) (by omega) ?_
  rw [ez]
  refine V_istore_n C dL_acts_4 rfl (Nat.le_of_ble_eq_true rfl) rfl ?_
  refine V_iload_n C dL_acts_5 rfl rfl ?_
  refine V_bipush C dL_acts_6 (by decide +kernel) ?_
  refine V_irem C dL_acts_8 (by omega) (by omega) ?_
  rw [ea]
  refine V_istore_n C dL_acts_9 rfl (Nat.le_of_ble_eq_true rfl) rfl ?_
  refine V_iload_n C dL_acts_10 rfl rfl ?_
  refine V_bipush C dL_acts_11 (by decide +kernel) ?_
  refine V_idiv C dL_acts_13 (by omega) (by omega) ?_
  refine V_bipush C dL_acts_14 (by decide +kernel) ?_
  refine V_irem C dL_acts_16 (by omega) (by omega) ?_
  rw [eb]
  refine V_istore C dL_acts_17 (Nat.le_of_ble_eq_true rfl) rfl ?_
  refine V_iload_n C dL_acts_19 rfl rfl ?_
  refine V_bipush C dL_acts_20 (by decide +kernel) ?_
  refine V_idiv C dL_acts_22 (by omega) (by omega) ?_
  rw [ev]
  refine V_istore C dL_acts_23 (Nat.le_of_ble_eq_true rfl) rfl ?_
  refine V_iload_n C dL_acts_25 rfl rfl ?_
  refine V_bipush C dL_acts_26 (by decide +kernel) ?_
  refine V_irem C dL_acts_28 (by omega) (by omega) ?_
  rw [em]
  refine V_tableIn (tgt := 140) C dL_acts_29 (by decide) (by decide) (by decide) rfl (by decide) ?_
  refine V_aload_n C dL_acts_140 rfl rfl ?_
  refine V_iload_n C dL_acts_141 rfl rfl ?_
  refine V_iload C dL_acts_142 rfl ?_
  refine V_SH1 (k2 := 0) (s2 := 0) C dL_acts_144 lL_124 kL_take (hc) rfl rfl ⟨Nat.le_of_ble_eq_true rfl, Nat.le_of_ble_eq_true rfl⟩ (Nat.le_of_ble_eq_true rfl) (by omega) (by omega) ?_
  exact V_iret C dL_acts_147 rfl hZ rfl rfl
set_option maxRecDepth 100000 in
set_option maxHeartbeats 4000000 in
theorem ac_6 (G : GT) (K : Nat → Nat → Int) (r : Nat → Option Nat) (s : Nat → Int) (st : Nat) (kp : Int) (t : Nat → Int) (h : IC K r s st kp t 0) (hg : GI s st kp t 0) (y : Nat) (hy : y < 2147483648) (e0 : y % 16 = 6) : OkA G K r y s st kp := by
  obtain ⟨z, ez, hz⟩ : ∃ z : Nat, (y : Int) / 16 = (z : Int) ∧ z < 134217728 := ⟨y / 16, by omega, by omega⟩
  obtain ⟨a, ea, ha⟩ : ∃ a : Nat, (z : Int) % 7 = (a : Int) ∧ a ≤ 6 := ⟨z % 7, by omega, by omega⟩
  obtain ⟨b, eb, hb⟩ : ∃ b : Nat, (z : Int) / 7 % 6 = (b : Int) ∧ b ≤ 5 := ⟨z / 7 % 6, by omega, by omega⟩
  obtain ⟨v, ev, hv⟩ : ∃ v : Nat, (z : Int) / 42 = (v : Int) ∧ v < 3200000 := ⟨z / 42, by omega, by omega⟩
  have em : (y : Int) % 16 = 6 := by omega
  have hsd : decide (8 ≤ y % 16 ∧ y % 16 ≤ 10) = false := decide_eq_false (by omega)
  obtain ⟨told, s1, st2, T1, K1, r1, hc, hI, hG, ht, hA⟩ := a_raise G K r s st kp t 0 h hg (a : Int) (by omega)
  refine ⟨told, s1, st2, _, T1, K1, r1, ?_, hI, hG, ht, by rw [hsd]; exact hA⟩
  refine Ct_of kL_acts.1 (by decide) [some (rf G 0), some (.int (iI (y : Int))), none, none, none, none] rfl (Nat.le_of_ble_eq_true rfl) ?_
  intro x C hZ
  refine V_iload_n C dL_acts_0 rfl rfl ?_
  refine V_bipush C dL_acts_1 (by decide +kernel) ?_
  refine V_idiv C dL_acts_3 (by omega) (by omega) ?_
  rw [ez]
  refine V_istore_n C dL_acts_4 rfl (Nat.le_of_ble_eq_true rfl) rfl ?_
  refine V_iload_n C dL_acts_5 rfl rfl ?_
  refine V_bipush C dL_acts_6 (by decide +kernel) ?_
  refine V_irem C dL_acts_8 (by omega) (by omega) ?_
  rw [ea]
  refine V_istore_n C dL_acts_9 rfl (Nat.le_of_ble_eq_true rfl) rfl ?_
  refine V_iload_n C dL_acts_10 rfl rfl ?_
  refine V_bipush C dL_acts_11 (by decide +kernel) ?_
  refine V_idiv C dL_acts_13 (by omega) (by omega) ?_
  refine V_bipush C dL_acts_14 (by decide +kernel) ?_
  refine V_irem C dL_acts_16 (by omega) (by omega) ?_
  rw [eb]
  refine V_istore C dL_acts_17 (Nat.le_of_ble_eq_true rfl) rfl ?_
  refine V_iload_n C dL_acts_19 rfl rfl ?_
  refine V_bipush C dL_acts_20 (by decide +kernel) ?_
  refine V_idiv C dL_acts_22 (by omega) (by omega) ?_
  rw [ev]
  refine V_istore C dL_acts_23 (Nat.le_of_ble_eq_true rfl) rfl ?_
  refine V_iload_n C dL_acts_25 rfl rfl ?_
  refine V_bipush C dL_acts_26 (by decide +kernel) ?_
  refine V_irem C dL_acts_28 (by omega) (by omega) ?_
  rw [em]
  refine V_tableIn (tgt := 148) C dL_acts_29 (by decide) (by decide) (by decide) rfl (by decide) ?_
  refine V_aload_n C dL_acts_148 rfl rfl ?_
  refine V_iload_n C dL_acts_149 rfl rfl ?_
  refine V_SH1 (k2 := 0) (s2 := 0) C dL_acts_150 lL_127 kL_raise (hc) rfl rfl ⟨Nat.le_of_ble_eq_true rfl, Nat.le_of_ble_eq_true rfl⟩ (Nat.le_of_ble_eq_true rfl) (by omega) (by omega) ?_
  exact V_iret C dL_acts_153 rfl hZ rfl rfl
set_option maxRecDepth 100000 in
set_option maxHeartbeats 4000000 in
theorem ac_7 (G : GT) (K : Nat → Nat → Int) (r : Nat → Option Nat) (s : Nat → Int) (st : Nat) (kp : Int) (t : Nat → Int) (h : IC K r s st kp t 0) (hg : GI s st kp t 0) (y : Nat) (hy : y < 2147483648) (e0 : y % 16 = 7) : OkA G K r y s st kp := by
  obtain ⟨z, ez, hz⟩ : ∃ z : Nat, (y : Int) / 16 = (z : Int) ∧ z < 134217728 := ⟨y / 16, by omega, by omega⟩
  obtain ⟨a, ea, ha⟩ : ∃ a : Nat, (z : Int) % 7 = (a : Int) ∧ a ≤ 6 := ⟨z % 7, by omega, by omega⟩
  obtain ⟨b, eb, hb⟩ : ∃ b : Nat, (z : Int) / 7 % 6 = (b : Int) ∧ b ≤ 5 := ⟨z / 7 % 6, by omega, by omega⟩
  obtain ⟨v, ev, hv⟩ : ∃ v : Nat, (z : Int) / 42 = (v : Int) ∧ v < 3200000 := ⟨z / 42, by omega, by omega⟩
  have em : (y : Int) % 16 = 7 := by omega
  have hsd : decide (8 ≤ y % 16 ∧ y % 16 ≤ 10) = false := decide_eq_false (by omega)
  obtain ⟨told, s1, st2, T1, K1, r1, hc, hI, hG, ht, hA⟩ := a_pay G K r s st kp t 0 h hg (a : Int) (by omega) (b : Int) (by omega) ((v : Int) % 400) (by omega)
  refine ⟨told, s1, st2, _, T1, K1, r1, ?_, hI, hG, ht, by rw [hsd]; exact hA⟩
  refine Ct_of kL_acts.1 (by decide) [some (rf G 0), some (.int (iI (y : Int))), none, none, none, none] rfl (Nat.le_of_ble_eq_true rfl) ?_
  intro x C hZ
  refine V_iload_n C dL_acts_0 rfl rfl ?_
  refine V_bipush C dL_acts_1 (by decide +kernel) ?_
  refine V_idiv C dL_acts_3 (by omega) (by omega) ?_
  rw [ez]
  refine V_istore_n C dL_acts_4 rfl (Nat.le_of_ble_eq_true rfl) rfl ?_
  refine V_iload_n C dL_acts_5 rfl rfl ?_
  refine V_bipush C dL_acts_6 (by decide +kernel) ?_
  refine V_irem C dL_acts_8 (by omega) (by omega) ?_
  rw [ea]
  refine V_istore_n C dL_acts_9 rfl (Nat.le_of_ble_eq_true rfl) rfl ?_
  refine V_iload_n C dL_acts_10 rfl rfl ?_
  refine V_bipush C dL_acts_11 (by decide +kernel) ?_
  refine V_idiv C dL_acts_13 (by omega) (by omega) ?_
  refine V_bipush C dL_acts_14 (by decide +kernel) ?_
  refine V_irem C dL_acts_16 (by omega) (by omega) ?_
  rw [eb]
  refine V_istore C dL_acts_17 (Nat.le_of_ble_eq_true rfl) rfl ?_
  refine V_iload_n C dL_acts_19 rfl rfl ?_
  refine V_bipush C dL_acts_20 (by decide +kernel) ?_
  refine V_idiv C dL_acts_22 (by omega) (by omega) ?_
  rw [ev]
  refine V_istore C dL_acts_23 (Nat.le_of_ble_eq_true rfl) rfl ?_
  refine V_iload_n C dL_acts_25 rfl rfl ?_
  refine V_bipush C dL_acts_26 (by decide +kernel) ?_
  refine V_irem C dL_acts_28 (by omega) (by omega) ?_
  rw [em]
  refine V_tableIn (tgt := 154) C dL_acts_29 (by decide) (by decide) (by decide) rfl (by decide) ?_
  refine V_aload_n C dL_acts_154 rfl rfl ?_
  refine V_iload_n C dL_acts_155 rfl rfl ?_
  refine V_iload C dL_acts_156 rfl ?_
  refine V_iload C dL_acts_158 rfl ?_
  refine V_sipush C dL_acts_160 (by decide +kernel) ?_
  refine V_irem C dL_acts_163 (by omega) (by omega) ?_
  refine V_SH1 (k2 := 0) (s2 := 0) C dL_acts_164 lL_130 kL_pay (hc) rfl rfl ⟨Nat.le_of_ble_eq_true rfl, Nat.le_of_ble_eq_true rfl⟩ (Nat.le_of_ble_eq_true rfl) (by omega) (by omega) ?_
  exact V_iret C dL_acts_167 rfl hZ rfl rfl
set_option maxRecDepth 100000 in
set_option maxHeartbeats 4000000 in
theorem ac_8 (G : GT) (K : Nat → Nat → Int) (r : Nat → Option Nat) (s : Nat → Int) (st : Nat) (kp : Int) (t : Nat → Int) (h : IC K r s st kp t 0) (hg : GI s st kp t 0) (y : Nat) (hy : y < 2147483648) (e0 : y % 16 = 8) : OkA G K r y s st kp := by
  obtain ⟨z, ez, hz⟩ : ∃ z : Nat, (y : Int) / 16 = (z : Int) ∧ z < 134217728 := ⟨y / 16, by omega, by omega⟩
  obtain ⟨a, ea, ha⟩ : ∃ a : Nat, (z : Int) % 7 = (a : Int) ∧ a ≤ 6 := ⟨z % 7, by omega, by omega⟩
  obtain ⟨b, eb, hb⟩ : ∃ b : Nat, (z : Int) / 7 % 6 = (b : Int) ∧ b ≤ 5 := ⟨z / 7 % 6, by omega, by omega⟩
  obtain ⟨v, ev, hv⟩ : ∃ v : Nat, (z : Int) / 42 = (v : Int) ∧ v < 3200000 := ⟨z / 42, by omega, by omega⟩
  have em : (y : Int) % 16 = 8 := by omega
  have hsd : decide (8 ≤ y % 16 ∧ y % 16 ≤ 10) = true := decide_eq_true (by omega)
  by_cases c0 : (v : Int) % 3 = 0
  · obtain ⟨told, s1, st2, T1, K1, r1, hc, hI, hG, ht, hA⟩ := a_send G K r s st kp t 0 h hg ((v : Int) / 3 % 6800) (by omega)
    refine ⟨told, s1, st2, _, T1, K1, r1, ?_, hI, hG, ht, by rw [hsd]; exact hA⟩
    refine Ct_of kL_acts.1 (by decide) [some (rf G 0), some (.int (iI (y : Int))), none, none, none, none] rfl (Nat.le_of_ble_eq_true rfl) ?_
    intro x C hZ
    refine V_iload_n C dL_acts_0 rfl rfl ?_
    refine V_bipush C dL_acts_1 (by decide +kernel) ?_
    refine V_idiv C dL_acts_3 (by omega) (by omega) ?_
    rw [ez]
    refine V_istore_n C dL_acts_4 rfl (Nat.le_of_ble_eq_true rfl) rfl ?_
    refine V_iload_n C dL_acts_5 rfl rfl ?_
    refine V_bipush C dL_acts_6 (by decide +kernel) ?_
    refine V_irem C dL_acts_8 (by omega) (by omega) ?_
    rw [ea]
    refine V_istore_n C dL_acts_9 rfl (Nat.le_of_ble_eq_true rfl) rfl ?_
    refine V_iload_n C dL_acts_10 rfl rfl ?_
    refine V_bipush C dL_acts_11 (by decide +kernel) ?_
    refine V_idiv C dL_acts_13 (by omega) (by omega) ?_
    refine V_bipush C dL_acts_14 (by decide +kernel) ?_
    refine V_irem C dL_acts_16 (by omega) (by omega) ?_
    rw [eb]
    refine V_istore C dL_acts_17 (Nat.le_of_ble_eq_true rfl) rfl ?_
    refine V_iload_n C dL_acts_19 rfl rfl ?_
    refine V_bipush C dL_acts_20 (by decide +kernel) ?_
    refine V_idiv C dL_acts_22 (by omega) (by omega) ?_
    rw [ev]
    refine V_istore C dL_acts_23 (Nat.le_of_ble_eq_true rfl) rfl ?_
    refine V_iload_n C dL_acts_25 rfl rfl ?_
    refine V_bipush C dL_acts_26 (by decide +kernel) ?_
    refine V_irem C dL_acts_28 (by omega) (by omega) ?_
    rw [em]
    refine V_tableIn (tgt := 168) C dL_acts_29 (by decide) (by decide) (by decide) rfl (by decide) ?_
    refine V_aload_n C dL_acts_168 rfl rfl ?_
    refine V_iload C dL_acts_169 rfl ?_
    refine V_iconst C dL_acts_171 ?_
    refine V_irem C dL_acts_172 (by omega) (by omega) ?_
    refine V_if_ne (tgt := 187) C dL_acts_173 (by decide) (by omega) (fun q173 => by exfalso; omega) (fun q173 => ?_)
    refine V_iload C dL_acts_176 rfl ?_
    refine V_iconst C dL_acts_178 ?_
    refine V_idiv C dL_acts_179 (by omega) (by omega) ?_
    refine V_sipush C dL_acts_180 (by decide +kernel) ?_
    refine V_irem C dL_acts_183 (by omega) (by omega) ?_
    refine V_goto (tgt := 194) C dL_acts_184 (by decide) ?_
    refine V_SH1 (k2 := 0) (s2 := 0) C dL_acts_194 lL_133 kL_send (hc) rfl rfl ⟨Nat.le_of_ble_eq_true rfl, Nat.le_of_ble_eq_true rfl⟩ (Nat.le_of_ble_eq_true rfl) (by omega) (by omega) ?_
    exact V_iret C dL_acts_197 rfl hZ rfl rfl
  · obtain ⟨told, s1, st2, T1, K1, r1, hc, hI, hG, ht, hA⟩ := a_send G K r s st kp t 0 h hg ((v : Int) / 3 % 50) (by omega)
    refine ⟨told, s1, st2, _, T1, K1, r1, ?_, hI, hG, ht, by rw [hsd]; exact hA⟩
    refine Ct_of kL_acts.1 (by decide) [some (rf G 0), some (.int (iI (y : Int))), none, none, none, none] rfl (Nat.le_of_ble_eq_true rfl) ?_
    intro x C hZ
    refine V_iload_n C dL_acts_0 rfl rfl ?_
    refine V_bipush C dL_acts_1 (by decide +kernel) ?_
    refine V_idiv C dL_acts_3 (by omega) (by omega) ?_
    rw [ez]
    refine V_istore_n C dL_acts_4 rfl (Nat.le_of_ble_eq_true rfl) rfl ?_
    refine V_iload_n C dL_acts_5 rfl rfl ?_
    refine V_bipush C dL_acts_6 (by decide +kernel) ?_
    refine V_irem C dL_acts_8 (by omega) (by omega) ?_
    rw [ea]
    refine V_istore_n C dL_acts_9 rfl (Nat.le_of_ble_eq_true rfl) rfl ?_
    refine V_iload_n C dL_acts_10 rfl rfl ?_
    refine V_bipush C dL_acts_11 (by decide +kernel) ?_
    refine V_idiv C dL_acts_13 (by omega) (by omega) ?_
    refine V_bipush C dL_acts_14 (by decide +kernel) ?_
    refine V_irem C dL_acts_16 (by omega) (by omega) ?_
    rw [eb]
    refine V_istore C dL_acts_17 (Nat.le_of_ble_eq_true rfl) rfl ?_
    refine V_iload_n C dL_acts_19 rfl rfl ?_
    refine V_bipush C dL_acts_20 (by decide +kernel) ?_
    refine V_idiv C dL_acts_22 (by omega) (by omega) ?_
    rw [ev]
    refine V_istore C dL_acts_23 (Nat.le_of_ble_eq_true rfl) rfl ?_
    refine V_iload_n C dL_acts_25 rfl rfl ?_
    refine V_bipush C dL_acts_26 (by decide +kernel) ?_
    refine V_irem C dL_acts_28 (by omega) (by omega) ?_
    rw [em]
    refine V_tableIn (tgt := 168) C dL_acts_29 (by decide) (by decide) (by decide) rfl (by decide) ?_
    refine V_aload_n C dL_acts_168 rfl rfl ?_
    refine V_iload C dL_acts_169 rfl ?_
    refine V_iconst C dL_acts_171 ?_
    refine V_irem C dL_acts_172 (by omega) (by omega) ?_
    refine V_if_ne (tgt := 187) C dL_acts_173 (by decide) (by omega) (fun q173 => ?_) (fun q173 => by exfalso; omega)
    refine V_iload C dL_acts_187 rfl ?_
    refine V_iconst C dL_acts_189 ?_
    refine V_idiv C dL_acts_190 (by omega) (by omega) ?_
    refine V_bipush C dL_acts_191 (by decide +kernel) ?_
    refine V_irem C dL_acts_193 (by omega) (by omega) ?_
    refine V_SH1 (k2 := 0) (s2 := 0) C dL_acts_194 lL_133 kL_send (hc) rfl rfl ⟨Nat.le_of_ble_eq_true rfl, Nat.le_of_ble_eq_true rfl⟩ (Nat.le_of_ble_eq_true rfl) (by omega) (by omega) ?_
    exact V_iret C dL_acts_197 rfl hZ rfl rfl
set_option maxRecDepth 100000 in
set_option maxHeartbeats 4000000 in
theorem ac_9 (G : GT) (K : Nat → Nat → Int) (r : Nat → Option Nat) (s : Nat → Int) (st : Nat) (kp : Int) (t : Nat → Int) (h : IC K r s st kp t 0) (hg : GI s st kp t 0) (y : Nat) (hy : y < 2147483648) (e0 : y % 16 = 9) : OkA G K r y s st kp := by
  obtain ⟨z, ez, hz⟩ : ∃ z : Nat, (y : Int) / 16 = (z : Int) ∧ z < 134217728 := ⟨y / 16, by omega, by omega⟩
  obtain ⟨a, ea, ha⟩ : ∃ a : Nat, (z : Int) % 7 = (a : Int) ∧ a ≤ 6 := ⟨z % 7, by omega, by omega⟩
  obtain ⟨b, eb, hb⟩ : ∃ b : Nat, (z : Int) / 7 % 6 = (b : Int) ∧ b ≤ 5 := ⟨z / 7 % 6, by omega, by omega⟩
  obtain ⟨v, ev, hv⟩ : ∃ v : Nat, (z : Int) / 42 = (v : Int) ∧ v < 3200000 := ⟨z / 42, by omega, by omega⟩
  have em : (y : Int) % 16 = 9 := by omega
  have hsd : decide (8 ≤ y % 16 ∧ y % 16 ≤ 10) = true := decide_eq_true (by omega)
  by_cases c0 : (v : Int) % 3 = 0
  · obtain ⟨told, s1, st2, T1, K1, r1, hc, hI, hG, ht, hA⟩ := a_send G K r s st kp t 0 h hg ((v : Int) / 3 % 6800) (by omega)
    refine ⟨told, s1, st2, _, T1, K1, r1, ?_, hI, hG, ht, by rw [hsd]; exact hA⟩
    refine Ct_of kL_acts.1 (by decide) [some (rf G 0), some (.int (iI (y : Int))), none, none, none, none] rfl (Nat.le_of_ble_eq_true rfl) ?_
    intro x C hZ
    refine V_iload_n C dL_acts_0 rfl rfl ?_
    refine V_bipush C dL_acts_1 (by decide +kernel) ?_
    refine V_idiv C dL_acts_3 (by omega) (by omega) ?_
    rw [ez]
    refine V_istore_n C dL_acts_4 rfl (Nat.le_of_ble_eq_true rfl) rfl ?_
    refine V_iload_n C dL_acts_5 rfl rfl ?_
    refine V_bipush C dL_acts_6 (by decide +kernel) ?_
    refine V_irem C dL_acts_8 (by omega) (by omega) ?_
    rw [ea]
    refine V_istore_n C dL_acts_9 rfl (Nat.le_of_ble_eq_true rfl) rfl ?_
    refine V_iload_n C dL_acts_10 rfl rfl ?_
    refine V_bipush C dL_acts_11 (by decide +kernel) ?_
    refine V_idiv C dL_acts_13 (by omega) (by omega) ?_
    refine V_bipush C dL_acts_14 (by decide +kernel) ?_
    refine V_irem C dL_acts_16 (by omega) (by omega) ?_
    rw [eb]
    refine V_istore C dL_acts_17 (Nat.le_of_ble_eq_true rfl) rfl ?_
    refine V_iload_n C dL_acts_19 rfl rfl ?_
    refine V_bipush C dL_acts_20 (by decide +kernel) ?_
    refine V_idiv C dL_acts_22 (by omega) (by omega) ?_
    rw [ev]
    refine V_istore C dL_acts_23 (Nat.le_of_ble_eq_true rfl) rfl ?_
    refine V_iload_n C dL_acts_25 rfl rfl ?_
    refine V_bipush C dL_acts_26 (by decide +kernel) ?_
    refine V_irem C dL_acts_28 (by omega) (by omega) ?_
    rw [em]
    refine V_tableIn (tgt := 168) C dL_acts_29 (by decide) (by decide) (by decide) rfl (by decide) ?_
    refine V_aload_n C dL_acts_168 rfl rfl ?_
    refine V_iload C dL_acts_169 rfl ?_
    refine V_iconst C dL_acts_171 ?_
    refine V_irem C dL_acts_172 (by omega) (by omega) ?_
    refine V_if_ne (tgt := 187) C dL_acts_173 (by decide) (by omega) (fun q173 => by exfalso; omega) (fun q173 => ?_)
    refine V_iload C dL_acts_176 rfl ?_
    refine V_iconst C dL_acts_178 ?_
    refine V_idiv C dL_acts_179 (by omega) (by omega) ?_
    refine V_sipush C dL_acts_180 (by decide +kernel) ?_
    refine V_irem C dL_acts_183 (by omega) (by omega) ?_
    refine V_goto (tgt := 194) C dL_acts_184 (by decide) ?_
    refine V_SH1 (k2 := 0) (s2 := 0) C dL_acts_194 lL_133 kL_send (hc) rfl rfl ⟨Nat.le_of_ble_eq_true rfl, Nat.le_of_ble_eq_true rfl⟩ (Nat.le_of_ble_eq_true rfl) (by omega) (by omega) ?_
    exact V_iret C dL_acts_197 rfl hZ rfl rfl
  · obtain ⟨told, s1, st2, T1, K1, r1, hc, hI, hG, ht, hA⟩ := a_send G K r s st kp t 0 h hg ((v : Int) / 3 % 50) (by omega)
    refine ⟨told, s1, st2, _, T1, K1, r1, ?_, hI, hG, ht, by rw [hsd]; exact hA⟩
    refine Ct_of kL_acts.1 (by decide) [some (rf G 0), some (.int (iI (y : Int))), none, none, none, none] rfl (Nat.le_of_ble_eq_true rfl) ?_
    intro x C hZ
    refine V_iload_n C dL_acts_0 rfl rfl ?_
    refine V_bipush C dL_acts_1 (by decide +kernel) ?_
    refine V_idiv C dL_acts_3 (by omega) (by omega) ?_
    rw [ez]
    refine V_istore_n C dL_acts_4 rfl (Nat.le_of_ble_eq_true rfl) rfl ?_
    refine V_iload_n C dL_acts_5 rfl rfl ?_
    refine V_bipush C dL_acts_6 (by decide +kernel) ?_
    refine V_irem C dL_acts_8 (by omega) (by omega) ?_
    rw [ea]
    refine V_istore_n C dL_acts_9 rfl (Nat.le_of_ble_eq_true rfl) rfl ?_
    refine V_iload_n C dL_acts_10 rfl rfl ?_
    refine V_bipush C dL_acts_11 (by decide +kernel) ?_
    refine V_idiv C dL_acts_13 (by omega) (by omega) ?_
    refine V_bipush C dL_acts_14 (by decide +kernel) ?_
    refine V_irem C dL_acts_16 (by omega) (by omega) ?_
    rw [eb]
    refine V_istore C dL_acts_17 (Nat.le_of_ble_eq_true rfl) rfl ?_
    refine V_iload_n C dL_acts_19 rfl rfl ?_
    refine V_bipush C dL_acts_20 (by decide +kernel) ?_
    refine V_idiv C dL_acts_22 (by omega) (by omega) ?_
    rw [ev]
    refine V_istore C dL_acts_23 (Nat.le_of_ble_eq_true rfl) rfl ?_
    refine V_iload_n C dL_acts_25 rfl rfl ?_
    refine V_bipush C dL_acts_26 (by decide +kernel) ?_
    refine V_irem C dL_acts_28 (by omega) (by omega) ?_
    rw [em]
    refine V_tableIn (tgt := 168) C dL_acts_29 (by decide) (by decide) (by decide) rfl (by decide) ?_
    refine V_aload_n C dL_acts_168 rfl rfl ?_
    refine V_iload C dL_acts_169 rfl ?_
    refine V_iconst C dL_acts_171 ?_
    refine V_irem C dL_acts_172 (by omega) (by omega) ?_
    refine V_if_ne (tgt := 187) C dL_acts_173 (by decide) (by omega) (fun q173 => ?_) (fun q173 => by exfalso; omega)
    refine V_iload C dL_acts_187 rfl ?_
    refine V_iconst C dL_acts_189 ?_
    refine V_idiv C dL_acts_190 (by omega) (by omega) ?_
    refine V_bipush C dL_acts_191 (by decide +kernel) ?_
    refine V_irem C dL_acts_193 (by omega) (by omega) ?_
    refine V_SH1 (k2 := 0) (s2 := 0) C dL_acts_194 lL_133 kL_send (hc) rfl rfl ⟨Nat.le_of_ble_eq_true rfl, Nat.le_of_ble_eq_true rfl⟩ (Nat.le_of_ble_eq_true rfl) (by omega) (by omega) ?_
    exact V_iret C dL_acts_197 rfl hZ rfl rfl
set_option maxRecDepth 100000 in
set_option maxHeartbeats 4000000 in
theorem ac_10 (G : GT) (K : Nat → Nat → Int) (r : Nat → Option Nat) (s : Nat → Int) (st : Nat) (kp : Int) (t : Nat → Int) (h : IC K r s st kp t 0) (hg : GI s st kp t 0) (y : Nat) (hy : y < 2147483648) (e0 : y % 16 = 10) : OkA G K r y s st kp := by
  obtain ⟨z, ez, hz⟩ : ∃ z : Nat, (y : Int) / 16 = (z : Int) ∧ z < 134217728 := ⟨y / 16, by omega, by omega⟩
  obtain ⟨a, ea, ha⟩ : ∃ a : Nat, (z : Int) % 7 = (a : Int) ∧ a ≤ 6 := ⟨z % 7, by omega, by omega⟩
  obtain ⟨b, eb, hb⟩ : ∃ b : Nat, (z : Int) / 7 % 6 = (b : Int) ∧ b ≤ 5 := ⟨z / 7 % 6, by omega, by omega⟩
  obtain ⟨v, ev, hv⟩ : ∃ v : Nat, (z : Int) / 42 = (v : Int) ∧ v < 3200000 := ⟨z / 42, by omega, by omega⟩
  have em : (y : Int) % 16 = 10 := by omega
  have hsd : decide (8 ≤ y % 16 ∧ y % 16 ≤ 10) = true := decide_eq_true (by omega)
  by_cases c0 : (v : Int) % 3 = 0
  · obtain ⟨told, s1, st2, T1, K1, r1, hc, hI, hG, ht, hA⟩ := a_send G K r s st kp t 0 h hg ((v : Int) / 3 % 6800) (by omega)
    refine ⟨told, s1, st2, _, T1, K1, r1, ?_, hI, hG, ht, by rw [hsd]; exact hA⟩
    refine Ct_of kL_acts.1 (by decide) [some (rf G 0), some (.int (iI (y : Int))), none, none, none, none] rfl (Nat.le_of_ble_eq_true rfl) ?_
    intro x C hZ
    refine V_iload_n C dL_acts_0 rfl rfl ?_
    refine V_bipush C dL_acts_1 (by decide +kernel) ?_
    refine V_idiv C dL_acts_3 (by omega) (by omega) ?_
    rw [ez]
    refine V_istore_n C dL_acts_4 rfl (Nat.le_of_ble_eq_true rfl) rfl ?_
    refine V_iload_n C dL_acts_5 rfl rfl ?_
    refine V_bipush C dL_acts_6 (by decide +kernel) ?_
    refine V_irem C dL_acts_8 (by omega) (by omega) ?_
    rw [ea]
    refine V_istore_n C dL_acts_9 rfl (Nat.le_of_ble_eq_true rfl) rfl ?_
    refine V_iload_n C dL_acts_10 rfl rfl ?_
    refine V_bipush C dL_acts_11 (by decide +kernel) ?_
    refine V_idiv C dL_acts_13 (by omega) (by omega) ?_
    refine V_bipush C dL_acts_14 (by decide +kernel) ?_
    refine V_irem C dL_acts_16 (by omega) (by omega) ?_
    rw [eb]
    refine V_istore C dL_acts_17 (Nat.le_of_ble_eq_true rfl) rfl ?_
    refine V_iload_n C dL_acts_19 rfl rfl ?_
    refine V_bipush C dL_acts_20 (by decide +kernel) ?_
    refine V_idiv C dL_acts_22 (by omega) (by omega) ?_
    rw [ev]
    refine V_istore C dL_acts_23 (Nat.le_of_ble_eq_true rfl) rfl ?_
    refine V_iload_n C dL_acts_25 rfl rfl ?_
    refine V_bipush C dL_acts_26 (by decide +kernel) ?_
    refine V_irem C dL_acts_28 (by omega) (by omega) ?_
    rw [em]
    refine V_tableIn (tgt := 168) C dL_acts_29 (by decide) (by decide) (by decide) rfl (by decide) ?_
    refine V_aload_n C dL_acts_168 rfl rfl ?_
    refine V_iload C dL_acts_169 rfl ?_
    refine V_iconst C dL_acts_171 ?_
    refine V_irem C dL_acts_172 (by omega) (by omega) ?_
    refine V_if_ne (tgt := 187) C dL_acts_173 (by decide) (by omega) (fun q173 => by exfalso; omega) (fun q173 => ?_)
    refine V_iload C dL_acts_176 rfl ?_
    refine V_iconst C dL_acts_178 ?_
    refine V_idiv C dL_acts_179 (by omega) (by omega) ?_
    refine V_sipush C dL_acts_180 (by decide +kernel) ?_
    refine V_irem C dL_acts_183 (by omega) (by omega) ?_
    refine V_goto (tgt := 194) C dL_acts_184 (by decide) ?_
    refine V_SH1 (k2 := 0) (s2 := 0) C dL_acts_194 lL_133 kL_send (hc) rfl rfl ⟨Nat.le_of_ble_eq_true rfl, Nat.le_of_ble_eq_true rfl⟩ (Nat.le_of_ble_eq_true rfl) (by omega) (by omega) ?_
    exact V_iret C dL_acts_197 rfl hZ rfl rfl
  · obtain ⟨told, s1, st2, T1, K1, r1, hc, hI, hG, ht, hA⟩ := a_send G K r s st kp t 0 h hg ((v : Int) / 3 % 50) (by omega)
    refine ⟨told, s1, st2, _, T1, K1, r1, ?_, hI, hG, ht, by rw [hsd]; exact hA⟩
    refine Ct_of kL_acts.1 (by decide) [some (rf G 0), some (.int (iI (y : Int))), none, none, none, none] rfl (Nat.le_of_ble_eq_true rfl) ?_
    intro x C hZ
    refine V_iload_n C dL_acts_0 rfl rfl ?_
    refine V_bipush C dL_acts_1 (by decide +kernel) ?_
    refine V_idiv C dL_acts_3 (by omega) (by omega) ?_
    rw [ez]
    refine V_istore_n C dL_acts_4 rfl (Nat.le_of_ble_eq_true rfl) rfl ?_
    refine V_iload_n C dL_acts_5 rfl rfl ?_
    refine V_bipush C dL_acts_6 (by decide +kernel) ?_
    refine V_irem C dL_acts_8 (by omega) (by omega) ?_
    rw [ea]
    refine V_istore_n C dL_acts_9 rfl (Nat.le_of_ble_eq_true rfl) rfl ?_
    refine V_iload_n C dL_acts_10 rfl rfl ?_
    refine V_bipush C dL_acts_11 (by decide +kernel) ?_
    refine V_idiv C dL_acts_13 (by omega) (by omega) ?_
    refine V_bipush C dL_acts_14 (by decide +kernel) ?_
    refine V_irem C dL_acts_16 (by omega) (by omega) ?_
    rw [eb]
    refine V_istore C dL_acts_17 (Nat.le_of_ble_eq_true rfl) rfl ?_
    refine V_iload_n C dL_acts_19 rfl rfl ?_
    refine V_bipush C dL_acts_20 (by decide +kernel) ?_
    refine V_idiv C dL_acts_22 (by omega) (by omega) ?_
    rw [ev]
    refine V_istore C dL_acts_23 (Nat.le_of_ble_eq_true rfl) rfl ?_
    refine V_iload_n C dL_acts_25 rfl rfl ?_
    refine V_bipush C dL_acts_26 (by decide +kernel) ?_
    refine V_irem C dL_acts_28 (by omega) (by omega) ?_
    rw [em]
    refine V_tableIn (tgt := 168) C dL_acts_29 (by decide) (by decide) (by decide) rfl (by decide) ?_
    refine V_aload_n C dL_acts_168 rfl rfl ?_
    refine V_iload C dL_acts_169 rfl ?_
    refine V_iconst C dL_acts_171 ?_
    refine V_irem C dL_acts_172 (by omega) (by omega) ?_
    refine V_if_ne (tgt := 187) C dL_acts_173 (by decide) (by omega) (fun q173 => ?_) (fun q173 => by exfalso; omega)
    refine V_iload C dL_acts_187 rfl ?_
    refine V_iconst C dL_acts_189 ?_
    refine V_idiv C dL_acts_190 (by omega) (by omega) ?_
    refine V_bipush C dL_acts_191 (by decide +kernel) ?_
    refine V_irem C dL_acts_193 (by omega) (by omega) ?_
    refine V_SH1 (k2 := 0) (s2 := 0) C dL_acts_194 lL_133 kL_send (hc) rfl rfl ⟨Nat.le_of_ble_eq_true rfl, Nat.le_of_ble_eq_true rfl⟩ (Nat.le_of_ble_eq_true rfl) (by omega) (by omega) ?_
    exact V_iret C dL_acts_197 rfl hZ rfl rfl
set_option maxRecDepth 100000 in
set_option maxHeartbeats 4000000 in
theorem ac_11 (G : GT) (K : Nat → Nat → Int) (r : Nat → Option Nat) (s : Nat → Int) (st : Nat) (kp : Int) (t : Nat → Int) (h : IC K r s st kp t 0) (hg : GI s st kp t 0) (y : Nat) (hy : y < 2147483648) (e0 : y % 16 = 11) : OkA G K r y s st kp := by
  obtain ⟨z, ez, hz⟩ : ∃ z : Nat, (y : Int) / 16 = (z : Int) ∧ z < 134217728 := ⟨y / 16, by omega, by omega⟩
  obtain ⟨a, ea, ha⟩ : ∃ a : Nat, (z : Int) % 7 = (a : Int) ∧ a ≤ 6 := ⟨z % 7, by omega, by omega⟩
  obtain ⟨b, eb, hb⟩ : ∃ b : Nat, (z : Int) / 7 % 6 = (b : Int) ∧ b ≤ 5 := ⟨z / 7 % 6, by omega, by omega⟩
  obtain ⟨v, ev, hv⟩ : ∃ v : Nat, (z : Int) / 42 = (v : Int) ∧ v < 3200000 := ⟨z / 42, by omega, by omega⟩
  have em : (y : Int) % 16 = 11 := by omega
  have hsd : decide (8 ≤ y % 16 ∧ y % 16 ≤ 10) = false := decide_eq_false (by omega)
  obtain ⟨told, s1, st2, T1, K1, r1, hc, hI, hG, ht, hA⟩ := a_turn G K r s st kp t 0 h hg ((z : Int) % 64) (by omega)
  refine ⟨told, s1, st2, _, T1, K1, r1, ?_, hI, hG, ht, by rw [hsd]; exact hA⟩
  refine Ct_of kL_acts.1 (by decide) [some (rf G 0), some (.int (iI (y : Int))), none, none, none, none] rfl (Nat.le_of_ble_eq_true rfl) ?_
  intro x C hZ
  refine V_iload_n C dL_acts_0 rfl rfl ?_
  refine V_bipush C dL_acts_1 (by decide +kernel) ?_
  refine V_idiv C dL_acts_3 (by omega) (by omega) ?_
  rw [ez]
  refine V_istore_n C dL_acts_4 rfl (Nat.le_of_ble_eq_true rfl) rfl ?_
  refine V_iload_n C dL_acts_5 rfl rfl ?_
  refine V_bipush C dL_acts_6 (by decide +kernel) ?_
  refine V_irem C dL_acts_8 (by omega) (by omega) ?_
  rw [ea]
  refine V_istore_n C dL_acts_9 rfl (Nat.le_of_ble_eq_true rfl) rfl ?_
  refine V_iload_n C dL_acts_10 rfl rfl ?_
  refine V_bipush C dL_acts_11 (by decide +kernel) ?_
  refine V_idiv C dL_acts_13 (by omega) (by omega) ?_
  refine V_bipush C dL_acts_14 (by decide +kernel) ?_
  refine V_irem C dL_acts_16 (by omega) (by omega) ?_
  rw [eb]
  refine V_istore C dL_acts_17 (Nat.le_of_ble_eq_true rfl) rfl ?_
  refine V_iload_n C dL_acts_19 rfl rfl ?_
  refine V_bipush C dL_acts_20 (by decide +kernel) ?_
  refine V_idiv C dL_acts_22 (by omega) (by omega) ?_
  rw [ev]
  refine V_istore C dL_acts_23 (Nat.le_of_ble_eq_true rfl) rfl ?_
  refine V_iload_n C dL_acts_25 rfl rfl ?_
  refine V_bipush C dL_acts_26 (by decide +kernel) ?_
  refine V_irem C dL_acts_28 (by omega) (by omega) ?_
  rw [em]
  refine V_tableIn (tgt := 198) C dL_acts_29 (by decide) (by decide) (by decide) rfl (by decide) ?_
  refine V_aload_n C dL_acts_198 rfl rfl ?_
  refine V_iload_n C dL_acts_199 rfl rfl ?_
  refine V_bipush C dL_acts_200 (by decide +kernel) ?_
  refine V_irem C dL_acts_202 (by omega) (by omega) ?_
  refine V_SH1 (k2 := 0) (s2 := 0) C dL_acts_203 lL_135 kL_turn (hc) rfl rfl ⟨Nat.le_of_ble_eq_true rfl, Nat.le_of_ble_eq_true rfl⟩ (Nat.le_of_ble_eq_true rfl) (by omega) (by omega) ?_
  exact V_iret C dL_acts_206 rfl hZ rfl rfl
set_option maxRecDepth 100000 in
set_option maxHeartbeats 4000000 in
theorem ac_12 (G : GT) (K : Nat → Nat → Int) (r : Nat → Option Nat) (s : Nat → Int) (st : Nat) (kp : Int) (t : Nat → Int) (h : IC K r s st kp t 0) (hg : GI s st kp t 0) (y : Nat) (hy : y < 2147483648) (e0 : y % 16 = 12) : OkA G K r y s st kp := by
  obtain ⟨z, ez, hz⟩ : ∃ z : Nat, (y : Int) / 16 = (z : Int) ∧ z < 134217728 := ⟨y / 16, by omega, by omega⟩
  obtain ⟨a, ea, ha⟩ : ∃ a : Nat, (z : Int) % 7 = (a : Int) ∧ a ≤ 6 := ⟨z % 7, by omega, by omega⟩
  obtain ⟨b, eb, hb⟩ : ∃ b : Nat, (z : Int) / 7 % 6 = (b : Int) ∧ b ≤ 5 := ⟨z / 7 % 6, by omega, by omega⟩
  obtain ⟨v, ev, hv⟩ : ∃ v : Nat, (z : Int) / 42 = (v : Int) ∧ v < 3200000 := ⟨z / 42, by omega, by omega⟩
  have em : (y : Int) % 16 = 12 := by omega
  have hsd : decide (8 ≤ y % 16 ∧ y % 16 ≤ 10) = false := decide_eq_false (by omega)
  obtain ⟨told, s1, st2, T1, K1, r1, hc, hI, hG, ht, hA⟩ := a_turn G K r s st kp t 0 h hg ((z : Int) % 64) (by omega)
  refine ⟨told, s1, st2, _, T1, K1, r1, ?_, hI, hG, ht, by rw [hsd]; exact hA⟩
  refine Ct_of kL_acts.1 (by decide) [some (rf G 0), some (.int (iI (y : Int))), none, none, none, none] rfl (Nat.le_of_ble_eq_true rfl) ?_
  intro x C hZ
  refine V_iload_n C dL_acts_0 rfl rfl ?_
  refine V_bipush C dL_acts_1 (by decide +kernel) ?_
  refine V_idiv C dL_acts_3 (by omega) (by omega) ?_
  rw [ez]
  refine V_istore_n C dL_acts_4 rfl (Nat.le_of_ble_eq_true rfl) rfl ?_
  refine V_iload_n C dL_acts_5 rfl rfl ?_
  refine V_bipush C dL_acts_6 (by decide +kernel) ?_
  refine V_irem C dL_acts_8 (by omega) (by omega) ?_
  rw [ea]
  refine V_istore_n C dL_acts_9 rfl (Nat.le_of_ble_eq_true rfl) rfl ?_
  refine V_iload_n C dL_acts_10 rfl rfl ?_
  refine V_bipush C dL_acts_11 (by decide +kernel) ?_
  refine V_idiv C dL_acts_13 (by omega) (by omega) ?_
  refine V_bipush C dL_acts_14 (by decide +kernel) ?_
  refine V_irem C dL_acts_16 (by omega) (by omega) ?_
  rw [eb]
  refine V_istore C dL_acts_17 (Nat.le_of_ble_eq_true rfl) rfl ?_
  refine V_iload_n C dL_acts_19 rfl rfl ?_
  refine V_bipush C dL_acts_20 (by decide +kernel) ?_
  refine V_idiv C dL_acts_22 (by omega) (by omega) ?_
  rw [ev]
  refine V_istore C dL_acts_23 (Nat.le_of_ble_eq_true rfl) rfl ?_
  refine V_iload_n C dL_acts_25 rfl rfl ?_
  refine V_bipush C dL_acts_26 (by decide +kernel) ?_
  refine V_irem C dL_acts_28 (by omega) (by omega) ?_
  rw [em]
  refine V_tableIn (tgt := 198) C dL_acts_29 (by decide) (by decide) (by decide) rfl (by decide) ?_
  refine V_aload_n C dL_acts_198 rfl rfl ?_
  refine V_iload_n C dL_acts_199 rfl rfl ?_
  refine V_bipush C dL_acts_200 (by decide +kernel) ?_
  refine V_irem C dL_acts_202 (by omega) (by omega) ?_
  refine V_SH1 (k2 := 0) (s2 := 0) C dL_acts_203 lL_135 kL_turn (hc) rfl rfl ⟨Nat.le_of_ble_eq_true rfl, Nat.le_of_ble_eq_true rfl⟩ (Nat.le_of_ble_eq_true rfl) (by omega) (by omega) ?_
  exact V_iret C dL_acts_206 rfl hZ rfl rfl
set_option maxRecDepth 100000 in
set_option maxHeartbeats 4000000 in
theorem ac_13 (G : GT) (K : Nat → Nat → Int) (r : Nat → Option Nat) (s : Nat → Int) (st : Nat) (kp : Int) (t : Nat → Int) (h : IC K r s st kp t 0) (hg : GI s st kp t 0) (y : Nat) (hy : y < 2147483648) (e0 : y % 16 = 13) : OkA G K r y s st kp := by
  obtain ⟨z, ez, hz⟩ : ∃ z : Nat, (y : Int) / 16 = (z : Int) ∧ z < 134217728 := ⟨y / 16, by omega, by omega⟩
  obtain ⟨a, ea, ha⟩ : ∃ a : Nat, (z : Int) % 7 = (a : Int) ∧ a ≤ 6 := ⟨z % 7, by omega, by omega⟩
  obtain ⟨b, eb, hb⟩ : ∃ b : Nat, (z : Int) / 7 % 6 = (b : Int) ∧ b ≤ 5 := ⟨z / 7 % 6, by omega, by omega⟩
  obtain ⟨v, ev, hv⟩ : ∃ v : Nat, (z : Int) / 42 = (v : Int) ∧ v < 3200000 := ⟨z / 42, by omega, by omega⟩
  have em : (y : Int) % 16 = 13 := by omega
  have hsd : decide (8 ≤ y % 16 ∧ y % 16 ≤ 10) = false := decide_eq_false (by omega)
  obtain ⟨told, s1, st2, T1, K1, r1, hc, hI, hG, ht, hA⟩ := a_cut G K r s st kp t 0 h hg ((z : Int) % 12) (by omega)
  refine ⟨told, s1, st2, _, T1, K1, r1, ?_, hI, hG, ht, by rw [hsd]; exact hA⟩
  refine Ct_of kL_acts.1 (by decide) [some (rf G 0), some (.int (iI (y : Int))), none, none, none, none] rfl (Nat.le_of_ble_eq_true rfl) ?_
  intro x C hZ
  refine V_iload_n C dL_acts_0 rfl rfl ?_
  refine V_bipush C dL_acts_1 (by decide +kernel) ?_
  refine V_idiv C dL_acts_3 (by omega) (by omega) ?_
  rw [ez]
  refine V_istore_n C dL_acts_4 rfl (Nat.le_of_ble_eq_true rfl) rfl ?_
  refine V_iload_n C dL_acts_5 rfl rfl ?_
  refine V_bipush C dL_acts_6 (by decide +kernel) ?_
  refine V_irem C dL_acts_8 (by omega) (by omega) ?_
  rw [ea]
  refine V_istore_n C dL_acts_9 rfl (Nat.le_of_ble_eq_true rfl) rfl ?_
  refine V_iload_n C dL_acts_10 rfl rfl ?_
  refine V_bipush C dL_acts_11 (by decide +kernel) ?_
  refine V_idiv C dL_acts_13 (by omega) (by omega) ?_
  refine V_bipush C dL_acts_14 (by decide +kernel) ?_
  refine V_irem C dL_acts_16 (by omega) (by omega) ?_
  rw [eb]
  refine V_istore C dL_acts_17 (Nat.le_of_ble_eq_true rfl) rfl ?_
  refine V_iload_n C dL_acts_19 rfl rfl ?_
  refine V_bipush C dL_acts_20 (by decide +kernel) ?_
  refine V_idiv C dL_acts_22 (by omega) (by omega) ?_
  rw [ev]
  refine V_istore C dL_acts_23 (Nat.le_of_ble_eq_true rfl) rfl ?_
  refine V_iload_n C dL_acts_25 rfl rfl ?_
  refine V_bipush C dL_acts_26 (by decide +kernel) ?_
  refine V_irem C dL_acts_28 (by omega) (by omega) ?_
  rw [em]
  refine V_tableIn (tgt := 207) C dL_acts_29 (by decide) (by decide) (by decide) rfl (by decide) ?_
  refine V_aload_n C dL_acts_207 rfl rfl ?_
  refine V_iload_n C dL_acts_208 rfl rfl ?_
  refine V_bipush C dL_acts_209 (by decide +kernel) ?_
  refine V_irem C dL_acts_211 (by omega) (by omega) ?_
  refine V_SH1 (k2 := 0) (s2 := 0) C dL_acts_212 lL_137 kL_cut (hc) rfl rfl ⟨Nat.le_of_ble_eq_true rfl, Nat.le_of_ble_eq_true rfl⟩ (Nat.le_of_ble_eq_true rfl) (by omega) (by omega) ?_
  exact V_iret C dL_acts_215 rfl hZ rfl rfl
set_option maxRecDepth 100000 in
set_option maxHeartbeats 4000000 in
theorem ac_14 (G : GT) (K : Nat → Nat → Int) (r : Nat → Option Nat) (s : Nat → Int) (st : Nat) (kp : Int) (t : Nat → Int) (h : IC K r s st kp t 0) (hg : GI s st kp t 0) (y : Nat) (hy : y < 2147483648) (e0 : y % 16 = 14) : OkA G K r y s st kp := by
  obtain ⟨z, ez, hz⟩ : ∃ z : Nat, (y : Int) / 16 = (z : Int) ∧ z < 134217728 := ⟨y / 16, by omega, by omega⟩
  obtain ⟨a, ea, ha⟩ : ∃ a : Nat, (z : Int) % 7 = (a : Int) ∧ a ≤ 6 := ⟨z % 7, by omega, by omega⟩
  obtain ⟨b, eb, hb⟩ : ∃ b : Nat, (z : Int) / 7 % 6 = (b : Int) ∧ b ≤ 5 := ⟨z / 7 % 6, by omega, by omega⟩
  obtain ⟨v, ev, hv⟩ : ∃ v : Nat, (z : Int) / 42 = (v : Int) ∧ v < 3200000 := ⟨z / 42, by omega, by omega⟩
  have em : (y : Int) % 16 = 14 := by omega
  have hsd : decide (8 ≤ y % 16 ∧ y % 16 ≤ 10) = false := decide_eq_false (by omega)
  obtain ⟨K1, r1, c1, h1⟩ := g_append G K r s st kp t 0 h hg (48 + b) (by omega) (by decide)
  have g1 := GI_app (p := (((48 + b) : Nat) : Int)) hg (by omega) (by decide)
  obtain ⟨K2, r2, c2, h2⟩ := g_append G K1 r1 s st kp (us t 0 (((48 + b) : Nat) : Int)) 1 h1 g1 94 (by omega) (by decide)
  have g2 := GI_app (p := ((94 : Nat) : Int)) g1 (by omega) (by decide)
  obtain ⟨K3, r3, c3, h3⟩ := g_append G K2 r2 s st kp (us (us t 0 (((48 + b) : Nat) : Int)) 1 ((94 : Nat) : Int)) 2 h2 g2 59 (by omega) (by decide)
  have g3 := GI_app (p := ((59 : Nat) : Int)) g2 (by omega) (by decide)
  obtain ⟨K4, r4, c4, h4⟩ := g_append G K3 r3 s st kp (us (us (us t 0 (((48 + b) : Nat) : Int)) 1 ((94 : Nat) : Int)) 2 ((59 : Nat) : Int)) 3 h3 g3 102 (by omega) (by decide)
  have g4 := GI_app (p := ((102 : Nat) : Int)) g3 (by omega) (by decide)
  obtain ⟨K5, r5, c5, h5⟩ := g_append G K4 r4 s st kp (us (us (us (us t 0 (((48 + b) : Nat) : Int)) 1 ((94 : Nat) : Int)) 2 ((59 : Nat) : Int)) 3 ((102 : Nat) : Int)) 4 h4 g4 (49 + v % 9) (by omega) (by decide)
  have g5 := GI_app (p := (((49 + v % 9) : Nat) : Int)) g4 (by omega) (by decide)
  obtain ⟨told, s1, st2, T1, K6, r6, hc, hI, hG, ht, hA⟩ := a_work G K5 r5 s st kp _ 5 h5 g5
  refine ⟨told, s1, st2, _, T1, K6, r6, ?_, hI, hG, ht, by rw [hsd]; exact hA⟩
  refine Ct_of kL_acts.1 (by decide) [some (rf G 0), some (.int (iI (y : Int))), none, none, none, none] rfl (Nat.le_of_ble_eq_true rfl) ?_
  intro x C hZ
  refine V_iload_n C dL_acts_0 rfl rfl ?_
  refine V_bipush C dL_acts_1 (by decide +kernel) ?_
  refine V_idiv C dL_acts_3 (by omega) (by omega) ?_
  rw [ez]
  refine V_istore_n C dL_acts_4 rfl (Nat.le_of_ble_eq_true rfl) rfl ?_
  refine V_iload_n C dL_acts_5 rfl rfl ?_
  refine V_bipush C dL_acts_6 (by decide +kernel) ?_
  refine V_irem C dL_acts_8 (by omega) (by omega) ?_
  rw [ea]
  refine V_istore_n C dL_acts_9 rfl (Nat.le_of_ble_eq_true rfl) rfl ?_
  refine V_iload_n C dL_acts_10 rfl rfl ?_
  refine V_bipush C dL_acts_11 (by decide +kernel) ?_
  refine V_idiv C dL_acts_13 (by omega) (by omega) ?_
  refine V_bipush C dL_acts_14 (by decide +kernel) ?_
  refine V_irem C dL_acts_16 (by omega) (by omega) ?_
  rw [eb]
  refine V_istore C dL_acts_17 (Nat.le_of_ble_eq_true rfl) rfl ?_
  refine V_iload_n C dL_acts_19 rfl rfl ?_
  refine V_bipush C dL_acts_20 (by decide +kernel) ?_
  refine V_idiv C dL_acts_22 (by omega) (by omega) ?_
  rw [ev]
  refine V_istore C dL_acts_23 (Nat.le_of_ble_eq_true rfl) rfl ?_
  refine V_iload_n C dL_acts_25 rfl rfl ?_
  refine V_bipush C dL_acts_26 (by decide +kernel) ?_
  refine V_irem C dL_acts_28 (by omega) (by omega) ?_
  rw [em]
  refine V_tableOut (tgt := 216) C dL_acts_29 (by decide) (by decide) (by decide) ?_
  refine V_aload_n C dL_acts_216 rfl rfl ?_
  refine V_bipush C dL_acts_217 (by decide +kernel) ?_
  refine V_iload C dL_acts_219 rfl ?_
  refine V_iadd C dL_acts_221 ?_
  rw [show (48 : Int) + (b : Int) = ((48 + b : Nat) : Int) by omega]
  refine V_SH1 (k2 := 1) (s2 := 6) C dL_acts_222 lL_139 kL_append (c1) rfl rfl ⟨Nat.le_of_ble_eq_true rfl, Nat.le_of_ble_eq_true rfl⟩ (Nat.le_of_ble_eq_true rfl) (Nat.le_refl _) (Nat.le_refl _) ?_
  refine V_pop C dL_acts_225 rfl ?_
  refine V_aload_n C dL_acts_226 rfl rfl ?_
  refine V_bipush C dL_acts_227 (by decide +kernel) ?_
  refine V_SH1 (k2 := 1) (s2 := 6) C dL_acts_229 lL_139 kL_append (c2) rfl rfl ⟨Nat.le_of_ble_eq_true rfl, Nat.le_of_ble_eq_true rfl⟩ (Nat.le_of_ble_eq_true rfl) (Nat.le_refl _) (Nat.le_refl _) ?_
  refine V_pop C dL_acts_232 rfl ?_
  refine V_aload_n C dL_acts_233 rfl rfl ?_
  refine V_bipush C dL_acts_234 (by decide +kernel) ?_
  refine V_SH1 (k2 := 1) (s2 := 6) C dL_acts_236 lL_139 kL_append (c3) rfl rfl ⟨Nat.le_of_ble_eq_true rfl, Nat.le_of_ble_eq_true rfl⟩ (Nat.le_of_ble_eq_true rfl) (Nat.le_refl _) (Nat.le_refl _) ?_
  refine V_pop C dL_acts_239 rfl ?_
  refine V_aload_n C dL_acts_240 rfl rfl ?_
  refine V_bipush C dL_acts_241 (by decide +kernel) ?_
  refine V_SH1 (k2 := 1) (s2 := 6) C dL_acts_243 lL_139 kL_append (c4) rfl rfl ⟨Nat.le_of_ble_eq_true rfl, Nat.le_of_ble_eq_true rfl⟩ (Nat.le_of_ble_eq_true rfl) (Nat.le_refl _) (Nat.le_refl _) ?_
  refine V_pop C dL_acts_246 rfl ?_
  refine V_aload_n C dL_acts_247 rfl rfl ?_
  refine V_bipush C dL_acts_248 (by decide +kernel) ?_
  refine V_iload C dL_acts_250 rfl ?_
  refine V_bipush C dL_acts_252 (by decide +kernel) ?_
  refine V_irem C dL_acts_254 (by omega) (by omega) ?_
  refine V_iadd C dL_acts_255 ?_
  rw [show (49 : Int) + (v : Int) % 9 = ((49 + v % 9 : Nat) : Int) by omega]
  refine V_SH1 (k2 := 1) (s2 := 6) C dL_acts_256 lL_139 kL_append (c5) rfl rfl ⟨Nat.le_of_ble_eq_true rfl, Nat.le_of_ble_eq_true rfl⟩ (Nat.le_of_ble_eq_true rfl) (Nat.le_refl _) (Nat.le_refl _) ?_
  refine V_pop C dL_acts_259 rfl ?_
  refine V_aload_n C dL_acts_260 rfl rfl ?_
  refine V_SH1 (k2 := 0) (s2 := 0) C dL_acts_261 lL_141 kL_work (hc) rfl rfl ⟨Nat.le_of_ble_eq_true rfl, Nat.le_of_ble_eq_true rfl⟩ (Nat.le_of_ble_eq_true rfl) (by omega) (by omega) ?_
  exact V_iret C dL_acts_264 rfl hZ rfl rfl
set_option maxRecDepth 100000 in
set_option maxHeartbeats 4000000 in
theorem ac_15 (G : GT) (K : Nat → Nat → Int) (r : Nat → Option Nat) (s : Nat → Int) (st : Nat) (kp : Int) (t : Nat → Int) (h : IC K r s st kp t 0) (hg : GI s st kp t 0) (y : Nat) (hy : y < 2147483648) (e0 : y % 16 = 15) : OkA G K r y s st kp := by
  obtain ⟨z, ez, hz⟩ : ∃ z : Nat, (y : Int) / 16 = (z : Int) ∧ z < 134217728 := ⟨y / 16, by omega, by omega⟩
  obtain ⟨a, ea, ha⟩ : ∃ a : Nat, (z : Int) % 7 = (a : Int) ∧ a ≤ 6 := ⟨z % 7, by omega, by omega⟩
  obtain ⟨b, eb, hb⟩ : ∃ b : Nat, (z : Int) / 7 % 6 = (b : Int) ∧ b ≤ 5 := ⟨z / 7 % 6, by omega, by omega⟩
  obtain ⟨v, ev, hv⟩ : ∃ v : Nat, (z : Int) / 42 = (v : Int) ∧ v < 3200000 := ⟨z / 42, by omega, by omega⟩
  have em : (y : Int) % 16 = 15 := by omega
  have hsd : decide (8 ≤ y % 16 ∧ y % 16 ≤ 10) = false := decide_eq_false (by omega)
  obtain ⟨K1, r1, c1, h1⟩ := g_append G K r s st kp t 0 h hg (48 + b) (by omega) (by decide)
  have g1 := GI_app (p := (((48 + b) : Nat) : Int)) hg (by omega) (by decide)
  obtain ⟨K2, r2, c2, h2⟩ := g_append G K1 r1 s st kp (us t 0 (((48 + b) : Nat) : Int)) 1 h1 g1 94 (by omega) (by decide)
  have g2 := GI_app (p := ((94 : Nat) : Int)) g1 (by omega) (by decide)
  obtain ⟨K3, r3, c3, h3⟩ := g_append G K2 r2 s st kp (us (us t 0 (((48 + b) : Nat) : Int)) 1 ((94 : Nat) : Int)) 2 h2 g2 59 (by omega) (by decide)
  have g3 := GI_app (p := ((59 : Nat) : Int)) g2 (by omega) (by decide)
  obtain ⟨K4, r4, c4, h4⟩ := g_append G K3 r3 s st kp (us (us (us t 0 (((48 + b) : Nat) : Int)) 1 ((94 : Nat) : Int)) 2 ((59 : Nat) : Int)) 3 h3 g3 102 (by omega) (by decide)
  have g4 := GI_app (p := ((102 : Nat) : Int)) g3 (by omega) (by decide)
  obtain ⟨K5, r5, c5, h5⟩ := g_append G K4 r4 s st kp (us (us (us (us t 0 (((48 + b) : Nat) : Int)) 1 ((94 : Nat) : Int)) 2 ((59 : Nat) : Int)) 3 ((102 : Nat) : Int)) 4 h4 g4 (49 + v % 9) (by omega) (by decide)
  have g5 := GI_app (p := (((49 + v % 9) : Nat) : Int)) g4 (by omega) (by decide)
  obtain ⟨told, s1, st2, T1, K6, r6, hc, hI, hG, ht, hA⟩ := a_work G K5 r5 s st kp _ 5 h5 g5
  refine ⟨told, s1, st2, _, T1, K6, r6, ?_, hI, hG, ht, by rw [hsd]; exact hA⟩
  refine Ct_of kL_acts.1 (by decide) [some (rf G 0), some (.int (iI (y : Int))), none, none, none, none] rfl (Nat.le_of_ble_eq_true rfl) ?_
  intro x C hZ
  refine V_iload_n C dL_acts_0 rfl rfl ?_
  refine V_bipush C dL_acts_1 (by decide +kernel) ?_
  refine V_idiv C dL_acts_3 (by omega) (by omega) ?_
  rw [ez]
  refine V_istore_n C dL_acts_4 rfl (Nat.le_of_ble_eq_true rfl) rfl ?_
  refine V_iload_n C dL_acts_5 rfl rfl ?_
  refine V_bipush C dL_acts_6 (by decide +kernel) ?_
  refine V_irem C dL_acts_8 (by omega) (by omega) ?_
  rw [ea]
  refine V_istore_n C dL_acts_9 rfl (Nat.le_of_ble_eq_true rfl) rfl ?_
  refine V_iload_n C dL_acts_10 rfl rfl ?_
  refine V_bipush C dL_acts_11 (by decide +kernel) ?_
  refine V_idiv C dL_acts_13 (by omega) (by omega) ?_
  refine V_bipush C dL_acts_14 (by decide +kernel) ?_
  refine V_irem C dL_acts_16 (by omega) (by omega) ?_
  rw [eb]
  refine V_istore C dL_acts_17 (Nat.le_of_ble_eq_true rfl) rfl ?_
  refine V_iload_n C dL_acts_19 rfl rfl ?_
  refine V_bipush C dL_acts_20 (by decide +kernel) ?_
  refine V_idiv C dL_acts_22 (by omega) (by omega) ?_
  rw [ev]
  refine V_istore C dL_acts_23 (Nat.le_of_ble_eq_true rfl) rfl ?_
  refine V_iload_n C dL_acts_25 rfl rfl ?_
  refine V_bipush C dL_acts_26 (by decide +kernel) ?_
  refine V_irem C dL_acts_28 (by omega) (by omega) ?_
  rw [em]
  refine V_tableOut (tgt := 216) C dL_acts_29 (by decide) (by decide) (by decide) ?_
  refine V_aload_n C dL_acts_216 rfl rfl ?_
  refine V_bipush C dL_acts_217 (by decide +kernel) ?_
  refine V_iload C dL_acts_219 rfl ?_
  refine V_iadd C dL_acts_221 ?_
  rw [show (48 : Int) + (b : Int) = ((48 + b : Nat) : Int) by omega]
  refine V_SH1 (k2 := 1) (s2 := 6) C dL_acts_222 lL_139 kL_append (c1) rfl rfl ⟨Nat.le_of_ble_eq_true rfl, Nat.le_of_ble_eq_true rfl⟩ (Nat.le_of_ble_eq_true rfl) (Nat.le_refl _) (Nat.le_refl _) ?_
  refine V_pop C dL_acts_225 rfl ?_
  refine V_aload_n C dL_acts_226 rfl rfl ?_
  refine V_bipush C dL_acts_227 (by decide +kernel) ?_
  refine V_SH1 (k2 := 1) (s2 := 6) C dL_acts_229 lL_139 kL_append (c2) rfl rfl ⟨Nat.le_of_ble_eq_true rfl, Nat.le_of_ble_eq_true rfl⟩ (Nat.le_of_ble_eq_true rfl) (Nat.le_refl _) (Nat.le_refl _) ?_
  refine V_pop C dL_acts_232 rfl ?_
  refine V_aload_n C dL_acts_233 rfl rfl ?_
  refine V_bipush C dL_acts_234 (by decide +kernel) ?_
  refine V_SH1 (k2 := 1) (s2 := 6) C dL_acts_236 lL_139 kL_append (c3) rfl rfl ⟨Nat.le_of_ble_eq_true rfl, Nat.le_of_ble_eq_true rfl⟩ (Nat.le_of_ble_eq_true rfl) (Nat.le_refl _) (Nat.le_refl _) ?_
  refine V_pop C dL_acts_239 rfl ?_
  refine V_aload_n C dL_acts_240 rfl rfl ?_
  refine V_bipush C dL_acts_241 (by decide +kernel) ?_
  refine V_SH1 (k2 := 1) (s2 := 6) C dL_acts_243 lL_139 kL_append (c4) rfl rfl ⟨Nat.le_of_ble_eq_true rfl, Nat.le_of_ble_eq_true rfl⟩ (Nat.le_of_ble_eq_true rfl) (Nat.le_refl _) (Nat.le_refl _) ?_
  refine V_pop C dL_acts_246 rfl ?_
  refine V_aload_n C dL_acts_247 rfl rfl ?_
  refine V_bipush C dL_acts_248 (by decide +kernel) ?_
  refine V_iload C dL_acts_250 rfl ?_
  refine V_bipush C dL_acts_252 (by decide +kernel) ?_
  refine V_irem C dL_acts_254 (by omega) (by omega) ?_
  refine V_iadd C dL_acts_255 ?_
  rw [show (49 : Int) + (v : Int) % 9 = ((49 + v % 9 : Nat) : Int) by omega]
  refine V_SH1 (k2 := 1) (s2 := 6) C dL_acts_256 lL_139 kL_append (c5) rfl rfl ⟨Nat.le_of_ble_eq_true rfl, Nat.le_of_ble_eq_true rfl⟩ (Nat.le_of_ble_eq_true rfl) (Nat.le_refl _) (Nat.le_refl _) ?_
  refine V_pop C dL_acts_259 rfl ?_
  refine V_aload_n C dL_acts_260 rfl rfl ?_
  refine V_SH1 (k2 := 0) (s2 := 0) C dL_acts_261 lL_141 kL_work (hc) rfl rfl ⟨Nat.le_of_ble_eq_true rfl, Nat.le_of_ble_eq_true rfl⟩ (Nat.le_of_ble_eq_true rfl) (by omega) (by omega) ?_
  exact V_iret C dL_acts_264 rfl hZ rfl rfl
theorem c_acts (G : GT) (K : Nat → Nat → Int) (r : Nat → Option Nat) (s : Nat → Int) (st : Nat) (kp : Int) (t : Nat → Int) (h : IC K r s st kp t 0) (hg : GI s st kp t 0) (y : Nat) (hy : y < 2147483648) : OkA G K r y s st kp := by
  rcases (show y % 16 = 0 ∨ y % 16 = 1 ∨ y % 16 = 2 ∨ y % 16 = 3 ∨ y % 16 = 4 ∨ y % 16 = 5 ∨ y % 16 = 6 ∨ y % 16 = 7 ∨ y % 16 = 8 ∨ y % 16 = 9 ∨ y % 16 = 10 ∨ y % 16 = 11 ∨ y % 16 = 12 ∨ y % 16 = 13 ∨ y % 16 = 14 ∨ y % 16 = 15 by omega) with e0 | e0 | e0 | e0 | e0 | e0 | e0 | e0 | e0 | e0 | e0 | e0 | e0 | e0 | e0 | e0
  · exact ac_0 G K r s st kp t h hg y hy e0
  · exact ac_1 G K r s st kp t h hg y hy e0
  · exact ac_2 G K r s st kp t h hg y hy e0
  · exact ac_3 G K r s st kp t h hg y hy e0
  · exact ac_4 G K r s st kp t h hg y hy e0
  · exact ac_5 G K r s st kp t h hg y hy e0
  · exact ac_6 G K r s st kp t h hg y hy e0
  · exact ac_7 G K r s st kp t h hg y hy e0
  · exact ac_8 G K r s st kp t h hg y hy e0
  · exact ac_9 G K r s st kp t h hg y hy e0
  · exact ac_10 G K r s st kp t h hg y hy e0
  · exact ac_11 G K r s st kp t h hg y hy e0
  · exact ac_12 G K r s st kp t h hg y hy e0
  · exact ac_13 G K r s st kp t h hg y hy e0
  · exact ac_14 G K r s st kp t h hg y hy e0
  · exact ac_15 G K r s st kp t h hg y hy e0
