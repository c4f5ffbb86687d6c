set_option maxRecDepth 100000 in
set_option maxHeartbeats 4000000 in
theorem c_X6_thrown (G : GT) (N : Nat) (hN : 33 ≤ N) (h : Hp) (f s tx cs fo : Nat → Int) (hM : MH G h f s tx cs fo)  : Ct G yX6_thrown mX6_thrown [rf G 28] N false h 0 0 (some (.int (iI (f 3)))) N false (h) := by
  refine Ct_of kX6_thrown.1.1 (by decide) [some (rf G 28)] rfl (Nat.le_of_ble_eq_true rfl) ?_
  intro x C hZ
  refine V_aload_n C dX6_thrown_0 rfl rfl ?_
  refine V_getf C dX6_thrown_1 fX6_22 (by omega) (hM.1) rfl ?_
  exact V_iret C dX6_thrown_4 rfl hZ (by first | rfl | omega) rfl
def goT (a b c : Bool) : Int := if a = true then (if b = true then (if c = true then 0 else 3) else 2) else 1
theorem goT_0 (a b c : Bool) : goT a b c = 0 ↔ (a && b && c) = true := by cases a <;> cases b <;> cases c <;> decide
theorem goT_r (a b c : Bool) : 0 ≤ goT a b c ∧ goT a b c ≤ 3 := by cases a <;> cases b <;> cases c <;> decide
set_option maxRecDepth 100000 in
set_option maxHeartbeats 4000000 in
theorem c_X6_goes (G : GT) (N : Nat) (hN : 33 ≤ N) (h : Hp) (f s tx cs fo : Nat → Int) (hM : MH G h f s tx cs fo) (a b c : Bool) : Ct G yX6_goes mX6_goes [rf G 28, .int (iI (b2 a)), .int (iI (b2 b)), .int (iI (b2 c))] N false h 0 0 (some (.int (iI (b2 (a && b && c))))) N false (hs h 28 (.inr (6, mOl G (us f 3 (goT a b c))))) := by
  refine Ct_of kX6_goes.1.1 (by decide) [some (rf G 28), some (.int (iI (b2 a))), some (.int (iI (b2 b))), some (.int (iI (b2 c)))] rfl (Nat.le_of_ble_eq_true rfl) ?_
  intro x C hZ
  cases a <;> cases b <;> cases c
  · refine V_aload_n C dX6_goes_0 rfl rfl ?_
    refine V_iload_n C dX6_goes_1 rfl rfl ?_
    refine V_if_ne (tgt := 9) C dX6_goes_2 (by decide) (by first | omega | (simp [b2, us] at * <;> omega)) (fun q2 => by exfalso; first | omega | (simp [b2, us] at * <;> omega)) (fun q2 => ?_)
    refine V_iconst C dX6_goes_5 ?_
    refine V_goto (tgt := 26) C dX6_goes_6 (by decide) ?_
    refine V_putL (L := mOl G) (ty := .int) C dX6_goes_26 fX6_22 (by omega) (hM.1) rfl (by decide +kernel) (rfl) (rfl) (Nat.le_of_ble_eq_true rfl) rfl ?_
    refine V_aload_n C dX6_goes_29 rfl rfl ?_
    refine V_getf C dX6_goes_30 fX6_22 (by omega) (hs_at _ _ _) rfl ?_
    refine V_if_ne (tgt := 40) C dX6_goes_33 (by decide) (by first | omega | (simp [b2, us] at * <;> omega)) (fun q33 => ?_) (fun q33 => by exfalso; first | omega | (simp [b2, us] at * <;> omega))
    refine V_iconst C dX6_goes_40 ?_
    exact V_zret C dX6_goes_41 rfl hZ (by decide) rfl rfl
  · refine V_aload_n C dX6_goes_0 rfl rfl ?_
    refine V_iload_n C dX6_goes_1 rfl rfl ?_
    refine V_if_ne (tgt := 9) C dX6_goes_2 (by decide) (by first | omega | (simp [b2, us] at * <;> omega)) (fun q2 => by exfalso; first | omega | (simp [b2, us] at * <;> omega)) (fun q2 => ?_)
    refine V_iconst C dX6_goes_5 ?_
    refine V_goto (tgt := 26) C dX6_goes_6 (by decide) ?_
    refine V_putL (L := mOl G) (ty := .int) C dX6_goes_26 fX6_22 (by omega) (hM.1) rfl (by decide +kernel) (rfl) (rfl) (Nat.le_of_ble_eq_true rfl) rfl ?_
    refine V_aload_n C dX6_goes_29 rfl rfl ?_
    refine V_getf C dX6_goes_30 fX6_22 (by omega) (hs_at _ _ _) rfl ?_
    refine V_if_ne (tgt := 40) C dX6_goes_33 (by decide) (by first | omega | (simp [b2, us] at * <;> omega)) (fun q33 => ?_) (fun q33 => by exfalso; first | omega | (simp [b2, us] at * <;> omega))
    refine V_iconst C dX6_goes_40 ?_
    exact V_zret C dX6_goes_41 rfl hZ (by decide) rfl rfl
  · refine V_aload_n C dX6_goes_0 rfl rfl ?_
    refine V_iload_n C dX6_goes_1 rfl rfl ?_
    refine V_if_ne (tgt := 9) C dX6_goes_2 (by decide) (by first | omega | (simp [b2, us] at * <;> omega)) (fun q2 => by exfalso; first | omega | (simp [b2, us] at * <;> omega)) (fun q2 => ?_)
    refine V_iconst C dX6_goes_5 ?_
    refine V_goto (tgt := 26) C dX6_goes_6 (by decide) ?_
    refine V_putL (L := mOl G) (ty := .int) C dX6_goes_26 fX6_22 (by omega) (hM.1) rfl (by decide +kernel) (rfl) (rfl) (Nat.le_of_ble_eq_true rfl) rfl ?_
    refine V_aload_n C dX6_goes_29 rfl rfl ?_
    refine V_getf C dX6_goes_30 fX6_22 (by omega) (hs_at _ _ _) rfl ?_
    refine V_if_ne (tgt := 40) C dX6_goes_33 (by decide) (by first | omega | (simp [b2, us] at * <;> omega)) (fun q33 => ?_) (fun q33 => by exfalso; first | omega | (simp [b2, us] at * <;> omega))
    refine V_iconst C dX6_goes_40 ?_
    exact V_zret C dX6_goes_41 rfl hZ (by decide) rfl rfl
  · refine V_aload_n C dX6_goes_0 rfl rfl ?_
    refine V_iload_n C dX6_goes_1 rfl rfl ?_
    refine V_if_ne (tgt := 9) C dX6_goes_2 (by decide) (by first | omega | (simp [b2, us] at * <;> omega)) (fun q2 => by exfalso; first | omega | (simp [b2, us] at * <;> omega)) (fun q2 => ?_)
    refine V_iconst C dX6_goes_5 ?_
    refine V_goto (tgt := 26) C dX6_goes_6 (by decide) ?_
    refine V_putL (L := mOl G) (ty := .int) C dX6_goes_26 fX6_22 (by omega) (hM.1) rfl (by decide +kernel) (rfl) (rfl) (Nat.le_of_ble_eq_true rfl) rfl ?_
    refine V_aload_n C dX6_goes_29 rfl rfl ?_
    refine V_getf C dX6_goes_30 fX6_22 (by omega) (hs_at _ _ _) rfl ?_
    refine V_if_ne (tgt := 40) C dX6_goes_33 (by decide) (by first | omega | (simp [b2, us] at * <;> omega)) (fun q33 => ?_) (fun q33 => by exfalso; first | omega | (simp [b2, us] at * <;> omega))
    refine V_iconst C dX6_goes_40 ?_
    exact V_zret C dX6_goes_41 rfl hZ (by decide) rfl rfl
  · refine V_aload_n C dX6_goes_0 rfl rfl ?_
    refine V_iload_n C dX6_goes_1 rfl rfl ?_
    refine V_if_ne (tgt := 9) C dX6_goes_2 (by decide) (by first | omega | (simp [b2, us] at * <;> omega)) (fun q2 => ?_) (fun q2 => by exfalso; first | omega | (simp [b2, us] at * <;> omega))
    refine V_iload_n C dX6_goes_9 rfl rfl ?_
    refine V_if_ne (tgt := 17) C dX6_goes_10 (by decide) (by first | omega | (simp [b2, us] at * <;> omega)) (fun q10 => by exfalso; first | omega | (simp [b2, us] at * <;> omega)) (fun q10 => ?_)
    refine V_iconst C dX6_goes_13 ?_
    refine V_goto (tgt := 26) C dX6_goes_14 (by decide) ?_
    refine V_putL (L := mOl G) (ty := .int) C dX6_goes_26 fX6_22 (by omega) (hM.1) rfl (by decide +kernel) (rfl) (rfl) (Nat.le_of_ble_eq_true rfl) rfl ?_
    refine V_aload_n C dX6_goes_29 rfl rfl ?_
    refine V_getf C dX6_goes_30 fX6_22 (by omega) (hs_at _ _ _) rfl ?_
    refine V_if_ne (tgt := 40) C dX6_goes_33 (by decide) (by first | omega | (simp [b2, us] at * <;> omega)) (fun q33 => ?_) (fun q33 => by exfalso; first | omega | (simp [b2, us] at * <;> omega))
    refine V_iconst C dX6_goes_40 ?_
    exact V_zret C dX6_goes_41 rfl hZ (by decide) rfl rfl
  · refine V_aload_n C dX6_goes_0 rfl rfl ?_
    refine V_iload_n C dX6_goes_1 rfl rfl ?_
    refine V_if_ne (tgt := 9) C dX6_goes_2 (by decide) (by first | omega | (simp [b2, us] at * <;> omega)) (fun q2 => ?_) (fun q2 => by exfalso; first | omega | (simp [b2, us] at * <;> omega))
    refine V_iload_n C dX6_goes_9 rfl rfl ?_
    refine V_if_ne (tgt := 17) C dX6_goes_10 (by decide) (by first | omega | (simp [b2, us] at * <;> omega)) (fun q10 => by exfalso; first | omega | (simp [b2, us] at * <;> omega)) (fun q10 => ?_)
    refine V_iconst C dX6_goes_13 ?_
    refine V_goto (tgt := 26) C dX6_goes_14 (by decide) ?_
    refine V_putL (L := mOl G) (ty := .int) C dX6_goes_26 fX6_22 (by omega) (hM.1) rfl (by decide +kernel) (rfl) (rfl) (Nat.le_of_ble_eq_true rfl) rfl ?_
    refine V_aload_n C dX6_goes_29 rfl rfl ?_
    refine V_getf C dX6_goes_30 fX6_22 (by omega) (hs_at _ _ _) rfl ?_
    refine V_if_ne (tgt := 40) C dX6_goes_33 (by decide) (by first | omega | (simp [b2, us] at * <;> omega)) (fun q33 => ?_) (fun q33 => by exfalso; first | omega | (simp [b2, us] at * <;> omega))
    refine V_iconst C dX6_goes_40 ?_
    exact V_zret C dX6_goes_41 rfl hZ (by decide) rfl rfl
  · refine V_aload_n C dX6_goes_0 rfl rfl ?_
    refine V_iload_n C dX6_goes_1 rfl rfl ?_
    refine V_if_ne (tgt := 9) C dX6_goes_2 (by decide) (by first | omega | (simp [b2, us] at * <;> omega)) (fun q2 => ?_) (fun q2 => by exfalso; first | omega | (simp [b2, us] at * <;> omega))
    refine V_iload_n C dX6_goes_9 rfl rfl ?_
    refine V_if_ne (tgt := 17) C dX6_goes_10 (by decide) (by first | omega | (simp [b2, us] at * <;> omega)) (fun q10 => ?_) (fun q10 => by exfalso; first | omega | (simp [b2, us] at * <;> omega))
    refine V_iload_n C dX6_goes_17 rfl rfl ?_
    refine V_if_ne (tgt := 25) C dX6_goes_18 (by decide) (by first | omega | (simp [b2, us] at * <;> omega)) (fun q18 => by exfalso; first | omega | (simp [b2, us] at * <;> omega)) (fun q18 => ?_)
    refine V_iconst C dX6_goes_21 ?_
    refine V_goto (tgt := 26) C dX6_goes_22 (by decide) ?_
    refine V_putL (L := mOl G) (ty := .int) C dX6_goes_26 fX6_22 (by omega) (hM.1) rfl (by decide +kernel) (rfl) (rfl) (Nat.le_of_ble_eq_true rfl) rfl ?_
    refine V_aload_n C dX6_goes_29 rfl rfl ?_
    refine V_getf C dX6_goes_30 fX6_22 (by omega) (hs_at _ _ _) rfl ?_
    refine V_if_ne (tgt := 40) C dX6_goes_33 (by decide) (by first | omega | (simp [b2, us] at * <;> omega)) (fun q33 => ?_) (fun q33 => by exfalso; first | omega | (simp [b2, us] at * <;> omega))
    refine V_iconst C dX6_goes_40 ?_
    exact V_zret C dX6_goes_41 rfl hZ (by decide) rfl rfl
  · refine V_aload_n C dX6_goes_0 rfl rfl ?_
    refine V_iload_n C dX6_goes_1 rfl rfl ?_
    refine V_if_ne (tgt := 9) C dX6_goes_2 (by decide) (by first | omega | (simp [b2, us] at * <;> omega)) (fun q2 => ?_) (fun q2 => by exfalso; first | omega | (simp [b2, us] at * <;> omega))
    refine V_iload_n C dX6_goes_9 rfl rfl ?_
    refine V_if_ne (tgt := 17) C dX6_goes_10 (by decide) (by first | omega | (simp [b2, us] at * <;> omega)) (fun q10 => ?_) (fun q10 => by exfalso; first | omega | (simp [b2, us] at * <;> omega))
    refine V_iload_n C dX6_goes_17 rfl rfl ?_
    refine V_if_ne (tgt := 25) C dX6_goes_18 (by decide) (by first | omega | (simp [b2, us] at * <;> omega)) (fun q18 => ?_) (fun q18 => by exfalso; first | omega | (simp [b2, us] at * <;> omega))
    refine V_iconst C dX6_goes_25 ?_
    refine V_putL (L := mOl G) (ty := .int) C dX6_goes_26 fX6_22 (by omega) (hM.1) rfl (by decide +kernel) (rfl) (rfl) (Nat.le_of_ble_eq_true rfl) rfl ?_
    refine V_aload_n C dX6_goes_29 rfl rfl ?_
    refine V_getf C dX6_goes_30 fX6_22 (by omega) (hs_at _ _ _) rfl ?_
    refine V_if_ne (tgt := 40) C dX6_goes_33 (by decide) (by first | omega | (simp [b2, us] at * <;> omega)) (fun q33 => by exfalso; first | omega | (simp [b2, us] at * <;> omega)) (fun q33 => ?_)
    refine V_iconst C dX6_goes_36 ?_
    refine V_goto (tgt := 41) C dX6_goes_37 (by decide) ?_
    exact V_zret C dX6_goes_41 rfl hZ (by decide) rfl rfl
