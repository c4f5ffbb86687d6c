set_option maxRecDepth 100000 in
set_option maxHeartbeats 4000000 in
theorem c_X6_countWays (n : Nat) (hn : n ≤ 6764) (G : GT) (N : Nat) (gf : Bool) (h : Hp) : Ct G yX6_countWays mX6_countWays [.int (iI (n : Int))] N gf h 0 0 (some (.int (iI (cw (gm 18 n))))) N gf h := by
  refine Ct_of kX6_countWays.1 (by decide) [some (.int (iI (n : Int))), none, none, none, none, none, none] rfl (Nat.le_of_ble_eq_true rfl) ?_
  intro x C hZ
  have f1 := gm_18 n
  have f2 := cn_le 22 (gm 18 n)
  have base : 1 ≤ cn 22 (gm 18 n) → cw (gm 18 n) = (cwA (gm 18 n) (cn 22 (gm 18 n) - 1)).1 + (cwA (gm 18 n) (cn 22 (gm 18 n) - 1)).2 := fun hh => by unfold cw; rw [if_neg (by omega)]
  have loop : ∀ (f j : Nat) (a b : Int) (o5 o6 : Option Value), j + 1 + f = cn 22 (gm 18 n) → a = (cwA (gm 18 n) j).1 → b = (cwA (gm 18 n) j).2 → V G mX6_countWays x 26 [some (.int (iI (n : Int))), some (.int (iI ((gm 18 n : Nat) : Int))), some (.int (iI a)), some (.int (iI b)), some (.int (iI ((j : Int) + 1))), o5, o6] [] N gf h 0 0 := by
    intro f
    induction f with
    | zero =>
      intro j a b o5 o6 e e1 e2
      refine V_iload C dX6_countWays_26 rfl ?_
      refine V_iload_n C dX6_countWays_28 rfl rfl ?_
      refine V_S1 (k2 := 0) (s2 := 0) C dX6_countWays_29 lX6_47 kX6_many (c_X6_many _ (by omega) G N gf h) rfl rfl ⟨Nat.le_of_ble_eq_true rfl, Nat.le_of_ble_eq_true rfl⟩ (Nat.le_of_ble_eq_true rfl) (Nat.le_refl _) (Nat.le_refl _) ?_
      refine V_icmp_ge (tgt := 82) C dX6_countWays_32 (by decide) (by omega) (by omega) (fun q32 => ?_) (fun q32 => by exfalso; omega)
      refine V_iload_n C dX6_countWays_82 rfl rfl ?_
      refine V_iload_n C dX6_countWays_83 rfl rfl ?_
      refine V_iadd C dX6_countWays_84 ?_
      exact V_iret C dX6_countWays_85 rfl hZ (by rw [base (by omega), e1, e2, show cn 22 (gm 18 n) - 1 = j by omega]) rfl
    | succ f ih =>
      intro j a b o5 o6 e e1 e2
      have g1 := ft_in (p := j) (K := 22) (m := gm 18 n) (by omega)
      have g2 := ft_in (p := j + 1) (K := 22) (m := gm 18 n) (by omega)
      have g3 := ft_gap (p := j) (K := 22) (m := gm 18 n) (by omega)
      rw [show (((j + 1 : Nat)) : Int) = (j : Int) + 1 from rfl] at g2
      have ej : (j : Int) + 1 - 1 = j := by omega
      refine V_iload C dX6_countWays_26 rfl ?_
      refine V_iload_n C dX6_countWays_28 rfl rfl ?_
      refine V_S1 (k2 := 0) (s2 := 0) C dX6_countWays_29 lX6_47 kX6_many (c_X6_many _ (by omega) G N gf h) rfl rfl ⟨Nat.le_of_ble_eq_true rfl, Nat.le_of_ble_eq_true rfl⟩ (Nat.le_of_ble_eq_true rfl) (Nat.le_refl _) (Nat.le_refl _) ?_
      refine V_icmp_ge (tgt := 82) C dX6_countWays_32 (by decide) (by omega) (by omega) (fun q32 => by exfalso; omega) (fun q32 => ?_)
      refine V_iload_n C dX6_countWays_35 rfl rfl ?_
      refine V_iload C dX6_countWays_36 rfl ?_
      refine V_S1 (k2 := 0) (s2 := 0) C dX6_countWays_38 lX6_43 kX6_step (c_X6_step _ (by omega) _ (by omega) G N gf h) rfl rfl ⟨Nat.le_of_ble_eq_true rfl, Nat.le_of_ble_eq_true rfl⟩ (Nat.le_of_ble_eq_true rfl) (Nat.le_refl _) (Nat.le_refl _) ?_
      refine V_iload_n C dX6_countWays_41 rfl rfl ?_
      refine V_iload C dX6_countWays_42 rfl ?_
      refine V_iconst C dX6_countWays_44 ?_
      refine V_isub C dX6_countWays_45 ?_
      refine V_S1 (k2 := 0) (s2 := 0) C dX6_countWays_46 lX6_43 kX6_step (c_X6_step _ (by omega) _ (by omega) G N gf h) rfl rfl ⟨Nat.le_of_ble_eq_true rfl, Nat.le_of_ble_eq_true rfl⟩ (Nat.le_of_ble_eq_true rfl) (Nat.le_refl _) (Nat.le_refl _) ?_
      rw [ej]
      refine V_isub C dX6_countWays_49 ?_
      refine V_istore C dX6_countWays_50 (Nat.le_of_ble_eq_true rfl) rfl ?_
      refine V_iload_n C dX6_countWays_52 rfl rfl ?_
      refine V_iload_n C dX6_countWays_53 rfl rfl ?_
      refine V_iadd C dX6_countWays_54 ?_
      refine V_istore C dX6_countWays_55 (Nat.le_of_ble_eq_true rfl) rfl ?_
      refine V_iload_n C dX6_countWays_57 rfl rfl ?_
      refine V_iload C dX6_countWays_58 rfl ?_
      refine V_iconst C dX6_countWays_60 ?_
      refine V_isub C dX6_countWays_61 ?_
      refine V_iconst C dX6_countWays_62 ?_
      refine V_idiv C dX6_countWays_63 (by omega) (by omega) ?_
      refine V_imul C dX6_countWays_64 ?_
      refine V_iload_n C dX6_countWays_65 rfl rfl ?_
      refine V_iload C dX6_countWays_66 rfl ?_
      refine V_iconst C dX6_countWays_68 ?_
      refine V_idiv C dX6_countWays_69 (by omega) (by omega) ?_
      refine V_imul C dX6_countWays_70 ?_
      refine V_iadd C dX6_countWays_71 ?_
      refine V_istore_n C dX6_countWays_72 rfl (Nat.le_of_ble_eq_true rfl) rfl ?_
      refine V_iload C dX6_countWays_73 rfl ?_
      refine V_istore_n C dX6_countWays_75 rfl (Nat.le_of_ble_eq_true rfl) rfl ?_
      refine V_iinc C dX6_countWays_76 rfl (Nat.le_of_ble_eq_true rfl) rfl ?_
      refine V_goto (tgt := 26) C dX6_countWays_79 (by decide) ?_
      exact ih (j + 1) _ _ _ _ (by omega) (by rw [e1, e2]; rfl) (by rw [e1, e2]; rfl)
  by_cases h0 : n = 0
  · subst h0
    have f3 := cn_gm0
    have f4 : cw (gm 18 0) = 1 := by unfold cw; rw [if_pos f3]
    refine V_iload_n C dX6_countWays_0 rfl rfl ?_
    refine V_S1 (k2 := 0) (s2 := 0) C dX6_countWays_1 lX6_40 kX6_said (c_X6_said 0 hn G N gf h) rfl rfl ⟨Nat.le_of_ble_eq_true rfl, Nat.le_of_ble_eq_true rfl⟩ (Nat.le_of_ble_eq_true rfl) (Nat.le_refl _) (Nat.le_refl _) ?_
    refine V_istore_n C dX6_countWays_4 rfl (Nat.le_of_ble_eq_true rfl) rfl ?_
    refine V_iconst C dX6_countWays_5 ?_
    refine V_istore_n C dX6_countWays_6 rfl (Nat.le_of_ble_eq_true rfl) rfl ?_
    refine V_iload_n C dX6_countWays_7 rfl rfl ?_
    refine V_if_ne (tgt := 15) C dX6_countWays_8 (by decide) (by omega) (fun q8 => by exfalso; omega) (fun q8 => ?_)
    refine V_iconst C dX6_countWays_11 ?_
    refine V_goto (tgt := 22) C dX6_countWays_12 (by decide) ?_
    refine V_istore_n C dX6_countWays_22 rfl (Nat.le_of_ble_eq_true rfl) rfl ?_
    refine V_iconst C dX6_countWays_23 ?_
    refine V_istore C dX6_countWays_24 (Nat.le_of_ble_eq_true rfl) rfl ?_
    refine V_iload C dX6_countWays_26 rfl ?_
    refine V_iload_n C dX6_countWays_28 rfl rfl ?_
    refine V_S1 (k2 := 0) (s2 := 0) C dX6_countWays_29 lX6_47 kX6_many (c_X6_many _ (by omega) G N gf h) rfl rfl ⟨Nat.le_of_ble_eq_true rfl, Nat.le_of_ble_eq_true rfl⟩ (Nat.le_of_ble_eq_true rfl) (Nat.le_refl _) (Nat.le_refl _) ?_
    refine V_icmp_ge (tgt := 82) C dX6_countWays_32 (by decide) (by omega) (by omega) (fun q32 => ?_) (fun q32 => by exfalso; omega)
    refine V_iload_n C dX6_countWays_82 rfl rfl ?_
    refine V_iload_n C dX6_countWays_83 rfl rfl ?_
    refine V_iadd C dX6_countWays_84 ?_
    exact V_iret C dX6_countWays_85 rfl hZ (by rw [f4]; rfl) rfl
  · have f3 := cn_gm hn (by omega)
    have g1 := ft_in (p := 0) (K := 22) (m := gm 18 n) (by omega)
    rw [show ((0 : Nat) : Int) = 0 from rfl] at g1
    refine V_iload_n C dX6_countWays_0 rfl rfl ?_
    refine V_S1 (k2 := 0) (s2 := 0) C dX6_countWays_1 lX6_40 kX6_said (c_X6_said n hn G N gf h) rfl rfl ⟨Nat.le_of_ble_eq_true rfl, Nat.le_of_ble_eq_true rfl⟩ (Nat.le_of_ble_eq_true rfl) (Nat.le_refl _) (Nat.le_refl _) ?_
    refine V_istore_n C dX6_countWays_4 rfl (Nat.le_of_ble_eq_true rfl) rfl ?_
    refine V_iconst C dX6_countWays_5 ?_
    refine V_istore_n C dX6_countWays_6 rfl (Nat.le_of_ble_eq_true rfl) rfl ?_
    refine V_iload_n C dX6_countWays_7 rfl rfl ?_
    refine V_if_ne (tgt := 15) C dX6_countWays_8 (by decide) (by omega) (fun q8 => ?_) (fun q8 => by exfalso; omega)
    refine V_iload_n C dX6_countWays_15 rfl rfl ?_
    refine V_iconst C dX6_countWays_16 ?_
    refine V_S1 (k2 := 0) (s2 := 0) C dX6_countWays_17 lX6_43 kX6_step (c_X6_step _ (by omega) _ (by omega) G N gf h) rfl rfl ⟨Nat.le_of_ble_eq_true rfl, Nat.le_of_ble_eq_true rfl⟩ (Nat.le_of_ble_eq_true rfl) (Nat.le_refl _) (Nat.le_refl _) ?_
    refine V_iconst C dX6_countWays_20 ?_
    refine V_idiv C dX6_countWays_21 (by omega) (by omega) ?_
    refine V_istore_n C dX6_countWays_22 rfl (Nat.le_of_ble_eq_true rfl) rfl ?_
    refine V_iconst C dX6_countWays_23 ?_
    refine V_istore C dX6_countWays_24 (Nat.le_of_ble_eq_true rfl) rfl ?_
    exact loop (cn 22 (gm 18 n) - 1) 0 _ _ _ _ (by omega) rfl rfl
section
variable (G : GT) (N : Nat) (gf : Bool) (h : Hp)
theorem i_X6_countWays (z : Int) (hz : 0 ≤ z ∧ z ≤ 6764) : Ct G yX6_countWays mX6_countWays [.int (iI z)] N gf h 0 0 (some (.int (iI (cw (gm 18 z.toNat))))) N gf h := by
  have e : z = ((z.toNat : Nat) : Int) := by omega
  rw [e]
  exact c_X6_countWays z.toNat (by omega) G N gf h
end
