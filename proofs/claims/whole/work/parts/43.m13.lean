theorem su_of {z z' : Nat → Int} (h : ∀ k, k < 6 → z' k = z k) : su z' 6 = su z 6 := by
  have g : ∀ n, n ≤ 6 → su z' n = su z n := by
    intro n
    induction n with
    | zero => intro _; rfl
    | succ n ih => intro hn; simp only [su]; rw [ih (by omega), h n (by omega)]
  exact g 6 (by omega)
set_option maxRecDepth 100000 in
set_option maxHeartbeats 4000000 in
theorem m_X6_pay (G : GT) (K : Nat → Nat → Int) (r : Nat → Option Nat) (p : Int) (hp : -2147483648 ≤ p ∧ p < 2147483648) (q : Int) (hq : -2147483648 ≤ q ∧ q < 2147483648) (s : Int) (hs : -2147483648 ≤ s ∧ s < 2147483648) (hc : ¬ ((0 ≤ p ∧ p ≤ 5) ∧ 0 ≤ q ∧ q ≤ 5)) : CtO G yX6_pay mX6_pay [rf G 28, .int (iI p), .int (iI q), .int (iI s)] K r (some (.int (iI 0))) (kT K 1) (r) := by
  refine Ct_of kX6_pay.1.1 (by decide) [some (rf G 28), some (.int (iI p)), some (.int (iI q)), some (.int (iI s)), none, none] rfl (Nat.le_of_ble_eq_true rfl) ?_
  intro x C hZ
  have main : ∀ b : Int, (p ≠ q ∧ 1 ≤ s ∧ s ≤ 6764 → b = 1) → (b = 0 ∨ b = 1) → V G mX6_pay x 44 [some (rf G 28), some (.int (iI p)), some (.int (iI q)), some (.int (iI s)), some (.int (iI 0)), some (.int (iI b))] [] 34 false (HP G K r) 0 0 := by
    intro b _ hb
    rcases hb with hb | hb
    · subst hb
      refine V_aload_n C dX6_pay_44 rfl rfl ?_
      refine V_iload C dX6_pay_45 rfl ?_
      refine V_iload C dX6_pay_47 rfl ?_
      refine V_iload C dX6_pay_49 rfl ?_
      refine V_if_eq (tgt := 87) C dX6_pay_51 (by decide) (by omega) (fun q51 => ?_) (fun q51 => by exfalso; omega)
      refine V_iconst C dX6_pay_87 ?_
      refine V_V1 (k2 := 0) (s2 := 0) C dX6_pay_88 lX6_68 kX6_goes (Ct_v (v' := 0) rfl (c_X6_goes G _ r false false false)) (by decide) (rfl) rfl rfl rfl ⟨Nat.le_of_ble_eq_true rfl, Nat.le_of_ble_eq_true rfl⟩ (Nat.le_of_ble_eq_true rfl) (Nat.le_refl _) (Nat.le_refl _) ?_
      refine V_if_ne (tgt := 96) C dX6_pay_91 (by decide) (by omega) (fun q91 => by exfalso; omega) (fun q91 => ?_)
      refine V_iconst C dX6_pay_94 ?_
      exact V_iret C dX6_pay_95 rfl hZ (by first | rfl | omega) rfl
    · subst hb
      refine V_aload_n C dX6_pay_44 rfl rfl ?_
      refine V_iload C dX6_pay_45 rfl ?_
      refine V_iload C dX6_pay_47 rfl ?_
      refine V_iload C dX6_pay_49 rfl ?_
      refine V_if_eq (tgt := 87) C dX6_pay_51 (by decide) (by omega) (fun q51 => ?_) (fun q51 => by exfalso; omega)
      refine V_iconst C dX6_pay_87 ?_
      refine V_V1 (k2 := 0) (s2 := 0) C dX6_pay_88 lX6_68 kX6_goes (Ct_v (v' := 0) rfl (c_X6_goes G _ r false true false)) (by decide) (rfl) rfl rfl rfl ⟨Nat.le_of_ble_eq_true rfl, Nat.le_of_ble_eq_true rfl⟩ (Nat.le_of_ble_eq_true rfl) (Nat.le_refl _) (Nat.le_refl _) ?_
      refine V_if_ne (tgt := 96) C dX6_pay_91 (by decide) (by omega) (fun q91 => by exfalso; omega) (fun q91 => ?_)
      refine V_iconst C dX6_pay_94 ?_
      exact V_iret C dX6_pay_95 rfl hZ (by first | rfl | omega) rfl
  have go21 : V G mX6_pay x 21 [some (rf G 28), some (.int (iI p)), some (.int (iI q)), some (.int (iI s)), some (.int (iI 0)), none] [] 34 false (HP G K r) 0 0 := by
    by_cases c3 : p = q
    · skip
      refine V_iload_n C dX6_pay_21 rfl rfl ?_
      refine V_iload_n C dX6_pay_22 rfl rfl ?_
      refine V_icmp_eq (tgt := 41) C dX6_pay_23 (by decide) (by omega) (by omega) (fun q23 => ?_) (fun q23 => by exfalso; omega)
      refine V_iconst C dX6_pay_41 ?_
      refine V_istore C dX6_pay_42 (Nat.le_of_ble_eq_true rfl) rfl ?_
      exact main 0 (fun w => absurd c3 w.1) (.inl rfl)
    · by_cases c4 : 1 ≤ s ∧ s ≤ 6764
      · skip
        refine V_iload_n C dX6_pay_21 rfl rfl ?_
        refine V_iload_n C dX6_pay_22 rfl rfl ?_
        refine V_icmp_eq (tgt := 41) C dX6_pay_23 (by decide) (by omega) (by omega) (fun q23 => by exfalso; omega) (fun q23 => ?_)
        refine V_iload_n C dX6_pay_26 rfl rfl ?_
        refine V_iconst C dX6_pay_27 ?_
        refine V_sipush C dX6_pay_28 (by decide +kernel) ?_
        refine V_S1 (k2 := 0) (s2 := 0) C dX6_pay_31 lX6_57 kX6_in (Ct_v (b2y (show 1 ≤ s ∧ s ≤ 6764 from by omega)) (c_X6_in s 1 6764 (by omega) (by omega) (by omega) G 34 false _)) rfl rfl ⟨Nat.le_of_ble_eq_true rfl, Nat.le_of_ble_eq_true rfl⟩ (Nat.le_of_ble_eq_true rfl) (Nat.le_refl _) (Nat.le_refl _) ?_
        refine V_if_eq (tgt := 41) C dX6_pay_34 (by decide) (by omega) (fun q34 => by exfalso; omega) (fun q34 => ?_)
        refine V_iconst C dX6_pay_37 ?_
        refine V_goto (tgt := 42) C dX6_pay_38 (by decide) ?_
        refine V_istore C dX6_pay_42 (Nat.le_of_ble_eq_true rfl) rfl ?_
        exact main 1 (fun w => rfl) (.inr rfl)
      · skip
        refine V_iload_n C dX6_pay_21 rfl rfl ?_
        refine V_iload_n C dX6_pay_22 rfl rfl ?_
        refine V_icmp_eq (tgt := 41) C dX6_pay_23 (by decide) (by omega) (by omega) (fun q23 => by exfalso; omega) (fun q23 => ?_)
        refine V_iload_n C dX6_pay_26 rfl rfl ?_
        refine V_iconst C dX6_pay_27 ?_
        refine V_sipush C dX6_pay_28 (by decide +kernel) ?_
        refine V_S1 (k2 := 0) (s2 := 0) C dX6_pay_31 lX6_57 kX6_in (Ct_v (b2n (show ¬ (1 ≤ s ∧ s ≤ 6764) from by omega)) (c_X6_in s 1 6764 (by omega) (by omega) (by omega) G 34 false _)) rfl rfl ⟨Nat.le_of_ble_eq_true rfl, Nat.le_of_ble_eq_true rfl⟩ (Nat.le_of_ble_eq_true rfl) (Nat.le_refl _) (Nat.le_refl _) ?_
        refine V_if_eq (tgt := 41) C dX6_pay_34 (by decide) (by omega) (fun q34 => ?_) (fun q34 => by exfalso; omega)
        refine V_iconst C dX6_pay_41 ?_
        refine V_istore C dX6_pay_42 (Nat.le_of_ble_eq_true rfl) rfl ?_
        exact main 0 (fun w => absurd w.2 c4) (.inl rfl)
  by_cases c1 : 0 ≤ p ∧ p ≤ 5
  · by_cases c2 : 0 ≤ q ∧ q ≤ 5
    · exact absurd ⟨c1, c2⟩ hc
    · skip
      refine V_iload_n C dX6_pay_0 rfl rfl ?_
      refine V_S1 (k2 := 0) (s2 := 0) C dX6_pay_1 lX6_62 kX6_isStall (Ct_v (b2y (show 0 ≤ p ∧ p ≤ 5 from by omega)) (c_X6_isStall p (by omega) G 34 false _)) rfl rfl ⟨Nat.le_of_ble_eq_true rfl, Nat.le_of_ble_eq_true rfl⟩ (Nat.le_of_ble_eq_true rfl) (Nat.le_refl _) (Nat.le_refl _) ?_
      refine V_if_eq (tgt := 18) C dX6_pay_4 (by decide) (by omega) (fun q4 => by exfalso; omega) (fun q4 => ?_)
      refine V_iload_n C dX6_pay_7 rfl rfl ?_
      refine V_S1 (k2 := 0) (s2 := 0) C dX6_pay_8 lX6_62 kX6_isStall (Ct_v (b2n (show ¬ (0 ≤ q ∧ q ≤ 5) from by omega)) (c_X6_isStall q (by omega) G 34 false _)) rfl rfl ⟨Nat.le_of_ble_eq_true rfl, Nat.le_of_ble_eq_true rfl⟩ (Nat.le_of_ble_eq_true rfl) (Nat.le_refl _) (Nat.le_refl _) ?_
      refine V_if_eq (tgt := 18) C dX6_pay_11 (by decide) (by omega) (fun q11 => ?_) (fun q11 => by exfalso; omega)
      refine V_iconst C dX6_pay_18 ?_
      refine V_istore C dX6_pay_19 (Nat.le_of_ble_eq_true rfl) rfl ?_
      exact go21
  · skip
    refine V_iload_n C dX6_pay_0 rfl rfl ?_
    refine V_S1 (k2 := 0) (s2 := 0) C dX6_pay_1 lX6_62 kX6_isStall (Ct_v (b2n (show ¬ (0 ≤ p ∧ p ≤ 5) from by omega)) (c_X6_isStall p (by omega) G 34 false _)) rfl rfl ⟨Nat.le_of_ble_eq_true rfl, Nat.le_of_ble_eq_true rfl⟩ (Nat.le_of_ble_eq_true rfl) (Nat.le_refl _) (Nat.le_refl _) ?_
    refine V_if_eq (tgt := 18) C dX6_pay_4 (by decide) (by omega) (fun q4 => ?_) (fun q4 => by exfalso; omega)
    refine V_iconst C dX6_pay_18 ?_
    refine V_istore C dX6_pay_19 (Nat.le_of_ble_eq_true rfl) rfl ?_
    exact go21
set_option maxRecDepth 100000 in
set_option maxHeartbeats 4000000 in
theorem n_X6_pay (G : GT) (K : Nat → Nat → Int) (r : Nat → Option Nat) (p : Int) (hp : -2147483648 ≤ p ∧ p < 2147483648) (q : Int) (hq : -2147483648 ≤ q ∧ q < 2147483648) (s : Int) (hs : -2147483648 ≤ s ∧ s < 2147483648) (hc : (0 ≤ p ∧ p ≤ 5) ∧ 0 ≤ q ∧ q ≤ 5) (hd : ¬ (p ≠ q ∧ 1 ≤ s ∧ s ≤ 6764)) : CtO G yX6_pay mX6_pay [rf G 28, .int (iI p), .int (iI q), .int (iI s)] K r (some (.int (iI 0))) (kT K 2) (r) := by
  refine Ct_of kX6_pay.1.1 (by decide) [some (rf G 28), some (.int (iI p)), some (.int (iI q)), some (.int (iI s)), none, none] rfl (Nat.le_of_ble_eq_true rfl) ?_
  intro x C hZ
  have main : V G mX6_pay x 44 [some (rf G 28), some (.int (iI p)), some (.int (iI q)), some (.int (iI s)), some (.int (iI 1)), some (.int (iI 0))] [] 34 false (HP G K r) 0 0 := by
    refine V_aload_n C dX6_pay_44 rfl rfl ?_
    refine V_iload C dX6_pay_45 rfl ?_
    refine V_iload C dX6_pay_47 rfl ?_
    refine V_iload C dX6_pay_49 rfl ?_
    refine V_if_eq (tgt := 87) C dX6_pay_51 (by decide) (by omega) (fun q51 => by exfalso; omega) (fun q51 => ?_)
    refine V_iload C dX6_pay_54 rfl ?_
    refine V_if_eq (tgt := 87) C dX6_pay_56 (by decide) (by omega) (fun q56 => ?_) (fun q56 => by exfalso; omega)
    refine V_iconst C dX6_pay_87 ?_
    refine V_V1 (k2 := 0) (s2 := 0) C dX6_pay_88 lX6_68 kX6_goes (Ct_v (v' := 0) rfl (c_X6_goes G _ r true false false)) (by decide) (rfl) rfl rfl rfl ⟨Nat.le_of_ble_eq_true rfl, Nat.le_of_ble_eq_true rfl⟩ (Nat.le_of_ble_eq_true rfl) (Nat.le_refl _) (Nat.le_refl _) ?_
    refine V_if_ne (tgt := 96) C dX6_pay_91 (by decide) (by omega) (fun q91 => by exfalso; omega) (fun q91 => ?_)
    refine V_iconst C dX6_pay_94 ?_
    exact V_iret C dX6_pay_95 rfl hZ (by first | rfl | omega) rfl
  have go21 : V G mX6_pay x 21 [some (rf G 28), some (.int (iI p)), some (.int (iI q)), some (.int (iI s)), some (.int (iI 1)), none] [] 34 false (HP G K r) 0 0 := by
    by_cases c3 : p = q
    · skip
      refine V_iload_n C dX6_pay_21 rfl rfl ?_
      refine V_iload_n C dX6_pay_22 rfl rfl ?_
      refine V_icmp_eq (tgt := 41) C dX6_pay_23 (by decide) (by omega) (by omega) (fun q23 => ?_) (fun q23 => by exfalso; omega)
      refine V_iconst C dX6_pay_41 ?_
      refine V_istore C dX6_pay_42 (Nat.le_of_ble_eq_true rfl) rfl ?_
      exact main
    · by_cases c4 : 1 ≤ s ∧ s ≤ 6764
      · skip
        refine V_iload_n C dX6_pay_21 rfl rfl ?_
        refine V_iload_n C dX6_pay_22 rfl rfl ?_
        refine V_icmp_eq (tgt := 41) C dX6_pay_23 (by decide) (by omega) (by omega) (fun q23 => by exfalso; omega) (fun q23 => ?_)
        refine V_iload_n C dX6_pay_26 rfl rfl ?_
        refine V_iconst C dX6_pay_27 ?_
        refine V_sipush C dX6_pay_28 (by decide +kernel) ?_
        refine V_S1 (k2 := 0) (s2 := 0) C dX6_pay_31 lX6_57 kX6_in (Ct_v (b2y (show 1 ≤ s ∧ s ≤ 6764 from by omega)) (c_X6_in s 1 6764 (by omega) (by omega) (by omega) G 34 false _)) rfl rfl ⟨Nat.le_of_ble_eq_true rfl, Nat.le_of_ble_eq_true rfl⟩ (Nat.le_of_ble_eq_true rfl) (Nat.le_refl _) (Nat.le_refl _) ?_
        refine V_if_eq (tgt := 41) C dX6_pay_34 (by decide) (by omega) (fun q34 => by exfalso; omega) (fun q34 => ?_)
        refine V_iconst C dX6_pay_37 ?_
        refine V_goto (tgt := 42) C dX6_pay_38 (by decide) ?_
        refine V_istore C dX6_pay_42 (Nat.le_of_ble_eq_true rfl) rfl ?_
        exact absurd ⟨c3, c4⟩ hd
      · skip
        refine V_iload_n C dX6_pay_21 rfl rfl ?_
        refine V_iload_n C dX6_pay_22 rfl rfl ?_
        refine V_icmp_eq (tgt := 41) C dX6_pay_23 (by decide) (by omega) (by omega) (fun q23 => by exfalso; omega) (fun q23 => ?_)
        refine V_iload_n C dX6_pay_26 rfl rfl ?_
        refine V_iconst C dX6_pay_27 ?_
        refine V_sipush C dX6_pay_28 (by decide +kernel) ?_
        refine V_S1 (k2 := 0) (s2 := 0) C dX6_pay_31 lX6_57 kX6_in (Ct_v (b2n (show ¬ (1 ≤ s ∧ s ≤ 6764) from by omega)) (c_X6_in s 1 6764 (by omega) (by omega) (by omega) G 34 false _)) rfl rfl ⟨Nat.le_of_ble_eq_true rfl, Nat.le_of_ble_eq_true rfl⟩ (Nat.le_of_ble_eq_true rfl) (Nat.le_refl _) (Nat.le_refl _) ?_
        refine V_if_eq (tgt := 41) C dX6_pay_34 (by decide) (by omega) (fun q34 => ?_) (fun q34 => by exfalso; omega)
        refine V_iconst C dX6_pay_41 ?_
        refine V_istore C dX6_pay_42 (Nat.le_of_ble_eq_true rfl) rfl ?_
        exact main
  refine V_iload_n C dX6_pay_0 rfl rfl ?_
  refine V_S1 (k2 := 0) (s2 := 0) C dX6_pay_1 lX6_62 kX6_isStall (Ct_v (b2y (show 0 ≤ p ∧ p ≤ 5 from by omega)) (c_X6_isStall p (by omega) G 34 false _)) rfl rfl ⟨Nat.le_of_ble_eq_true rfl, Nat.le_of_ble_eq_true rfl⟩ (Nat.le_of_ble_eq_true rfl) (Nat.le_refl _) (Nat.le_refl _) ?_
  refine V_if_eq (tgt := 18) C dX6_pay_4 (by decide) (by omega) (fun q4 => by exfalso; omega) (fun q4 => ?_)
  refine V_iload_n C dX6_pay_7 rfl rfl ?_
  refine V_S1 (k2 := 0) (s2 := 0) C dX6_pay_8 lX6_62 kX6_isStall (Ct_v (b2y (show 0 ≤ q ∧ q ≤ 5 from by omega)) (c_X6_isStall q (by omega) G 34 false _)) rfl rfl ⟨Nat.le_of_ble_eq_true rfl, Nat.le_of_ble_eq_true rfl⟩ (Nat.le_of_ble_eq_true rfl) (Nat.le_refl _) (Nat.le_refl _) ?_
  refine V_if_eq (tgt := 18) C dX6_pay_11 (by decide) (by omega) (fun q11 => by exfalso; omega) (fun q11 => ?_)
  refine V_iconst C dX6_pay_14 ?_
  refine V_goto (tgt := 19) C dX6_pay_15 (by decide) ?_
  refine V_istore C dX6_pay_19 (Nat.le_of_ble_eq_true rfl) rfl ?_
  exact go21
set_option maxRecDepth 100000 in
set_option maxHeartbeats 4000000 in
theorem l_X6_pay (G : GT) (K : Nat → Nat → Int) (r : Nat → Option Nat) (hG : GZ (K 29))(p : Int) (hp : -2147483648 ≤ p ∧ p < 2147483648) (q : Int) (hq : -2147483648 ≤ q ∧ q < 2147483648) (s : Int) (hs : -2147483648 ≤ s ∧ s < 2147483648) (hc : (0 ≤ p ∧ p ≤ 5) ∧ 0 ≤ q ∧ q ≤ 5) (hd : p ≠ q ∧ 1 ≤ s ∧ s ≤ 6764) (he : ¬ (s ≤ K 29 p.toNat ∧ K 29 q.toNat + s ≤ 6764)) : CtO G yX6_pay mX6_pay [rf G 28, .int (iI p), .int (iI q), .int (iI s)] K r (some (.int (iI 0))) (kT K 3) (r) := by
  refine Ct_of kX6_pay.1.1 (by decide) [some (rf G 28), some (.int (iI p)), some (.int (iI q)), some (.int (iI s)), none, none] rfl (Nat.le_of_ble_eq_true rfl) ?_
  intro x C hZ
  have g5 := hG.1
  have gp := g5 p.toNat (by omega)
  have gq := g5 q.toNat (by omega)
  by_cases c1 : s ≤ K 29 p.toNat
  · skip
    refine V_iload_n C dX6_pay_0 rfl rfl ?_
    refine V_S1 (k2 := 0) (s2 := 0) C dX6_pay_1 lX6_62 kX6_isStall (Ct_v (b2y (show 0 ≤ p ∧ p ≤ 5 from by omega)) (c_X6_isStall p (by omega) G 34 false _)) rfl rfl ⟨Nat.le_of_ble_eq_true rfl, Nat.le_of_ble_eq_true rfl⟩ (Nat.le_of_ble_eq_true rfl) (Nat.le_refl _) (Nat.le_refl _) ?_
    refine V_if_eq (tgt := 18) C dX6_pay_4 (by decide) (by omega) (fun q4 => by exfalso; omega) (fun q4 => ?_)
    refine V_iload_n C dX6_pay_7 rfl rfl ?_
    refine V_S1 (k2 := 0) (s2 := 0) C dX6_pay_8 lX6_62 kX6_isStall (Ct_v (b2y (show 0 ≤ q ∧ q ≤ 5 from by omega)) (c_X6_isStall q (by omega) G 34 false _)) rfl rfl ⟨Nat.le_of_ble_eq_true rfl, Nat.le_of_ble_eq_true rfl⟩ (Nat.le_of_ble_eq_true rfl) (Nat.le_refl _) (Nat.le_refl _) ?_
    refine V_if_eq (tgt := 18) C dX6_pay_11 (by decide) (by omega) (fun q11 => by exfalso; omega) (fun q11 => ?_)
    refine V_iconst C dX6_pay_14 ?_
    refine V_goto (tgt := 19) C dX6_pay_15 (by decide) ?_
    refine V_istore C dX6_pay_19 (Nat.le_of_ble_eq_true rfl) rfl ?_
    refine V_iload_n C dX6_pay_21 rfl rfl ?_
    refine V_iload_n C dX6_pay_22 rfl rfl ?_
    refine V_icmp_eq (tgt := 41) C dX6_pay_23 (by decide) (by omega) (by omega) (fun q23 => by exfalso; omega) (fun q23 => ?_)
    refine V_iload_n C dX6_pay_26 rfl rfl ?_
    refine V_iconst C dX6_pay_27 ?_
    refine V_sipush C dX6_pay_28 (by decide +kernel) ?_
    refine V_S1 (k2 := 0) (s2 := 0) C dX6_pay_31 lX6_57 kX6_in (Ct_v (b2y (show 1 ≤ s ∧ s ≤ 6764 from by omega)) (c_X6_in s 1 6764 (by omega) (by omega) (by omega) G 34 false _)) rfl rfl ⟨Nat.le_of_ble_eq_true rfl, Nat.le_of_ble_eq_true rfl⟩ (Nat.le_of_ble_eq_true rfl) (Nat.le_refl _) (Nat.le_refl _) ?_
    refine V_if_eq (tgt := 41) C dX6_pay_34 (by decide) (by omega) (fun q34 => by exfalso; omega) (fun q34 => ?_)
    refine V_iconst C dX6_pay_37 ?_
    refine V_goto (tgt := 42) C dX6_pay_38 (by decide) ?_
    refine V_istore C dX6_pay_42 (Nat.le_of_ble_eq_true rfl) rfl ?_
    refine V_aload_n C dX6_pay_44 rfl rfl ?_
    refine V_iload C dX6_pay_45 rfl ?_
    refine V_iload C dX6_pay_47 rfl ?_
    refine V_iload C dX6_pay_49 rfl ?_
    refine V_if_eq (tgt := 87) C dX6_pay_51 (by decide) (by omega) (fun q51 => by exfalso; omega) (fun q51 => ?_)
    refine V_iload C dX6_pay_54 rfl ?_
    refine V_if_eq (tgt := 87) C dX6_pay_56 (by decide) (by omega) (fun q56 => by exfalso; omega) (fun q56 => ?_)
    refine V_aload_n C dX6_pay_59 rfl rfl ?_
    refine V_getH (L := mOl G) C dX6_pay_60 fX6_7 (by decide) (fun _ => rfl) rfl ?_
    refine V_iload_n C dX6_pay_63 rfl rfl ?_
    refine V_ialdH C dX6_pay_64 (by decide) (fun _ => rfl) (by omega) (by decide) ?_
    refine V_iload_n C dX6_pay_65 rfl rfl ?_
    refine V_icmp_lt (tgt := 87) C dX6_pay_66 (by decide) (by omega) (by omega) (fun q66 => by exfalso; omega) (fun q66 => ?_)
    refine V_aload_n C dX6_pay_69 rfl rfl ?_
    refine V_getH (L := mOl G) C dX6_pay_70 fX6_7 (by decide) (fun _ => rfl) rfl ?_
    refine V_iload_n C dX6_pay_73 rfl rfl ?_
    refine V_ialdH C dX6_pay_74 (by decide) (fun _ => rfl) (by omega) (by decide) ?_
    refine V_iload_n C dX6_pay_75 rfl rfl ?_
    refine V_iadd C dX6_pay_76 ?_
    refine V_sipush C dX6_pay_77 (by decide +kernel) ?_
    refine V_icmp_gt (tgt := 87) C dX6_pay_80 (by decide) (by omega) (by omega) (fun q80 => ?_) (fun q80 => by exfalso; omega)
    refine V_iconst C dX6_pay_87 ?_
    refine V_V1 (k2 := 0) (s2 := 0) C dX6_pay_88 lX6_68 kX6_goes (Ct_v (v' := 0) rfl (c_X6_goes G _ r true true false)) (by decide) (rfl) rfl rfl rfl ⟨Nat.le_of_ble_eq_true rfl, Nat.le_of_ble_eq_true rfl⟩ (Nat.le_of_ble_eq_true rfl) (Nat.le_refl _) (Nat.le_refl _) ?_
    refine V_if_ne (tgt := 96) C dX6_pay_91 (by decide) (by omega) (fun q91 => by exfalso; omega) (fun q91 => ?_)
    refine V_iconst C dX6_pay_94 ?_
    exact V_iret C dX6_pay_95 rfl hZ (by first | rfl | omega) rfl
  · skip
    refine V_iload_n C dX6_pay_0 rfl rfl ?_
    refine V_S1 (k2 := 0) (s2 := 0) C dX6_pay_1 lX6_62 kX6_isStall (Ct_v (b2y (show 0 ≤ p ∧ p ≤ 5 from by omega)) (c_X6_isStall p (by omega) G 34 false _)) rfl rfl ⟨Nat.le_of_ble_eq_true rfl, Nat.le_of_ble_eq_true rfl⟩ (Nat.le_of_ble_eq_true rfl) (Nat.le_refl _) (Nat.le_refl _) ?_
    refine V_if_eq (tgt := 18) C dX6_pay_4 (by decide) (by omega) (fun q4 => by exfalso; omega) (fun q4 => ?_)
    refine V_iload_n C dX6_pay_7 rfl rfl ?_
    refine V_S1 (k2 := 0) (s2 := 0) C dX6_pay_8 lX6_62 kX6_isStall (Ct_v (b2y (show 0 ≤ q ∧ q ≤ 5 from by omega)) (c_X6_isStall q (by omega) G 34 false _)) rfl rfl ⟨Nat.le_of_ble_eq_true rfl, Nat.le_of_ble_eq_true rfl⟩ (Nat.le_of_ble_eq_true rfl) (Nat.le_refl _) (Nat.le_refl _) ?_
    refine V_if_eq (tgt := 18) C dX6_pay_11 (by decide) (by omega) (fun q11 => by exfalso; omega) (fun q11 => ?_)
    refine V_iconst C dX6_pay_14 ?_
    refine V_goto (tgt := 19) C dX6_pay_15 (by decide) ?_
    refine V_istore C dX6_pay_19 (Nat.le_of_ble_eq_true rfl) rfl ?_
    refine V_iload_n C dX6_pay_21 rfl rfl ?_
    refine V_iload_n C dX6_pay_22 rfl rfl ?_
    refine V_icmp_eq (tgt := 41) C dX6_pay_23 (by decide) (by omega) (by omega) (fun q23 => by exfalso; omega) (fun q23 => ?_)
    refine V_iload_n C dX6_pay_26 rfl rfl ?_
    refine V_iconst C dX6_pay_27 ?_
    refine V_sipush C dX6_pay_28 (by decide +kernel) ?_
    refine V_S1 (k2 := 0) (s2 := 0) C dX6_pay_31 lX6_57 kX6_in (Ct_v (b2y (show 1 ≤ s ∧ s ≤ 6764 from by omega)) (c_X6_in s 1 6764 (by omega) (by omega) (by omega) G 34 false _)) rfl rfl ⟨Nat.le_of_ble_eq_true rfl, Nat.le_of_ble_eq_true rfl⟩ (Nat.le_of_ble_eq_true rfl) (Nat.le_refl _) (Nat.le_refl _) ?_
    refine V_if_eq (tgt := 41) C dX6_pay_34 (by decide) (by omega) (fun q34 => by exfalso; omega) (fun q34 => ?_)
    refine V_iconst C dX6_pay_37 ?_
    refine V_goto (tgt := 42) C dX6_pay_38 (by decide) ?_
    refine V_istore C dX6_pay_42 (Nat.le_of_ble_eq_true rfl) rfl ?_
    refine V_aload_n C dX6_pay_44 rfl rfl ?_
    refine V_iload C dX6_pay_45 rfl ?_
    refine V_iload C dX6_pay_47 rfl ?_
    refine V_iload C dX6_pay_49 rfl ?_
    refine V_if_eq (tgt := 87) C dX6_pay_51 (by decide) (by omega) (fun q51 => by exfalso; omega) (fun q51 => ?_)
    refine V_iload C dX6_pay_54 rfl ?_
    refine V_if_eq (tgt := 87) C dX6_pay_56 (by decide) (by omega) (fun q56 => by exfalso; omega) (fun q56 => ?_)
    refine V_aload_n C dX6_pay_59 rfl rfl ?_
    refine V_getH (L := mOl G) C dX6_pay_60 fX6_7 (by decide) (fun _ => rfl) rfl ?_
    refine V_iload_n C dX6_pay_63 rfl rfl ?_
    refine V_ialdH C dX6_pay_64 (by decide) (fun _ => rfl) (by omega) (by decide) ?_
    refine V_iload_n C dX6_pay_65 rfl rfl ?_
    refine V_icmp_lt (tgt := 87) C dX6_pay_66 (by decide) (by omega) (by omega) (fun q66 => ?_) (fun q66 => by exfalso; omega)
    refine V_iconst C dX6_pay_87 ?_
    refine V_V1 (k2 := 0) (s2 := 0) C dX6_pay_88 lX6_68 kX6_goes (Ct_v (v' := 0) rfl (c_X6_goes G _ r true true false)) (by decide) (rfl) rfl rfl rfl ⟨Nat.le_of_ble_eq_true rfl, Nat.le_of_ble_eq_true rfl⟩ (Nat.le_of_ble_eq_true rfl) (Nat.le_refl _) (Nat.le_refl _) ?_
    refine V_if_ne (tgt := 96) C dX6_pay_91 (by decide) (by omega) (fun q91 => by exfalso; omega) (fun q91 => ?_)
    refine V_iconst C dX6_pay_94 ?_
    exact V_iret C dX6_pay_95 rfl hZ (by first | rfl | omega) rfl
set_option maxRecDepth 100000 in
set_option maxHeartbeats 4000000 in
theorem c_X6_pay (G : GT) (K : Nat → Nat → Int) (r : Nat → Option Nat) (st : Nat) (hs5 : st ≤ 5) (hst : K 28 1 = st)(hG : GZ (K 29))(p : Int) (hp : -2147483648 ≤ p ∧ p < 2147483648) (q : Int) (hq : -2147483648 ≤ q ∧ q < 2147483648) (s : Int) (hs : -2147483648 ≤ s ∧ s < 2147483648) (hc : (0 ≤ p ∧ p ≤ 5) ∧ 0 ≤ q ∧ q ≤ 5) (hd : p ≠ q ∧ 1 ≤ s ∧ s ≤ 6764) (he : s ≤ K 29 p.toNat ∧ K 29 q.toNat + s ≤ 6764) : CtO G yX6_pay mX6_pay [rf G 28, .int (iI p), .int (iI q), .int (iI s)] K r (some (.int (iI (K 29 p.toNat - s)))) (us (us (kS (kT K 0) st) 29 (us ((kS (kT K 0) st) 29) p.toNat (K 29 p.toNat - s))) 29 (us ((us (kS (kT K 0) st) 29 (us ((kS (kT K 0) st) 29) p.toNat (K 29 p.toNat - s))) 29) q.toNat (K 29 q.toNat + s))) (r) := by
  refine Ct_of kX6_pay.1.1 (by decide) [some (rf G 28), some (.int (iI p)), some (.int (iI q)), some (.int (iI s)), none, none] rfl (Nat.le_of_ble_eq_true rfl) ?_
  intro x C hZ
  have g5 := hG.1
  have gp := g5 p.toNat (by omega)
  have gq := g5 q.toNat (by omega)
  have nn : q.toNat ≠ p.toNat := by omega
  refine V_iload_n C dX6_pay_0 rfl rfl ?_
  refine V_S1 (k2 := 0) (s2 := 0) C dX6_pay_1 lX6_62 kX6_isStall (Ct_v (b2y (show 0 ≤ p ∧ p ≤ 5 from by omega)) (c_X6_isStall p (by omega) G 34 false _)) rfl rfl ⟨Nat.le_of_ble_eq_true rfl, Nat.le_of_ble_eq_true rfl⟩ (Nat.le_of_ble_eq_true rfl) (Nat.le_refl _) (Nat.le_refl _) ?_
  refine V_if_eq (tgt := 18) C dX6_pay_4 (by decide) (by omega) (fun q4 => by exfalso; omega) (fun q4 => ?_)
  refine V_iload_n C dX6_pay_7 rfl rfl ?_
  refine V_S1 (k2 := 0) (s2 := 0) C dX6_pay_8 lX6_62 kX6_isStall (Ct_v (b2y (show 0 ≤ q ∧ q ≤ 5 from by omega)) (c_X6_isStall q (by omega) G 34 false _)) rfl rfl ⟨Nat.le_of_ble_eq_true rfl, Nat.le_of_ble_eq_true rfl⟩ (Nat.le_of_ble_eq_true rfl) (Nat.le_refl _) (Nat.le_refl _) ?_
  refine V_if_eq (tgt := 18) C dX6_pay_11 (by decide) (by omega) (fun q11 => by exfalso; omega) (fun q11 => ?_)
  refine V_iconst C dX6_pay_14 ?_
  refine V_goto (tgt := 19) C dX6_pay_15 (by decide) ?_
  refine V_istore C dX6_pay_19 (Nat.le_of_ble_eq_true rfl) rfl ?_
  refine V_iload_n C dX6_pay_21 rfl rfl ?_
  refine V_iload_n C dX6_pay_22 rfl rfl ?_
  refine V_icmp_eq (tgt := 41) C dX6_pay_23 (by decide) (by omega) (by omega) (fun q23 => by exfalso; omega) (fun q23 => ?_)
  refine V_iload_n C dX6_pay_26 rfl rfl ?_
  refine V_iconst C dX6_pay_27 ?_
  refine V_sipush C dX6_pay_28 (by decide +kernel) ?_
  refine V_S1 (k2 := 0) (s2 := 0) C dX6_pay_31 lX6_57 kX6_in (Ct_v (b2y (show 1 ≤ s ∧ s ≤ 6764 from by omega)) (c_X6_in s 1 6764 (by omega) (by omega) (by omega) G 34 false _)) rfl rfl ⟨Nat.le_of_ble_eq_true rfl, Nat.le_of_ble_eq_true rfl⟩ (Nat.le_of_ble_eq_true rfl) (Nat.le_refl _) (Nat.le_refl _) ?_
  refine V_if_eq (tgt := 41) C dX6_pay_34 (by decide) (by omega) (fun q34 => by exfalso; omega) (fun q34 => ?_)
  refine V_iconst C dX6_pay_37 ?_
  refine V_goto (tgt := 42) C dX6_pay_38 (by decide) ?_
  refine V_istore C dX6_pay_42 (Nat.le_of_ble_eq_true rfl) rfl ?_
  refine V_aload_n C dX6_pay_44 rfl rfl ?_
  refine V_iload C dX6_pay_45 rfl ?_
  refine V_iload C dX6_pay_47 rfl ?_
  refine V_iload C dX6_pay_49 rfl ?_
  refine V_if_eq (tgt := 87) C dX6_pay_51 (by decide) (by omega) (fun q51 => by exfalso; omega) (fun q51 => ?_)
  refine V_iload C dX6_pay_54 rfl ?_
  refine V_if_eq (tgt := 87) C dX6_pay_56 (by decide) (by omega) (fun q56 => by exfalso; omega) (fun q56 => ?_)
  refine V_aload_n C dX6_pay_59 rfl rfl ?_
  refine V_getH (L := mOl G) C dX6_pay_60 fX6_7 (by decide) (fun _ => rfl) rfl ?_
  refine V_iload_n C dX6_pay_63 rfl rfl ?_
  refine V_ialdH C dX6_pay_64 (by decide) (fun _ => rfl) (by omega) (by decide) ?_
  refine V_iload_n C dX6_pay_65 rfl rfl ?_
  refine V_icmp_lt (tgt := 87) C dX6_pay_66 (by decide) (by omega) (by omega) (fun q66 => by exfalso; omega) (fun q66 => ?_)
  refine V_aload_n C dX6_pay_69 rfl rfl ?_
  refine V_getH (L := mOl G) C dX6_pay_70 fX6_7 (by decide) (fun _ => rfl) rfl ?_
  refine V_iload_n C dX6_pay_73 rfl rfl ?_
  refine V_ialdH C dX6_pay_74 (by decide) (fun _ => rfl) (by omega) (by decide) ?_
  refine V_iload_n C dX6_pay_75 rfl rfl ?_
  refine V_iadd C dX6_pay_76 ?_
  refine V_sipush C dX6_pay_77 (by decide +kernel) ?_
  refine V_icmp_gt (tgt := 87) C dX6_pay_80 (by decide) (by omega) (by omega) (fun q80 => by exfalso; omega) (fun q80 => ?_)
  refine V_iconst C dX6_pay_83 ?_
  refine V_goto (tgt := 88) C dX6_pay_84 (by decide) ?_
  refine V_V1 (k2 := 0) (s2 := 0) C dX6_pay_88 lX6_68 kX6_goes (Ct_v (v' := 1) rfl (c_X6_goes G _ r true true true)) (by decide) (rfl) rfl rfl rfl ⟨Nat.le_of_ble_eq_true rfl, Nat.le_of_ble_eq_true rfl⟩ (Nat.le_of_ble_eq_true rfl) (Nat.le_refl _) (Nat.le_refl _) ?_
  refine V_if_ne (tgt := 96) C dX6_pay_91 (by decide) (by omega) (fun q91 => ?_) (fun q91 => by exfalso; omega)
  refine V_aload_n C dX6_pay_96 rfl rfl ?_
  refine V_V0 (k2 := 0) (s2 := 0) C dX6_pay_97 lX6_72 kX6_saves (s_X6_saves G (kT K 0) r st hs5 hst) (by decide) (rfl) rfl rfl rfl ⟨Nat.le_of_ble_eq_true rfl, Nat.le_of_ble_eq_true rfl⟩ (Nat.le_of_ble_eq_true rfl) (Nat.le_refl _) (Nat.le_refl _) ?_
  refine V_aload_n C dX6_pay_100 rfl rfl ?_
  refine V_getH (L := mOl G) C dX6_pay_101 fX6_7 (by decide) (fun _ => rfl) rfl ?_
  refine V_iload_n C dX6_pay_104 rfl rfl ?_
  refine V_dup2 C dX6_pay_105 rfl rfl ?_
  refine V_ialdH C dX6_pay_106 (by decide) (fun _ => rfl) (by omega) (by decide) ?_
  rw [show (kS (kT K 0) st) 29 p.toNat = K 29 p.toNat from svS_0 (by omega)]
  refine V_iload_n C dX6_pay_107 rfl rfl ?_
  refine V_isub C dX6_pay_108 ?_
  refine V_iastH C dX6_pay_109 (by decide) (fun _ => rfl) (by omega) (by decide) ?_
  refine V_aload_n C dX6_pay_110 rfl rfl ?_
  refine V_getH (L := mOl G) C dX6_pay_111 fX6_7 (by decide) (fun _ => rfl) rfl ?_
  refine V_iload_n C dX6_pay_114 rfl rfl ?_
  refine V_dup2 C dX6_pay_115 rfl rfl ?_
  refine V_ialdH C dX6_pay_116 (by decide) (fun _ => rfl) (by omega) (by decide) ?_
  rw [us_29, us_ne _ _ nn, show (kS (kT K 0) st) 29 q.toNat = K 29 q.toNat from svS_0 (by omega)]
  refine V_iload_n C dX6_pay_117 rfl rfl ?_
  refine V_iadd C dX6_pay_118 ?_
  refine V_iastH C dX6_pay_119 (by decide) (fun _ => rfl) (by omega) (by decide) ?_
  refine V_aload_n C dX6_pay_120 rfl rfl ?_
  refine V_getH (L := mOl G) C dX6_pay_121 fX6_7 (by decide) (fun _ => rfl) rfl ?_
  refine V_iload_n C dX6_pay_124 rfl rfl ?_
  refine V_ialdH C dX6_pay_125 (by decide) (fun _ => rfl) (by omega) (by decide) ?_
  rw [us_29, us_ne _ _ (Ne.symm nn), us_29, us_at]
  exact V_iret C dX6_pay_126 rfl hZ (by first | rfl | omega) rfl
set_option maxRecDepth 100000 in
set_option maxHeartbeats 4000000 in
theorem m_X6_send (G : GT) (K : Nat → Nat → Int) (r : Nat → Option Nat) (p : Int) (hp : -2147483648 ≤ p ∧ p < 2147483648) (hc : ¬ (1 ≤ p ∧ p ≤ 6764)) : CtO G yX6_send mX6_send [rf G 28, .int (iI p)] K r (some (.int (iI 0))) (kT K 1) (r) := by
  refine Ct_of kX6_send.1.1 (by decide) [some (rf G 28), some (.int (iI p)), none] rfl (Nat.le_of_ble_eq_true rfl) ?_
  intro x C hZ
  refine V_iload_n C dX6_send_0 rfl rfl ?_
  refine V_iconst C dX6_send_1 ?_
  refine V_sipush C dX6_send_2 (by decide +kernel) ?_
  refine V_S1 (k2 := 0) (s2 := 0) C dX6_send_5 lX6_57 kX6_in (Ct_v (b2n (show ¬ (1 ≤ p ∧ p ≤ 6764) from by omega)) (c_X6_in p 1 6764 (by omega) (by omega) (by omega) G 34 false _)) rfl rfl ⟨Nat.le_of_ble_eq_true rfl, Nat.le_of_ble_eq_true rfl⟩ (Nat.le_of_ble_eq_true rfl) (Nat.le_refl _) (Nat.le_refl _) ?_
  refine V_istore_n C dX6_send_8 rfl (Nat.le_of_ble_eq_true rfl) rfl ?_
  refine V_aload_n C dX6_send_9 rfl rfl ?_
  refine V_iload_n C dX6_send_10 rfl rfl ?_
  refine V_iload_n C dX6_send_11 rfl rfl ?_
  refine V_if_eq (tgt := 27) C dX6_send_12 (by decide) (by omega) (fun q12 => ?_) (fun q12 => by exfalso; omega)
  refine V_iconst C dX6_send_27 ?_
  refine V_iconst C dX6_send_28 ?_
  refine V_V1 (k2 := 0) (s2 := 0) C dX6_send_29 lX6_68 kX6_goes (Ct_v (v' := 0) rfl (c_X6_goes G _ r false false true)) (by decide) (rfl) rfl rfl rfl ⟨Nat.le_of_ble_eq_true rfl, Nat.le_of_ble_eq_true rfl⟩ (Nat.le_of_ble_eq_true rfl) (Nat.le_refl _) (Nat.le_refl _) ?_
  refine V_if_ne (tgt := 37) C dX6_send_32 (by decide) (by omega) (fun q32 => by exfalso; omega) (fun q32 => ?_)
  refine V_iconst C dX6_send_35 ?_
  exact V_iret C dX6_send_36 rfl hZ (by first | rfl | omega) rfl
set_option maxRecDepth 100000 in
set_option maxHeartbeats 4000000 in
theorem n_X6_send (G : GT) (K : Nat → Nat → Int) (r : Nat → Option Nat) (hG : GZ (K 29))(p : Int) (hp : -2147483648 ≤ p ∧ p < 2147483648) (hc : 1 ≤ p ∧ p ≤ 6764) (hd : ¬ (K 29 6 + (cl p : Nat) ≤ 64)) : CtO G yX6_send mX6_send [rf G 28, .int (iI p)] K r (some (.int (iI 0))) (kT K 2) (r) := by
  refine Ct_of kX6_send.1.1 (by decide) [some (rf G 28), some (.int (iI p)), none] rfl (Nat.le_of_ble_eq_true rfl) ?_
  intro x C hZ
  have g6 := hG.2.1
  refine V_iload_n C dX6_send_0 rfl rfl ?_
  refine V_iconst C dX6_send_1 ?_
  refine V_sipush C dX6_send_2 (by decide +kernel) ?_
  refine V_S1 (k2 := 0) (s2 := 0) C dX6_send_5 lX6_57 kX6_in (Ct_v (b2y (show 1 ≤ p ∧ p ≤ 6764 from by omega)) (c_X6_in p 1 6764 (by omega) (by omega) (by omega) G 34 false _)) rfl rfl ⟨Nat.le_of_ble_eq_true rfl, Nat.le_of_ble_eq_true rfl⟩ (Nat.le_of_ble_eq_true rfl) (Nat.le_refl _) (Nat.le_refl _) ?_
  refine V_istore_n C dX6_send_8 rfl (Nat.le_of_ble_eq_true rfl) rfl ?_
  refine V_aload_n C dX6_send_9 rfl rfl ?_
  refine V_iload_n C dX6_send_10 rfl rfl ?_
  refine V_iload_n C dX6_send_11 rfl rfl ?_
  refine V_if_eq (tgt := 27) C dX6_send_12 (by decide) (by omega) (fun q12 => by exfalso; omega) (fun q12 => ?_)
  refine V_aload_n C dX6_send_15 rfl rfl ?_
  refine V_iload_n C dX6_send_16 rfl rfl ?_
  refine V_V1 (k2 := 0) (s2 := 0) C dX6_send_17 lX6_87 kX6_canSend (Ct_v (b2n (show ¬ (K 29 6 + (hl 18 (gm 18 p.toNat) + 1 : Nat) ≤ 64) from hd)) (c_X6_canSend G K r p hc hG.2.1)) (by decide) (rfl) rfl rfl rfl ⟨Nat.le_of_ble_eq_true rfl, Nat.le_of_ble_eq_true rfl⟩ (Nat.le_of_ble_eq_true rfl) (Nat.le_refl _) (Nat.le_refl _) ?_
  refine V_if_eq (tgt := 27) C dX6_send_20 (by decide) (by omega) (fun q20 => ?_) (fun q20 => by exfalso; omega)
  refine V_iconst C dX6_send_27 ?_
  refine V_iconst C dX6_send_28 ?_
  refine V_V1 (k2 := 0) (s2 := 0) C dX6_send_29 lX6_68 kX6_goes (Ct_v (v' := 0) rfl (c_X6_goes G _ r true false true)) (by decide) (rfl) rfl rfl rfl ⟨Nat.le_of_ble_eq_true rfl, Nat.le_of_ble_eq_true rfl⟩ (Nat.le_of_ble_eq_true rfl) (Nat.le_refl _) (Nat.le_refl _) ?_
  refine V_if_ne (tgt := 37) C dX6_send_32 (by decide) (by omega) (fun q32 => by exfalso; omega) (fun q32 => ?_)
  refine V_iconst C dX6_send_35 ?_
  exact V_iret C dX6_send_36 rfl hZ (by first | rfl | omega) rfl
set_option maxRecDepth 100000 in
set_option maxHeartbeats 4000000 in
theorem c_X6_send (G : GT) (K : Nat → Nat → Int) (r : Nat → Option Nat) (st : Nat) (hs : st ≤ 5) (hst : K 28 1 = st)(hG : GZ (K 29))(p : Int) (hp : -2147483648 ≤ p ∧ p < 2147483648) (hc : 1 ≤ p ∧ p ≤ 6764) (hd : K 29 6 + (cl p : Nat) ≤ 64) : CtO G yX6_send mX6_send [rf G 28, .int (iI p)] K r (some (.int (iI (((K 29 6).toNat + cl p : Nat) : Int)))) (us (kS (kT K 0) st) 29 (sdF ((kS (kT K 0) st) 29) (K 29 6).toNat (gm 18 p.toNat) (cl p) (cl p))) (r) := by
  refine Ct_of kX6_send.1.1 (by decide) [some (rf G 28), some (.int (iI p)), none] rfl (Nat.le_of_ble_eq_true rfl) ?_
  intro x C hZ
  have g6 := hG.2.1
  refine V_iload_n C dX6_send_0 rfl rfl ?_
  refine V_iconst C dX6_send_1 ?_
  refine V_sipush C dX6_send_2 (by decide +kernel) ?_
  refine V_S1 (k2 := 0) (s2 := 0) C dX6_send_5 lX6_57 kX6_in (Ct_v (b2y (show 1 ≤ p ∧ p ≤ 6764 from by omega)) (c_X6_in p 1 6764 (by omega) (by omega) (by omega) G 34 false _)) rfl rfl ⟨Nat.le_of_ble_eq_true rfl, Nat.le_of_ble_eq_true rfl⟩ (Nat.le_of_ble_eq_true rfl) (Nat.le_refl _) (Nat.le_refl _) ?_
  refine V_istore_n C dX6_send_8 rfl (Nat.le_of_ble_eq_true rfl) rfl ?_
  refine V_aload_n C dX6_send_9 rfl rfl ?_
  refine V_iload_n C dX6_send_10 rfl rfl ?_
  refine V_iload_n C dX6_send_11 rfl rfl ?_
  refine V_if_eq (tgt := 27) C dX6_send_12 (by decide) (by omega) (fun q12 => by exfalso; omega) (fun q12 => ?_)
  refine V_aload_n C dX6_send_15 rfl rfl ?_
  refine V_iload_n C dX6_send_16 rfl rfl ?_
  refine V_V1 (k2 := 0) (s2 := 0) C dX6_send_17 lX6_87 kX6_canSend (Ct_v (b2y (show K 29 6 + (hl 18 (gm 18 p.toNat) + 1 : Nat) ≤ 64 from hd)) (c_X6_canSend G K r p hc hG.2.1)) (by decide) (rfl) rfl rfl rfl ⟨Nat.le_of_ble_eq_true rfl, Nat.le_of_ble_eq_true rfl⟩ (Nat.le_of_ble_eq_true rfl) (Nat.le_refl _) (Nat.le_refl _) ?_
  refine V_if_eq (tgt := 27) C dX6_send_20 (by decide) (by omega) (fun q20 => by exfalso; omega) (fun q20 => ?_)
  refine V_iconst C dX6_send_23 ?_
  refine V_goto (tgt := 28) C dX6_send_24 (by decide) ?_
  refine V_iconst C dX6_send_28 ?_
  refine V_V1 (k2 := 0) (s2 := 0) C dX6_send_29 lX6_68 kX6_goes (Ct_v (v' := 1) rfl (c_X6_goes G _ r true true true)) (by decide) (rfl) rfl rfl rfl ⟨Nat.le_of_ble_eq_true rfl, Nat.le_of_ble_eq_true rfl⟩ (Nat.le_of_ble_eq_true rfl) (Nat.le_refl _) (Nat.le_refl _) ?_
  refine V_if_ne (tgt := 37) C dX6_send_32 (by decide) (by omega) (fun q32 => ?_) (fun q32 => by exfalso; omega)
  refine V_aload_n C dX6_send_37 rfl rfl ?_
  refine V_V0 (k2 := 0) (s2 := 0) C dX6_send_38 lX6_72 kX6_saves (s_X6_saves G (kT K 0) r st hs hst) (by decide) (rfl) rfl rfl rfl ⟨Nat.le_of_ble_eq_true rfl, Nat.le_of_ble_eq_true rfl⟩ (Nat.le_of_ble_eq_true rfl) (Nat.le_refl _) (Nat.le_refl _) ?_
  refine V_aload_n C dX6_send_41 rfl rfl ?_
  refine V_iload_n C dX6_send_42 rfl rfl ?_
  refine V_V1 (k2 := 0) (s2 := 0) C dX6_send_43 lX6_90 kX6_sends (c_X6_sends G (kS (kT K 0) st) r p hc (K 29 6).toNat (by rw [show (kS (kT K 0) st) 29 6 = K 29 6 from svS_0 (by omega)]; exact (toN g6.1).symm) (by unfold cl at hd; omega)) (by decide) (rfl) rfl rfl rfl ⟨Nat.le_of_ble_eq_true rfl, Nat.le_of_ble_eq_true rfl⟩ (Nat.le_of_ble_eq_true rfl) (Nat.le_refl _) (Nat.le_refl _) ?_
  exact V_iret C dX6_send_46 rfl hZ (by first | rfl | omega) rfl
set_option maxRecDepth 100000 in
set_option maxHeartbeats 4000000 in
theorem n_X6_turn (G : GT) (K : Nat → Nat → Int) (r : Nat → Option Nat) (hG : GZ (K 29)) (p : Int) (hp : -2147483648 ≤ p ∧ p < 2147483648) (hc : ¬ (0 ≤ p ∧ p ≤ K 29 6 - 1)) : CtO G yX6_turn mX6_turn [rf G 28, .int (iI p)] K r (some (.int (iI 0))) (kT K 1) (r) := by
  refine Ct_of kX6_turn.1.1 (by decide) [some (rf G 28), some (.int (iI p))] rfl (Nat.le_of_ble_eq_true rfl) ?_
  intro x C hZ
  refine V_aload_n C dX6_turn_0 rfl rfl ?_
  refine V_aload_n C dX6_turn_1 rfl rfl ?_
  refine V_iload_n C dX6_turn_2 rfl rfl ?_
  refine V_V1 (k2 := 0) (s2 := 0) C dX6_turn_3 lX6_93 kX6_isDigit (Ct_v (b2n (show ¬ (0 ≤ p ∧ p ≤ K 29 6 - 1) from by omega)) (c_X6_isDigit G K r hG.2.1 p (by omega))) (by decide) (rfl) rfl rfl rfl ⟨Nat.le_of_ble_eq_true rfl, Nat.le_of_ble_eq_true rfl⟩ (Nat.le_of_ble_eq_true rfl) (Nat.le_refl _) (Nat.le_refl _) ?_
  refine V_iconst C dX6_turn_6 ?_
  refine V_iconst C dX6_turn_7 ?_
  refine V_V1 (k2 := 0) (s2 := 0) C dX6_turn_8 lX6_68 kX6_goes (Ct_v (v' := 0) rfl (c_X6_goes G _ r false true true)) (by decide) (rfl) rfl rfl rfl ⟨Nat.le_of_ble_eq_true rfl, Nat.le_of_ble_eq_true rfl⟩ (Nat.le_of_ble_eq_true rfl) (Nat.le_refl _) (Nat.le_refl _) ?_
  refine V_if_ne (tgt := 16) C dX6_turn_11 (by decide) (by omega) (fun q11 => by exfalso; omega) (fun q11 => ?_)
  refine V_iconst C dX6_turn_14 ?_
  exact V_iret C dX6_turn_15 rfl hZ (by first | rfl | omega) rfl
set_option maxRecDepth 100000 in
set_option maxHeartbeats 4000000 in
theorem c_X6_turn (G : GT) (K : Nat → Nat → Int) (r : Nat → Option Nat) (st : Nat) (hs : st ≤ 5) (hst : K 28 1 = st)(hG : GZ (K 29)) (p : Int) (hp : -2147483648 ≤ p ∧ p < 2147483648) (hc : 0 ≤ p ∧ p ≤ K 29 6 - 1) : CtO G yX6_turn mX6_turn [rf G 28, .int (iI p)] K r (some (.int (iI (1 - K 29 (7 + p.toNat))))) (us (kS (kT K 0) st) 29 (us ((kS (kT K 0) st) 29) (7 + p.toNat) (1 - K 29 (7 + p.toNat)))) (r) := by
  refine Ct_of kX6_turn.1.1 (by decide) [some (rf G 28), some (.int (iI p))] rfl (Nat.le_of_ble_eq_true rfl) ?_
  intro x C hZ
  have g6 := hG.2.1
  have hp1 : ((p.toNat : Nat) : Int) = p := by omega
  have eK : (kS (kT K 0) st) 29 (7 + p.toNat) = K 29 (7 + p.toNat) := svS_0 (by omega)
  refine V_aload_n C dX6_turn_0 rfl rfl ?_
  refine V_aload_n C dX6_turn_1 rfl rfl ?_
  refine V_iload_n C dX6_turn_2 rfl rfl ?_
  refine V_V1 (k2 := 0) (s2 := 0) C dX6_turn_3 lX6_93 kX6_isDigit (Ct_v (b2y (show 0 ≤ p ∧ p ≤ K 29 6 - 1 from by omega)) (c_X6_isDigit G K r hG.2.1 p (by omega))) (by decide) (rfl) rfl rfl rfl ⟨Nat.le_of_ble_eq_true rfl, Nat.le_of_ble_eq_true rfl⟩ (Nat.le_of_ble_eq_true rfl) (Nat.le_refl _) (Nat.le_refl _) ?_
  refine V_iconst C dX6_turn_6 ?_
  refine V_iconst C dX6_turn_7 ?_
  refine V_V1 (k2 := 0) (s2 := 0) C dX6_turn_8 lX6_68 kX6_goes (Ct_v (v' := 1) rfl (c_X6_goes G _ r true true true)) (by decide) (rfl) rfl rfl rfl ⟨Nat.le_of_ble_eq_true rfl, Nat.le_of_ble_eq_true rfl⟩ (Nat.le_of_ble_eq_true rfl) (Nat.le_refl _) (Nat.le_refl _) ?_
  refine V_if_ne (tgt := 16) C dX6_turn_11 (by decide) (by omega) (fun q11 => ?_) (fun q11 => by exfalso; omega)
  refine V_aload_n C dX6_turn_16 rfl rfl ?_
  refine V_V0 (k2 := 0) (s2 := 0) C dX6_turn_17 lX6_72 kX6_saves (s_X6_saves G (kT K 0) r st hs hst) (by decide) (rfl) rfl rfl rfl ⟨Nat.le_of_ble_eq_true rfl, Nat.le_of_ble_eq_true rfl⟩ (Nat.le_of_ble_eq_true rfl) (Nat.le_refl _) (Nat.le_refl _) ?_
  refine V_aload_n C dX6_turn_20 rfl rfl ?_
  refine V_iload_n C dX6_turn_21 rfl rfl ?_
  rw [← hp1]
  refine V_V1 (k2 := 0) (s2 := 0) C dX6_turn_22 lX6_96 kX6_turns (Ct_v (v' := 1 - K 29 (7 + p.toNat)) (by rw [eK]) (c_X6_turns G (kS (kT K 0) st) r p.toNat (by omega))) (by decide) (rfl) rfl rfl rfl ⟨Nat.le_of_ble_eq_true rfl, Nat.le_of_ble_eq_true rfl⟩ (Nat.le_of_ble_eq_true rfl) (Nat.le_refl _) (Nat.le_refl _) ?_
  exact V_iret C dX6_turn_25 rfl hZ (by first | rfl | omega) (by rw [eK])
set_option maxRecDepth 100000 in
set_option maxHeartbeats 4000000 in
theorem m_X6_append (G : GT) (K : Nat → Nat → Int) (r : Nat → Option Nat) (T : Nat) (hT : K 28 5 = T) (h60 : T ≤ 60)(p : Int) (hp : -2147483648 ≤ p ∧ p < 2147483648) (hc : ¬ (33 ≤ p ∧ p ≤ 126)) : CtO G yX6_append mX6_append [rf G 28, .int (iI p)] K r (some (.int (iI 0))) (kT K 1) (r) := by
  refine Ct_of kX6_append.1.1 (by decide) [some (rf G 28), some (.int (iI p))] rfl (Nat.le_of_ble_eq_true rfl) ?_
  intro x C hZ
  by_cases c1 : T < 60
  · skip
    refine V_aload_n C dX6_append_0 rfl rfl ?_
    refine V_iload_n C dX6_append_1 rfl rfl ?_
    refine V_bipush C dX6_append_2 (by decide +kernel) ?_
    refine V_bipush C dX6_append_4 (by decide +kernel) ?_
    refine V_S1 (k2 := 0) (s2 := 0) C dX6_append_6 lX6_57 kX6_in (Ct_v (b2n (show ¬ (33 ≤ p ∧ p ≤ 126) from by omega)) (c_X6_in p 33 126 (by omega) (by omega) (by omega) G 34 false _)) rfl rfl ⟨Nat.le_of_ble_eq_true rfl, Nat.le_of_ble_eq_true rfl⟩ (Nat.le_of_ble_eq_true rfl) (Nat.le_refl _) (Nat.le_refl _) ?_
    refine V_aload_n C dX6_append_9 rfl rfl ?_
    refine V_getH (L := mOl G) C dX6_append_10 fX6_105 (by decide) (fun _ => rfl) rfl ?_
    rw [hT]
    refine V_bipush C dX6_append_13 (by decide +kernel) ?_
    refine V_icmp_ge (tgt := 22) C dX6_append_15 (by decide) (by omega) (by omega) (fun q15 => by exfalso; omega) (fun q15 => ?_)
    refine V_iconst C dX6_append_18 ?_
    refine V_goto (tgt := 23) C dX6_append_19 (by decide) ?_
    refine V_iconst C dX6_append_23 ?_
    refine V_V1 (k2 := 0) (s2 := 0) C dX6_append_24 lX6_68 kX6_goes (Ct_v (v' := 0) rfl (c_X6_goes G _ r false true true)) (by decide) (rfl) rfl rfl rfl ⟨Nat.le_of_ble_eq_true rfl, Nat.le_of_ble_eq_true rfl⟩ (Nat.le_of_ble_eq_true rfl) (Nat.le_refl _) (Nat.le_refl _) ?_
    refine V_if_ne (tgt := 32) C dX6_append_27 (by decide) (by omega) (fun q27 => by exfalso; omega) (fun q27 => ?_)
    refine V_iconst C dX6_append_30 ?_
    exact V_iret C dX6_append_31 rfl hZ (by first | rfl | omega) rfl
  · skip
    refine V_aload_n C dX6_append_0 rfl rfl ?_
    refine V_iload_n C dX6_append_1 rfl rfl ?_
    refine V_bipush C dX6_append_2 (by decide +kernel) ?_
    refine V_bipush C dX6_append_4 (by decide +kernel) ?_
    refine V_S1 (k2 := 0) (s2 := 0) C dX6_append_6 lX6_57 kX6_in (Ct_v (b2n (show ¬ (33 ≤ p ∧ p ≤ 126) from by omega)) (c_X6_in p 33 126 (by omega) (by omega) (by omega) G 34 false _)) rfl rfl ⟨Nat.le_of_ble_eq_true rfl, Nat.le_of_ble_eq_true rfl⟩ (Nat.le_of_ble_eq_true rfl) (Nat.le_refl _) (Nat.le_refl _) ?_
    refine V_aload_n C dX6_append_9 rfl rfl ?_
    refine V_getH (L := mOl G) C dX6_append_10 fX6_105 (by decide) (fun _ => rfl) rfl ?_
    rw [hT]
    refine V_bipush C dX6_append_13 (by decide +kernel) ?_
    refine V_icmp_ge (tgt := 22) C dX6_append_15 (by decide) (by omega) (by omega) (fun q15 => ?_) (fun q15 => by exfalso; omega)
    refine V_iconst C dX6_append_22 ?_
    refine V_iconst C dX6_append_23 ?_
    refine V_V1 (k2 := 0) (s2 := 0) C dX6_append_24 lX6_68 kX6_goes (Ct_v (v' := 0) rfl (c_X6_goes G _ r false false true)) (by decide) (rfl) rfl rfl rfl ⟨Nat.le_of_ble_eq_true rfl, Nat.le_of_ble_eq_true rfl⟩ (Nat.le_of_ble_eq_true rfl) (Nat.le_refl _) (Nat.le_refl _) ?_
    refine V_if_ne (tgt := 32) C dX6_append_27 (by decide) (by omega) (fun q27 => by exfalso; omega) (fun q27 => ?_)
    refine V_iconst C dX6_append_30 ?_
    exact V_iret C dX6_append_31 rfl hZ (by first | rfl | omega) rfl
set_option maxRecDepth 100000 in
set_option maxHeartbeats 4000000 in
theorem n_X6_append (G : GT) (K : Nat → Nat → Int) (r : Nat → Option Nat) (T : Nat) (hT : K 28 5 = T) (h60 : T ≤ 60)(p : Int) (hp : -2147483648 ≤ p ∧ p < 2147483648) (hc : 33 ≤ p ∧ p ≤ 126) (hd : ¬ T < 60) : CtO G yX6_append mX6_append [rf G 28, .int (iI p)] K r (some (.int (iI 0))) (kT K 2) (r) := by
  refine Ct_of kX6_append.1.1 (by decide) [some (rf G 28), some (.int (iI p))] rfl (Nat.le_of_ble_eq_true rfl) ?_
  intro x C hZ
  refine V_aload_n C dX6_append_0 rfl rfl ?_
  refine V_iload_n C dX6_append_1 rfl rfl ?_
  refine V_bipush C dX6_append_2 (by decide +kernel) ?_
  refine V_bipush C dX6_append_4 (by decide +kernel) ?_
  refine V_S1 (k2 := 0) (s2 := 0) C dX6_append_6 lX6_57 kX6_in (Ct_v (b2y (show 33 ≤ p ∧ p ≤ 126 from by omega)) (c_X6_in p 33 126 (by omega) (by omega) (by omega) G 34 false _)) rfl rfl ⟨Nat.le_of_ble_eq_true rfl, Nat.le_of_ble_eq_true rfl⟩ (Nat.le_of_ble_eq_true rfl) (Nat.le_refl _) (Nat.le_refl _) ?_
  refine V_aload_n C dX6_append_9 rfl rfl ?_
  refine V_getH (L := mOl G) C dX6_append_10 fX6_105 (by decide) (fun _ => rfl) rfl ?_
  rw [hT]
  refine V_bipush C dX6_append_13 (by decide +kernel) ?_
  refine V_icmp_ge (tgt := 22) C dX6_append_15 (by decide) (by omega) (by omega) (fun q15 => ?_) (fun q15 => by exfalso; omega)
  refine V_iconst C dX6_append_22 ?_
  refine V_iconst C dX6_append_23 ?_
  refine V_V1 (k2 := 0) (s2 := 0) C dX6_append_24 lX6_68 kX6_goes (Ct_v (v' := 0) rfl (c_X6_goes G _ r true false true)) (by decide) (rfl) rfl rfl rfl ⟨Nat.le_of_ble_eq_true rfl, Nat.le_of_ble_eq_true rfl⟩ (Nat.le_of_ble_eq_true rfl) (Nat.le_refl _) (Nat.le_refl _) ?_
  refine V_if_ne (tgt := 32) C dX6_append_27 (by decide) (by omega) (fun q27 => by exfalso; omega) (fun q27 => ?_)
  refine V_iconst C dX6_append_30 ?_
  exact V_iret C dX6_append_31 rfl hZ (by first | rfl | omega) rfl
set_option maxRecDepth 100000 in
set_option maxHeartbeats 4000000 in
theorem c_X6_append (G : GT) (K : Nat → Nat → Int) (r : Nat → Option Nat) (T : Nat) (hT : K 28 5 = T) (h60 : T ≤ 60)(p : Int) (hp : -2147483648 ≤ p ∧ p < 2147483648) (hc : 33 ≤ p ∧ p ≤ 126) (hd : T < 60) : CtO G yX6_append mX6_append [rf G 28, .int (iI p)] K r (some (.int (iI ((T : Int) + 1)))) (us (us (kT K 0) 30 (us (K 30) T p)) 28 (us ((us (kT K 0) 30 (us (K 30) T p)) 28) 5 ((T : Int) + 1))) (r) := by
  refine Ct_of kX6_append.1.1 (by decide) [some (rf G 28), some (.int (iI p))] rfl (Nat.le_of_ble_eq_true rfl) ?_
  intro x C hZ
  refine V_aload_n C dX6_append_0 rfl rfl ?_
  refine V_iload_n C dX6_append_1 rfl rfl ?_
  refine V_bipush C dX6_append_2 (by decide +kernel) ?_
  refine V_bipush C dX6_append_4 (by decide +kernel) ?_
  refine V_S1 (k2 := 0) (s2 := 0) C dX6_append_6 lX6_57 kX6_in (Ct_v (b2y (show 33 ≤ p ∧ p ≤ 126 from by omega)) (c_X6_in p 33 126 (by omega) (by omega) (by omega) G 34 false _)) rfl rfl ⟨Nat.le_of_ble_eq_true rfl, Nat.le_of_ble_eq_true rfl⟩ (Nat.le_of_ble_eq_true rfl) (Nat.le_refl _) (Nat.le_refl _) ?_
  refine V_aload_n C dX6_append_9 rfl rfl ?_
  refine V_getH (L := mOl G) C dX6_append_10 fX6_105 (by decide) (fun _ => rfl) rfl ?_
  rw [hT]
  refine V_bipush C dX6_append_13 (by decide +kernel) ?_
  refine V_icmp_ge (tgt := 22) C dX6_append_15 (by decide) (by omega) (by omega) (fun q15 => by exfalso; omega) (fun q15 => ?_)
  refine V_iconst C dX6_append_18 ?_
  refine V_goto (tgt := 23) C dX6_append_19 (by decide) ?_
  refine V_iconst C dX6_append_23 ?_
  refine V_V1 (k2 := 0) (s2 := 0) C dX6_append_24 lX6_68 kX6_goes (Ct_v (v' := 1) rfl (c_X6_goes G _ r true true true)) (by decide) (rfl) rfl rfl rfl ⟨Nat.le_of_ble_eq_true rfl, Nat.le_of_ble_eq_true rfl⟩ (Nat.le_of_ble_eq_true rfl) (Nat.le_refl _) (Nat.le_refl _) ?_
  refine V_if_ne (tgt := 32) C dX6_append_27 (by decide) (by omega) (fun q27 => ?_) (fun q27 => by exfalso; omega)
  refine V_aload_n C dX6_append_32 rfl rfl ?_
  refine V_getH (L := mOl G) C dX6_append_33 fX6_13 (by decide) (fun _ => rfl) rfl ?_
  refine V_aload_n C dX6_append_36 rfl rfl ?_
  refine V_getH (L := mOl G) C dX6_append_37 fX6_105 (by decide) (fun _ => rfl) rfl ?_
  rw [kT_5, hT]
  refine V_iload_n C dX6_append_40 rfl rfl ?_
  refine V_iastH C dX6_append_41 (by decide) (fun _ => rfl) (by omega) (by decide) ?_
  rw [kT_30, tnN]
  refine V_aload_n C dX6_append_42 rfl rfl ?_
  refine V_dup C dX6_append_43 rfl ?_
  refine V_getH (L := mOl G) C dX6_append_44 fX6_105 (by decide) (fun _ => rfl) rfl ?_
  rw [show us (kT K (goT true true true)) 30 (us (K 30) T p) 28 5 = (T : Int) from hT]
  refine V_iconst C dX6_append_47 ?_
  refine V_iadd C dX6_append_48 ?_
  refine V_putH (L := mOl G) (ty := .int) C dX6_append_49 fX6_105 (by decide) (fun _ => rfl) rfl (by decide +kernel) (rfl) (rfl) (Nat.le_of_ble_eq_true rfl) rfl ?_
  refine V_aload_n C dX6_append_52 rfl rfl ?_
  refine V_getH (L := mOl G) C dX6_append_53 fX6_105 (by decide) (fun _ => rfl) rfl ?_
  rw [us_at, us_at]
  exact V_iret C dX6_append_56 rfl hZ (by first | rfl | omega) rfl
set_option maxRecDepth 100000 in
set_option maxHeartbeats 4000000 in
theorem c_X6_keep (G : GT) (K : Nat → Nat → Int) (r : Nat → Option Nat) (hG : GZ (K 29)) : CtO G yX6_keep mX6_keep [rf G 28] K r (some (.int (iI (su (K 29) 6)))) (us (us (us K 28 (us (K 28) 3 0)) 29 (cpS (K 29) 0 6 74)) 28 (us ((us (us K 28 (us (K 28) 3 0)) 29 (cpS (K 29) 0 6 74)) 28) 2 1)) (r) := by
  refine Ct_of kX6_keep.1.1 (by decide) [some (rf G 28)] rfl (Nat.le_of_ble_eq_true rfl) ?_
  intro x C hZ
  refine V_aload_n C dX6_keep_0 rfl rfl ?_
  refine V_iconst C dX6_keep_1 ?_
  refine V_putH (L := mOl G) (ty := .int) C dX6_keep_2 fX6_22 (by decide) (fun _ => rfl) rfl (by decide +kernel) (rfl) (rfl) (Nat.le_of_ble_eq_true rfl) rfl ?_
  refine V_aload_n C dX6_keep_5 rfl rfl ?_
  refine V_iconst C dX6_keep_6 ?_
  refine V_bipush C dX6_keep_7 (by decide +kernel) ?_
  refine V_V0 (k2 := 0) (s2 := 0) C dX6_keep_9 lX6_29 kX6_copies (c_X6_copies G _ r 0 6 (by decide) (by decide) (by decide)) (by decide) (rfl) rfl rfl rfl ⟨Nat.le_of_ble_eq_true rfl, Nat.le_of_ble_eq_true rfl⟩ (Nat.le_of_ble_eq_true rfl) (Nat.le_refl _) (Nat.le_refl _) ?_
  refine V_aload_n C dX6_keep_12 rfl rfl ?_
  refine V_iconst C dX6_keep_13 ?_
  refine V_putH (L := mOl G) (ty := .boolean) C dX6_keep_14 fX6_142 (by decide) (fun _ => rfl) rfl (by decide +kernel) (by decide) (by decide) (Nat.le_of_ble_eq_true rfl) rfl ?_
  refine V_aload_n C dX6_keep_17 rfl rfl ?_
  refine V_V1 (k2 := 0) (s2 := 0) C dX6_keep_18 lX6_146 kX6_sum (Ct_v (v' := su (K 29) 6) (su_of fun k hk => cpS_ne (by omega)) (c_X6_sum G _ r)) (by decide) (rfl) rfl rfl rfl ⟨Nat.le_of_ble_eq_true rfl, Nat.le_of_ble_eq_true rfl⟩ (Nat.le_of_ble_eq_true rfl) (Nat.le_refl _) (Nat.le_refl _) ?_
  exact V_iret C dX6_keep_21 rfl hZ (by first | rfl | omega) rfl
set_option maxRecDepth 100000 in
set_option maxHeartbeats 4000000 in
theorem n_X6_restore (G : GT) (K : Nat → Nat → Int) (r : Nat → Option Nat) (hc : K 28 2 = 0) : CtO G yX6_restore mX6_restore [rf G 28] K r (some (.int (iI 0))) (kT K 1) (r) := by
  refine Ct_of kX6_restore.1.1 (by decide) [some (rf G 28)] rfl (Nat.le_of_ble_eq_true rfl) ?_
  intro x C hZ
  refine V_aload_n C dX6_restore_0 rfl rfl ?_
  refine V_aload_n C dX6_restore_1 rfl rfl ?_
  refine V_getH (L := mOl G) C dX6_restore_2 fX6_142 (by decide) (fun _ => rfl) rfl ?_
  rw [hc]
  refine V_iconst C dX6_restore_5 ?_
  refine V_iconst C dX6_restore_6 ?_
  refine V_V1 (k2 := 0) (s2 := 0) C dX6_restore_7 lX6_68 kX6_goes (Ct_v (v' := 0) rfl (c_X6_goes G _ r false true true)) (by decide) (rfl) rfl rfl rfl ⟨Nat.le_of_ble_eq_true rfl, Nat.le_of_ble_eq_true rfl⟩ (Nat.le_of_ble_eq_true rfl) (Nat.le_refl _) (Nat.le_refl _) ?_
  refine V_if_ne (tgt := 15) C dX6_restore_10 (by decide) (by omega) (fun q10 => by exfalso; omega) (fun q10 => ?_)
  refine V_iconst C dX6_restore_13 ?_
  exact V_iret C dX6_restore_14 rfl hZ (by first | rfl | omega) rfl
set_option maxRecDepth 100000 in
set_option maxHeartbeats 4000000 in
theorem c_X6_restore (G : GT) (K : Nat → Nat → Int) (r : Nat → Option Nat) (st : Nat) (hs : st ≤ 5) (hst : K 28 1 = st) (hc : K 28 2 = 1) : CtO G yX6_restore mX6_restore [rf G 28] K r (some (.int (iI (su (cpS ((kS (kT K 0) st) 29) 6 0 74) 6)))) (us (kS (kT K 0) st) 29 (cpS ((kS (kT K 0) st) 29) 6 0 74)) (r) := by
  refine Ct_of kX6_restore.1.1 (by decide) [some (rf G 28)] rfl (Nat.le_of_ble_eq_true rfl) ?_
  intro x C hZ
  refine V_aload_n C dX6_restore_0 rfl rfl ?_
  refine V_aload_n C dX6_restore_1 rfl rfl ?_
  refine V_getH (L := mOl G) C dX6_restore_2 fX6_142 (by decide) (fun _ => rfl) rfl ?_
  rw [hc]
  refine V_iconst C dX6_restore_5 ?_
  refine V_iconst C dX6_restore_6 ?_
  refine V_V1 (k2 := 0) (s2 := 0) C dX6_restore_7 lX6_68 kX6_goes (Ct_v (v' := 1) rfl (c_X6_goes G _ r true true true)) (by decide) (rfl) rfl rfl rfl ⟨Nat.le_of_ble_eq_true rfl, Nat.le_of_ble_eq_true rfl⟩ (Nat.le_of_ble_eq_true rfl) (Nat.le_refl _) (Nat.le_refl _) ?_
  refine V_if_ne (tgt := 15) C dX6_restore_10 (by decide) (by omega) (fun q10 => ?_) (fun q10 => by exfalso; omega)
  refine V_aload_n C dX6_restore_15 rfl rfl ?_
  refine V_V0 (k2 := 0) (s2 := 0) C dX6_restore_16 lX6_72 kX6_saves (s_X6_saves G (kT K 0) r st hs hst) (by decide) (rfl) rfl rfl rfl ⟨Nat.le_of_ble_eq_true rfl, Nat.le_of_ble_eq_true rfl⟩ (Nat.le_of_ble_eq_true rfl) (Nat.le_refl _) (Nat.le_refl _) ?_
  refine V_aload_n C dX6_restore_19 rfl rfl ?_
  refine V_bipush C dX6_restore_20 (by decide +kernel) ?_
  refine V_iconst C dX6_restore_22 ?_
  refine V_V0 (k2 := 0) (s2 := 0) C dX6_restore_23 lX6_29 kX6_copies (c_X6_copies G _ r 6 0 (by decide) (by decide) (by decide)) (by decide) (rfl) rfl rfl rfl ⟨Nat.le_of_ble_eq_true rfl, Nat.le_of_ble_eq_true rfl⟩ (Nat.le_of_ble_eq_true rfl) (Nat.le_refl _) (Nat.le_refl _) ?_
  refine V_aload_n C dX6_restore_26 rfl rfl ?_
  refine V_V1 (k2 := 0) (s2 := 0) C dX6_restore_27 lX6_146 kX6_sum (c_X6_sum G _ r) (by decide) (rfl) rfl rfl rfl ⟨Nat.le_of_ble_eq_true rfl, Nat.le_of_ble_eq_true rfl⟩ (Nat.le_of_ble_eq_true rfl) (Nat.le_refl _) (Nat.le_refl _) ?_
  exact V_iret C dX6_restore_30 rfl hZ (by first | rfl | omega) rfl
set_option maxRecDepth 100000 in
set_option maxHeartbeats 4000000 in
theorem n_X6_undo (G : GT) (K : Nat → Nat → Int) (r : Nat → Option Nat) (st : Nat) (hs : st ≤ 5) (hst : K 28 1 = st) (hc : st = 0) : CtO G yX6_undo mX6_undo [rf G 28] K r (some (.int (iI 0))) (kT K 1) (r) := by
  refine Ct_of kX6_undo.1.1 (by decide) [some (rf G 28)] rfl (Nat.le_of_ble_eq_true rfl) ?_
  intro x C hZ
  refine V_aload_n C dX6_undo_0 rfl rfl ?_
  refine V_aload_n C dX6_undo_1 rfl rfl ?_
  refine V_getH (L := mOl G) C dX6_undo_2 fX6_26 (by decide) (fun _ => rfl) rfl ?_
  rw [hst]
  refine V_if_le (tgt := 12) C dX6_undo_5 (by decide) (by omega) (fun q5 => ?_) (fun q5 => by exfalso; omega)
  refine V_iconst C dX6_undo_12 ?_
  refine V_iconst C dX6_undo_13 ?_
  refine V_iconst C dX6_undo_14 ?_
  refine V_V1 (k2 := 0) (s2 := 0) C dX6_undo_15 lX6_68 kX6_goes (Ct_v (v' := 0) rfl (c_X6_goes G _ r false true true)) (by decide) (rfl) rfl rfl rfl ⟨Nat.le_of_ble_eq_true rfl, Nat.le_of_ble_eq_true rfl⟩ (Nat.le_of_ble_eq_true rfl) (Nat.le_refl _) (Nat.le_refl _) ?_
  refine V_if_ne (tgt := 23) C dX6_undo_18 (by decide) (by omega) (fun q18 => by exfalso; omega) (fun q18 => ?_)
  refine V_iconst C dX6_undo_21 ?_
  exact V_iret C dX6_undo_22 rfl hZ (by first | rfl | omega) rfl
set_option maxRecDepth 100000 in
set_option maxHeartbeats 4000000 in
theorem c_X6_undo (G : GT) (K : Nat → Nat → Int) (r : Nat → Option Nat) (st : Nat) (hs : st ≤ 5) (hst : K 28 1 = st) (hc : 0 < st) : CtO G yX6_undo mX6_undo [rf G 28] K r (some (.int (iI ((st : Int) - 1)))) (us (us (kT K 0) 29 (cpS (K 29) st 0 74)) 28 (us ((us (kT K 0) 29 (cpS (K 29) st 0 74)) 28) 1 ((st : Int) - 1))) (r) := by
  refine Ct_of kX6_undo.1.1 (by decide) [some (rf G 28)] rfl (Nat.le_of_ble_eq_true rfl) ?_
  intro x C hZ
  refine V_aload_n C dX6_undo_0 rfl rfl ?_
  refine V_aload_n C dX6_undo_1 rfl rfl ?_
  refine V_getH (L := mOl G) C dX6_undo_2 fX6_26 (by decide) (fun _ => rfl) rfl ?_
  rw [hst]
  refine V_if_le (tgt := 12) C dX6_undo_5 (by decide) (by omega) (fun q5 => by exfalso; omega) (fun q5 => ?_)
  refine V_iconst C dX6_undo_8 ?_
  refine V_goto (tgt := 13) C dX6_undo_9 (by decide) ?_
  refine V_iconst C dX6_undo_13 ?_
  refine V_iconst C dX6_undo_14 ?_
  refine V_V1 (k2 := 0) (s2 := 0) C dX6_undo_15 lX6_68 kX6_goes (Ct_v (v' := 1) rfl (c_X6_goes G _ r true true true)) (by decide) (rfl) rfl rfl rfl ⟨Nat.le_of_ble_eq_true rfl, Nat.le_of_ble_eq_true rfl⟩ (Nat.le_of_ble_eq_true rfl) (Nat.le_refl _) (Nat.le_refl _) ?_
  refine V_if_ne (tgt := 23) C dX6_undo_18 (by decide) (by omega) (fun q18 => ?_) (fun q18 => by exfalso; omega)
  refine V_aload_n C dX6_undo_23 rfl rfl ?_
  refine V_aload_n C dX6_undo_24 rfl rfl ?_
  refine V_getH (L := mOl G) C dX6_undo_25 fX6_26 (by decide) (fun _ => rfl) rfl ?_
  rw [kT_1, hst]
  refine V_iconst C dX6_undo_28 ?_
  refine V_V0 (k2 := 0) (s2 := 0) C dX6_undo_29 lX6_29 kX6_copies (c_X6_copies G (kT K 0) r st 0 (by omega) (by omega) (by omega)) (by decide) (rfl) rfl rfl rfl ⟨Nat.le_of_ble_eq_true rfl, Nat.le_of_ble_eq_true rfl⟩ (Nat.le_of_ble_eq_true rfl) (Nat.le_refl _) (Nat.le_refl _) ?_
  refine V_aload_n C dX6_undo_32 rfl rfl ?_
  refine V_dup C dX6_undo_33 rfl ?_
  refine V_getH (L := mOl G) C dX6_undo_34 fX6_26 (by decide) (fun _ => rfl) rfl ?_
  rw [show us (kT K 0) 29 (cpS (kT K 0 29) st 0 74) 28 1 = (st : Int) from hst]
  refine V_iconst C dX6_undo_37 ?_
  refine V_isub C dX6_undo_38 ?_
  refine V_putH (L := mOl G) (ty := .int) C dX6_undo_39 fX6_26 (by decide) (fun _ => rfl) rfl (by decide +kernel) (rfl) (rfl) (Nat.le_of_ble_eq_true rfl) rfl ?_
  refine V_aload_n C dX6_undo_42 rfl rfl ?_
  refine V_getH (L := mOl G) C dX6_undo_43 fX6_26 (by decide) (fun _ => rfl) rfl ?_
  rw [us_at, us_at]
  exact V_iret C dX6_undo_46 rfl hZ (by first | rfl | omega) rfl
set_option maxRecDepth 100000 in
set_option maxHeartbeats 4000000 in
theorem c_X6_firstError (G : GT) (K : Nat → Nat → Int) (r : Nat → Option Nat) (T : Nat) (hT : K 28 5 = T) (h60 : T ≤ 60) (ht : ∀ j, j < T → 33 ≤ K 30 j ∧ K 30 j ≤ 126) : CtO G yX6_firstError mX6_firstError [rf G 28] K r (some (.int (iI ((wh (K 30) T (T + 1) 0).2 : Nat)))) (Wq (kT K 0) ((wh (K 30) T (T + 1) 0).2 : Nat) (whF (K 30) T (T + 1) (K 28 8) 0).1 (whF (K 30) T (T + 1) (K 28 8) 0).2) (r) := by
  refine Ct_of kX6_firstError.1.1 (by decide) [some (rf G 28)] rfl (Nat.le_of_ble_eq_true rfl) ?_
  intro x C hZ
  refine V_aload_n C dX6_firstError_0 rfl rfl ?_
  refine V_iconst C dX6_firstError_1 ?_
  refine V_putH (L := mOl G) (ty := .int) C dX6_firstError_2 fX6_22 (by decide) (fun _ => rfl) rfl (by decide +kernel) (rfl) (rfl) (Nat.le_of_ble_eq_true rfl) rfl ?_
  refine V_aload_n C dX6_firstError_5 rfl rfl ?_
  refine V_V1 (k2 := 0) (s2 := 0) C dX6_firstError_6 lX6_131 kX6_isWhole (c_X6_isWhole G (kT K 0) r T hT h60 ht) (by decide) (rfl) rfl rfl rfl ⟨Nat.le_of_ble_eq_true rfl, Nat.le_of_ble_eq_true rfl⟩ (Nat.le_of_ble_eq_true rfl) (Nat.le_refl _) (Nat.le_refl _) ?_
  refine V_pop C dX6_firstError_9 rfl ?_
  refine V_aload_n C dX6_firstError_10 rfl rfl ?_
  refine V_getH (L := mOl G) C dX6_firstError_11 fX6_108 (by decide) (fun _ => rfl) rfl ?_
  exact V_iret C dX6_firstError_14 rfl hZ (by first | rfl | omega) rfl
