/-! constructors -/
theorem hs_hs (h : Hp) (a : Nat) (c d : va_E) : hs (hs h a c) a d = hs h a d := by
  funext q
  by_cases e : q = a
  · subst e; rw [hs_at, hs_at]
  · rw [hs_ne _ _ e, hs_ne _ _ e, hs_ne _ _ e]
theorem hs_cm (h : Hp) {a b : Nat} (n : a ≠ b) (c d : va_E) : hs (hs h a c) b d = hs (hs h b d) a c := by
  funext q
  by_cases e : q = a
  · subst e; rw [hs_ne _ _ n, hs_at, hs_at]
  · by_cases f : q = b
    · subst f; rw [hs_at, hs_ne _ _ e, hs_at]
    · rw [hs_ne _ _ f, hs_ne _ _ e, hs_ne _ _ e, hs_ne _ _ f]
/-- the first world -/
def K00 : Nat → Nat → Int := fun q => if isS q then (fun j => if j = 3 then -1 else 0) else fun _ => 0
def r00 : Nat → Option Nat := us (us (us (us (us (fun _ => none) 0 (some 18)) 1 (some 20)) 2 (some 22)) 3 (some 24)) 4 (some 26)
set_option maxRecDepth 100000 in
set_option maxHeartbeats 4000000 in
theorem k_X0_init (G : GT) (hB : Hp) (a : Nat) : Ct G yX0_init mX0_init [rf G a] (a + 1) true (hs hB a (.inr (0, [.null]))) 1 22 none (a + 2) true (hs (hs (hs hB a (.inr (0, [.null]))) (a + 1) (aI G 22 (fun _ => 0))) a (.inr (0, [rf G (a + 1)]))) := by
  have ha1 : a ≠ a + 1 := by omega
  have ha2 : a ≠ a + 2 := by omega
  refine Ct_of kX0_init.1 (by decide) [some (rf G a)] rfl (Nat.le_of_ble_eq_true rfl) ?_
  intro x C hZ
  refine V_aload_n C dX0_init_0 rfl rfl ?_
  refine V_obj C dX0_init_1 lX0_1 (Nat.le_of_ble_eq_true rfl) (Nat.le_of_ble_eq_true rfl) ?_
  refine V_aload_n C dX0_init_4 rfl rfl ?_
  refine V_bipush C dX0_init_5 (by decide +kernel) ?_
  refine V_newint (n := 22) C dX0_init_7 rfl (by decide) ?_
  refine V_putF (ty := tyX0 0) (fs := [.null]) (fs' := [rf G (a + 1)]) C dX0_init_9 fX0_9 (by omega) (by exact Eq.trans (hs_ne _ _ (by omega)) (hs_at _ _ _)) rfl rfl rfl (by decide +kernel) rfl rfl (Nat.le_of_ble_eq_true rfl) rfl ?_
  exact V_vret C dX0_init_12 rfl hZ rfl
set_option maxRecDepth 100000 in
set_option maxHeartbeats 4000000 in
theorem k_X1_init (G : GT) (hB : Hp) (a : Nat) : Ct G yX1_init mX1_init [rf G a] (a + 1) true (hs hB a (.inr (1, [.null, .int (iI 0), .int (iI 0), .int (iI 0)]))) 1 32 none (a + 2) true (hs (hs (hs hB a (.inr (1, [.null, .int (iI 0), .int (iI 0), .int (iI 0)]))) (a + 1) (aI G 32 (fun _ => 0))) a (.inr (1, [rf G (a + 1), .int (iI 0), .int (iI 0), .int (iI 0)]))) := by
  have ha1 : a ≠ a + 1 := by omega
  have ha2 : a ≠ a + 2 := by omega
  refine Ct_of kX1_init.1 (by decide) [some (rf G a)] rfl (Nat.le_of_ble_eq_true rfl) ?_
  intro x C hZ
  refine V_aload_n C dX1_init_0 rfl rfl ?_
  refine V_obj C dX1_init_1 lX1_3 (Nat.le_of_ble_eq_true rfl) (Nat.le_of_ble_eq_true rfl) ?_
  refine V_aload_n C dX1_init_4 rfl rfl ?_
  refine V_bipush C dX1_init_5 (by decide +kernel) ?_
  refine V_newint (n := 32) C dX1_init_7 rfl (by decide) ?_
  refine V_putF (ty := tyX1 0) (fs := [.null, .int (iI 0), .int (iI 0), .int (iI 0)]) (fs' := [rf G (a + 1), .int (iI 0), .int (iI 0), .int (iI 0)]) C dX1_init_9 fX1_9 (by omega) (by exact Eq.trans (hs_ne _ _ (by omega)) (hs_at _ _ _)) rfl rfl rfl (by decide +kernel) rfl rfl (Nat.le_of_ble_eq_true rfl) rfl ?_
  exact V_vret C dX1_init_12 rfl hZ rfl
set_option maxRecDepth 100000 in
set_option maxHeartbeats 4000000 in
theorem k_X2_init (G : GT) (hB : Hp) (a : Nat) : Ct G yX2_init mX2_init [rf G a] (a + 1) true (hs hB a (.inr (2, [.null, .long (lL 0), .int (iI 0), .int (iI 0), .int (iI 0)]))) 1 6 none (a + 2) true (hs (hs (hs (hs (hs hB a (.inr (2, [.null, .long (lL 0), .int (iI 0), .int (iI 0), .int (iI 0)]))) (a + 1) (aI G 6 (fun _ => 0))) a (.inr (2, [rf G (a + 1), .long (lL 0), .int (iI 0), .int (iI 0), .int (iI 0)]))) a (.inr (2, [rf G (a + 1), .long (lL 0), .int (iI 0), .int (iI (-1)), .int (iI 0)]))) a (.inr (2, [rf G (a + 1), .long (lL 0), .int (iI 0), .int (iI (-1)), .int (iI (0))]))) := by
  have ha1 : a ≠ a + 1 := by omega
  have ha2 : a ≠ a + 2 := by omega
  refine Ct_of kX2_init.1 (by decide) [some (rf G a)] rfl (Nat.le_of_ble_eq_true rfl) ?_
  intro x C hZ
  refine V_aload_n C dX2_init_0 rfl rfl ?_
  refine V_obj C dX2_init_1 lX2_3 (Nat.le_of_ble_eq_true rfl) (Nat.le_of_ble_eq_true rfl) ?_
  refine V_aload_n C dX2_init_4 rfl rfl ?_
  refine V_bipush C dX2_init_5 (by decide +kernel) ?_
  refine V_newint (n := 6) C dX2_init_7 rfl (by decide) ?_
  refine V_putF (ty := tyX2 0) (fs := [.null, .long (lL 0), .int (iI 0), .int (iI 0), .int (iI 0)]) (fs' := [rf G (a + 1), .long (lL 0), .int (iI 0), .int (iI 0), .int (iI 0)]) C dX2_init_9 fX2_9 (by omega) (by exact Eq.trans (hs_ne _ _ (by omega)) (hs_at _ _ _)) rfl rfl rfl (by decide +kernel) rfl rfl (Nat.le_of_ble_eq_true rfl) rfl ?_
  refine V_aload_n C dX2_init_12 rfl rfl ?_
  refine V_iconst C dX2_init_13 ?_
  refine V_putf (ty := tyX2 3) (fs := [rf G (a + 1), .long (lL 0), .int (iI 0), .int (iI 0), .int (iI 0)]) (fs' := [rf G (a + 1), .long (lL 0), .int (iI 0), .int (iI (-1)), .int (iI 0)]) C dX2_init_14 fX2_15 (by omega) (by exact hs_at _ _ _) rfl (by decide +kernel) rfl rfl (Nat.le_of_ble_eq_true rfl) rfl ?_
  refine V_aload_n C dX2_init_17 rfl rfl ?_
  refine V_iconst C dX2_init_18 ?_
  refine V_putf (ty := tyX2 4) (fs := [rf G (a + 1), .long (lL 0), .int (iI 0), .int (iI (-1)), .int (iI 0)]) (fs' := [rf G (a + 1), .long (lL 0), .int (iI 0), .int (iI (-1)), .int (iI (0))]) C dX2_init_19 fX2_19 (by omega) (by exact hs_at _ _ _) rfl (by decide +kernel) rfl rfl (Nat.le_of_ble_eq_true rfl) rfl ?_
  exact V_vret C dX2_init_22 rfl hZ rfl
set_option maxRecDepth 100000 in
set_option maxHeartbeats 4000000 in
theorem k_X3_init (G : GT) (hB : Hp) (a : Nat) : Ct G yX3_init mX3_init [rf G a] (a + 1) true (hs hB a (.inr (3, [.int (iI 0), .int (iI 0), .int (iI 0), .int (iI 0), .int (iI 0), .int (iI 0)]))) 0 0 none (a + 1) true (hs hB a (.inr (3, [.int (iI 0), .int (iI 0), .int (iI 0), .int (iI 0), .int (iI 0), .int (iI 0)]))) := by
  have ha1 : a ≠ a + 1 := by omega
  have ha2 : a ≠ a + 2 := by omega
  refine Ct_of kX3_init.1 (by decide) [some (rf G a)] rfl (Nat.le_of_ble_eq_true rfl) ?_
  intro x C hZ
  refine V_aload_n C dX3_init_0 rfl rfl ?_
  refine V_obj C dX3_init_1 lX3_3 (Nat.le_of_ble_eq_true rfl) (Nat.le_of_ble_eq_true rfl) ?_
  exact V_vret C dX3_init_4 rfl hZ rfl
set_option maxRecDepth 100000 in
set_option maxHeartbeats 4000000 in
theorem k_X4_init (G : GT) (hB : Hp) (a : Nat) : Ct G yX4_init mX4_init [rf G a] (a + 1) true (hs hB a (.inr (4, [.null, .null, .int (iI 0)]))) 2 8 none (a + 3) true (hs (hs (hs (hs (hs hB a (.inr (4, [.null, .null, .int (iI 0)]))) (a + 1) (aI G 4 (fun _ => 0))) a (.inr (4, [rf G (a + 1), .null, .int (iI 0)]))) (a + 2) (aI G 4 (fun _ => 0))) a (.inr (4, [rf G (a + 1), rf G (a + 2), .int (iI 0)]))) := by
  have ha1 : a ≠ a + 1 := by omega
  have ha2 : a ≠ a + 2 := by omega
  refine Ct_of kX4_init.1 (by decide) [some (rf G a)] rfl (Nat.le_of_ble_eq_true rfl) ?_
  intro x C hZ
  refine V_aload_n C dX4_init_0 rfl rfl ?_
  refine V_obj C dX4_init_1 lX4_1 (Nat.le_of_ble_eq_true rfl) (Nat.le_of_ble_eq_true rfl) ?_
  refine V_aload_n C dX4_init_4 rfl rfl ?_
  refine V_iconst C dX4_init_5 ?_
  refine V_newint (n := 4) C dX4_init_6 rfl (by decide) ?_
  refine V_putF (ty := tyX4 0) (fs := [.null, .null, .int (iI 0)]) (fs' := [rf G (a + 1), .null, .int (iI 0)]) C dX4_init_8 fX4_7 (by omega) (by exact Eq.trans (hs_ne _ _ (by omega)) (hs_at _ _ _)) rfl rfl rfl (by decide +kernel) rfl rfl (Nat.le_of_ble_eq_true rfl) rfl ?_
  refine V_aload_n C dX4_init_11 rfl rfl ?_
  refine V_iconst C dX4_init_12 ?_
  refine V_newint (n := 4) C dX4_init_13 rfl (by decide) ?_
  refine V_putF (ty := tyX4 1) (fs := [rf G (a + 1), .null, .int (iI 0)]) (fs' := [rf G (a + 1), rf G (a + 2), .int (iI 0)]) C dX4_init_15 fX4_13 (by omega) (by exact Eq.trans (hs_ne _ _ (by omega)) (hs_at _ _ _)) rfl rfl rfl (by decide +kernel) rfl rfl (Nat.le_of_ble_eq_true rfl) rfl ?_
  exact V_vret C dX4_init_18 rfl hZ rfl
set_option maxRecDepth 100000 in
set_option maxHeartbeats 4000000 in
theorem k_X5_init (G : GT) (hB : Hp) : Ct G yX5_init mX5_init [rf G 0] 1 true (hs hB 0 (.inr (5, [.null, .null, .int (iI 0), .null, .int (iI 0), .null, .int (iI 0), .null, .null, .null, .null, .null]))) 27 229 none 28 true (HP G K00 r00) := by
  refine Ct_of kX5_init.1 (by decide) [some (rf G 0), none] rfl (Nat.le_of_ble_eq_true rfl) ?_
  intro x C hZ
  refine V_aload_n C dX5_init_0 rfl rfl ?_
  refine V_obj C dX5_init_1 lX5_1 (Nat.le_of_ble_eq_true rfl) (Nat.le_of_ble_eq_true rfl) ?_
  refine V_aload_n C dX5_init_4 rfl rfl ?_
  refine V_new (kc := 26) (ks := 224) (ci := 2) (fs := [.null, .long (lL 0), .int (iI 0), .int (iI 0), .int (iI 0)]) C dX5_init_5 nX5_7 niX2 rfl tyX2 tyX2_ok (fun j hj => by rcases (show j = 0 ∨ j = 1 ∨ j = 2 ∨ j = 3 ∨ j = 4 by omega) with rfl | rfl | rfl | rfl | rfl <;> rfl) ?_
  refine V_dup C dX5_init_8 rfl ?_
  refine V_IN0 (k2 := 25) (s2 := 218) C dX5_init_9 lX5_9 kX2_init rfl rfl (k_X2_init G _ 1) rfl rfl ⟨Nat.le_of_ble_eq_true rfl, Nat.le_of_ble_eq_true rfl⟩ (Nat.le_of_ble_eq_true rfl) (by decide) (by decide) ?_
  refine V_putF (ty := tyX5 0) C dX5_init_12 fX5_10 (by decide) rfl rfl rfl rfl (by decide +kernel) rfl rfl (Nat.le_of_ble_eq_true rfl) rfl ?_
  refine V_aload_n C dX5_init_15 rfl rfl ?_
  refine V_new (kc := 24) (ks := 213) (ci := 2) (fs := [.null, .long (lL 0), .int (iI 0), .int (iI 0), .int (iI 0)]) C dX5_init_16 nX5_7 niX2 rfl tyX2 tyX2_ok (fun j hj => by rcases (show j = 0 ∨ j = 1 ∨ j = 2 ∨ j = 3 ∨ j = 4 by omega) with rfl | rfl | rfl | rfl | rfl <;> rfl) ?_
  refine V_dup C dX5_init_19 rfl ?_
  refine V_IN0 (k2 := 23) (s2 := 207) C dX5_init_20 lX5_9 kX2_init rfl rfl (k_X2_init G _ 3) rfl rfl ⟨Nat.le_of_ble_eq_true rfl, Nat.le_of_ble_eq_true rfl⟩ (Nat.le_of_ble_eq_true rfl) (by decide) (by decide) ?_
  refine V_putF (ty := tyX5 1) C dX5_init_23 fX5_16 (by decide) rfl rfl rfl rfl (by decide +kernel) rfl rfl (Nat.le_of_ble_eq_true rfl) rfl ?_
  refine V_aload_n C dX5_init_26 rfl rfl ?_
  refine V_iconst C dX5_init_27 ?_
  refine V_anew (kc := 22) (ks := 202) (n := 5) C dX5_init_28 nX5_7 rfl (by decide) ?_
  refine V_putF (ty := tyX5 3) C dX5_init_31 fX5_19 (by decide) rfl rfl rfl rfl (by decide +kernel) rfl rfl (Nat.le_of_ble_eq_true rfl) rfl ?_
  refine V_aload_n C dX5_init_34 rfl rfl ?_
  refine V_bipush C dX5_init_35 (by decide +kernel) ?_
  refine V_newchar (kc := 21) (ks := 142) (n := 60) C dX5_init_37 rfl (by decide) ?_
  refine V_putF (ty := tyX5 5) C dX5_init_39 fX5_23 (by decide) rfl rfl rfl rfl (by decide +kernel) rfl rfl (Nat.le_of_ble_eq_true rfl) rfl ?_
  refine V_aload_n C dX5_init_42 rfl rfl ?_
  refine V_new (kc := 20) (ks := 136) (ci := 3) (fs := [.int (iI 0), .int (iI 0), .int (iI 0), .int (iI 0), .int (iI 0), .int (iI 0)]) C dX5_init_43 nX5_27 niX3 rfl tyX3 tyX3_ok (fun j hj => by rcases (show j = 0 ∨ j = 1 ∨ j = 2 ∨ j = 3 ∨ j = 4 ∨ j = 5 by omega) with rfl | rfl | rfl | rfl | rfl | rfl <;> rfl) ?_
  refine V_dup C dX5_init_46 rfl ?_
  refine V_IN0 (k2 := 20) (s2 := 136) C dX5_init_47 lX5_29 kX3_init rfl rfl (k_X3_init G _ 7) rfl rfl ⟨Nat.le_of_ble_eq_true rfl, Nat.le_of_ble_eq_true rfl⟩ (Nat.le_of_ble_eq_true rfl) (by decide) (by decide) ?_
  refine V_putF (ty := tyX5 7) C dX5_init_50 fX5_30 (by decide) rfl rfl rfl rfl (by decide +kernel) rfl rfl (Nat.le_of_ble_eq_true rfl) rfl ?_
  refine V_aload_n C dX5_init_53 rfl rfl ?_
  refine V_new (kc := 19) (ks := 132) (ci := 1) (fs := [.null, .int (iI 0), .int (iI 0), .int (iI 0)]) C dX5_init_54 nX5_34 niX1 rfl tyX1 tyX1_ok (fun j hj => by rcases (show j = 0 ∨ j = 1 ∨ j = 2 ∨ j = 3 by omega) with rfl | rfl | rfl | rfl <;> rfl) ?_
  refine V_dup C dX5_init_57 rfl ?_
  refine V_IN0 (k2 := 18) (s2 := 100) C dX5_init_58 lX5_36 kX1_init rfl rfl (k_X1_init G _ 8) rfl rfl ⟨Nat.le_of_ble_eq_true rfl, Nat.le_of_ble_eq_true rfl⟩ (Nat.le_of_ble_eq_true rfl) (by decide) (by decide) ?_
  refine V_putF (ty := tyX5 8) C dX5_init_61 fX5_37 (by decide) rfl rfl rfl rfl (by decide +kernel) rfl rfl (Nat.le_of_ble_eq_true rfl) rfl ?_
  refine V_aload_n C dX5_init_64 rfl rfl ?_
  refine V_new (kc := 17) (ks := 99) (ci := 0) (fs := [.null]) C dX5_init_65 nX5_41 niX0 rfl tyX0 tyX0_ok (fun j hj => by rcases (show j = 0 by omega) with rfl <;> rfl) ?_
  refine V_dup C dX5_init_68 rfl ?_
  refine V_IN0 (k2 := 16) (s2 := 77) C dX5_init_69 lX5_43 kX0_init rfl rfl (k_X0_init G _ 10) rfl rfl ⟨Nat.le_of_ble_eq_true rfl, Nat.le_of_ble_eq_true rfl⟩ (Nat.le_of_ble_eq_true rfl) (by decide) (by decide) ?_
  refine V_putF (ty := tyX5 9) C dX5_init_72 fX5_44 (by decide) rfl rfl rfl rfl (by decide +kernel) rfl rfl (Nat.le_of_ble_eq_true rfl) rfl ?_
  refine V_aload_n C dX5_init_75 rfl rfl ?_
  refine V_new (kc := 15) (ks := 74) (ci := 4) (fs := [.null, .null, .int (iI 0)]) C dX5_init_76 nX5_48 niX4 rfl tyX4 tyX4_ok (fun j hj => by rcases (show j = 0 ∨ j = 1 ∨ j = 2 by omega) with rfl | rfl | rfl <;> rfl) ?_
  refine V_dup C dX5_init_79 rfl ?_
  refine V_IN0 (k2 := 13) (s2 := 66) C dX5_init_80 lX5_50 kX4_init rfl rfl (k_X4_init G _ 12) rfl rfl ⟨Nat.le_of_ble_eq_true rfl, Nat.le_of_ble_eq_true rfl⟩ (Nat.le_of_ble_eq_true rfl) (by decide) (by decide) ?_
  refine V_putF (ty := tyX5 10) C dX5_init_83 fX5_51 (by decide) rfl rfl rfl rfl (by decide +kernel) rfl rfl (Nat.le_of_ble_eq_true rfl) rfl ?_
  refine V_aload_n C dX5_init_86 rfl rfl ?_
  refine V_new (kc := 12) (ks := 63) (ci := 4) (fs := [.null, .null, .int (iI 0)]) C dX5_init_87 nX5_48 niX4 rfl tyX4 tyX4_ok (fun j hj => by rcases (show j = 0 ∨ j = 1 ∨ j = 2 by omega) with rfl | rfl | rfl <;> rfl) ?_
  refine V_dup C dX5_init_90 rfl ?_
  refine V_IN0 (k2 := 10) (s2 := 55) C dX5_init_91 lX5_50 kX4_init rfl rfl (k_X4_init G _ 15) rfl rfl ⟨Nat.le_of_ble_eq_true rfl, Nat.le_of_ble_eq_true rfl⟩ (Nat.le_of_ble_eq_true rfl) (by decide) (by decide) ?_
  refine V_putF (ty := tyX5 11) C dX5_init_94 fX5_55 (by decide) rfl rfl rfl rfl (by decide +kernel) rfl rfl (Nat.le_of_ble_eq_true rfl) rfl ?_
  refine V_iconst C dX5_init_97 ?_
  refine V_istore_n C dX5_init_98 rfl (Nat.le_of_ble_eq_true rfl) rfl ?_
  refine V_iload_n C dX5_init_99 rfl rfl ?_
  refine V_aload_n C dX5_init_100 rfl rfl ?_
  refine V_getf C dX5_init_101 fX5_19 (by decide) rfl rfl ?_
  refine V_alenR (n := 5) C dX5_init_104 (by decide) rfl ?_
  refine V_icmp_ge (tgt := 127) C dX5_init_105 (by decide) (by decide) (by decide) (fun q => absurd q (by decide)) (fun _ => ?_)
  refine V_aload_n C dX5_init_108 rfl rfl ?_
  refine V_getf C dX5_init_109 fX5_19 (by decide) rfl rfl ?_
  refine V_iload_n C dX5_init_112 rfl rfl ?_
  refine V_new (kc := 9) (ks := 50) (ci := 2) (fs := [.null, .long (lL 0), .int (iI 0), .int (iI 0), .int (iI 0)]) C dX5_init_113 nX5_7 niX2 rfl tyX2 tyX2_ok (fun j hj => by rcases (show j = 0 ∨ j = 1 ∨ j = 2 ∨ j = 3 ∨ j = 4 by omega) with rfl | rfl | rfl | rfl | rfl <;> rfl) ?_
  refine V_dup C dX5_init_116 rfl ?_
  refine V_IN0 (k2 := 8) (s2 := 44) C dX5_init_117 lX5_9 kX2_init rfl rfl (k_X2_init G _ 18) rfl rfl ⟨Nat.le_of_ble_eq_true rfl, Nat.le_of_ble_eq_true rfl⟩ (Nat.le_of_ble_eq_true rfl) (by decide) (by decide) ?_
  refine V_aast (n := 5) C dX5_init_120 (by decide) rfl (by decide) rfl (by decide) (by decide) ?_
  refine V_iinc C dX5_init_121 rfl (Nat.le_of_ble_eq_true rfl) rfl ?_
  refine V_goto (tgt := 99) C dX5_init_124 (by decide) ?_
  refine V_iload_n C dX5_init_99 rfl rfl ?_
  refine V_aload_n C dX5_init_100 rfl rfl ?_
  refine V_getf C dX5_init_101 fX5_19 (by decide) rfl rfl ?_
  refine V_alenR (n := 5) C dX5_init_104 (by decide) rfl ?_
  refine V_icmp_ge (tgt := 127) C dX5_init_105 (by decide) (by decide) (by decide) (fun q => absurd q (by decide)) (fun _ => ?_)
  refine V_aload_n C dX5_init_108 rfl rfl ?_
  refine V_getf C dX5_init_109 fX5_19 (by decide) rfl rfl ?_
  refine V_iload_n C dX5_init_112 rfl rfl ?_
  refine V_new (kc := 7) (ks := 39) (ci := 2) (fs := [.null, .long (lL 0), .int (iI 0), .int (iI 0), .int (iI 0)]) C dX5_init_113 nX5_7 niX2 rfl tyX2 tyX2_ok (fun j hj => by rcases (show j = 0 ∨ j = 1 ∨ j = 2 ∨ j = 3 ∨ j = 4 by omega) with rfl | rfl | rfl | rfl | rfl <;> rfl) ?_
  refine V_dup C dX5_init_116 rfl ?_
  refine V_IN0 (k2 := 6) (s2 := 33) C dX5_init_117 lX5_9 kX2_init rfl rfl (k_X2_init G _ 20) rfl rfl ⟨Nat.le_of_ble_eq_true rfl, Nat.le_of_ble_eq_true rfl⟩ (Nat.le_of_ble_eq_true rfl) (by decide) (by decide) ?_
  refine V_aast (n := 5) C dX5_init_120 (by decide) rfl (by decide) rfl (by decide) (by decide) ?_
  refine V_iinc C dX5_init_121 rfl (Nat.le_of_ble_eq_true rfl) rfl ?_
  refine V_goto (tgt := 99) C dX5_init_124 (by decide) ?_
  refine V_iload_n C dX5_init_99 rfl rfl ?_
  refine V_aload_n C dX5_init_100 rfl rfl ?_
  refine V_getf C dX5_init_101 fX5_19 (by decide) rfl rfl ?_
  refine V_alenR (n := 5) C dX5_init_104 (by decide) rfl ?_
  refine V_icmp_ge (tgt := 127) C dX5_init_105 (by decide) (by decide) (by decide) (fun q => absurd q (by decide)) (fun _ => ?_)
  refine V_aload_n C dX5_init_108 rfl rfl ?_
  refine V_getf C dX5_init_109 fX5_19 (by decide) rfl rfl ?_
  refine V_iload_n C dX5_init_112 rfl rfl ?_
  refine V_new (kc := 5) (ks := 28) (ci := 2) (fs := [.null, .long (lL 0), .int (iI 0), .int (iI 0), .int (iI 0)]) C dX5_init_113 nX5_7 niX2 rfl tyX2 tyX2_ok (fun j hj => by rcases (show j = 0 ∨ j = 1 ∨ j = 2 ∨ j = 3 ∨ j = 4 by omega) with rfl | rfl | rfl | rfl | rfl <;> rfl) ?_
  refine V_dup C dX5_init_116 rfl ?_
  refine V_IN0 (k2 := 4) (s2 := 22) C dX5_init_117 lX5_9 kX2_init rfl rfl (k_X2_init G _ 22) rfl rfl ⟨Nat.le_of_ble_eq_true rfl, Nat.le_of_ble_eq_true rfl⟩ (Nat.le_of_ble_eq_true rfl) (by decide) (by decide) ?_
  refine V_aast (n := 5) C dX5_init_120 (by decide) rfl (by decide) rfl (by decide) (by decide) ?_
  refine V_iinc C dX5_init_121 rfl (Nat.le_of_ble_eq_true rfl) rfl ?_
  refine V_goto (tgt := 99) C dX5_init_124 (by decide) ?_
  refine V_iload_n C dX5_init_99 rfl rfl ?_
  refine V_aload_n C dX5_init_100 rfl rfl ?_
  refine V_getf C dX5_init_101 fX5_19 (by decide) rfl rfl ?_
  refine V_alenR (n := 5) C dX5_init_104 (by decide) rfl ?_
  refine V_icmp_ge (tgt := 127) C dX5_init_105 (by decide) (by decide) (by decide) (fun q => absurd q (by decide)) (fun _ => ?_)
  refine V_aload_n C dX5_init_108 rfl rfl ?_
  refine V_getf C dX5_init_109 fX5_19 (by decide) rfl rfl ?_
  refine V_iload_n C dX5_init_112 rfl rfl ?_
  refine V_new (kc := 3) (ks := 17) (ci := 2) (fs := [.null, .long (lL 0), .int (iI 0), .int (iI 0), .int (iI 0)]) C dX5_init_113 nX5_7 niX2 rfl tyX2 tyX2_ok (fun j hj => by rcases (show j = 0 ∨ j = 1 ∨ j = 2 ∨ j = 3 ∨ j = 4 by omega) with rfl | rfl | rfl | rfl | rfl <;> rfl) ?_
  refine V_dup C dX5_init_116 rfl ?_
  refine V_IN0 (k2 := 2) (s2 := 11) C dX5_init_117 lX5_9 kX2_init rfl rfl (k_X2_init G _ 24) rfl rfl ⟨Nat.le_of_ble_eq_true rfl, Nat.le_of_ble_eq_true rfl⟩ (Nat.le_of_ble_eq_true rfl) (by decide) (by decide) ?_
  refine V_aast (n := 5) C dX5_init_120 (by decide) rfl (by decide) rfl (by decide) (by decide) ?_
  refine V_iinc C dX5_init_121 rfl (Nat.le_of_ble_eq_true rfl) rfl ?_
  refine V_goto (tgt := 99) C dX5_init_124 (by decide) ?_
  refine V_iload_n C dX5_init_99 rfl rfl ?_
  refine V_aload_n C dX5_init_100 rfl rfl ?_
  refine V_getf C dX5_init_101 fX5_19 (by decide) rfl rfl ?_
  refine V_alenR (n := 5) C dX5_init_104 (by decide) rfl ?_
  refine V_icmp_ge (tgt := 127) C dX5_init_105 (by decide) (by decide) (by decide) (fun q => absurd q (by decide)) (fun _ => ?_)
  refine V_aload_n C dX5_init_108 rfl rfl ?_
  refine V_getf C dX5_init_109 fX5_19 (by decide) rfl rfl ?_
  refine V_iload_n C dX5_init_112 rfl rfl ?_
  refine V_new (kc := 1) (ks := 6) (ci := 2) (fs := [.null, .long (lL 0), .int (iI 0), .int (iI 0), .int (iI 0)]) C dX5_init_113 nX5_7 niX2 rfl tyX2 tyX2_ok (fun j hj => by rcases (show j = 0 ∨ j = 1 ∨ j = 2 ∨ j = 3 ∨ j = 4 by omega) with rfl | rfl | rfl | rfl | rfl <;> rfl) ?_
  refine V_dup C dX5_init_116 rfl ?_
  refine V_IN0 (k2 := 0) (s2 := 0) C dX5_init_117 lX5_9 kX2_init rfl rfl (k_X2_init G _ 26) rfl rfl ⟨Nat.le_of_ble_eq_true rfl, Nat.le_of_ble_eq_true rfl⟩ (Nat.le_of_ble_eq_true rfl) (by decide) (by decide) ?_
  refine V_aast (n := 5) C dX5_init_120 (by decide) rfl (by decide) rfl (by decide) (by decide) ?_
  refine V_iinc C dX5_init_121 rfl (Nat.le_of_ble_eq_true rfl) rfl ?_
  refine V_goto (tgt := 99) C dX5_init_124 (by decide) ?_
  refine V_iload_n C dX5_init_99 rfl rfl ?_
  refine V_aload_n C dX5_init_100 rfl rfl ?_
  refine V_getf C dX5_init_101 fX5_19 (by decide) rfl rfl ?_
  refine V_alenR (n := 5) C dX5_init_104 (by decide) rfl ?_
  refine V_icmp_ge (tgt := 127) C dX5_init_105 (by decide) (by decide) (by decide) (fun _ => ?_) (fun q => absurd q (by decide))
  refine V_ext (h' := HP G K00 r00) (fun q hq H0 w => ?_) ?_
  · exact match q, hq, w with
    | 0, _, w => w
    | 1, _, w => w
    | 2, _, w => w
    | 3, _, w => w
    | 4, _, w => w
    | 5, _, w => w
    | 6, _, w => w
    | 7, _, w => w
    | 8, _, w => w
    | 9, _, w => w
    | 10, _, w => w
    | 11, _, w => w
    | 12, _, w => w
    | 13, _, w => w
    | 14, _, w => w
    | 15, _, w => w
    | 16, _, w => w
    | 17, _, w => w
    | 18, _, w => w
    | 19, _, w => w
    | 20, _, w => w
    | 21, _, w => w
    | 22, _, w => w
    | 23, _, w => w
    | 24, _, w => w
    | 25, _, w => w
    | 26, _, w => w
    | 27, _, w => w
    | n + 28, hq, _ => absurd hq (by omega)
  · exact V_vret C dX5_init_127 rfl hZ rfl
