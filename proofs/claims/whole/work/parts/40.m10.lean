theorem kT_29 (K : Nat → Nat → Int) (v : Int) : kT K v 29 = K 29 := rfl
theorem kT_30 (K : Nat → Nat → Int) (v : Int) : kT K v 30 = K 30 := rfl
theorem kT_1 (K : Nat → Nat → Int) (v : Int) : kT K v 28 1 = K 28 1 := rfl
theorem kT_2 (K : Nat → Nat → Int) (v : Int) : kT K v 28 2 = K 28 2 := rfl
theorem kT_5 (K : Nat → Nat → Int) (v : Int) : kT K v 28 5 = K 28 5 := rfl
theorem kS_29 (K : Nat → Nat → Int) (st : Nat) : kS K st 29 = svS (K 29) st := rfl
theorem s_X6_saves (G : GT) (K : Nat → Nat → Int) (r : Nat → Option Nat) (st : Nat) (hs : st ≤ 5) (hst : K 28 1 = st) : CtO G yX6_saves mX6_saves [rf G 28] K r none (kS K st) r := c_X6_saves G K r st hs hst
set_option maxRecDepth 100000 in
set_option maxHeartbeats 4000000 in
theorem n_X6_worthOf (G : GT) (K : Nat → Nat → Int) (r : Nat → Option Nat)  (p : Int) (hp : -2147483648 ≤ p ∧ p < 2147483648) (hc : ¬ (0 ≤ p ∧ p ≤ 17)) : CtO G yX6_worthOf mX6_worthOf [rf G 28, .int (iI p)] K r (some (.int (iI 0))) (kT K 1) (r) := by
  refine Ct_of kX6_worthOf.1.1 (by decide) [some (rf G 28), some (.int (iI p))] rfl (Nat.le_of_ble_eq_true rfl) ?_
  intro x C hZ
  refine V_aload_n C dX6_worthOf_0 rfl rfl ?_
  refine V_iload_n C dX6_worthOf_1 rfl rfl ?_
  refine V_iconst C dX6_worthOf_2 ?_
  refine V_bipush C dX6_worthOf_3 (by decide +kernel) ?_
  refine V_S1 (k2 := 0) (s2 := 0) C dX6_worthOf_5 lX6_57 kX6_in (Ct_v (b2n (show ¬ (0 ≤ p ∧ p ≤ 17) from by omega)) (c_X6_in p 0 17 (by omega) (by omega) (by omega) G 34 false _)) rfl rfl ⟨Nat.le_of_ble_eq_true rfl, Nat.le_of_ble_eq_true rfl⟩ (Nat.le_of_ble_eq_true rfl) (Nat.le_refl _) (Nat.le_refl _) ?_
  refine V_iconst C dX6_worthOf_8 ?_
  refine V_iconst C dX6_worthOf_9 ?_
  refine V_V1 (k2 := 0) (s2 := 0) C dX6_worthOf_10 lX6_68 kX6_goes (Ct_v (v' := 0) rfl (c_X6_goes G _ r false true true)) (by decide) (rfl) rfl rfl rfl ⟨Nat.le_of_ble_eq_true rfl, Nat.le_of_ble_eq_true rfl⟩ (Nat.le_of_ble_eq_true rfl) (Nat.le_refl _) (Nat.le_refl _) ?_
  refine V_if_eq (tgt := 23) C dX6_worthOf_13 (by decide) (by omega) (fun q13 => ?_) (fun q13 => by exfalso; omega)
  refine V_iconst C dX6_worthOf_23 ?_
  exact V_iret C dX6_worthOf_24 rfl hZ (by first | rfl | omega) rfl
set_option maxRecDepth 100000 in
set_option maxHeartbeats 4000000 in
theorem c_X6_worthOf (G : GT) (K : Nat → Nat → Int) (r : Nat → Option Nat)  (p : Int) (hp : -2147483648 ≤ p ∧ p < 2147483648) (hc : 0 ≤ p ∧ p ≤ 17) : CtO G yX6_worthOf mX6_worthOf [rf G 28, .int (iI p)] K r (some (.int (iI (wN p.toNat : Nat)))) (kT K 0) (r) := by
  refine Ct_of kX6_worthOf.1.1 (by decide) [some (rf G 28), some (.int (iI p))] rfl (Nat.le_of_ble_eq_true rfl) ?_
  intro x C hZ
  have hp1 : ((p.toNat : Nat) : Int) = p := by omega
  refine V_aload_n C dX6_worthOf_0 rfl rfl ?_
  refine V_iload_n C dX6_worthOf_1 rfl rfl ?_
  refine V_iconst C dX6_worthOf_2 ?_
  refine V_bipush C dX6_worthOf_3 (by decide +kernel) ?_
  refine V_S1 (k2 := 0) (s2 := 0) C dX6_worthOf_5 lX6_57 kX6_in (Ct_v (b2y (show 0 ≤ p ∧ p ≤ 17 from by omega)) (c_X6_in p 0 17 (by omega) (by omega) (by omega) G 34 false _)) rfl rfl ⟨Nat.le_of_ble_eq_true rfl, Nat.le_of_ble_eq_true rfl⟩ (Nat.le_of_ble_eq_true rfl) (Nat.le_refl _) (Nat.le_refl _) ?_
  refine V_iconst C dX6_worthOf_8 ?_
  refine V_iconst C dX6_worthOf_9 ?_
  refine V_V1 (k2 := 0) (s2 := 0) C dX6_worthOf_10 lX6_68 kX6_goes (Ct_v (v' := 1) rfl (c_X6_goes G _ r true true true)) (by decide) (rfl) rfl rfl rfl ⟨Nat.le_of_ble_eq_true rfl, Nat.le_of_ble_eq_true rfl⟩ (Nat.le_of_ble_eq_true rfl) (Nat.le_refl _) (Nat.le_refl _) ?_
  refine V_if_eq (tgt := 23) C dX6_worthOf_13 (by decide) (by omega) (fun q13 => by exfalso; omega) (fun q13 => ?_)
  refine V_iload_n C dX6_worthOf_16 rfl rfl ?_
  rw [← hp1]
  refine V_S1 (k2 := 0) (s2 := 0) C dX6_worthOf_17 lX6_33 kX6_worth (c_X6_worth p.toNat (by omega) G 34 false _) rfl rfl ⟨Nat.le_of_ble_eq_true rfl, Nat.le_of_ble_eq_true rfl⟩ (Nat.le_of_ble_eq_true rfl) (Nat.le_refl _) (Nat.le_refl _) ?_
  refine V_goto (tgt := 24) C dX6_worthOf_20 (by decide) ?_
  exact V_iret C dX6_worthOf_24 rfl hZ (by first | rfl | omega) rfl
set_option maxRecDepth 100000 in
set_option maxHeartbeats 4000000 in
theorem n_X6_worthOfSet (G : GT) (K : Nat → Nat → Int) (r : Nat → Option Nat)  (p : Int) (hp : -2147483648 ≤ p ∧ p < 2147483648) (hc : ¬ (0 ≤ p ∧ p ≤ 262143)) : CtO G yX6_worthOfSet mX6_worthOfSet [rf G 28, .int (iI p)] K r (some (.int (iI 0))) (kT K 1) (r) := by
  refine Ct_of kX6_worthOfSet.1.1 (by decide) [some (rf G 28), some (.int (iI p))] rfl (Nat.le_of_ble_eq_true rfl) ?_
  intro x C hZ
  refine V_aload_n C dX6_worthOfSet_0 rfl rfl ?_
  refine V_iload_n C dX6_worthOfSet_1 rfl rfl ?_
  refine V_iconst C dX6_worthOfSet_2 ?_
  refine V_ldc (n := 262143) C dX6_worthOfSet_3 qX6_149 rfl ?_
  refine V_S1 (k2 := 0) (s2 := 0) C dX6_worthOfSet_5 lX6_57 kX6_in (Ct_v (b2n (show ¬ (0 ≤ p ∧ p ≤ 262143) from by omega)) (c_X6_in p 0 262143 (by omega) (by omega) (by omega) G 34 false _)) rfl rfl ⟨Nat.le_of_ble_eq_true rfl, Nat.le_of_ble_eq_true rfl⟩ (Nat.le_of_ble_eq_true rfl) (Nat.le_refl _) (Nat.le_refl _) ?_
  refine V_iconst C dX6_worthOfSet_8 ?_
  refine V_iconst C dX6_worthOfSet_9 ?_
  refine V_V1 (k2 := 0) (s2 := 0) C dX6_worthOfSet_10 lX6_68 kX6_goes (Ct_v (v' := 0) rfl (c_X6_goes G _ r false true true)) (by decide) (rfl) rfl rfl rfl ⟨Nat.le_of_ble_eq_true rfl, Nat.le_of_ble_eq_true rfl⟩ (Nat.le_of_ble_eq_true rfl) (Nat.le_refl _) (Nat.le_refl _) ?_
  refine V_if_eq (tgt := 23) C dX6_worthOfSet_13 (by decide) (by omega) (fun q13 => ?_) (fun q13 => by exfalso; omega)
  refine V_iconst C dX6_worthOfSet_23 ?_
  exact V_iret C dX6_worthOfSet_24 rfl hZ (by first | rfl | omega) rfl
set_option maxRecDepth 100000 in
set_option maxHeartbeats 4000000 in
theorem c_X6_worthOfSet (G : GT) (K : Nat → Nat → Int) (r : Nat → Option Nat)  (p : Int) (hp : -2147483648 ≤ p ∧ p < 2147483648) (hc : 0 ≤ p ∧ p ≤ 262143) : CtO G yX6_worthOfSet mX6_worthOfSet [rf G 28, .int (iI p)] K r (some (.int (iI (wo 22 p.toNat : Nat)))) (kT K 0) (r) := by
  refine Ct_of kX6_worthOfSet.1.1 (by decide) [some (rf G 28), some (.int (iI p))] rfl (Nat.le_of_ble_eq_true rfl) ?_
  intro x C hZ
  have hp1 : ((p.toNat : Nat) : Int) = p := by omega
  refine V_aload_n C dX6_worthOfSet_0 rfl rfl ?_
  refine V_iload_n C dX6_worthOfSet_1 rfl rfl ?_
  refine V_iconst C dX6_worthOfSet_2 ?_
  refine V_ldc (n := 262143) C dX6_worthOfSet_3 qX6_149 rfl ?_
  refine V_S1 (k2 := 0) (s2 := 0) C dX6_worthOfSet_5 lX6_57 kX6_in (Ct_v (b2y (show 0 ≤ p ∧ p ≤ 262143 from by omega)) (c_X6_in p 0 262143 (by omega) (by omega) (by omega) G 34 false _)) rfl rfl ⟨Nat.le_of_ble_eq_true rfl, Nat.le_of_ble_eq_true rfl⟩ (Nat.le_of_ble_eq_true rfl) (Nat.le_refl _) (Nat.le_refl _) ?_
  refine V_iconst C dX6_worthOfSet_8 ?_
  refine V_iconst C dX6_worthOfSet_9 ?_
  refine V_V1 (k2 := 0) (s2 := 0) C dX6_worthOfSet_10 lX6_68 kX6_goes (Ct_v (v' := 1) rfl (c_X6_goes G _ r true true true)) (by decide) (rfl) rfl rfl rfl ⟨Nat.le_of_ble_eq_true rfl, Nat.le_of_ble_eq_true rfl⟩ (Nat.le_of_ble_eq_true rfl) (Nat.le_refl _) (Nat.le_refl _) ?_
  refine V_if_eq (tgt := 23) C dX6_worthOfSet_13 (by decide) (by omega) (fun q13 => by exfalso; omega) (fun q13 => ?_)
  refine V_iload_n C dX6_worthOfSet_16 rfl rfl ?_
  rw [← hp1]
  refine V_S1 (k2 := 0) (s2 := 0) C dX6_worthOfSet_17 lX6_37 kX6_worths (c_X6_worths p.toNat (by omega) G 34 false _) rfl rfl ⟨Nat.le_of_ble_eq_true rfl, Nat.le_of_ble_eq_true rfl⟩ (Nat.le_of_ble_eq_true rfl) (Nat.le_refl _) (Nat.le_refl _) ?_
  refine V_goto (tgt := 24) C dX6_worthOfSet_20 (by decide) ?_
  exact V_iret C dX6_worthOfSet_24 rfl hZ (by first | rfl | omega) rfl
set_option maxRecDepth 100000 in
set_option maxHeartbeats 4000000 in
theorem n_X6_say (G : GT) (K : Nat → Nat → Int) (r : Nat → Option Nat)  (p : Int) (hp : -2147483648 ≤ p ∧ p < 2147483648) (hc : ¬ (0 ≤ p ∧ p ≤ 6764)) : CtO G yX6_say mX6_say [rf G 28, .int (iI p)] K r (some (.int (iI 0))) (kT K 1) (r) := by
  refine Ct_of kX6_say.1.1 (by decide) [some (rf G 28), some (.int (iI p))] rfl (Nat.le_of_ble_eq_true rfl) ?_
  intro x C hZ
  refine V_aload_n C dX6_say_0 rfl rfl ?_
  refine V_iload_n C dX6_say_1 rfl rfl ?_
  refine V_S1 (k2 := 0) (s2 := 0) C dX6_say_2 lX6_65 kX6_isNumber (Ct_v (b2n (show ¬ (0 ≤ p ∧ p ≤ 6764) from by omega)) (c_X6_isNumber p (by omega) G 34 false _)) rfl rfl ⟨Nat.le_of_ble_eq_true rfl, Nat.le_of_ble_eq_true rfl⟩ (Nat.le_of_ble_eq_true rfl) (Nat.le_refl _) (Nat.le_refl _) ?_
  refine V_iconst C dX6_say_5 ?_
  refine V_iconst C dX6_say_6 ?_
  refine V_V1 (k2 := 0) (s2 := 0) C dX6_say_7 lX6_68 kX6_goes (Ct_v (v' := 0) rfl (c_X6_goes G _ r false true true)) (by decide) (rfl) rfl rfl rfl ⟨Nat.le_of_ble_eq_true rfl, Nat.le_of_ble_eq_true rfl⟩ (Nat.le_of_ble_eq_true rfl) (Nat.le_refl _) (Nat.le_refl _) ?_
  refine V_if_eq (tgt := 20) C dX6_say_10 (by decide) (by omega) (fun q10 => ?_) (fun q10 => by exfalso; omega)
  refine V_iconst C dX6_say_20 ?_
  exact V_iret C dX6_say_21 rfl hZ (by first | rfl | omega) rfl
set_option maxRecDepth 100000 in
set_option maxHeartbeats 4000000 in
theorem c_X6_say (G : GT) (K : Nat → Nat → Int) (r : Nat → Option Nat)  (p : Int) (hp : -2147483648 ≤ p ∧ p < 2147483648) (hc : 0 ≤ p ∧ p ≤ 6764) : CtO G yX6_say mX6_say [rf G 28, .int (iI p)] K r (some (.int (iI (gm 18 p.toNat : Nat)))) (kT K 0) (r) := by
  refine Ct_of kX6_say.1.1 (by decide) [some (rf G 28), some (.int (iI p))] rfl (Nat.le_of_ble_eq_true rfl) ?_
  intro x C hZ
  refine V_aload_n C dX6_say_0 rfl rfl ?_
  refine V_iload_n C dX6_say_1 rfl rfl ?_
  refine V_S1 (k2 := 0) (s2 := 0) C dX6_say_2 lX6_65 kX6_isNumber (Ct_v (b2y (show 0 ≤ p ∧ p ≤ 6764 from by omega)) (c_X6_isNumber p (by omega) G 34 false _)) rfl rfl ⟨Nat.le_of_ble_eq_true rfl, Nat.le_of_ble_eq_true rfl⟩ (Nat.le_of_ble_eq_true rfl) (Nat.le_refl _) (Nat.le_refl _) ?_
  refine V_iconst C dX6_say_5 ?_
  refine V_iconst C dX6_say_6 ?_
  refine V_V1 (k2 := 0) (s2 := 0) C dX6_say_7 lX6_68 kX6_goes (Ct_v (v' := 1) rfl (c_X6_goes G _ r true true true)) (by decide) (rfl) rfl rfl rfl ⟨Nat.le_of_ble_eq_true rfl, Nat.le_of_ble_eq_true rfl⟩ (Nat.le_of_ble_eq_true rfl) (Nat.le_refl _) (Nat.le_refl _) ?_
  refine V_if_eq (tgt := 20) C dX6_say_10 (by decide) (by omega) (fun q10 => by exfalso; omega) (fun q10 => ?_)
  refine V_iload_n C dX6_say_13 rfl rfl ?_
  refine V_S1 (k2 := 0) (s2 := 0) C dX6_say_14 lX6_40 kX6_said (i_X6_said G 34 false _ p hc) rfl rfl ⟨Nat.le_of_ble_eq_true rfl, Nat.le_of_ble_eq_true rfl⟩ (Nat.le_of_ble_eq_true rfl) (Nat.le_refl _) (Nat.le_refl _) ?_
  refine V_goto (tgt := 21) C dX6_say_17 (by decide) ?_
  exact V_iret C dX6_say_21 rfl hZ (by first | rfl | omega) rfl
set_option maxRecDepth 100000 in
set_option maxHeartbeats 4000000 in
theorem n_X6_sayByCounting (G : GT) (K : Nat → Nat → Int) (r : Nat → Option Nat)  (p : Int) (hp : -2147483648 ≤ p ∧ p < 2147483648) (hc : ¬ (0 ≤ p ∧ p ≤ 6764)) : CtO G yX6_sayByCounting mX6_sayByCounting [rf G 28, .int (iI p)] K r (some (.int (iI 0))) (kT K 1) (r) := by
  refine Ct_of kX6_sayByCounting.1.1 (by decide) [some (rf G 28), some (.int (iI p))] rfl (Nat.le_of_ble_eq_true rfl) ?_
  intro x C hZ
  refine V_aload_n C dX6_sayByCounting_0 rfl rfl ?_
  refine V_iload_n C dX6_sayByCounting_1 rfl rfl ?_
  refine V_S1 (k2 := 0) (s2 := 0) C dX6_sayByCounting_2 lX6_65 kX6_isNumber (Ct_v (b2n (show ¬ (0 ≤ p ∧ p ≤ 6764) from by omega)) (c_X6_isNumber p (by omega) G 34 false _)) rfl rfl ⟨Nat.le_of_ble_eq_true rfl, Nat.le_of_ble_eq_true rfl⟩ (Nat.le_of_ble_eq_true rfl) (Nat.le_refl _) (Nat.le_refl _) ?_
  refine V_iconst C dX6_sayByCounting_5 ?_
  refine V_iconst C dX6_sayByCounting_6 ?_
  refine V_V1 (k2 := 0) (s2 := 0) C dX6_sayByCounting_7 lX6_68 kX6_goes (Ct_v (v' := 0) rfl (c_X6_goes G _ r false true true)) (by decide) (rfl) rfl rfl rfl ⟨Nat.le_of_ble_eq_true rfl, Nat.le_of_ble_eq_true rfl⟩ (Nat.le_of_ble_eq_true rfl) (Nat.le_refl _) (Nat.le_refl _) ?_
  refine V_if_eq (tgt := 20) C dX6_sayByCounting_10 (by decide) (by omega) (fun q10 => ?_) (fun q10 => by exfalso; omega)
  refine V_iconst C dX6_sayByCounting_20 ?_
  exact V_iret C dX6_sayByCounting_21 rfl hZ (by first | rfl | omega) rfl
set_option maxRecDepth 100000 in
set_option maxHeartbeats 4000000 in
theorem c_X6_sayByCounting (G : GT) (K : Nat → Nat → Int) (r : Nat → Option Nat)  (p : Int) (hp : -2147483648 ≤ p ∧ p < 2147483648) (hc : 0 ≤ p ∧ p ≤ 6764) : CtO G yX6_sayByCounting mX6_sayByCounting [rf G 28, .int (iI p)] K r (some (.int (iI (gm 18 p.toNat : Nat)))) (kT K 0) (r) := by
  refine Ct_of kX6_sayByCounting.1.1 (by decide) [some (rf G 28), some (.int (iI p))] rfl (Nat.le_of_ble_eq_true rfl) ?_
  intro x C hZ
  refine V_aload_n C dX6_sayByCounting_0 rfl rfl ?_
  refine V_iload_n C dX6_sayByCounting_1 rfl rfl ?_
  refine V_S1 (k2 := 0) (s2 := 0) C dX6_sayByCounting_2 lX6_65 kX6_isNumber (Ct_v (b2y (show 0 ≤ p ∧ p ≤ 6764 from by omega)) (c_X6_isNumber p (by omega) G 34 false _)) rfl rfl ⟨Nat.le_of_ble_eq_true rfl, Nat.le_of_ble_eq_true rfl⟩ (Nat.le_of_ble_eq_true rfl) (Nat.le_refl _) (Nat.le_refl _) ?_
  refine V_iconst C dX6_sayByCounting_5 ?_
  refine V_iconst C dX6_sayByCounting_6 ?_
  refine V_V1 (k2 := 0) (s2 := 0) C dX6_sayByCounting_7 lX6_68 kX6_goes (Ct_v (v' := 1) rfl (c_X6_goes G _ r true true true)) (by decide) (rfl) rfl rfl rfl ⟨Nat.le_of_ble_eq_true rfl, Nat.le_of_ble_eq_true rfl⟩ (Nat.le_of_ble_eq_true rfl) (Nat.le_refl _) (Nat.le_refl _) ?_
  refine V_if_eq (tgt := 20) C dX6_sayByCounting_10 (by decide) (by omega) (fun q10 => by exfalso; omega) (fun q10 => ?_)
  refine V_iload_n C dX6_sayByCounting_13 rfl rfl ?_
  refine V_S1 (k2 := 0) (s2 := 0) C dX6_sayByCounting_14 lX6_40 kX6_said (i_X6_said G 34 false _ p hc) rfl rfl ⟨Nat.le_of_ble_eq_true rfl, Nat.le_of_ble_eq_true rfl⟩ (Nat.le_of_ble_eq_true rfl) (Nat.le_refl _) (Nat.le_refl _) ?_
  refine V_goto (tgt := 21) C dX6_sayByCounting_17 (by decide) ?_
  exact V_iret C dX6_sayByCounting_21 rfl hZ (by first | rfl | omega) rfl
set_option maxRecDepth 100000 in
set_option maxHeartbeats 4000000 in
theorem n_X6_fullSet (G : GT) (K : Nat → Nat → Int) (r : Nat → Option Nat)  (p : Int) (hp : -2147483648 ≤ p ∧ p < 2147483648) (hc : ¬ (0 ≤ p ∧ p ≤ 6764)) : CtO G yX6_fullSet mX6_fullSet [rf G 28, .int (iI p)] K r (some (.int (iI 0))) (kT K 1) (r) := by
  refine Ct_of kX6_fullSet.1.1 (by decide) [some (rf G 28), some (.int (iI p))] rfl (Nat.le_of_ble_eq_true rfl) ?_
  intro x C hZ
  refine V_aload_n C dX6_fullSet_0 rfl rfl ?_
  refine V_iload_n C dX6_fullSet_1 rfl rfl ?_
  refine V_S1 (k2 := 0) (s2 := 0) C dX6_fullSet_2 lX6_65 kX6_isNumber (Ct_v (b2n (show ¬ (0 ≤ p ∧ p ≤ 6764) from by omega)) (c_X6_isNumber p (by omega) G 34 false _)) rfl rfl ⟨Nat.le_of_ble_eq_true rfl, Nat.le_of_ble_eq_true rfl⟩ (Nat.le_of_ble_eq_true rfl) (Nat.le_refl _) (Nat.le_refl _) ?_
  refine V_iconst C dX6_fullSet_5 ?_
  refine V_iconst C dX6_fullSet_6 ?_
  refine V_V1 (k2 := 0) (s2 := 0) C dX6_fullSet_7 lX6_68 kX6_goes (Ct_v (v' := 0) rfl (c_X6_goes G _ r false true true)) (by decide) (rfl) rfl rfl rfl ⟨Nat.le_of_ble_eq_true rfl, Nat.le_of_ble_eq_true rfl⟩ (Nat.le_of_ble_eq_true rfl) (Nat.le_refl _) (Nat.le_refl _) ?_
  refine V_if_eq (tgt := 20) C dX6_fullSet_10 (by decide) (by omega) (fun q10 => ?_) (fun q10 => by exfalso; omega)
  refine V_iconst C dX6_fullSet_20 ?_
  exact V_iret C dX6_fullSet_21 rfl hZ (by first | rfl | omega) rfl
set_option maxRecDepth 100000 in
set_option maxHeartbeats 4000000 in
theorem c_X6_fullSet (G : GT) (K : Nat → Nat → Int) (r : Nat → Option Nat)  (p : Int) (hp : -2147483648 ≤ p ∧ p < 2147483648) (hc : 0 ≤ p ∧ p ≤ 6764) : CtO G yX6_fullSet mX6_fullSet [rf G 28, .int (iI p)] K r (some (.int (iI (fm 18 p.toNat : Nat)))) (kT K 0) (r) := by
  refine Ct_of kX6_fullSet.1.1 (by decide) [some (rf G 28), some (.int (iI p))] rfl (Nat.le_of_ble_eq_true rfl) ?_
  intro x C hZ
  refine V_aload_n C dX6_fullSet_0 rfl rfl ?_
  refine V_iload_n C dX6_fullSet_1 rfl rfl ?_
  refine V_S1 (k2 := 0) (s2 := 0) C dX6_fullSet_2 lX6_65 kX6_isNumber (Ct_v (b2y (show 0 ≤ p ∧ p ≤ 6764 from by omega)) (c_X6_isNumber p (by omega) G 34 false _)) rfl rfl ⟨Nat.le_of_ble_eq_true rfl, Nat.le_of_ble_eq_true rfl⟩ (Nat.le_of_ble_eq_true rfl) (Nat.le_refl _) (Nat.le_refl _) ?_
  refine V_iconst C dX6_fullSet_5 ?_
  refine V_iconst C dX6_fullSet_6 ?_
  refine V_V1 (k2 := 0) (s2 := 0) C dX6_fullSet_7 lX6_68 kX6_goes (Ct_v (v' := 1) rfl (c_X6_goes G _ r true true true)) (by decide) (rfl) rfl rfl rfl ⟨Nat.le_of_ble_eq_true rfl, Nat.le_of_ble_eq_true rfl⟩ (Nat.le_of_ble_eq_true rfl) (Nat.le_refl _) (Nat.le_refl _) ?_
  refine V_if_eq (tgt := 20) C dX6_fullSet_10 (by decide) (by omega) (fun q10 => by exfalso; omega) (fun q10 => ?_)
  refine V_iload_n C dX6_fullSet_13 rfl rfl ?_
  refine V_S1 (k2 := 0) (s2 := 0) C dX6_fullSet_14 lX6_150 kX6_full (i_X6_full G 34 false _ p hc) rfl rfl ⟨Nat.le_of_ble_eq_true rfl, Nat.le_of_ble_eq_true rfl⟩ (Nat.le_of_ble_eq_true rfl) (Nat.le_refl _) (Nat.le_refl _) ?_
  refine V_goto (tgt := 21) C dX6_fullSet_17 (by decide) ?_
  exact V_iret C dX6_fullSet_21 rfl hZ (by first | rfl | omega) rfl
set_option maxRecDepth 100000 in
set_option maxHeartbeats 4000000 in
theorem n_X6_ways (G : GT) (K : Nat → Nat → Int) (r : Nat → Option Nat)  (p : Int) (hp : -2147483648 ≤ p ∧ p < 2147483648) (hc : ¬ (0 ≤ p ∧ p ≤ 6764)) : CtO G yX6_ways mX6_ways [rf G 28, .int (iI p)] K r (some (.int (iI 0))) (kT K 1) (r) := by
  refine Ct_of kX6_ways.1.1 (by decide) [some (rf G 28), some (.int (iI p))] rfl (Nat.le_of_ble_eq_true rfl) ?_
  intro x C hZ
  refine V_aload_n C dX6_ways_0 rfl rfl ?_
  refine V_iload_n C dX6_ways_1 rfl rfl ?_
  refine V_S1 (k2 := 0) (s2 := 0) C dX6_ways_2 lX6_65 kX6_isNumber (Ct_v (b2n (show ¬ (0 ≤ p ∧ p ≤ 6764) from by omega)) (c_X6_isNumber p (by omega) G 34 false _)) rfl rfl ⟨Nat.le_of_ble_eq_true rfl, Nat.le_of_ble_eq_true rfl⟩ (Nat.le_of_ble_eq_true rfl) (Nat.le_refl _) (Nat.le_refl _) ?_
  refine V_iconst C dX6_ways_5 ?_
  refine V_iconst C dX6_ways_6 ?_
  refine V_V1 (k2 := 0) (s2 := 0) C dX6_ways_7 lX6_68 kX6_goes (Ct_v (v' := 0) rfl (c_X6_goes G _ r false true true)) (by decide) (rfl) rfl rfl rfl ⟨Nat.le_of_ble_eq_true rfl, Nat.le_of_ble_eq_true rfl⟩ (Nat.le_of_ble_eq_true rfl) (Nat.le_refl _) (Nat.le_refl _) ?_
  refine V_if_eq (tgt := 20) C dX6_ways_10 (by decide) (by omega) (fun q10 => ?_) (fun q10 => by exfalso; omega)
  refine V_iconst C dX6_ways_20 ?_
  exact V_iret C dX6_ways_21 rfl hZ (by first | rfl | omega) rfl
set_option maxRecDepth 100000 in
set_option maxHeartbeats 4000000 in
theorem c_X6_ways (G : GT) (K : Nat → Nat → Int) (r : Nat → Option Nat)  (p : Int) (hp : -2147483648 ≤ p ∧ p < 2147483648) (hc : 0 ≤ p ∧ p ≤ 6764) : CtO G yX6_ways mX6_ways [rf G 28, .int (iI p)] K r (some (.int (iI (cw (gm 18 p.toNat))))) (kT K 0) (r) := by
  refine Ct_of kX6_ways.1.1 (by decide) [some (rf G 28), some (.int (iI p))] rfl (Nat.le_of_ble_eq_true rfl) ?_
  intro x C hZ
  refine V_aload_n C dX6_ways_0 rfl rfl ?_
  refine V_iload_n C dX6_ways_1 rfl rfl ?_
  refine V_S1 (k2 := 0) (s2 := 0) C dX6_ways_2 lX6_65 kX6_isNumber (Ct_v (b2y (show 0 ≤ p ∧ p ≤ 6764 from by omega)) (c_X6_isNumber p (by omega) G 34 false _)) rfl rfl ⟨Nat.le_of_ble_eq_true rfl, Nat.le_of_ble_eq_true rfl⟩ (Nat.le_of_ble_eq_true rfl) (Nat.le_refl _) (Nat.le_refl _) ?_
  refine V_iconst C dX6_ways_5 ?_
  refine V_iconst C dX6_ways_6 ?_
  refine V_V1 (k2 := 0) (s2 := 0) C dX6_ways_7 lX6_68 kX6_goes (Ct_v (v' := 1) rfl (c_X6_goes G _ r true true true)) (by decide) (rfl) rfl rfl rfl ⟨Nat.le_of_ble_eq_true rfl, Nat.le_of_ble_eq_true rfl⟩ (Nat.le_of_ble_eq_true rfl) (Nat.le_refl _) (Nat.le_refl _) ?_
  refine V_if_eq (tgt := 20) C dX6_ways_10 (by decide) (by omega) (fun q10 => by exfalso; omega) (fun q10 => ?_)
  refine V_iload_n C dX6_ways_13 rfl rfl ?_
  refine V_S1 (k2 := 0) (s2 := 0) C dX6_ways_14 lX6_153 kX6_countWays (i_X6_countWays G 34 false _ p hc) rfl rfl ⟨Nat.le_of_ble_eq_true rfl, Nat.le_of_ble_eq_true rfl⟩ (Nat.le_of_ble_eq_true rfl) (Nat.le_refl _) (Nat.le_refl _) ?_
  refine V_goto (tgt := 21) C dX6_ways_17 (by decide) ?_
  exact V_iret C dX6_ways_21 rfl hZ (by first | rfl | omega) rfl
set_option maxRecDepth 100000 in
set_option maxHeartbeats 4000000 in
theorem n_X6_waysByGaps (G : GT) (K : Nat → Nat → Int) (r : Nat → Option Nat)  (p : Int) (hp : -2147483648 ≤ p ∧ p < 2147483648) (hc : ¬ (0 ≤ p ∧ p ≤ 6764)) : CtO G yX6_waysByGaps mX6_waysByGaps [rf G 28, .int (iI p)] K r (some (.int (iI 0))) (kT K 1) (r) := by
  refine Ct_of kX6_waysByGaps.1.1 (by decide) [some (rf G 28), some (.int (iI p))] rfl (Nat.le_of_ble_eq_true rfl) ?_
  intro x C hZ
  refine V_aload_n C dX6_waysByGaps_0 rfl rfl ?_
  refine V_iload_n C dX6_waysByGaps_1 rfl rfl ?_
  refine V_S1 (k2 := 0) (s2 := 0) C dX6_waysByGaps_2 lX6_65 kX6_isNumber (Ct_v (b2n (show ¬ (0 ≤ p ∧ p ≤ 6764) from by omega)) (c_X6_isNumber p (by omega) G 34 false _)) rfl rfl ⟨Nat.le_of_ble_eq_true rfl, Nat.le_of_ble_eq_true rfl⟩ (Nat.le_of_ble_eq_true rfl) (Nat.le_refl _) (Nat.le_refl _) ?_
  refine V_iconst C dX6_waysByGaps_5 ?_
  refine V_iconst C dX6_waysByGaps_6 ?_
  refine V_V1 (k2 := 0) (s2 := 0) C dX6_waysByGaps_7 lX6_68 kX6_goes (Ct_v (v' := 0) rfl (c_X6_goes G _ r false true true)) (by decide) (rfl) rfl rfl rfl ⟨Nat.le_of_ble_eq_true rfl, Nat.le_of_ble_eq_true rfl⟩ (Nat.le_of_ble_eq_true rfl) (Nat.le_refl _) (Nat.le_refl _) ?_
  refine V_if_eq (tgt := 20) C dX6_waysByGaps_10 (by decide) (by omega) (fun q10 => ?_) (fun q10 => by exfalso; omega)
  refine V_iconst C dX6_waysByGaps_20 ?_
  exact V_iret C dX6_waysByGaps_21 rfl hZ (by first | rfl | omega) rfl
set_option maxRecDepth 100000 in
set_option maxHeartbeats 4000000 in
theorem c_X6_waysByGaps (G : GT) (K : Nat → Nat → Int) (r : Nat → Option Nat)  (p : Int) (hp : -2147483648 ≤ p ∧ p < 2147483648) (hc : 0 ≤ p ∧ p ≤ 6764) : CtO G yX6_waysByGaps mX6_waysByGaps [rf G 28, .int (iI p)] K r (some (.int (iI (cw (gm 18 p.toNat))))) (kT K 0) (r) := by
  refine Ct_of kX6_waysByGaps.1.1 (by decide) [some (rf G 28), some (.int (iI p))] rfl (Nat.le_of_ble_eq_true rfl) ?_
  intro x C hZ
  refine V_aload_n C dX6_waysByGaps_0 rfl rfl ?_
  refine V_iload_n C dX6_waysByGaps_1 rfl rfl ?_
  refine V_S1 (k2 := 0) (s2 := 0) C dX6_waysByGaps_2 lX6_65 kX6_isNumber (Ct_v (b2y (show 0 ≤ p ∧ p ≤ 6764 from by omega)) (c_X6_isNumber p (by omega) G 34 false _)) rfl rfl ⟨Nat.le_of_ble_eq_true rfl, Nat.le_of_ble_eq_true rfl⟩ (Nat.le_of_ble_eq_true rfl) (Nat.le_refl _) (Nat.le_refl _) ?_
  refine V_iconst C dX6_waysByGaps_5 ?_
  refine V_iconst C dX6_waysByGaps_6 ?_
  refine V_V1 (k2 := 0) (s2 := 0) C dX6_waysByGaps_7 lX6_68 kX6_goes (Ct_v (v' := 1) rfl (c_X6_goes G _ r true true true)) (by decide) (rfl) rfl rfl rfl ⟨Nat.le_of_ble_eq_true rfl, Nat.le_of_ble_eq_true rfl⟩ (Nat.le_of_ble_eq_true rfl) (Nat.le_refl _) (Nat.le_refl _) ?_
  refine V_if_eq (tgt := 20) C dX6_waysByGaps_10 (by decide) (by omega) (fun q10 => by exfalso; omega) (fun q10 => ?_)
  refine V_iload_n C dX6_waysByGaps_13 rfl rfl ?_
  refine V_S1 (k2 := 0) (s2 := 0) C dX6_waysByGaps_14 lX6_153 kX6_countWays (i_X6_countWays G 34 false _ p hc) rfl rfl ⟨Nat.le_of_ble_eq_true rfl, Nat.le_of_ble_eq_true rfl⟩ (Nat.le_of_ble_eq_true rfl) (Nat.le_refl _) (Nat.le_refl _) ?_
  refine V_goto (tgt := 21) C dX6_waysByGaps_17 (by decide) ?_
  exact V_iret C dX6_waysByGaps_21 rfl hZ (by first | rfl | omega) rfl
set_option maxRecDepth 100000 in
set_option maxHeartbeats 4000000 in
theorem n_X6_codeLength (G : GT) (K : Nat → Nat → Int) (r : Nat → Option Nat)  (p : Int) (hp : -2147483648 ≤ p ∧ p < 2147483648) (hc : ¬ (1 ≤ p ∧ p ≤ 6764)) : CtO G yX6_codeLength mX6_codeLength [rf G 28, .int (iI p)] K r (some (.int (iI 0))) (kT K 1) (r) := by
  refine Ct_of kX6_codeLength.1.1 (by decide) [some (rf G 28), some (.int (iI p))] rfl (Nat.le_of_ble_eq_true rfl) ?_
  intro x C hZ
  refine V_aload_n C dX6_codeLength_0 rfl rfl ?_
  refine V_iload_n C dX6_codeLength_1 rfl rfl ?_
  refine V_iconst C dX6_codeLength_2 ?_
  refine V_sipush C dX6_codeLength_3 (by decide +kernel) ?_
  refine V_S1 (k2 := 0) (s2 := 0) C dX6_codeLength_6 lX6_57 kX6_in (Ct_v (b2n (show ¬ (1 ≤ p ∧ p ≤ 6764) from by omega)) (c_X6_in p 1 6764 (by omega) (by omega) (by omega) G 34 false _)) rfl rfl ⟨Nat.le_of_ble_eq_true rfl, Nat.le_of_ble_eq_true rfl⟩ (Nat.le_of_ble_eq_true rfl) (Nat.le_refl _) (Nat.le_refl _) ?_
  refine V_iconst C dX6_codeLength_9 ?_
  refine V_iconst C dX6_codeLength_10 ?_
  refine V_V1 (k2 := 0) (s2 := 0) C dX6_codeLength_11 lX6_68 kX6_goes (Ct_v (v' := 0) rfl (c_X6_goes G _ r false true true)) (by decide) (rfl) rfl rfl rfl ⟨Nat.le_of_ble_eq_true rfl, Nat.le_of_ble_eq_true rfl⟩ (Nat.le_of_ble_eq_true rfl) (Nat.le_refl _) (Nat.le_refl _) ?_
  refine V_if_eq (tgt := 24) C dX6_codeLength_14 (by decide) (by omega) (fun q14 => ?_) (fun q14 => by exfalso; omega)
  refine V_iconst C dX6_codeLength_24 ?_
  exact V_iret C dX6_codeLength_25 rfl hZ (by first | rfl | omega) rfl
set_option maxRecDepth 100000 in
set_option maxHeartbeats 4000000 in
theorem c_X6_codeLength (G : GT) (K : Nat → Nat → Int) (r : Nat → Option Nat)  (p : Int) (hp : -2147483648 ≤ p ∧ p < 2147483648) (hc : 1 ≤ p ∧ p ≤ 6764) : CtO G yX6_codeLength mX6_codeLength [rf G 28, .int (iI p)] K r (some (.int (iI (cl p : Nat)))) (kT K 0) (r) := by
  refine Ct_of kX6_codeLength.1.1 (by decide) [some (rf G 28), some (.int (iI p))] rfl (Nat.le_of_ble_eq_true rfl) ?_
  intro x C hZ
  refine V_aload_n C dX6_codeLength_0 rfl rfl ?_
  refine V_iload_n C dX6_codeLength_1 rfl rfl ?_
  refine V_iconst C dX6_codeLength_2 ?_
  refine V_sipush C dX6_codeLength_3 (by decide +kernel) ?_
  refine V_S1 (k2 := 0) (s2 := 0) C dX6_codeLength_6 lX6_57 kX6_in (Ct_v (b2y (show 1 ≤ p ∧ p ≤ 6764 from by omega)) (c_X6_in p 1 6764 (by omega) (by omega) (by omega) G 34 false _)) rfl rfl ⟨Nat.le_of_ble_eq_true rfl, Nat.le_of_ble_eq_true rfl⟩ (Nat.le_of_ble_eq_true rfl) (Nat.le_refl _) (Nat.le_refl _) ?_
  refine V_iconst C dX6_codeLength_9 ?_
  refine V_iconst C dX6_codeLength_10 ?_
  refine V_V1 (k2 := 0) (s2 := 0) C dX6_codeLength_11 lX6_68 kX6_goes (Ct_v (v' := 1) rfl (c_X6_goes G _ r true true true)) (by decide) (rfl) rfl rfl rfl ⟨Nat.le_of_ble_eq_true rfl, Nat.le_of_ble_eq_true rfl⟩ (Nat.le_of_ble_eq_true rfl) (Nat.le_refl _) (Nat.le_refl _) ?_
  refine V_if_eq (tgt := 24) C dX6_codeLength_14 (by decide) (by omega) (fun q14 => by exfalso; omega) (fun q14 => ?_)
  refine V_iload_n C dX6_codeLength_17 rfl rfl ?_
  refine V_S1 (k2 := 0) (s2 := 0) C dX6_codeLength_18 lX6_84 kX6_codeOf (i_X6_codeOf G 34 false _ p hc) rfl rfl ⟨Nat.le_of_ble_eq_true rfl, Nat.le_of_ble_eq_true rfl⟩ (Nat.le_of_ble_eq_true rfl) (Nat.le_refl _) (Nat.le_refl _) ?_
  refine V_goto (tgt := 25) C dX6_codeLength_21 (by decide) ?_
  exact V_iret C dX6_codeLength_25 rfl hZ (by first | rfl | omega) rfl
set_option maxRecDepth 100000 in
set_option maxHeartbeats 4000000 in
theorem n_X6_numberOf (G : GT) (K : Nat → Nat → Int) (r : Nat → Option Nat) (hG : GZ (K 29)) (p : Int) (hp : -2147483648 ≤ p ∧ p < 2147483648) (hc : ¬ (0 ≤ p ∧ p ≤ 5)) : CtO G yX6_numberOf mX6_numberOf [rf G 28, .int (iI p)] K r (some (.int (iI 0))) (kT K 1) (r) := by
  refine Ct_of kX6_numberOf.1.1 (by decide) [some (rf G 28), some (.int (iI p))] rfl (Nat.le_of_ble_eq_true rfl) ?_
  intro x C hZ
  refine V_aload_n C dX6_numberOf_0 rfl rfl ?_
  refine V_iload_n C dX6_numberOf_1 rfl rfl ?_
  refine V_S1 (k2 := 0) (s2 := 0) C dX6_numberOf_2 lX6_62 kX6_isStall (Ct_v (b2n (show ¬ (0 ≤ p ∧ p ≤ 5) from by omega)) (c_X6_isStall p (by omega) G 34 false _)) rfl rfl ⟨Nat.le_of_ble_eq_true rfl, Nat.le_of_ble_eq_true rfl⟩ (Nat.le_of_ble_eq_true rfl) (Nat.le_refl _) (Nat.le_refl _) ?_
  refine V_iconst C dX6_numberOf_5 ?_
  refine V_iconst C dX6_numberOf_6 ?_
  refine V_V1 (k2 := 0) (s2 := 0) C dX6_numberOf_7 lX6_68 kX6_goes (Ct_v (v' := 0) rfl (c_X6_goes G _ r false true true)) (by decide) (rfl) rfl rfl rfl ⟨Nat.le_of_ble_eq_true rfl, Nat.le_of_ble_eq_true rfl⟩ (Nat.le_of_ble_eq_true rfl) (Nat.le_refl _) (Nat.le_refl _) ?_
  refine V_if_eq (tgt := 22) C dX6_numberOf_10 (by decide) (by omega) (fun q10 => ?_) (fun q10 => by exfalso; omega)
  refine V_iconst C dX6_numberOf_22 ?_
  exact V_iret C dX6_numberOf_23 rfl hZ (by first | rfl | omega) rfl
set_option maxRecDepth 100000 in
set_option maxHeartbeats 4000000 in
theorem c_X6_numberOf (G : GT) (K : Nat → Nat → Int) (r : Nat → Option Nat) (hG : GZ (K 29)) (p : Int) (hp : -2147483648 ≤ p ∧ p < 2147483648) (hc : 0 ≤ p ∧ p ≤ 5) : CtO G yX6_numberOf mX6_numberOf [rf G 28, .int (iI p)] K r (some (.int (iI (K 29 p.toNat)))) (kT K 0) (r) := by
  refine Ct_of kX6_numberOf.1.1 (by decide) [some (rf G 28), some (.int (iI p))] rfl (Nat.le_of_ble_eq_true rfl) ?_
  intro x C hZ
  have g5 := hG.1
  have g7 := g5 p.toNat (by omega)
  refine V_aload_n C dX6_numberOf_0 rfl rfl ?_
  refine V_iload_n C dX6_numberOf_1 rfl rfl ?_
  refine V_S1 (k2 := 0) (s2 := 0) C dX6_numberOf_2 lX6_62 kX6_isStall (Ct_v (b2y (show 0 ≤ p ∧ p ≤ 5 from by omega)) (c_X6_isStall p (by omega) G 34 false _)) rfl rfl ⟨Nat.le_of_ble_eq_true rfl, Nat.le_of_ble_eq_true rfl⟩ (Nat.le_of_ble_eq_true rfl) (Nat.le_refl _) (Nat.le_refl _) ?_
  refine V_iconst C dX6_numberOf_5 ?_
  refine V_iconst C dX6_numberOf_6 ?_
  refine V_V1 (k2 := 0) (s2 := 0) C dX6_numberOf_7 lX6_68 kX6_goes (Ct_v (v' := 1) rfl (c_X6_goes G _ r true true true)) (by decide) (rfl) rfl rfl rfl ⟨Nat.le_of_ble_eq_true rfl, Nat.le_of_ble_eq_true rfl⟩ (Nat.le_of_ble_eq_true rfl) (Nat.le_refl _) (Nat.le_refl _) ?_
  refine V_if_eq (tgt := 22) C dX6_numberOf_10 (by decide) (by omega) (fun q10 => by exfalso; omega) (fun q10 => ?_)
  refine V_aload_n C dX6_numberOf_13 rfl rfl ?_
  refine V_getH (L := mOl G) C dX6_numberOf_14 fX6_7 (by decide) (fun _ => rfl) rfl ?_
  refine V_iload_n C dX6_numberOf_17 rfl rfl ?_
  refine V_ialdH C dX6_numberOf_18 (by decide) (fun _ => rfl) (by omega) (by decide) ?_
  rw [kT_29]
  refine V_goto (tgt := 23) C dX6_numberOf_19 (by decide) ?_
  exact V_iret C dX6_numberOf_23 rfl hZ (by first | rfl | omega) rfl
set_option maxRecDepth 100000 in
set_option maxHeartbeats 4000000 in
theorem n_X6_stepsOf (G : GT) (K : Nat → Nat → Int) (r : Nat → Option Nat) (hG : GZ (K 29)) (p : Int) (hp : -2147483648 ≤ p ∧ p < 2147483648) (hc : ¬ (0 ≤ p ∧ p ≤ 5)) : CtO G yX6_stepsOf mX6_stepsOf [rf G 28, .int (iI p)] K r (some (.int (iI 0))) (kT K 1) (r) := by
  refine Ct_of kX6_stepsOf.1.1 (by decide) [some (rf G 28), some (.int (iI p))] rfl (Nat.le_of_ble_eq_true rfl) ?_
  intro x C hZ
  refine V_aload_n C dX6_stepsOf_0 rfl rfl ?_
  refine V_iload_n C dX6_stepsOf_1 rfl rfl ?_
  refine V_S1 (k2 := 0) (s2 := 0) C dX6_stepsOf_2 lX6_62 kX6_isStall (Ct_v (b2n (show ¬ (0 ≤ p ∧ p ≤ 5) from by omega)) (c_X6_isStall p (by omega) G 34 false _)) rfl rfl ⟨Nat.le_of_ble_eq_true rfl, Nat.le_of_ble_eq_true rfl⟩ (Nat.le_of_ble_eq_true rfl) (Nat.le_refl _) (Nat.le_refl _) ?_
  refine V_iconst C dX6_stepsOf_5 ?_
  refine V_iconst C dX6_stepsOf_6 ?_
  refine V_V1 (k2 := 0) (s2 := 0) C dX6_stepsOf_7 lX6_68 kX6_goes (Ct_v (v' := 0) rfl (c_X6_goes G _ r false true true)) (by decide) (rfl) rfl rfl rfl ⟨Nat.le_of_ble_eq_true rfl, Nat.le_of_ble_eq_true rfl⟩ (Nat.le_of_ble_eq_true rfl) (Nat.le_refl _) (Nat.le_refl _) ?_
  refine V_if_eq (tgt := 28) C dX6_stepsOf_10 (by decide) (by omega) (fun q10 => ?_) (fun q10 => by exfalso; omega)
  refine V_iconst C dX6_stepsOf_28 ?_
  exact V_iret C dX6_stepsOf_29 rfl hZ (by first | rfl | omega) rfl
set_option maxRecDepth 100000 in
set_option maxHeartbeats 4000000 in
theorem c_X6_stepsOf (G : GT) (K : Nat → Nat → Int) (r : Nat → Option Nat) (hG : GZ (K 29)) (p : Int) (hp : -2147483648 ≤ p ∧ p < 2147483648) (hc : 0 ≤ p ∧ p ≤ 5) : CtO G yX6_stepsOf mX6_stepsOf [rf G 28, .int (iI p)] K r (some (.int (iI (cn 22 (gm 18 (K 29 p.toNat).toNat) : Nat)))) (kT K 0) (r) := by
  refine Ct_of kX6_stepsOf.1.1 (by decide) [some (rf G 28), some (.int (iI p))] rfl (Nat.le_of_ble_eq_true rfl) ?_
  intro x C hZ
  have g5 := hG.1
  have g7 := g5 p.toNat (by omega)
  refine V_aload_n C dX6_stepsOf_0 rfl rfl ?_
  refine V_iload_n C dX6_stepsOf_1 rfl rfl ?_
  refine V_S1 (k2 := 0) (s2 := 0) C dX6_stepsOf_2 lX6_62 kX6_isStall (Ct_v (b2y (show 0 ≤ p ∧ p ≤ 5 from by omega)) (c_X6_isStall p (by omega) G 34 false _)) rfl rfl ⟨Nat.le_of_ble_eq_true rfl, Nat.le_of_ble_eq_true rfl⟩ (Nat.le_of_ble_eq_true rfl) (Nat.le_refl _) (Nat.le_refl _) ?_
  refine V_iconst C dX6_stepsOf_5 ?_
  refine V_iconst C dX6_stepsOf_6 ?_
  refine V_V1 (k2 := 0) (s2 := 0) C dX6_stepsOf_7 lX6_68 kX6_goes (Ct_v (v' := 1) rfl (c_X6_goes G _ r true true true)) (by decide) (rfl) rfl rfl rfl ⟨Nat.le_of_ble_eq_true rfl, Nat.le_of_ble_eq_true rfl⟩ (Nat.le_of_ble_eq_true rfl) (Nat.le_refl _) (Nat.le_refl _) ?_
  refine V_if_eq (tgt := 28) C dX6_stepsOf_10 (by decide) (by omega) (fun q10 => by exfalso; omega) (fun q10 => ?_)
  refine V_aload_n C dX6_stepsOf_13 rfl rfl ?_
  refine V_getH (L := mOl G) C dX6_stepsOf_14 fX6_7 (by decide) (fun _ => rfl) rfl ?_
  refine V_iload_n C dX6_stepsOf_17 rfl rfl ?_
  refine V_ialdH C dX6_stepsOf_18 (by decide) (fun _ => rfl) (by omega) (by decide) ?_
  rw [kT_29]
  refine V_S1 (k2 := 0) (s2 := 0) C dX6_stepsOf_19 lX6_40 kX6_said (i_X6_said G 34 false _ _ g7) rfl rfl ⟨Nat.le_of_ble_eq_true rfl, Nat.le_of_ble_eq_true rfl⟩ (Nat.le_of_ble_eq_true rfl) (Nat.le_refl _) (Nat.le_refl _) ?_
  refine V_S1 (k2 := 0) (s2 := 0) C dX6_stepsOf_22 lX6_47 kX6_many (c_X6_many _ (by have := gm_18 (K 29 p.toNat).toNat; omega) G 34 false _) rfl rfl ⟨Nat.le_of_ble_eq_true rfl, Nat.le_of_ble_eq_true rfl⟩ (Nat.le_of_ble_eq_true rfl) (Nat.le_refl _) (Nat.le_refl _) ?_
  refine V_goto (tgt := 29) C dX6_stepsOf_25 (by decide) ?_
  exact V_iret C dX6_stepsOf_29 rfl hZ (by first | rfl | omega) rfl
set_option maxRecDepth 100000 in
set_option maxHeartbeats 4000000 in
theorem n_X6_digitAt (G : GT) (K : Nat → Nat → Int) (r : Nat → Option Nat) (hG : GZ (K 29)) (p : Int) (hp : -2147483648 ≤ p ∧ p < 2147483648) (hc : ¬ (0 ≤ p ∧ p ≤ K 29 6 - 1)) : CtO G yX6_digitAt mX6_digitAt [rf G 28, .int (iI p)] K r (some (.int (iI 0))) (kT K 1) (r) := by
  refine Ct_of kX6_digitAt.1.1 (by decide) [some (rf G 28), some (.int (iI p))] rfl (Nat.le_of_ble_eq_true rfl) ?_
  intro x C hZ
  refine V_aload_n C dX6_digitAt_0 rfl rfl ?_
  refine V_aload_n C dX6_digitAt_1 rfl rfl ?_
  refine V_iload_n C dX6_digitAt_2 rfl rfl ?_
  refine V_V1 (k2 := 0) (s2 := 0) C dX6_digitAt_3 lX6_93 kX6_isDigit (Ct_v (b2n (show ¬ (0 ≤ p ∧ p ≤ K 29 6 - 1) from by omega)) (c_X6_isDigit G K r hG.2.1 p (by omega))) (by decide) (rfl) rfl rfl rfl ⟨Nat.le_of_ble_eq_true rfl, Nat.le_of_ble_eq_true rfl⟩ (Nat.le_of_ble_eq_true rfl) (Nat.le_refl _) (Nat.le_refl _) ?_
  refine V_iconst C dX6_digitAt_6 ?_
  refine V_iconst C dX6_digitAt_7 ?_
  refine V_V1 (k2 := 0) (s2 := 0) C dX6_digitAt_8 lX6_68 kX6_goes (Ct_v (v' := 0) rfl (c_X6_goes G _ r false true true)) (by decide) (rfl) rfl rfl rfl ⟨Nat.le_of_ble_eq_true rfl, Nat.le_of_ble_eq_true rfl⟩ (Nat.le_of_ble_eq_true rfl) (Nat.le_refl _) (Nat.le_refl _) ?_
  refine V_if_eq (tgt := 26) C dX6_digitAt_11 (by decide) (by omega) (fun q11 => ?_) (fun q11 => by exfalso; omega)
  refine V_iconst C dX6_digitAt_26 ?_
  exact V_iret C dX6_digitAt_27 rfl hZ (by first | rfl | omega) rfl
set_option maxRecDepth 100000 in
set_option maxHeartbeats 4000000 in
theorem c_X6_digitAt (G : GT) (K : Nat → Nat → Int) (r : Nat → Option Nat) (hG : GZ (K 29)) (p : Int) (hp : -2147483648 ≤ p ∧ p < 2147483648) (hc : 0 ≤ p ∧ p ≤ K 29 6 - 1) : CtO G yX6_digitAt mX6_digitAt [rf G 28, .int (iI p)] K r (some (.int (iI (K 29 (7 + p.toNat))))) (kT K 0) (r) := by
  refine Ct_of kX6_digitAt.1.1 (by decide) [some (rf G 28), some (.int (iI p))] rfl (Nat.le_of_ble_eq_true rfl) ?_
  intro x C hZ
  have g6 := hG.2.1
  refine V_aload_n C dX6_digitAt_0 rfl rfl ?_
  refine V_aload_n C dX6_digitAt_1 rfl rfl ?_
  refine V_iload_n C dX6_digitAt_2 rfl rfl ?_
  refine V_V1 (k2 := 0) (s2 := 0) C dX6_digitAt_3 lX6_93 kX6_isDigit (Ct_v (b2y (show 0 ≤ p ∧ p ≤ K 29 6 - 1 from by omega)) (c_X6_isDigit G K r hG.2.1 p (by omega))) (by decide) (rfl) rfl rfl rfl ⟨Nat.le_of_ble_eq_true rfl, Nat.le_of_ble_eq_true rfl⟩ (Nat.le_of_ble_eq_true rfl) (Nat.le_refl _) (Nat.le_refl _) ?_
  refine V_iconst C dX6_digitAt_6 ?_
  refine V_iconst C dX6_digitAt_7 ?_
  refine V_V1 (k2 := 0) (s2 := 0) C dX6_digitAt_8 lX6_68 kX6_goes (Ct_v (v' := 1) rfl (c_X6_goes G _ r true true true)) (by decide) (rfl) rfl rfl rfl ⟨Nat.le_of_ble_eq_true rfl, Nat.le_of_ble_eq_true rfl⟩ (Nat.le_of_ble_eq_true rfl) (Nat.le_refl _) (Nat.le_refl _) ?_
  refine V_if_eq (tgt := 26) C dX6_digitAt_11 (by decide) (by omega) (fun q11 => by exfalso; omega) (fun q11 => ?_)
  refine V_aload_n C dX6_digitAt_14 rfl rfl ?_
  refine V_getH (L := mOl G) C dX6_digitAt_15 fX6_7 (by decide) (fun _ => rfl) rfl ?_
  refine V_bipush C dX6_digitAt_18 (by decide +kernel) ?_
  refine V_iload_n C dX6_digitAt_20 rfl rfl ?_
  refine V_iadd C dX6_digitAt_21 ?_
  refine V_ialdH C dX6_digitAt_22 (by decide) (fun _ => rfl) (by omega) (by decide) ?_
  rw [kT_29, show ((7 : Int) + p).toNat = 7 + p.toNat by omega]
  refine V_goto (tgt := 27) C dX6_digitAt_23 (by decide) ?_
  exact V_iret C dX6_digitAt_27 rfl hZ (by first | rfl | omega) rfl
set_option maxRecDepth 100000 in
set_option maxHeartbeats 4000000 in
theorem c_X6_total (G : GT) (K : Nat → Nat → Int) (r : Nat → Option Nat)  : CtO G yX6_total mX6_total [rf G 28] K r (some (.int (iI (su (K 29) 6)))) (kT K 0) (r) := by
  refine Ct_of kX6_total.1.1 (by decide) [some (rf G 28)] rfl (Nat.le_of_ble_eq_true rfl) ?_
  intro x C hZ
  refine V_aload_n C dX6_total_0 rfl rfl ?_
  refine V_iconst C dX6_total_1 ?_
  refine V_putH (L := mOl G) (ty := .int) C dX6_total_2 fX6_22 (by decide) (fun _ => rfl) rfl (by decide +kernel) (rfl) (rfl) (Nat.le_of_ble_eq_true rfl) rfl ?_
  refine V_aload_n C dX6_total_5 rfl rfl ?_
  refine V_V1 (k2 := 0) (s2 := 0) C dX6_total_6 lX6_146 kX6_sum (c_X6_sum G _ r) (by decide) (rfl) rfl rfl rfl ⟨Nat.le_of_ble_eq_true rfl, Nat.le_of_ble_eq_true rfl⟩ (Nat.le_of_ble_eq_true rfl) (Nat.le_refl _) (Nat.le_refl _) ?_
  exact V_iret C dX6_total_9 rfl hZ (by first | rfl | omega) rfl
set_option maxRecDepth 100000 in
set_option maxHeartbeats 4000000 in
theorem c_X6_richest (G : GT) (K : Nat → Nat → Int) (r : Nat → Option Nat) (hG : GZ (K 29)) : CtO G yX6_richest mX6_richest [rf G 28] K r (some (.int (iI (ri (K 29) 5 : Nat)))) (kT K 0) (r) := by
  refine Ct_of kX6_richest.1.1 (by decide) [some (rf G 28)] rfl (Nat.le_of_ble_eq_true rfl) ?_
  intro x C hZ
  refine V_aload_n C dX6_richest_0 rfl rfl ?_
  refine V_iconst C dX6_richest_1 ?_
  refine V_putH (L := mOl G) (ty := .int) C dX6_richest_2 fX6_22 (by decide) (fun _ => rfl) rfl (by decide +kernel) (rfl) (rfl) (Nat.le_of_ble_eq_true rfl) rfl ?_
  refine V_aload_n C dX6_richest_5 rfl rfl ?_
  refine V_V1 (k2 := 0) (s2 := 0) C dX6_richest_6 lX6_160 kX6_rich (c_X6_rich G (kT K 0) r hG.1) (by decide) (rfl) rfl rfl rfl ⟨Nat.le_of_ble_eq_true rfl, Nat.le_of_ble_eq_true rfl⟩ (Nat.le_of_ble_eq_true rfl) (Nat.le_refl _) (Nat.le_refl _) ?_
  exact V_iret C dX6_richest_9 rfl hZ (by first | rfl | omega) rfl
set_option maxRecDepth 100000 in
set_option maxHeartbeats 4000000 in
theorem c_X6_streamLength (G : GT) (K : Nat → Nat → Int) (r : Nat → Option Nat)  : CtO G yX6_streamLength mX6_streamLength [rf G 28] K r (some (.int (iI (K 29 6)))) (kT K 0) (r) := by
  refine Ct_of kX6_streamLength.1.1 (by decide) [some (rf G 28)] rfl (Nat.le_of_ble_eq_true rfl) ?_
  intro x C hZ
  refine V_aload_n C dX6_streamLength_0 rfl rfl ?_
  refine V_iconst C dX6_streamLength_1 ?_
  refine V_putH (L := mOl G) (ty := .int) C dX6_streamLength_2 fX6_22 (by decide) (fun _ => rfl) rfl (by decide +kernel) (rfl) (rfl) (Nat.le_of_ble_eq_true rfl) rfl ?_
  refine V_aload_n C dX6_streamLength_5 rfl rfl ?_
  refine V_getH (L := mOl G) C dX6_streamLength_6 fX6_7 (by decide) (fun _ => rfl) rfl ?_
  refine V_bipush C dX6_streamLength_9 (by decide +kernel) ?_
  refine V_ialdH C dX6_streamLength_11 (by decide) (fun _ => rfl) (by omega) (by decide) ?_
  exact V_iret C dX6_streamLength_12 rfl hZ (by first | rfl | omega) rfl
set_option maxRecDepth 100000 in
set_option maxHeartbeats 4000000 in
theorem c_X6_savedStates (G : GT) (K : Nat → Nat → Int) (r : Nat → Option Nat)  : CtO G yX6_savedStates mX6_savedStates [rf G 28] K r (some (.int (iI (K 28 1)))) (kT K 0) (r) := by
  refine Ct_of kX6_savedStates.1.1 (by decide) [some (rf G 28)] rfl (Nat.le_of_ble_eq_true rfl) ?_
  intro x C hZ
  refine V_aload_n C dX6_savedStates_0 rfl rfl ?_
  refine V_iconst C dX6_savedStates_1 ?_
  refine V_putH (L := mOl G) (ty := .int) C dX6_savedStates_2 fX6_22 (by decide) (fun _ => rfl) rfl (by decide +kernel) (rfl) (rfl) (Nat.le_of_ble_eq_true rfl) rfl ?_
  refine V_aload_n C dX6_savedStates_5 rfl rfl ?_
  refine V_getH (L := mOl G) C dX6_savedStates_6 fX6_26 (by decide) (fun _ => rfl) rfl ?_
  exact V_iret C dX6_savedStates_9 rfl hZ (by first | rfl | omega) rfl
set_option maxRecDepth 100000 in
set_option maxHeartbeats 4000000 in
theorem c_X6_clearBuffer (G : GT) (K : Nat → Nat → Int) (r : Nat → Option Nat)  : CtO G yX6_clearBuffer mX6_clearBuffer [rf G 28] K r (some (.int (iI (K 28 5)))) (us (kT K 0) 28 (us (kT K 0 28) 5 0)) (r) := by
  refine Ct_of kX6_clearBuffer.1.1 (by decide) [some (rf G 28), none] rfl (Nat.le_of_ble_eq_true rfl) ?_
  intro x C hZ
  refine V_aload_n C dX6_clearBuffer_0 rfl rfl ?_
  refine V_iconst C dX6_clearBuffer_1 ?_
  refine V_putH (L := mOl G) (ty := .int) C dX6_clearBuffer_2 fX6_22 (by decide) (fun _ => rfl) rfl (by decide +kernel) (rfl) (rfl) (Nat.le_of_ble_eq_true rfl) rfl ?_
  refine V_aload_n C dX6_clearBuffer_5 rfl rfl ?_
  refine V_getH (L := mOl G) C dX6_clearBuffer_6 fX6_105 (by decide) (fun _ => rfl) rfl ?_
  refine V_istore_n C dX6_clearBuffer_9 rfl (Nat.le_of_ble_eq_true rfl) rfl ?_
  refine V_aload_n C dX6_clearBuffer_10 rfl rfl ?_
  refine V_iconst C dX6_clearBuffer_11 ?_
  refine V_putH (L := mOl G) (ty := .int) C dX6_clearBuffer_12 fX6_105 (by decide) (fun _ => rfl) rfl (by decide +kernel) (rfl) (rfl) (Nat.le_of_ble_eq_true rfl) rfl ?_
  refine V_iload_n C dX6_clearBuffer_15 rfl rfl ?_
  exact V_iret C dX6_clearBuffer_16 rfl hZ (by first | rfl | omega) rfl
set_option maxRecDepth 100000 in
set_option maxHeartbeats 4000000 in
theorem c_X6_readNumbers (G : GT) (K : Nat → Nat → Int) (r : Nat → Option Nat) (hG : GZ (K 29)) : CtO G yX6_readNumbers mX6_readNumbers [rf G 28] K r (some (.int (iI ((rdS (fun j => K 29 (7 + j)) (K 29 6).toNat).2.2.2.length : Nat)))) (Wd (kT K 0) ((rdS (fun j => K 29 (7 + j)) (K 29 6).toNat).2.2.1 : Nat) ((rdS (fun j => K 29 (7 + j)) (K 29 6).toNat).2.1 : Nat) (foU (K 32) (rdS (fun j => K 29 (7 + j)) (K 29 6).toNat).2.2.2)) (r) := by
  refine Ct_of kX6_readNumbers.1.1 (by decide) [some (rf G 28)] rfl (Nat.le_of_ble_eq_true rfl) ?_
  intro x C hZ
  have g6 := hG.2.1
  have hd : ∀ j, j < 64 → 0 ≤ K 29 (7 + j) ∧ K 29 (7 + j) ≤ 1 := fun j hj => hG.2.2.1 (7 + j) (by omega) (by omega)
  refine V_aload_n C dX6_readNumbers_0 rfl rfl ?_
  refine V_iconst C dX6_readNumbers_1 ?_
  refine V_putH (L := mOl G) (ty := .int) C dX6_readNumbers_2 fX6_22 (by decide) (fun _ => rfl) rfl (by decide +kernel) (rfl) (rfl) (Nat.le_of_ble_eq_true rfl) rfl ?_
  refine V_aload_n C dX6_readNumbers_5 rfl rfl ?_
  refine V_V1 (k2 := 0) (s2 := 0) C dX6_readNumbers_6 lX6_163 kX6_reads (c_X6_reads G (kT K 0) r (K 29 6).toNat (toN g6.1).symm (by omega) hd) (by decide) (rfl) rfl rfl rfl ⟨Nat.le_of_ble_eq_true rfl, Nat.le_of_ble_eq_true rfl⟩ (Nat.le_of_ble_eq_true rfl) (Nat.le_refl _) (Nat.le_refl _) ?_
  exact V_iret C dX6_readNumbers_9 rfl hZ (by first | rfl | omega) rfl
set_option maxRecDepth 100000 in
set_option maxHeartbeats 4000000 in
theorem c_X6_errors (G : GT) (K : Nat → Nat → Int) (r : Nat → Option Nat) (hG : GZ (K 29)) : CtO G yX6_errors mX6_errors [rf G 28] K r (some (.int (iI ((rdS (fun j => K 29 (7 + j)) (K 29 6).toNat).2.2.1 : Nat)))) (Wd (kT K 0) ((rdS (fun j => K 29 (7 + j)) (K 29 6).toNat).2.2.1 : Nat) ((rdS (fun j => K 29 (7 + j)) (K 29 6).toNat).2.1 : Nat) (foU (K 32) (rdS (fun j => K 29 (7 + j)) (K 29 6).toNat).2.2.2)) (r) := by
  refine Ct_of kX6_errors.1.1 (by decide) [some (rf G 28)] rfl (Nat.le_of_ble_eq_true rfl) ?_
  intro x C hZ
  have g6 := hG.2.1
  have hd : ∀ j, j < 64 → 0 ≤ K 29 (7 + j) ∧ K 29 (7 + j) ≤ 1 := fun j hj => hG.2.2.1 (7 + j) (by omega) (by omega)
  refine V_aload_n C dX6_errors_0 rfl rfl ?_
  refine V_iconst C dX6_errors_1 ?_
  refine V_putH (L := mOl G) (ty := .int) C dX6_errors_2 fX6_22 (by decide) (fun _ => rfl) rfl (by decide +kernel) (rfl) (rfl) (Nat.le_of_ble_eq_true rfl) rfl ?_
  refine V_aload_n C dX6_errors_5 rfl rfl ?_
  refine V_V1 (k2 := 0) (s2 := 0) C dX6_errors_6 lX6_163 kX6_reads (c_X6_reads G (kT K 0) r (K 29 6).toNat (toN g6.1).symm (by omega) hd) (by decide) (rfl) rfl rfl rfl ⟨Nat.le_of_ble_eq_true rfl, Nat.le_of_ble_eq_true rfl⟩ (Nat.le_of_ble_eq_true rfl) (Nat.le_refl _) (Nat.le_refl _) ?_
  refine V_pop C dX6_errors_9 rfl ?_
  refine V_aload_n C dX6_errors_10 rfl rfl ?_
  refine V_getH (L := mOl G) C dX6_errors_11 fX6_99 (by decide) (fun _ => rfl) rfl ?_
  exact V_iret C dX6_errors_14 rfl hZ (by first | rfl | omega) rfl
set_option maxRecDepth 100000 in
set_option maxHeartbeats 4000000 in
theorem c_X6_looseDigits (G : GT) (K : Nat → Nat → Int) (r : Nat → Option Nat) (hG : GZ (K 29)) : CtO G yX6_looseDigits mX6_looseDigits [rf G 28] K r (some (.int (iI ((rdS (fun j => K 29 (7 + j)) (K 29 6).toNat).2.1 : Nat)))) (Wd (kT K 0) ((rdS (fun j => K 29 (7 + j)) (K 29 6).toNat).2.2.1 : Nat) ((rdS (fun j => K 29 (7 + j)) (K 29 6).toNat).2.1 : Nat) (foU (K 32) (rdS (fun j => K 29 (7 + j)) (K 29 6).toNat).2.2.2)) (r) := by
  refine Ct_of kX6_looseDigits.1.1 (by decide) [some (rf G 28)] rfl (Nat.le_of_ble_eq_true rfl) ?_
  intro x C hZ
  have g6 := hG.2.1
  have hd : ∀ j, j < 64 → 0 ≤ K 29 (7 + j) ∧ K 29 (7 + j) ≤ 1 := fun j hj => hG.2.2.1 (7 + j) (by omega) (by omega)
  refine V_aload_n C dX6_looseDigits_0 rfl rfl ?_
  refine V_iconst C dX6_looseDigits_1 ?_
  refine V_putH (L := mOl G) (ty := .int) C dX6_looseDigits_2 fX6_22 (by decide) (fun _ => rfl) rfl (by decide +kernel) (rfl) (rfl) (Nat.le_of_ble_eq_true rfl) rfl ?_
  refine V_aload_n C dX6_looseDigits_5 rfl rfl ?_
  refine V_V1 (k2 := 0) (s2 := 0) C dX6_looseDigits_6 lX6_163 kX6_reads (c_X6_reads G (kT K 0) r (K 29 6).toNat (toN g6.1).symm (by omega) hd) (by decide) (rfl) rfl rfl rfl ⟨Nat.le_of_ble_eq_true rfl, Nat.le_of_ble_eq_true rfl⟩ (Nat.le_of_ble_eq_true rfl) (Nat.le_refl _) (Nat.le_refl _) ?_
  refine V_pop C dX6_looseDigits_9 rfl ?_
  refine V_aload_n C dX6_looseDigits_10 rfl rfl ?_
  refine V_getH (L := mOl G) C dX6_looseDigits_11 fX6_102 (by decide) (fun _ => rfl) rfl ?_
  exact V_iret C dX6_looseDigits_14 rfl hZ (by first | rfl | omega) rfl
set_option maxRecDepth 100000 in
set_option maxHeartbeats 4000000 in
theorem c_X6_hasStopped (G : GT) (K : Nat → Nat → Int) (r : Nat → Option Nat) (hG : GZ (K 29)) : CtO G yX6_hasStopped mX6_hasStopped [rf G 28] K r (some (.int (iI (b2 (decide (K 29 71 = 1)))))) (kT K 0) (r) := by
  refine Ct_of kX6_hasStopped.1.1 (by decide) [some (rf G 28)] rfl (Nat.le_of_ble_eq_true rfl) ?_
  intro x C hZ
  have g := hG.2.2.2.1
  refine V_aload_n C dX6_hasStopped_0 rfl rfl ?_
  refine V_iconst C dX6_hasStopped_1 ?_
  refine V_putH (L := mOl G) (ty := .int) C dX6_hasStopped_2 fX6_22 (by decide) (fun _ => rfl) rfl (by decide +kernel) (rfl) (rfl) (Nat.le_of_ble_eq_true rfl) rfl ?_
  refine V_aload_n C dX6_hasStopped_5 rfl rfl ?_
  refine V_getH (L := mOl G) C dX6_hasStopped_6 fX6_7 (by decide) (fun _ => rfl) rfl ?_
  refine V_bipush C dX6_hasStopped_9 (by decide +kernel) ?_
  refine V_ialdH C dX6_hasStopped_11 (by decide) (fun _ => rfl) (by omega) (by decide) ?_
  rw [show us K 28 (us (K 28) 3 0) 29 (Int.toNat 71) = K 29 71 from rfl]
  refine V_iconst C dX6_hasStopped_12 ?_
  refine V_icmp_ne (tgt := 20) C dX6_hasStopped_13 (by decide) (by omega) (by omega) (fun q13 => ?_) (fun q13 => ?_)
  · refine V_iconst C dX6_hasStopped_20 ?_
    exact V_zret C dX6_hasStopped_21 rfl hZ (b2_01 _) (by first | exact b2_t _ (by omega) | exact b2_f _ (by omega)) rfl
  · refine V_iconst C dX6_hasStopped_16 ?_
    refine V_goto (tgt := 21) C dX6_hasStopped_17 (by decide) ?_
    exact V_zret C dX6_hasStopped_21 rfl hZ (b2_01 _) (by first | exact b2_t _ (by omega) | exact b2_f _ (by omega)) rfl
set_option maxRecDepth 100000 in
set_option maxHeartbeats 4000000 in
theorem n_X6_stoppedPart (G : GT) (K : Nat → Nat → Int) (r : Nat → Option Nat) (hG : GZ (K 29)) (hc : K 29 71 ≠ 1) : CtO G yX6_stoppedPart mX6_stoppedPart [rf G 28] K r (some (.int (iI 0))) (kT K 1) (r) := by
  refine Ct_of kX6_stoppedPart.1.1 (by decide) [some (rf G 28)] rfl (Nat.le_of_ble_eq_true rfl) ?_
  intro x C hZ
  have g := hG.2.2.2.1
  refine V_aload_n C dX6_stoppedPart_0 rfl rfl ?_
  refine V_aload_n C dX6_stoppedPart_1 rfl rfl ?_
  refine V_getH (L := mOl G) C dX6_stoppedPart_2 fX6_7 (by decide) (fun _ => rfl) rfl ?_
  refine V_bipush C dX6_stoppedPart_5 (by decide +kernel) ?_
  refine V_ialdH C dX6_stoppedPart_7 (by decide) (fun _ => rfl) (by omega) (by decide) ?_
  rw [show (71 : Int).toNat = 71 from rfl]
  refine V_iconst C dX6_stoppedPart_8 ?_
  refine V_icmp_ne (tgt := 16) C dX6_stoppedPart_9 (by decide) (by omega) (by omega) (fun q9 => ?_) (fun q9 => by exfalso; omega)
  refine V_iconst C dX6_stoppedPart_16 ?_
  refine V_iconst C dX6_stoppedPart_17 ?_
  refine V_iconst C dX6_stoppedPart_18 ?_
  refine V_V1 (k2 := 0) (s2 := 0) C dX6_stoppedPart_19 lX6_68 kX6_goes (Ct_v (v' := 0) rfl (c_X6_goes G _ r false true true)) (by decide) (rfl) rfl rfl rfl ⟨Nat.le_of_ble_eq_true rfl, Nat.le_of_ble_eq_true rfl⟩ (Nat.le_of_ble_eq_true rfl) (Nat.le_refl _) (Nat.le_refl _) ?_
  refine V_if_eq (tgt := 35) C dX6_stoppedPart_22 (by decide) (by omega) (fun q22 => ?_) (fun q22 => by exfalso; omega)
  refine V_iconst C dX6_stoppedPart_35 ?_
  exact V_iret C dX6_stoppedPart_36 rfl hZ (by first | rfl | omega) rfl
set_option maxRecDepth 100000 in
set_option maxHeartbeats 4000000 in
theorem c_X6_stoppedPart (G : GT) (K : Nat → Nat → Int) (r : Nat → Option Nat) (hG : GZ (K 29)) (hc : K 29 71 = 1) : CtO G yX6_stoppedPart mX6_stoppedPart [rf G 28] K r (some (.int (iI (K 29 72)))) (kT K 0) (r) := by
  refine Ct_of kX6_stoppedPart.1.1 (by decide) [some (rf G 28)] rfl (Nat.le_of_ble_eq_true rfl) ?_
  intro x C hZ
  have g := hG.2.2.2.1
  refine V_aload_n C dX6_stoppedPart_0 rfl rfl ?_
  refine V_aload_n C dX6_stoppedPart_1 rfl rfl ?_
  refine V_getH (L := mOl G) C dX6_stoppedPart_2 fX6_7 (by decide) (fun _ => rfl) rfl ?_
  refine V_bipush C dX6_stoppedPart_5 (by decide +kernel) ?_
  refine V_ialdH C dX6_stoppedPart_7 (by decide) (fun _ => rfl) (by omega) (by decide) ?_
  rw [show (71 : Int).toNat = 71 from rfl]
  refine V_iconst C dX6_stoppedPart_8 ?_
  refine V_icmp_ne (tgt := 16) C dX6_stoppedPart_9 (by decide) (by omega) (by omega) (fun q9 => by exfalso; omega) (fun q9 => ?_)
  refine V_iconst C dX6_stoppedPart_12 ?_
  refine V_goto (tgt := 17) C dX6_stoppedPart_13 (by decide) ?_
  refine V_iconst C dX6_stoppedPart_17 ?_
  refine V_iconst C dX6_stoppedPart_18 ?_
  refine V_V1 (k2 := 0) (s2 := 0) C dX6_stoppedPart_19 lX6_68 kX6_goes (Ct_v (v' := 1) rfl (c_X6_goes G _ r true true true)) (by decide) (rfl) rfl rfl rfl ⟨Nat.le_of_ble_eq_true rfl, Nat.le_of_ble_eq_true rfl⟩ (Nat.le_of_ble_eq_true rfl) (Nat.le_refl _) (Nat.le_refl _) ?_
  refine V_if_eq (tgt := 35) C dX6_stoppedPart_22 (by decide) (by omega) (fun q22 => by exfalso; omega) (fun q22 => ?_)
  refine V_aload_n C dX6_stoppedPart_25 rfl rfl ?_
  refine V_getH (L := mOl G) C dX6_stoppedPart_26 fX6_7 (by decide) (fun _ => rfl) rfl ?_
  refine V_bipush C dX6_stoppedPart_29 (by decide +kernel) ?_
  refine V_ialdH C dX6_stoppedPart_31 (by decide) (fun _ => rfl) (by omega) (by decide) ?_
  refine V_goto (tgt := 36) C dX6_stoppedPart_32 (by decide) ?_
  exact V_iret C dX6_stoppedPart_36 rfl hZ (by first | rfl | omega) rfl
set_option maxRecDepth 100000 in
set_option maxHeartbeats 4000000 in
theorem n_X6_whyStopped (G : GT) (K : Nat → Nat → Int) (r : Nat → Option Nat) (hG : GZ (K 29)) (hc : K 29 71 ≠ 1) : CtO G yX6_whyStopped mX6_whyStopped [rf G 28] K r (some (.int (iI 0))) (kT K 1) (r) := by
  refine Ct_of kX6_whyStopped.1.1 (by decide) [some (rf G 28)] rfl (Nat.le_of_ble_eq_true rfl) ?_
  intro x C hZ
  have g := hG.2.2.2.1
  refine V_aload_n C dX6_whyStopped_0 rfl rfl ?_
  refine V_aload_n C dX6_whyStopped_1 rfl rfl ?_
  refine V_getH (L := mOl G) C dX6_whyStopped_2 fX6_7 (by decide) (fun _ => rfl) rfl ?_
  refine V_bipush C dX6_whyStopped_5 (by decide +kernel) ?_
  refine V_ialdH C dX6_whyStopped_7 (by decide) (fun _ => rfl) (by omega) (by decide) ?_
  rw [show (71 : Int).toNat = 71 from rfl]
  refine V_iconst C dX6_whyStopped_8 ?_
  refine V_icmp_ne (tgt := 16) C dX6_whyStopped_9 (by decide) (by omega) (by omega) (fun q9 => ?_) (fun q9 => by exfalso; omega)
  refine V_iconst C dX6_whyStopped_16 ?_
  refine V_iconst C dX6_whyStopped_17 ?_
  refine V_iconst C dX6_whyStopped_18 ?_
  refine V_V1 (k2 := 0) (s2 := 0) C dX6_whyStopped_19 lX6_68 kX6_goes (Ct_v (v' := 0) rfl (c_X6_goes G _ r false true true)) (by decide) (rfl) rfl rfl rfl ⟨Nat.le_of_ble_eq_true rfl, Nat.le_of_ble_eq_true rfl⟩ (Nat.le_of_ble_eq_true rfl) (Nat.le_refl _) (Nat.le_refl _) ?_
  refine V_if_eq (tgt := 35) C dX6_whyStopped_22 (by decide) (by omega) (fun q22 => ?_) (fun q22 => by exfalso; omega)
  refine V_iconst C dX6_whyStopped_35 ?_
  exact V_iret C dX6_whyStopped_36 rfl hZ (by first | rfl | omega) rfl
set_option maxRecDepth 100000 in
set_option maxHeartbeats 4000000 in
theorem c_X6_whyStopped (G : GT) (K : Nat → Nat → Int) (r : Nat → Option Nat) (hG : GZ (K 29)) (hc : K 29 71 = 1) : CtO G yX6_whyStopped mX6_whyStopped [rf G 28] K r (some (.int (iI (K 29 73)))) (kT K 0) (r) := by
  refine Ct_of kX6_whyStopped.1.1 (by decide) [some (rf G 28)] rfl (Nat.le_of_ble_eq_true rfl) ?_
  intro x C hZ
  have g := hG.2.2.2.1
  refine V_aload_n C dX6_whyStopped_0 rfl rfl ?_
  refine V_aload_n C dX6_whyStopped_1 rfl rfl ?_
  refine V_getH (L := mOl G) C dX6_whyStopped_2 fX6_7 (by decide) (fun _ => rfl) rfl ?_
  refine V_bipush C dX6_whyStopped_5 (by decide +kernel) ?_
  refine V_ialdH C dX6_whyStopped_7 (by decide) (fun _ => rfl) (by omega) (by decide) ?_
  rw [show (71 : Int).toNat = 71 from rfl]
  refine V_iconst C dX6_whyStopped_8 ?_
  refine V_icmp_ne (tgt := 16) C dX6_whyStopped_9 (by decide) (by omega) (by omega) (fun q9 => by exfalso; omega) (fun q9 => ?_)
  refine V_iconst C dX6_whyStopped_12 ?_
  refine V_goto (tgt := 17) C dX6_whyStopped_13 (by decide) ?_
  refine V_iconst C dX6_whyStopped_17 ?_
  refine V_iconst C dX6_whyStopped_18 ?_
  refine V_V1 (k2 := 0) (s2 := 0) C dX6_whyStopped_19 lX6_68 kX6_goes (Ct_v (v' := 1) rfl (c_X6_goes G _ r true true true)) (by decide) (rfl) rfl rfl rfl ⟨Nat.le_of_ble_eq_true rfl, Nat.le_of_ble_eq_true rfl⟩ (Nat.le_of_ble_eq_true rfl) (Nat.le_refl _) (Nat.le_refl _) ?_
  refine V_if_eq (tgt := 35) C dX6_whyStopped_22 (by decide) (by omega) (fun q22 => by exfalso; omega) (fun q22 => ?_)
  refine V_aload_n C dX6_whyStopped_25 rfl rfl ?_
  refine V_getH (L := mOl G) C dX6_whyStopped_26 fX6_7 (by decide) (fun _ => rfl) rfl ?_
  refine V_bipush C dX6_whyStopped_29 (by decide +kernel) ?_
  refine V_ialdH C dX6_whyStopped_31 (by decide) (fun _ => rfl) (by omega) (by decide) ?_
  refine V_goto (tgt := 36) C dX6_whyStopped_32 (by decide) ?_
  exact V_iret C dX6_whyStopped_36 rfl hZ (by first | rfl | omega) rfl
set_option maxRecDepth 100000 in
set_option maxHeartbeats 4000000 in
theorem m_X6_spokenLength (G : GT) (K : Nat → Nat → Int) (r : Nat → Option Nat) (p : Int) (hp : -2147483648 ≤ p ∧ p < 2147483648) (q : Int) (hq : -2147483648 ≤ q ∧ q < 2147483648) (hc : ¬ (0 ≤ p ∧ p ≤ 2)) : CtO G yX6_spokenLength mX6_spokenLength [rf G 28, .int (iI p), .int (iI q)] K r (some (.int (iI 0))) (kT K 1) (r) := by
  refine Ct_of kX6_spokenLength.1.1 (by decide) [some (rf G 28), some (.int (iI p)), some (.int (iI q))] rfl (Nat.le_of_ble_eq_true rfl) ?_
  intro x C hZ
  refine V_aload_n C dX6_spokenLength_0 rfl rfl ?_
  refine V_iload_n C dX6_spokenLength_1 rfl rfl ?_
  refine V_iconst C dX6_spokenLength_2 ?_
  refine V_iconst C dX6_spokenLength_3 ?_
  refine V_S1 (k2 := 0) (s2 := 0) C dX6_spokenLength_4 lX6_57 kX6_in (Ct_v (b2n (show ¬ (0 ≤ p ∧ p ≤ 2) from by omega)) (c_X6_in p 0 2 (by omega) (by omega) (by omega) G 34 false _)) rfl rfl ⟨Nat.le_of_ble_eq_true rfl, Nat.le_of_ble_eq_true rfl⟩ (Nat.le_of_ble_eq_true rfl) (Nat.le_refl _) (Nat.le_refl _) ?_
  refine V_iload_n C dX6_spokenLength_7 rfl rfl ?_
  refine V_S1 (k2 := 0) (s2 := 0) C dX6_spokenLength_8 lX6_65 kX6_isNumber (c_X6_isNumber q (by omega) G 34 false _) rfl rfl ⟨Nat.le_of_ble_eq_true rfl, Nat.le_of_ble_eq_true rfl⟩ (Nat.le_of_ble_eq_true rfl) (Nat.le_refl _) (Nat.le_refl _) ?_
  refine V_iconst C dX6_spokenLength_11 ?_
  refine V_V1 (k2 := 0) (s2 := 0) C dX6_spokenLength_12 lX6_68 kX6_goes (Ct_v (v' := 0) rfl (c_X6_goes G _ r false _ true)) (by decide) (rfl) rfl rfl rfl ⟨Nat.le_of_ble_eq_true rfl, Nat.le_of_ble_eq_true rfl⟩ (Nat.le_of_ble_eq_true rfl) (Nat.le_refl _) (Nat.le_refl _) ?_
  refine V_if_eq (tgt := 28) C dX6_spokenLength_15 (by decide) (by omega) (fun q15 => ?_) (fun q15 => by exfalso; omega)
  refine V_iconst C dX6_spokenLength_28 ?_
  exact V_iret C dX6_spokenLength_29 rfl hZ (by first | rfl | omega) rfl
set_option maxRecDepth 100000 in
set_option maxHeartbeats 4000000 in
theorem n_X6_spokenLength (G : GT) (K : Nat → Nat → Int) (r : Nat → Option Nat) (p : Int) (hp : -2147483648 ≤ p ∧ p < 2147483648) (q : Int) (hq : -2147483648 ≤ q ∧ q < 2147483648) (hc : 0 ≤ p ∧ p ≤ 2) (hd : ¬ (0 ≤ q ∧ q ≤ 6764)) : CtO G yX6_spokenLength mX6_spokenLength [rf G 28, .int (iI p), .int (iI q)] K r (some (.int (iI 0))) (kT K 2) (r) := by
  refine Ct_of kX6_spokenLength.1.1 (by decide) [some (rf G 28), some (.int (iI p)), some (.int (iI q))] rfl (Nat.le_of_ble_eq_true rfl) ?_
  intro x C hZ
  refine V_aload_n C dX6_spokenLength_0 rfl rfl ?_
  refine V_iload_n C dX6_spokenLength_1 rfl rfl ?_
  refine V_iconst C dX6_spokenLength_2 ?_
  refine V_iconst C dX6_spokenLength_3 ?_
  refine V_S1 (k2 := 0) (s2 := 0) C dX6_spokenLength_4 lX6_57 kX6_in (Ct_v (b2y (show 0 ≤ p ∧ p ≤ 2 from by omega)) (c_X6_in p 0 2 (by omega) (by omega) (by omega) G 34 false _)) rfl rfl ⟨Nat.le_of_ble_eq_true rfl, Nat.le_of_ble_eq_true rfl⟩ (Nat.le_of_ble_eq_true rfl) (Nat.le_refl _) (Nat.le_refl _) ?_
  refine V_iload_n C dX6_spokenLength_7 rfl rfl ?_
  refine V_S1 (k2 := 0) (s2 := 0) C dX6_spokenLength_8 lX6_65 kX6_isNumber (Ct_v (b2n (show ¬ (0 ≤ q ∧ q ≤ 6764) from by omega)) (c_X6_isNumber q (by omega) G 34 false _)) rfl rfl ⟨Nat.le_of_ble_eq_true rfl, Nat.le_of_ble_eq_true rfl⟩ (Nat.le_of_ble_eq_true rfl) (Nat.le_refl _) (Nat.le_refl _) ?_
  refine V_iconst C dX6_spokenLength_11 ?_
  refine V_V1 (k2 := 0) (s2 := 0) C dX6_spokenLength_12 lX6_68 kX6_goes (Ct_v (v' := 0) rfl (c_X6_goes G _ r true false true)) (by decide) (rfl) rfl rfl rfl ⟨Nat.le_of_ble_eq_true rfl, Nat.le_of_ble_eq_true rfl⟩ (Nat.le_of_ble_eq_true rfl) (Nat.le_refl _) (Nat.le_refl _) ?_
  refine V_if_eq (tgt := 28) C dX6_spokenLength_15 (by decide) (by omega) (fun q15 => ?_) (fun q15 => by exfalso; omega)
  refine V_iconst C dX6_spokenLength_28 ?_
  exact V_iret C dX6_spokenLength_29 rfl hZ (by first | rfl | omega) rfl
set_option maxRecDepth 100000 in
set_option maxHeartbeats 4000000 in
theorem c_X6_spokenLength (G : GT) (K : Nat → Nat → Int) (r : Nat → Option Nat) (p : Int) (hp : -2147483648 ≤ p ∧ p < 2147483648) (q : Int) (hq : -2147483648 ≤ q ∧ q < 2147483648) (hc : 0 ≤ p ∧ p ≤ 2) (hd : 0 ≤ q ∧ q ≤ 6764) : CtO G yX6_spokenLength mX6_spokenLength [rf G 28, .int (iI p), .int (iI q)] K r (some (.int (iI (cn 22 (gm 18 q.toNat) : Nat)))) (kT K 0) (r) := by
  refine Ct_of kX6_spokenLength.1.1 (by decide) [some (rf G 28), some (.int (iI p)), some (.int (iI q))] rfl (Nat.le_of_ble_eq_true rfl) ?_
  intro x C hZ
  refine V_aload_n C dX6_spokenLength_0 rfl rfl ?_
  refine V_iload_n C dX6_spokenLength_1 rfl rfl ?_
  refine V_iconst C dX6_spokenLength_2 ?_
  refine V_iconst C dX6_spokenLength_3 ?_
  refine V_S1 (k2 := 0) (s2 := 0) C dX6_spokenLength_4 lX6_57 kX6_in (Ct_v (b2y (show 0 ≤ p ∧ p ≤ 2 from by omega)) (c_X6_in p 0 2 (by omega) (by omega) (by omega) G 34 false _)) rfl rfl ⟨Nat.le_of_ble_eq_true rfl, Nat.le_of_ble_eq_true rfl⟩ (Nat.le_of_ble_eq_true rfl) (Nat.le_refl _) (Nat.le_refl _) ?_
  refine V_iload_n C dX6_spokenLength_7 rfl rfl ?_
  refine V_S1 (k2 := 0) (s2 := 0) C dX6_spokenLength_8 lX6_65 kX6_isNumber (Ct_v (b2y (show 0 ≤ q ∧ q ≤ 6764 from by omega)) (c_X6_isNumber q (by omega) G 34 false _)) rfl rfl ⟨Nat.le_of_ble_eq_true rfl, Nat.le_of_ble_eq_true rfl⟩ (Nat.le_of_ble_eq_true rfl) (Nat.le_refl _) (Nat.le_refl _) ?_
  refine V_iconst C dX6_spokenLength_11 ?_
  refine V_V1 (k2 := 0) (s2 := 0) C dX6_spokenLength_12 lX6_68 kX6_goes (Ct_v (v' := 1) rfl (c_X6_goes G _ r true true true)) (by decide) (rfl) rfl rfl rfl ⟨Nat.le_of_ble_eq_true rfl, Nat.le_of_ble_eq_true rfl⟩ (Nat.le_of_ble_eq_true rfl) (Nat.le_refl _) (Nat.le_refl _) ?_
  refine V_if_eq (tgt := 28) C dX6_spokenLength_15 (by decide) (by omega) (fun q15 => by exfalso; omega) (fun q15 => ?_)
  refine V_iload_n C dX6_spokenLength_18 rfl rfl ?_
  refine V_S1 (k2 := 0) (s2 := 0) C dX6_spokenLength_19 lX6_40 kX6_said (i_X6_said G 34 false _ q hd) rfl rfl ⟨Nat.le_of_ble_eq_true rfl, Nat.le_of_ble_eq_true rfl⟩ (Nat.le_of_ble_eq_true rfl) (Nat.le_refl _) (Nat.le_refl _) ?_
  refine V_S1 (k2 := 0) (s2 := 0) C dX6_spokenLength_22 lX6_47 kX6_many (c_X6_many _ (by have := gm_18 q.toNat; omega) G 34 false _) rfl rfl ⟨Nat.le_of_ble_eq_true rfl, Nat.le_of_ble_eq_true rfl⟩ (Nat.le_of_ble_eq_true rfl) (Nat.le_refl _) (Nat.le_refl _) ?_
  refine V_goto (tgt := 29) C dX6_spokenLength_25 (by decide) ?_
  exact V_iret C dX6_spokenLength_29 rfl hZ (by first | rfl | omega) rfl
set_option maxRecDepth 100000 in
set_option maxHeartbeats 4000000 in
theorem m_X6_spokenAt (G : GT) (K : Nat → Nat → Int) (r : Nat → Option Nat) (p : Int) (hp : -2147483648 ≤ p ∧ p < 2147483648) (q : Int) (hq : -2147483648 ≤ q ∧ q < 2147483648) (s : Int) (hs : -2147483648 ≤ s ∧ s < 2147483648) (hc : ¬ (0 ≤ p ∧ p ≤ 2)) : CtO G yX6_spokenAt mX6_spokenAt [rf G 28, .int (iI p), .int (iI q), .int (iI s)] K r (some (.int (iI 0))) (kT K 1) (r) := by
  refine Ct_of kX6_spokenAt.1.1 (by decide) [some (rf G 28), some (.int (iI p)), some (.int (iI q)), some (.int (iI s)), none] rfl (Nat.le_of_ble_eq_true rfl) ?_
  intro x C hZ
  have f4 := gm_18 q.toNat
  have f5 := cn_le 22 (gm 18 q.toNat)
  have main : ∀ b : Bool, V G mX6_spokenAt x 40 [some (rf G 28), some (.int (iI p)), some (.int (iI q)), some (.int (iI s)), some (.int (iI (b2 b)))] [] 34 false (HP G K r) 0 0 := by
    intro b
    refine V_aload_n C dX6_spokenAt_40 rfl rfl ?_
    refine V_iload_n C dX6_spokenAt_41 rfl rfl ?_
    refine V_iconst C dX6_spokenAt_42 ?_
    refine V_iconst C dX6_spokenAt_43 ?_
    refine V_S1 (k2 := 0) (s2 := 0) C dX6_spokenAt_44 lX6_57 kX6_in (Ct_v (b2n (show ¬ (0 ≤ p ∧ p ≤ 2) from by omega)) (c_X6_in p 0 2 (by omega) (by omega) (by omega) G 34 false _)) rfl rfl ⟨Nat.le_of_ble_eq_true rfl, Nat.le_of_ble_eq_true rfl⟩ (Nat.le_of_ble_eq_true rfl) (Nat.le_refl _) (Nat.le_refl _) ?_
    refine V_iload C dX6_spokenAt_47 rfl ?_
    refine V_iconst C dX6_spokenAt_49 ?_
    refine V_V1 (k2 := 0) (s2 := 0) C dX6_spokenAt_50 lX6_68 kX6_goes (Ct_v (v' := 0) rfl (c_X6_goes G _ r false b true)) (by decide) (rfl) rfl rfl rfl ⟨Nat.le_of_ble_eq_true rfl, Nat.le_of_ble_eq_true rfl⟩ (Nat.le_of_ble_eq_true rfl) (Nat.le_refl _) (Nat.le_refl _) ?_
    refine V_if_eq (tgt := 68) C dX6_spokenAt_53 (by decide) (by omega) (fun q53 => ?_) (fun q53 => by exfalso; omega)
    refine V_iconst C dX6_spokenAt_68 ?_
    exact V_iret C dX6_spokenAt_69 rfl hZ (by first | rfl | omega) rfl
  by_cases c1 : 0 ≤ q ∧ q ≤ 6764
  · by_cases c2 : 0 ≤ s
    · by_cases c3 : s < (cn 22 (gm 18 q.toNat) : Nat)
      · skip
        refine V_iload_n C dX6_spokenAt_0 rfl rfl ?_
        refine V_S1 (k2 := 0) (s2 := 0) C dX6_spokenAt_1 lX6_65 kX6_isNumber (Ct_v (b2y (show 0 ≤ q ∧ q ≤ 6764 from by omega)) (c_X6_isNumber q (by omega) G 34 false _)) rfl rfl ⟨Nat.le_of_ble_eq_true rfl, Nat.le_of_ble_eq_true rfl⟩ (Nat.le_of_ble_eq_true rfl) (Nat.le_refl _) (Nat.le_refl _) ?_
        refine V_if_eq (tgt := 37) C dX6_spokenAt_4 (by decide) (by omega) (fun q4 => by exfalso; omega) (fun q4 => ?_)
        refine V_iload_n C dX6_spokenAt_7 rfl rfl ?_
        refine V_if_lt (tgt := 37) C dX6_spokenAt_8 (by decide) (by omega) (fun q8 => by exfalso; omega) (fun q8 => ?_)
        refine V_iload_n C dX6_spokenAt_11 rfl rfl ?_
        refine V_iload_n C dX6_spokenAt_12 rfl rfl ?_
        refine V_S1 (k2 := 0) (s2 := 0) C dX6_spokenAt_13 lX6_65 kX6_isNumber (Ct_v (b2y (show 0 ≤ q ∧ q ≤ 6764 from by omega)) (c_X6_isNumber q (by omega) G 34 false _)) rfl rfl ⟨Nat.le_of_ble_eq_true rfl, Nat.le_of_ble_eq_true rfl⟩ (Nat.le_of_ble_eq_true rfl) (Nat.le_refl _) (Nat.le_refl _) ?_
        refine V_if_eq (tgt := 23) C dX6_spokenAt_16 (by decide) (by omega) (fun q16 => by exfalso; omega) (fun q16 => ?_)
        refine V_iload_n C dX6_spokenAt_19 rfl rfl ?_
        refine V_goto (tgt := 24) C dX6_spokenAt_20 (by decide) ?_
        refine V_S1 (k2 := 0) (s2 := 0) C dX6_spokenAt_24 lX6_40 kX6_said (i_X6_said G 34 false _ q (by omega)) rfl rfl ⟨Nat.le_of_ble_eq_true rfl, Nat.le_of_ble_eq_true rfl⟩ (Nat.le_of_ble_eq_true rfl) (Nat.le_refl _) (Nat.le_refl _) ?_
        refine V_S1 (k2 := 0) (s2 := 0) C dX6_spokenAt_27 lX6_47 kX6_many (c_X6_many _ (by omega) G 34 false _) rfl rfl ⟨Nat.le_of_ble_eq_true rfl, Nat.le_of_ble_eq_true rfl⟩ (Nat.le_of_ble_eq_true rfl) (Nat.le_refl _) (Nat.le_refl _) ?_
        refine V_icmp_ge (tgt := 37) C dX6_spokenAt_30 (by decide) (by omega) (by omega) (fun q30 => by exfalso; omega) (fun q30 => ?_)
        refine V_iconst C dX6_spokenAt_33 ?_
        refine V_goto (tgt := 38) C dX6_spokenAt_34 (by decide) ?_
        refine V_istore C dX6_spokenAt_38 (Nat.le_of_ble_eq_true rfl) rfl ?_
        exact main true
      · skip
        refine V_iload_n C dX6_spokenAt_0 rfl rfl ?_
        refine V_S1 (k2 := 0) (s2 := 0) C dX6_spokenAt_1 lX6_65 kX6_isNumber (Ct_v (b2y (show 0 ≤ q ∧ q ≤ 6764 from by omega)) (c_X6_isNumber q (by omega) G 34 false _)) rfl rfl ⟨Nat.le_of_ble_eq_true rfl, Nat.le_of_ble_eq_true rfl⟩ (Nat.le_of_ble_eq_true rfl) (Nat.le_refl _) (Nat.le_refl _) ?_
        refine V_if_eq (tgt := 37) C dX6_spokenAt_4 (by decide) (by omega) (fun q4 => by exfalso; omega) (fun q4 => ?_)
        refine V_iload_n C dX6_spokenAt_7 rfl rfl ?_
        refine V_if_lt (tgt := 37) C dX6_spokenAt_8 (by decide) (by omega) (fun q8 => by exfalso; omega) (fun q8 => ?_)
        refine V_iload_n C dX6_spokenAt_11 rfl rfl ?_
        refine V_iload_n C dX6_spokenAt_12 rfl rfl ?_
        refine V_S1 (k2 := 0) (s2 := 0) C dX6_spokenAt_13 lX6_65 kX6_isNumber (Ct_v (b2y (show 0 ≤ q ∧ q ≤ 6764 from by omega)) (c_X6_isNumber q (by omega) G 34 false _)) rfl rfl ⟨Nat.le_of_ble_eq_true rfl, Nat.le_of_ble_eq_true rfl⟩ (Nat.le_of_ble_eq_true rfl) (Nat.le_refl _) (Nat.le_refl _) ?_
        refine V_if_eq (tgt := 23) C dX6_spokenAt_16 (by decide) (by omega) (fun q16 => by exfalso; omega) (fun q16 => ?_)
        refine V_iload_n C dX6_spokenAt_19 rfl rfl ?_
        refine V_goto (tgt := 24) C dX6_spokenAt_20 (by decide) ?_
        refine V_S1 (k2 := 0) (s2 := 0) C dX6_spokenAt_24 lX6_40 kX6_said (i_X6_said G 34 false _ q (by omega)) rfl rfl ⟨Nat.le_of_ble_eq_true rfl, Nat.le_of_ble_eq_true rfl⟩ (Nat.le_of_ble_eq_true rfl) (Nat.le_refl _) (Nat.le_refl _) ?_
        refine V_S1 (k2 := 0) (s2 := 0) C dX6_spokenAt_27 lX6_47 kX6_many (c_X6_many _ (by omega) G 34 false _) rfl rfl ⟨Nat.le_of_ble_eq_true rfl, Nat.le_of_ble_eq_true rfl⟩ (Nat.le_of_ble_eq_true rfl) (Nat.le_refl _) (Nat.le_refl _) ?_
        refine V_icmp_ge (tgt := 37) C dX6_spokenAt_30 (by decide) (by omega) (by omega) (fun q30 => ?_) (fun q30 => by exfalso; omega)
        refine V_iconst C dX6_spokenAt_37 ?_
        refine V_istore C dX6_spokenAt_38 (Nat.le_of_ble_eq_true rfl) rfl ?_
        exact main false
    · skip
      refine V_iload_n C dX6_spokenAt_0 rfl rfl ?_
      refine V_S1 (k2 := 0) (s2 := 0) C dX6_spokenAt_1 lX6_65 kX6_isNumber (Ct_v (b2y (show 0 ≤ q ∧ q ≤ 6764 from by omega)) (c_X6_isNumber q (by omega) G 34 false _)) rfl rfl ⟨Nat.le_of_ble_eq_true rfl, Nat.le_of_ble_eq_true rfl⟩ (Nat.le_of_ble_eq_true rfl) (Nat.le_refl _) (Nat.le_refl _) ?_
      refine V_if_eq (tgt := 37) C dX6_spokenAt_4 (by decide) (by omega) (fun q4 => by exfalso; omega) (fun q4 => ?_)
      refine V_iload_n C dX6_spokenAt_7 rfl rfl ?_
      refine V_if_lt (tgt := 37) C dX6_spokenAt_8 (by decide) (by omega) (fun q8 => ?_) (fun q8 => by exfalso; omega)
      refine V_iconst C dX6_spokenAt_37 ?_
      refine V_istore C dX6_spokenAt_38 (Nat.le_of_ble_eq_true rfl) rfl ?_
      exact main false
  · skip
    refine V_iload_n C dX6_spokenAt_0 rfl rfl ?_
    refine V_S1 (k2 := 0) (s2 := 0) C dX6_spokenAt_1 lX6_65 kX6_isNumber (Ct_v (b2n (show ¬ (0 ≤ q ∧ q ≤ 6764) from by omega)) (c_X6_isNumber q (by omega) G 34 false _)) rfl rfl ⟨Nat.le_of_ble_eq_true rfl, Nat.le_of_ble_eq_true rfl⟩ (Nat.le_of_ble_eq_true rfl) (Nat.le_refl _) (Nat.le_refl _) ?_
    refine V_if_eq (tgt := 37) C dX6_spokenAt_4 (by decide) (by omega) (fun q4 => ?_) (fun q4 => by exfalso; omega)
    refine V_iconst C dX6_spokenAt_37 ?_
    refine V_istore C dX6_spokenAt_38 (Nat.le_of_ble_eq_true rfl) rfl ?_
    exact main false
set_option maxRecDepth 100000 in
set_option maxHeartbeats 4000000 in
theorem n_X6_spokenAt (G : GT) (K : Nat → Nat → Int) (r : Nat → Option Nat) (p : Int) (hp : -2147483648 ≤ p ∧ p < 2147483648) (q : Int) (hq : -2147483648 ≤ q ∧ q < 2147483648) (s : Int) (hs : -2147483648 ≤ s ∧ s < 2147483648) (hc : 0 ≤ p ∧ p ≤ 2) (hd : ¬ (0 ≤ q ∧ q ≤ 6764 ∧ 0 ≤ s ∧ s < (cn 22 (gm 18 q.toNat) : Nat))) : CtO G yX6_spokenAt mX6_spokenAt [rf G 28, .int (iI p), .int (iI q), .int (iI s)] K r (some (.int (iI 0))) (kT K 2) (r) := by
  refine Ct_of kX6_spokenAt.1.1 (by decide) [some (rf G 28), some (.int (iI p)), some (.int (iI q)), some (.int (iI s)), none] rfl (Nat.le_of_ble_eq_true rfl) ?_
  intro x C hZ
  have f4 := gm_18 q.toNat
  have f5 := cn_le 22 (gm 18 q.toNat)
  have main : V G mX6_spokenAt x 40 [some (rf G 28), some (.int (iI p)), some (.int (iI q)), some (.int (iI s)), some (.int (iI 0))] [] 34 false (HP G K r) 0 0 := by
    refine V_aload_n C dX6_spokenAt_40 rfl rfl ?_
    refine V_iload_n C dX6_spokenAt_41 rfl rfl ?_
    refine V_iconst C dX6_spokenAt_42 ?_
    refine V_iconst C dX6_spokenAt_43 ?_
    refine V_S1 (k2 := 0) (s2 := 0) C dX6_spokenAt_44 lX6_57 kX6_in (Ct_v (b2y (show 0 ≤ p ∧ p ≤ 2 from by omega)) (c_X6_in p 0 2 (by omega) (by omega) (by omega) G 34 false _)) rfl rfl ⟨Nat.le_of_ble_eq_true rfl, Nat.le_of_ble_eq_true rfl⟩ (Nat.le_of_ble_eq_true rfl) (Nat.le_refl _) (Nat.le_refl _) ?_
    refine V_iload C dX6_spokenAt_47 rfl ?_
    refine V_iconst C dX6_spokenAt_49 ?_
    refine V_V1 (k2 := 0) (s2 := 0) C dX6_spokenAt_50 lX6_68 kX6_goes (Ct_v (v' := 0) rfl (c_X6_goes G _ r true false true)) (by decide) (rfl) rfl rfl rfl ⟨Nat.le_of_ble_eq_true rfl, Nat.le_of_ble_eq_true rfl⟩ (Nat.le_of_ble_eq_true rfl) (Nat.le_refl _) (Nat.le_refl _) ?_
    refine V_if_eq (tgt := 68) C dX6_spokenAt_53 (by decide) (by omega) (fun q53 => ?_) (fun q53 => by exfalso; omega)
    refine V_iconst C dX6_spokenAt_68 ?_
    exact V_iret C dX6_spokenAt_69 rfl hZ (by first | rfl | omega) rfl
  by_cases c1 : 0 ≤ q ∧ q ≤ 6764
  · by_cases c2 : 0 ≤ s
    · by_cases c3 : s < (cn 22 (gm 18 q.toNat) : Nat)
      · skip
        refine V_iload_n C dX6_spokenAt_0 rfl rfl ?_
        refine V_S1 (k2 := 0) (s2 := 0) C dX6_spokenAt_1 lX6_65 kX6_isNumber (Ct_v (b2y (show 0 ≤ q ∧ q ≤ 6764 from by omega)) (c_X6_isNumber q (by omega) G 34 false _)) rfl rfl ⟨Nat.le_of_ble_eq_true rfl, Nat.le_of_ble_eq_true rfl⟩ (Nat.le_of_ble_eq_true rfl) (Nat.le_refl _) (Nat.le_refl _) ?_
        refine V_if_eq (tgt := 37) C dX6_spokenAt_4 (by decide) (by omega) (fun q4 => by exfalso; omega) (fun q4 => ?_)
        refine V_iload_n C dX6_spokenAt_7 rfl rfl ?_
        refine V_if_lt (tgt := 37) C dX6_spokenAt_8 (by decide) (by omega) (fun q8 => by exfalso; omega) (fun q8 => ?_)
        refine V_iload_n C dX6_spokenAt_11 rfl rfl ?_
        refine V_iload_n C dX6_spokenAt_12 rfl rfl ?_
        refine V_S1 (k2 := 0) (s2 := 0) C dX6_spokenAt_13 lX6_65 kX6_isNumber (Ct_v (b2y (show 0 ≤ q ∧ q ≤ 6764 from by omega)) (c_X6_isNumber q (by omega) G 34 false _)) rfl rfl ⟨Nat.le_of_ble_eq_true rfl, Nat.le_of_ble_eq_true rfl⟩ (Nat.le_of_ble_eq_true rfl) (Nat.le_refl _) (Nat.le_refl _) ?_
        refine V_if_eq (tgt := 23) C dX6_spokenAt_16 (by decide) (by omega) (fun q16 => by exfalso; omega) (fun q16 => ?_)
        refine V_iload_n C dX6_spokenAt_19 rfl rfl ?_
        refine V_goto (tgt := 24) C dX6_spokenAt_20 (by decide) ?_
        refine V_S1 (k2 := 0) (s2 := 0) C dX6_spokenAt_24 lX6_40 kX6_said (i_X6_said G 34 false _ q (by omega)) rfl rfl ⟨Nat.le_of_ble_eq_true rfl, Nat.le_of_ble_eq_true rfl⟩ (Nat.le_of_ble_eq_true rfl) (Nat.le_refl _) (Nat.le_refl _) ?_
        refine V_S1 (k2 := 0) (s2 := 0) C dX6_spokenAt_27 lX6_47 kX6_many (c_X6_many _ (by omega) G 34 false _) rfl rfl ⟨Nat.le_of_ble_eq_true rfl, Nat.le_of_ble_eq_true rfl⟩ (Nat.le_of_ble_eq_true rfl) (Nat.le_refl _) (Nat.le_refl _) ?_
        refine V_icmp_ge (tgt := 37) C dX6_spokenAt_30 (by decide) (by omega) (by omega) (fun q30 => by exfalso; omega) (fun q30 => ?_)
        refine V_iconst C dX6_spokenAt_33 ?_
        refine V_goto (tgt := 38) C dX6_spokenAt_34 (by decide) ?_
        refine V_istore C dX6_spokenAt_38 (Nat.le_of_ble_eq_true rfl) rfl ?_
        exfalso; omega
      · skip
        refine V_iload_n C dX6_spokenAt_0 rfl rfl ?_
        refine V_S1 (k2 := 0) (s2 := 0) C dX6_spokenAt_1 lX6_65 kX6_isNumber (Ct_v (b2y (show 0 ≤ q ∧ q ≤ 6764 from by omega)) (c_X6_isNumber q (by omega) G 34 false _)) rfl rfl ⟨Nat.le_of_ble_eq_true rfl, Nat.le_of_ble_eq_true rfl⟩ (Nat.le_of_ble_eq_true rfl) (Nat.le_refl _) (Nat.le_refl _) ?_
        refine V_if_eq (tgt := 37) C dX6_spokenAt_4 (by decide) (by omega) (fun q4 => by exfalso; omega) (fun q4 => ?_)
        refine V_iload_n C dX6_spokenAt_7 rfl rfl ?_
        refine V_if_lt (tgt := 37) C dX6_spokenAt_8 (by decide) (by omega) (fun q8 => by exfalso; omega) (fun q8 => ?_)
        refine V_iload_n C dX6_spokenAt_11 rfl rfl ?_
        refine V_iload_n C dX6_spokenAt_12 rfl rfl ?_
        refine V_S1 (k2 := 0) (s2 := 0) C dX6_spokenAt_13 lX6_65 kX6_isNumber (Ct_v (b2y (show 0 ≤ q ∧ q ≤ 6764 from by omega)) (c_X6_isNumber q (by omega) G 34 false _)) rfl rfl ⟨Nat.le_of_ble_eq_true rfl, Nat.le_of_ble_eq_true rfl⟩ (Nat.le_of_ble_eq_true rfl) (Nat.le_refl _) (Nat.le_refl _) ?_
        refine V_if_eq (tgt := 23) C dX6_spokenAt_16 (by decide) (by omega) (fun q16 => by exfalso; omega) (fun q16 => ?_)
        refine V_iload_n C dX6_spokenAt_19 rfl rfl ?_
        refine V_goto (tgt := 24) C dX6_spokenAt_20 (by decide) ?_
        refine V_S1 (k2 := 0) (s2 := 0) C dX6_spokenAt_24 lX6_40 kX6_said (i_X6_said G 34 false _ q (by omega)) rfl rfl ⟨Nat.le_of_ble_eq_true rfl, Nat.le_of_ble_eq_true rfl⟩ (Nat.le_of_ble_eq_true rfl) (Nat.le_refl _) (Nat.le_refl _) ?_
        refine V_S1 (k2 := 0) (s2 := 0) C dX6_spokenAt_27 lX6_47 kX6_many (c_X6_many _ (by omega) G 34 false _) rfl rfl ⟨Nat.le_of_ble_eq_true rfl, Nat.le_of_ble_eq_true rfl⟩ (Nat.le_of_ble_eq_true rfl) (Nat.le_refl _) (Nat.le_refl _) ?_
        refine V_icmp_ge (tgt := 37) C dX6_spokenAt_30 (by decide) (by omega) (by omega) (fun q30 => ?_) (fun q30 => by exfalso; omega)
        refine V_iconst C dX6_spokenAt_37 ?_
        refine V_istore C dX6_spokenAt_38 (Nat.le_of_ble_eq_true rfl) rfl ?_
        exact main
    · skip
      refine V_iload_n C dX6_spokenAt_0 rfl rfl ?_
      refine V_S1 (k2 := 0) (s2 := 0) C dX6_spokenAt_1 lX6_65 kX6_isNumber (Ct_v (b2y (show 0 ≤ q ∧ q ≤ 6764 from by omega)) (c_X6_isNumber q (by omega) G 34 false _)) rfl rfl ⟨Nat.le_of_ble_eq_true rfl, Nat.le_of_ble_eq_true rfl⟩ (Nat.le_of_ble_eq_true rfl) (Nat.le_refl _) (Nat.le_refl _) ?_
      refine V_if_eq (tgt := 37) C dX6_spokenAt_4 (by decide) (by omega) (fun q4 => by exfalso; omega) (fun q4 => ?_)
      refine V_iload_n C dX6_spokenAt_7 rfl rfl ?_
      refine V_if_lt (tgt := 37) C dX6_spokenAt_8 (by decide) (by omega) (fun q8 => ?_) (fun q8 => by exfalso; omega)
      refine V_iconst C dX6_spokenAt_37 ?_
      refine V_istore C dX6_spokenAt_38 (Nat.le_of_ble_eq_true rfl) rfl ?_
      exact main
  · skip
    refine V_iload_n C dX6_spokenAt_0 rfl rfl ?_
    refine V_S1 (k2 := 0) (s2 := 0) C dX6_spokenAt_1 lX6_65 kX6_isNumber (Ct_v (b2n (show ¬ (0 ≤ q ∧ q ≤ 6764) from by omega)) (c_X6_isNumber q (by omega) G 34 false _)) rfl rfl ⟨Nat.le_of_ble_eq_true rfl, Nat.le_of_ble_eq_true rfl⟩ (Nat.le_of_ble_eq_true rfl) (Nat.le_refl _) (Nat.le_refl _) ?_
    refine V_if_eq (tgt := 37) C dX6_spokenAt_4 (by decide) (by omega) (fun q4 => ?_) (fun q4 => by exfalso; omega)
    refine V_iconst C dX6_spokenAt_37 ?_
    refine V_istore C dX6_spokenAt_38 (Nat.le_of_ble_eq_true rfl) rfl ?_
    exact main
set_option maxRecDepth 100000 in
set_option maxHeartbeats 4000000 in
theorem c_X6_spokenAt (G : GT) (K : Nat → Nat → Int) (r : Nat → Option Nat) (p : Int) (hp : -2147483648 ≤ p ∧ p < 2147483648) (q : Int) (hq : -2147483648 ≤ q ∧ q < 2147483648) (s : Int) (hs : -2147483648 ≤ s ∧ s < 2147483648) (hc : 0 ≤ p ∧ p ≤ 2) (hd : 0 ≤ q ∧ q ≤ 6764 ∧ 0 ≤ s ∧ s < (cn 22 (gm 18 q.toNat) : Nat)) : CtO G yX6_spokenAt mX6_spokenAt [rf G 28, .int (iI p), .int (iI q), .int (iI s)] K r (some (.int (iI (wd (gm 18 q.toNat) p s)))) (kT K 0) (r) := by
  refine Ct_of kX6_spokenAt.1.1 (by decide) [some (rf G 28), some (.int (iI p)), some (.int (iI q)), some (.int (iI s)), none] rfl (Nat.le_of_ble_eq_true rfl) ?_
  intro x C hZ
  have f4 := gm_18 q.toNat
  have f5 := cn_le 22 (gm 18 q.toNat)
  have main : V G mX6_spokenAt x 40 [some (rf G 28), some (.int (iI p)), some (.int (iI q)), some (.int (iI s)), some (.int (iI 1))] [] 34 false (HP G K r) 0 0 := by
    refine V_aload_n C dX6_spokenAt_40 rfl rfl ?_
    refine V_iload_n C dX6_spokenAt_41 rfl rfl ?_
    refine V_iconst C dX6_spokenAt_42 ?_
    refine V_iconst C dX6_spokenAt_43 ?_
    refine V_S1 (k2 := 0) (s2 := 0) C dX6_spokenAt_44 lX6_57 kX6_in (Ct_v (b2y (show 0 ≤ p ∧ p ≤ 2 from by omega)) (c_X6_in p 0 2 (by omega) (by omega) (by omega) G 34 false _)) rfl rfl ⟨Nat.le_of_ble_eq_true rfl, Nat.le_of_ble_eq_true rfl⟩ (Nat.le_of_ble_eq_true rfl) (Nat.le_refl _) (Nat.le_refl _) ?_
    refine V_iload C dX6_spokenAt_47 rfl ?_
    refine V_iconst C dX6_spokenAt_49 ?_
    refine V_V1 (k2 := 0) (s2 := 0) C dX6_spokenAt_50 lX6_68 kX6_goes (Ct_v (v' := 1) rfl (c_X6_goes G _ r true true true)) (by decide) (rfl) rfl rfl rfl ⟨Nat.le_of_ble_eq_true rfl, Nat.le_of_ble_eq_true rfl⟩ (Nat.le_of_ble_eq_true rfl) (Nat.le_refl _) (Nat.le_refl _) ?_
    refine V_if_eq (tgt := 68) C dX6_spokenAt_53 (by decide) (by omega) (fun q53 => by exfalso; omega) (fun q53 => ?_)
    refine V_iload_n C dX6_spokenAt_56 rfl rfl ?_
    refine V_iload_n C dX6_spokenAt_57 rfl rfl ?_
    refine V_S1 (k2 := 0) (s2 := 0) C dX6_spokenAt_58 lX6_40 kX6_said (i_X6_said G 34 false _ q (by omega)) rfl rfl ⟨Nat.le_of_ble_eq_true rfl, Nat.le_of_ble_eq_true rfl⟩ (Nat.le_of_ble_eq_true rfl) (Nat.le_refl _) (Nat.le_refl _) ?_
    refine V_iload_n C dX6_spokenAt_61 rfl rfl ?_
    refine V_S1 (k2 := 0) (s2 := 0) C dX6_spokenAt_62 lX6_156 kX6_word (c_X6_word p _ s (by omega) hc (by omega) G 34 false _) rfl rfl ⟨Nat.le_of_ble_eq_true rfl, Nat.le_of_ble_eq_true rfl⟩ (Nat.le_of_ble_eq_true rfl) (Nat.le_refl _) (Nat.le_refl _) ?_
    refine V_goto (tgt := 69) C dX6_spokenAt_65 (by decide) ?_
    exact V_iret C dX6_spokenAt_69 rfl hZ (by first | rfl | omega) rfl
  by_cases c1 : 0 ≤ q ∧ q ≤ 6764
  · by_cases c2 : 0 ≤ s
    · by_cases c3 : s < (cn 22 (gm 18 q.toNat) : Nat)
      · skip
        refine V_iload_n C dX6_spokenAt_0 rfl rfl ?_
        refine V_S1 (k2 := 0) (s2 := 0) C dX6_spokenAt_1 lX6_65 kX6_isNumber (Ct_v (b2y (show 0 ≤ q ∧ q ≤ 6764 from by omega)) (c_X6_isNumber q (by omega) G 34 false _)) rfl rfl ⟨Nat.le_of_ble_eq_true rfl, Nat.le_of_ble_eq_true rfl⟩ (Nat.le_of_ble_eq_true rfl) (Nat.le_refl _) (Nat.le_refl _) ?_
        refine V_if_eq (tgt := 37) C dX6_spokenAt_4 (by decide) (by omega) (fun q4 => by exfalso; omega) (fun q4 => ?_)
        refine V_iload_n C dX6_spokenAt_7 rfl rfl ?_
        refine V_if_lt (tgt := 37) C dX6_spokenAt_8 (by decide) (by omega) (fun q8 => by exfalso; omega) (fun q8 => ?_)
        refine V_iload_n C dX6_spokenAt_11 rfl rfl ?_
        refine V_iload_n C dX6_spokenAt_12 rfl rfl ?_
        refine V_S1 (k2 := 0) (s2 := 0) C dX6_spokenAt_13 lX6_65 kX6_isNumber (Ct_v (b2y (show 0 ≤ q ∧ q ≤ 6764 from by omega)) (c_X6_isNumber q (by omega) G 34 false _)) rfl rfl ⟨Nat.le_of_ble_eq_true rfl, Nat.le_of_ble_eq_true rfl⟩ (Nat.le_of_ble_eq_true rfl) (Nat.le_refl _) (Nat.le_refl _) ?_
        refine V_if_eq (tgt := 23) C dX6_spokenAt_16 (by decide) (by omega) (fun q16 => by exfalso; omega) (fun q16 => ?_)
        refine V_iload_n C dX6_spokenAt_19 rfl rfl ?_
        refine V_goto (tgt := 24) C dX6_spokenAt_20 (by decide) ?_
        refine V_S1 (k2 := 0) (s2 := 0) C dX6_spokenAt_24 lX6_40 kX6_said (i_X6_said G 34 false _ q (by omega)) rfl rfl ⟨Nat.le_of_ble_eq_true rfl, Nat.le_of_ble_eq_true rfl⟩ (Nat.le_of_ble_eq_true rfl) (Nat.le_refl _) (Nat.le_refl _) ?_
        refine V_S1 (k2 := 0) (s2 := 0) C dX6_spokenAt_27 lX6_47 kX6_many (c_X6_many _ (by omega) G 34 false _) rfl rfl ⟨Nat.le_of_ble_eq_true rfl, Nat.le_of_ble_eq_true rfl⟩ (Nat.le_of_ble_eq_true rfl) (Nat.le_refl _) (Nat.le_refl _) ?_
        refine V_icmp_ge (tgt := 37) C dX6_spokenAt_30 (by decide) (by omega) (by omega) (fun q30 => by exfalso; omega) (fun q30 => ?_)
        refine V_iconst C dX6_spokenAt_33 ?_
        refine V_goto (tgt := 38) C dX6_spokenAt_34 (by decide) ?_
        refine V_istore C dX6_spokenAt_38 (Nat.le_of_ble_eq_true rfl) rfl ?_
        exact main
      · skip
        refine V_iload_n C dX6_spokenAt_0 rfl rfl ?_
        refine V_S1 (k2 := 0) (s2 := 0) C dX6_spokenAt_1 lX6_65 kX6_isNumber (Ct_v (b2y (show 0 ≤ q ∧ q ≤ 6764 from by omega)) (c_X6_isNumber q (by omega) G 34 false _)) rfl rfl ⟨Nat.le_of_ble_eq_true rfl, Nat.le_of_ble_eq_true rfl⟩ (Nat.le_of_ble_eq_true rfl) (Nat.le_refl _) (Nat.le_refl _) ?_
        refine V_if_eq (tgt := 37) C dX6_spokenAt_4 (by decide) (by omega) (fun q4 => by exfalso; omega) (fun q4 => ?_)
        refine V_iload_n C dX6_spokenAt_7 rfl rfl ?_
        refine V_if_lt (tgt := 37) C dX6_spokenAt_8 (by decide) (by omega) (fun q8 => by exfalso; omega) (fun q8 => ?_)
        refine V_iload_n C dX6_spokenAt_11 rfl rfl ?_
        refine V_iload_n C dX6_spokenAt_12 rfl rfl ?_
        refine V_S1 (k2 := 0) (s2 := 0) C dX6_spokenAt_13 lX6_65 kX6_isNumber (Ct_v (b2y (show 0 ≤ q ∧ q ≤ 6764 from by omega)) (c_X6_isNumber q (by omega) G 34 false _)) rfl rfl ⟨Nat.le_of_ble_eq_true rfl, Nat.le_of_ble_eq_true rfl⟩ (Nat.le_of_ble_eq_true rfl) (Nat.le_refl _) (Nat.le_refl _) ?_
        refine V_if_eq (tgt := 23) C dX6_spokenAt_16 (by decide) (by omega) (fun q16 => by exfalso; omega) (fun q16 => ?_)
        refine V_iload_n C dX6_spokenAt_19 rfl rfl ?_
        refine V_goto (tgt := 24) C dX6_spokenAt_20 (by decide) ?_
        refine V_S1 (k2 := 0) (s2 := 0) C dX6_spokenAt_24 lX6_40 kX6_said (i_X6_said G 34 false _ q (by omega)) rfl rfl ⟨Nat.le_of_ble_eq_true rfl, Nat.le_of_ble_eq_true rfl⟩ (Nat.le_of_ble_eq_true rfl) (Nat.le_refl _) (Nat.le_refl _) ?_
        refine V_S1 (k2 := 0) (s2 := 0) C dX6_spokenAt_27 lX6_47 kX6_many (c_X6_many _ (by omega) G 34 false _) rfl rfl ⟨Nat.le_of_ble_eq_true rfl, Nat.le_of_ble_eq_true rfl⟩ (Nat.le_of_ble_eq_true rfl) (Nat.le_refl _) (Nat.le_refl _) ?_
        refine V_icmp_ge (tgt := 37) C dX6_spokenAt_30 (by decide) (by omega) (by omega) (fun q30 => ?_) (fun q30 => by exfalso; omega)
        refine V_iconst C dX6_spokenAt_37 ?_
        refine V_istore C dX6_spokenAt_38 (Nat.le_of_ble_eq_true rfl) rfl ?_
        exfalso; omega
    · skip
      refine V_iload_n C dX6_spokenAt_0 rfl rfl ?_
      refine V_S1 (k2 := 0) (s2 := 0) C dX6_spokenAt_1 lX6_65 kX6_isNumber (Ct_v (b2y (show 0 ≤ q ∧ q ≤ 6764 from by omega)) (c_X6_isNumber q (by omega) G 34 false _)) rfl rfl ⟨Nat.le_of_ble_eq_true rfl, Nat.le_of_ble_eq_true rfl⟩ (Nat.le_of_ble_eq_true rfl) (Nat.le_refl _) (Nat.le_refl _) ?_
      refine V_if_eq (tgt := 37) C dX6_spokenAt_4 (by decide) (by omega) (fun q4 => by exfalso; omega) (fun q4 => ?_)
      refine V_iload_n C dX6_spokenAt_7 rfl rfl ?_
      refine V_if_lt (tgt := 37) C dX6_spokenAt_8 (by decide) (by omega) (fun q8 => ?_) (fun q8 => by exfalso; omega)
      refine V_iconst C dX6_spokenAt_37 ?_
      refine V_istore C dX6_spokenAt_38 (Nat.le_of_ble_eq_true rfl) rfl ?_
      exfalso; omega
  · skip
    refine V_iload_n C dX6_spokenAt_0 rfl rfl ?_
    refine V_S1 (k2 := 0) (s2 := 0) C dX6_spokenAt_1 lX6_65 kX6_isNumber (Ct_v (b2n (show ¬ (0 ≤ q ∧ q ≤ 6764) from by omega)) (c_X6_isNumber q (by omega) G 34 false _)) rfl rfl ⟨Nat.le_of_ble_eq_true rfl, Nat.le_of_ble_eq_true rfl⟩ (Nat.le_of_ble_eq_true rfl) (Nat.le_refl _) (Nat.le_refl _) ?_
    refine V_if_eq (tgt := 37) C dX6_spokenAt_4 (by decide) (by omega) (fun q4 => ?_) (fun q4 => by exfalso; omega)
    refine V_iconst C dX6_spokenAt_37 ?_
    refine V_istore C dX6_spokenAt_38 (Nat.le_of_ble_eq_true rfl) rfl ?_
    exfalso; omega
