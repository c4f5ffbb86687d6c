set_option maxRecDepth 100000 in
set_option maxHeartbeats 4000000 in
theorem c_X6_worth (K : Nat) (hK : K ≤ 22) (G : GT) (N : Nat) (gf : Bool) (h : Hp) : Ct G yX6_worth mX6_worth [.int (iI (K : Int))] N gf h 0 0 (some (.int (iI (wN K : Nat)))) N gf h := by
  refine Ct_of kX6_worth.1 (by decide) [some (.int (iI (K : Int))), none, none, none, none] rfl (Nat.le_of_ble_eq_true rfl) ?_
  intro x C hZ
  have loop : ∀ (n k : Nat) (o : Option Value), k + n = K → V G mX6_worth x 6 [some (.int (iI (K : Int))), some (.int (iI (wN k : Nat))), some (.int (iI (wN (k + 1) : Nat))), some (.int (iI (k : Int))), o] [] N gf h 0 0 := by
    intro n
    induction n with
    | zero =>
      intro k o e
      refine V_iload_n C dX6_worth_6 rfl rfl ?_
      refine V_iload_n C dX6_worth_7 rfl rfl ?_
      refine V_icmp_ge (tgt := 27) C dX6_worth_8 (by decide) (by omega) (by omega) (fun q8 => ?_) (fun q8 => by exfalso; omega)
      refine V_iload_n C dX6_worth_27 rfl rfl ?_
      exact V_iret C dX6_worth_28 rfl hZ (by rw [show k = K by omega]) rfl
    | succ n ih =>
      intro k o e
      refine V_iload_n C dX6_worth_6 rfl rfl ?_
      refine V_iload_n C dX6_worth_7 rfl rfl ?_
      refine V_icmp_ge (tgt := 27) C dX6_worth_8 (by decide) (by omega) (by omega) (fun q8 => by exfalso; omega) (fun q8 => ?_)
      refine V_iload_n C dX6_worth_11 rfl rfl ?_
      refine V_iload_n C dX6_worth_12 rfl rfl ?_
      refine V_iadd C dX6_worth_13 ?_
      refine V_istore C dX6_worth_14 (Nat.le_of_ble_eq_true rfl) rfl ?_
      refine V_iload_n C dX6_worth_16 rfl rfl ?_
      refine V_istore_n C dX6_worth_17 rfl (Nat.le_of_ble_eq_true rfl) rfl ?_
      refine V_iload C dX6_worth_18 rfl ?_
      refine V_istore_n C dX6_worth_20 rfl (Nat.le_of_ble_eq_true rfl) rfl ?_
      refine V_iinc C dX6_worth_21 rfl (Nat.le_of_ble_eq_true rfl) rfl ?_
      refine V_goto (tgt := 6) C dX6_worth_24 (by decide) ?_
      exact ih (k + 1) _ (by omega)
  refine V_iconst C dX6_worth_0 ?_
  refine V_istore_n C dX6_worth_1 rfl (Nat.le_of_ble_eq_true rfl) rfl ?_
  refine V_iconst C dX6_worth_2 ?_
  refine V_istore_n C dX6_worth_3 rfl (Nat.le_of_ble_eq_true rfl) rfl ?_
  refine V_iconst C dX6_worth_4 ?_
  refine V_istore_n C dX6_worth_5 rfl (Nat.le_of_ble_eq_true rfl) rfl ?_
  exact loop K 0 none (by omega)
set_option maxRecDepth 100000 in
set_option maxHeartbeats 4000000 in
theorem c_X5_worth (K : Nat) (hK : K ≤ 18) (G : GT) (N : Nat) (gf : Bool) (h : Hp) : Ct G yX5_worth mX5_worth [.int (iI (K : Int))] N gf h 0 0 (some (.int (iI (wN K : Nat)))) N gf h := by
  refine Ct_of kX5_worth.1 (by decide) [some (.int (iI (K : Int)))] rfl (Nat.le_of_ble_eq_true rfl) ?_
  intro x C hZ
  refine V_iload_n C dX5_worth_0 rfl rfl ?_
  refine V_if_lt (tgt := 20) C dX5_worth_1 (by decide) (by omega) (fun q1 => by exfalso; omega) (fun q1 => ?_)
  refine V_iload_n C dX5_worth_4 rfl rfl ?_
  refine V_gets C dX5_worth_5 gX5_314 ?_
  refine V_wlen C dX5_worth_8 ?_
  refine V_icmp_ge (tgt := 20) C dX5_worth_9 (by decide) (by omega) (by omega) (fun q9 => by exfalso; omega) (fun q9 => ?_)
  refine V_gets C dX5_worth_12 gX5_314 ?_
  refine V_iload_n C dX5_worth_15 rfl rfl ?_
  refine V_wld C dX5_worth_16 (by omega) ?_
  refine V_goto (tgt := 21) C dX5_worth_17 (by decide) ?_
  exact V_iret C dX5_worth_21 rfl hZ (by first | rfl | omega) rfl
set_option maxRecDepth 100000 in
set_option maxHeartbeats 4000000 in
theorem c_X6_worths (m : Nat) (hm : m < 2147483648) (G : GT) (N : Nat) (gf : Bool) (h : Hp) : Ct G yX6_worths mX6_worths [.int (iI (m : Int))] N gf h 0 0 (some (.int (iI (wo 22 m : Nat)))) N gf h := by
  refine Ct_of kX6_worths.1 (by decide) [some (.int (iI (m : Int))), none, none] rfl (Nat.le_of_ble_eq_true rfl) ?_
  intro x C hZ
  have loop : ∀ (n k : Nat), k + n = 22 → V G mX6_worths x 4 [some (.int (iI (m : Int))), some (.int (iI (wo k m : Nat))), some (.int (iI (k : Int)))] [] N gf h 0 0 := by
    intro n
    induction n with
    | zero =>
      intro k e
      refine V_iload_n C dX6_worths_4 rfl rfl ?_
      refine V_bipush C dX6_worths_5 (by decide +kernel) ?_
      refine V_icmp_ge (tgt := 36) C dX6_worths_7 (by decide) (by omega) (by omega) (fun q7 => ?_) (fun q7 => by exfalso; omega)
      refine V_iload_n C dX6_worths_36 rfl rfl ?_
      exact V_iret C dX6_worths_37 rfl hZ (by rw [show k = 22 by omega]) rfl
    | succ n ih =>
      intro k e
      refine V_iload_n C dX6_worths_4 rfl rfl ?_
      refine V_bipush C dX6_worths_5 (by decide +kernel) ?_
      refine V_icmp_ge (tgt := 36) C dX6_worths_7 (by decide) (by have := wN_22 (k := k) (by omega); have := b1_le m k; have := wo_le k m; have := wS_22 (k := k) (by omega); omega) (by have := wN_22 (k := k) (by omega); have := b1_le m k; have := wo_le k m; have := wS_22 (k := k) (by omega); omega) (fun q7 => by exfalso; have := wN_22 (k := k) (by omega); have := b1_le m k; have := wo_le k m; have := wS_22 (k := k) (by omega); omega) (fun q7 => ?_)
      refine V_iload_n C dX6_worths_10 rfl rfl ?_
      refine V_iload_n C dX6_worths_11 rfl rfl ?_
      refine V_iload_n C dX6_worths_12 rfl rfl ?_
      refine V_ishr C dX6_worths_13 m k (by first | rfl | omega) (by first | rfl | omega) (by have := wN_22 (k := k) (by omega); have := b1_le m k; have := wo_le k m; have := wS_22 (k := k) (by omega); omega) (by have := wN_22 (k := k) (by omega); have := b1_le m k; have := wo_le k m; have := wS_22 (k := k) (by omega); omega) ?_
      refine V_iconst C dX6_worths_14 ?_
      refine V_iand C dX6_worths_15 (m >>> k) 1 (by first | rfl | omega) (by first | rfl | omega) ?_
      refine V_iconst C dX6_worths_16 ?_
      refine V_icmp_ne (tgt := 27) C dX6_worths_17 (by decide) (by have := wN_22 (k := k) (by omega); have := b1_le m k; have := wo_le k m; have := wS_22 (k := k) (by omega); omega) (by have := wN_22 (k := k) (by omega); have := b1_le m k; have := wo_le k m; have := wS_22 (k := k) (by omega); omega) (fun q17 => ?_) (fun q17 => ?_)
      · refine V_iconst C dX6_worths_27 ?_
        refine V_iadd C dX6_worths_28 ?_
        refine V_istore_n C dX6_worths_29 rfl (Nat.le_of_ble_eq_true rfl) rfl ?_
        refine V_eq rfl (loc' := [some (.int (iI (m : Int))), some (.int (iI (wo (k + 1) m : Nat))), some (.int (iI (k : Int)))]) (by simp only [wo, List.set]; congr 4; have := b1_le m k; (first | (rw [show m >>> k &&& 1 = 1 by omega]; omega) | (rw [show m >>> k &&& 1 = 0 by omega]; omega))) rfl rfl ?_
        refine V_iinc C dX6_worths_30 rfl (Nat.le_of_ble_eq_true rfl) rfl ?_
        refine V_goto (tgt := 4) C dX6_worths_33 (by decide) ?_
        exact ih (k + 1) (by omega)
      · refine V_iload_n C dX6_worths_20 rfl rfl ?_
        refine V_S1 (k2 := 0) (s2 := 0) C dX6_worths_21 lX6_33 kX6_worth (c_X6_worth k (by omega) G N gf h) rfl rfl ⟨Nat.le_of_ble_eq_true rfl, Nat.le_of_ble_eq_true rfl⟩ (Nat.le_of_ble_eq_true rfl) (Nat.le_refl _) (Nat.le_refl _) ?_
        refine V_goto (tgt := 28) C dX6_worths_24 (by decide) ?_
        refine V_iadd C dX6_worths_28 ?_
        refine V_istore_n C dX6_worths_29 rfl (Nat.le_of_ble_eq_true rfl) rfl ?_
        refine V_eq rfl (loc' := [some (.int (iI (m : Int))), some (.int (iI (wo (k + 1) m : Nat))), some (.int (iI (k : Int)))]) (by simp only [wo, List.set]; congr 4; have := b1_le m k; (first | (rw [show m >>> k &&& 1 = 1 by omega]; omega) | (rw [show m >>> k &&& 1 = 0 by omega]; omega))) rfl rfl ?_
        refine V_iinc C dX6_worths_30 rfl (Nat.le_of_ble_eq_true rfl) rfl ?_
        refine V_goto (tgt := 4) C dX6_worths_33 (by decide) ?_
        exact ih (k + 1) (by omega)
  refine V_iconst C dX6_worths_0 ?_
  refine V_istore_n C dX6_worths_1 rfl (Nat.le_of_ble_eq_true rfl) rfl ?_
  refine V_iconst C dX6_worths_2 ?_
  refine V_istore_n C dX6_worths_3 rfl (Nat.le_of_ble_eq_true rfl) rfl ?_
  exact loop 22 0 (by omega)
