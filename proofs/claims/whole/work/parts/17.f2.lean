set_option maxRecDepth 100000 in
set_option maxHeartbeats 4000000 in
theorem c_X5_worthBelow (k : Nat) (hk : k ≤ 17) (G : GT) (N : Nat) (gf : Bool) (h : Hp) : Ct G yX5_worthBelow mX5_worthBelow [.int (iI (k : Int))] N gf h 0 0 (some (.int (iI (wS k : Nat)))) N gf h := by
  refine Ct_of kX5_worthBelow.1 (by decide) [some (.int (iI (k : Int)))] rfl (Nat.le_of_ble_eq_true rfl) ?_
  intro x C hZ
  have f := wS_2 k
  refine V_iload_n C dX5_worthBelow_0 rfl rfl ?_
  refine V_iconst C dX5_worthBelow_1 ?_
  refine V_iadd C dX5_worthBelow_2 ?_
  refine V_S1 (k2 := 0) (s2 := 0) C dX5_worthBelow_3 lX5_196 kX5_worth (c_X5_worth (k + 1) (by omega) G N gf h) rfl rfl ⟨Nat.le_of_ble_eq_true rfl, Nat.le_of_ble_eq_true rfl⟩ (Nat.le_of_ble_eq_true rfl) (Nat.le_refl _) (Nat.le_refl _) ?_
  refine V_iconst C dX5_worthBelow_6 ?_
  refine V_isub C dX5_worthBelow_7 ?_
  exact V_iret C dX5_worthBelow_8 rfl hZ (by first | rfl | omega) rfl
set_option maxRecDepth 100000 in
set_option maxHeartbeats 4000000 in
theorem c_X5_fullMark (n : Nat) (hn : n ≤ 6764) (G : GT) (N : Nat) (gf : Bool) (h : Hp) : Ct G yX5_fullMark mX5_fullMark [.int (iI (n : Int))] N gf h 0 0 (some (.int (iI (fm 18 n : Nat)))) N gf h := by
  refine Ct_of kX5_fullMark.1 (by decide) [some (.int (iI (n : Int))), none, none, none] rfl (Nat.le_of_ble_eq_true rfl) ?_
  intro x C hZ
  have loop : ∀ (k l m : Nat) (s : Int), k ≤ 18 → s = (k : Int) - 1 → l ≤ 6764 → 2 ^ k ∣ m → m + 2 ^ k ≤ 262144 → m + fm k l = fm 18 n → V G mX5_fullMark x 7 [some (.int (iI (n : Int))), some (.int (iI (m : Int))), some (.int (iI (l : Int))), some (.int (iI s))] [] N gf h 0 0 := by
    intro k
    induction k with
    | zero =>
      intro l m s hk hs hl hd hm e
      refine V_iload_n C dX5_fullMark_7 rfl rfl ?_
      refine V_if_lt (tgt := 38) C dX5_fullMark_8 (by decide) (by omega) (fun q8 => ?_) (fun q8 => by exfalso; omega)
      refine V_iload_n C dX5_fullMark_38 rfl rfl ?_
      exact V_iret C dX5_fullMark_39 rfl hZ (by have e2 : fm 0 l = 0 := rfl; omega) rfl
    | succ k ih =>
      intro l m s hk hs hl hd hm e
      have hs' : s = (k : Int) := by omega
      subst hs'
      have f0 := wN_pos k
      have f1 := wN_22 (k := k) (by omega)
      have f2 := p2_18 (k := k) (by omega)
      have f3 := or_pow hd
      have f4 := sh1 k
      have f5 : 2 ^ (k + 1) = 2 * 2 ^ k := by rw [Nat.pow_succ, Nat.mul_comm]
      have f6 := wS_22 (k := k) (by omega)
      have f7 : wS k < l → wN k ≤ l := by
        intro h7
        have f8 := wS_2 k
        have f9 := wN_le (show k ≤ k + 1 by omega)
        by_cases hk1 : k = 0
        · subst hk1; simp [wN, wS] at *; omega
        · have g9 : wN k < wN (k + 1) := by
            obtain ⟨j, rfl⟩ : ∃ j, k = j + 1 := ⟨k - 1, by omega⟩
            show wN (j + 1) < wN j + wN (j + 1)
            have := wN_pos j
            omega
          omega
      refine V_iload_n C dX5_fullMark_7 rfl rfl ?_
      refine V_if_lt (tgt := 38) C dX5_fullMark_8 (by decide) (by omega) (fun q8 => by exfalso; omega) (fun q8 => ?_)
      refine V_iload_n C dX5_fullMark_11 rfl rfl ?_
      refine V_iload_n C dX5_fullMark_12 rfl rfl ?_
      refine V_S1 (k2 := 0) (s2 := 0) C dX5_fullMark_13 lX5_322 kX5_worthBelow (c_X5_worthBelow k (by omega) G N gf h) rfl rfl ⟨Nat.le_of_ble_eq_true rfl, Nat.le_of_ble_eq_true rfl⟩ (Nat.le_of_ble_eq_true rfl) (Nat.le_refl _) (Nat.le_refl _) ?_
      refine V_icmp_le (tgt := 32) C dX5_fullMark_16 (by decide) (by omega) (by omega) (fun q16 => ?_) (fun q16 => ?_)
      · first
        | (have g1 := fm_t (k := k) (l := l) (by omega)
           have g2 : l2 = l - wN k := by omega
           subst g2
           refine V_iinc C dX5_fullMark_32 rfl (Nat.le_of_ble_eq_true rfl) rfl ?_
           refine V_goto (tgt := 7) C dX5_fullMark_35 (by decide) ?_
           exact ih _ _ _ (by omega) (by omega) (by omega) (by rw [f3]; exact dvd_pow hd) (by omega) (by omega))
        | (have g1 := fm_f (k := k) (l := l) (by omega)
           refine V_iinc C dX5_fullMark_32 rfl (Nat.le_of_ble_eq_true rfl) rfl ?_
           refine V_goto (tgt := 7) C dX5_fullMark_35 (by decide) ?_
           exact ih _ _ _ (by omega) (by omega) (by omega) (dvd_pow0 hd) (by omega) (by omega))
      · refine V_iload_n C dX5_fullMark_19 rfl rfl ?_
        refine V_iload_n C dX5_fullMark_20 rfl rfl ?_
        refine V_S1 (k2 := 0) (s2 := 0) C dX5_fullMark_21 lX5_196 kX5_worth (c_X5_worth k (by omega) G N gf h) rfl rfl ⟨Nat.le_of_ble_eq_true rfl, Nat.le_of_ble_eq_true rfl⟩ (Nat.le_of_ble_eq_true rfl) (Nat.le_refl _) (Nat.le_refl _) ?_
        refine V_isub C dX5_fullMark_24 ?_
        obtain ⟨l2, hl2⟩ : ∃ l2 : Nat, (l : Int) - ((wN k : Nat) : Int) = (l2 : Int) := ⟨l - wN k, by omega⟩
        rw [hl2]
        refine V_istore_n C dX5_fullMark_25 rfl (Nat.le_of_ble_eq_true rfl) rfl ?_
        refine V_iload_n C dX5_fullMark_26 rfl rfl ?_
        refine V_iconst C dX5_fullMark_27 ?_
        refine V_iload_n C dX5_fullMark_28 rfl rfl ?_
        refine V_ishl C dX5_fullMark_29 1 k (by first | rfl | omega) (by first | rfl | omega) (by omega) (by omega) ?_
        refine V_ior C dX5_fullMark_30 m (1 <<< k) (by first | rfl | omega) (by first | rfl | omega) ?_
        refine V_istore_n C dX5_fullMark_31 rfl (Nat.le_of_ble_eq_true rfl) rfl ?_
        first
        | (have g1 := fm_t (k := k) (l := l) (by omega)
           have g2 : l2 = l - wN k := by omega
           subst g2
           refine V_iinc C dX5_fullMark_32 rfl (Nat.le_of_ble_eq_true rfl) rfl ?_
           refine V_goto (tgt := 7) C dX5_fullMark_35 (by decide) ?_
           exact ih _ _ _ (by omega) (by omega) (by omega) (by rw [f3]; exact dvd_pow hd) (by omega) (by omega))
        | (have g1 := fm_f (k := k) (l := l) (by omega)
           refine V_iinc C dX5_fullMark_32 rfl (Nat.le_of_ble_eq_true rfl) rfl ?_
           refine V_goto (tgt := 7) C dX5_fullMark_35 (by decide) ?_
           exact ih _ _ _ (by omega) (by omega) (by omega) (dvd_pow0 hd) (by omega) (by omega))
  refine V_iconst C dX5_fullMark_0 ?_
  refine V_istore_n C dX5_fullMark_1 rfl (Nat.le_of_ble_eq_true rfl) rfl ?_
  refine V_iload_n C dX5_fullMark_2 rfl rfl ?_
  refine V_istore_n C dX5_fullMark_3 rfl (Nat.le_of_ble_eq_true rfl) rfl ?_
  refine V_bipush C dX5_fullMark_4 (by decide +kernel) ?_
  refine V_istore_n C dX5_fullMark_6 rfl (Nat.le_of_ble_eq_true rfl) rfl ?_
  exact loop 18 n 0 _ (by omega) (by omega) hn (Nat.dvd_zero _) (by decide) (by omega)
set_option maxRecDepth 100000 in
set_option maxHeartbeats 4000000 in
theorem c_X6_full (n : Nat) (hn : n ≤ 6764) (G : GT) (N : Nat) (gf : Bool) (h : Hp) : Ct G yX6_full mX6_full [.int (iI (n : Int))] N gf h 0 0 (some (.int (iI (fm 18 n : Nat)))) N gf h := by
  refine Ct_of kX6_full.1 (by decide) [some (.int (iI (n : Int))), none, none, none] rfl (Nat.le_of_ble_eq_true rfl) ?_
  intro x C hZ
  have loop : ∀ (k l m : Nat) (s : Int), k ≤ 18 → s = (k : Int) - 1 → l ≤ 6764 → 2 ^ k ∣ m → m + 2 ^ k ≤ 262144 → m + fm k l = fm 18 n → V G mX6_full x 7 [some (.int (iI (n : Int))), some (.int (iI (l : Int))), some (.int (iI (m : Int))), some (.int (iI s))] [] N gf h 0 0 := by
    intro k
    induction k with
    | zero =>
      intro l m s hk hs hl hd hm e
      refine V_iload_n C dX6_full_7 rfl rfl ?_
      refine V_if_lt (tgt := 42) C dX6_full_8 (by decide) (by omega) (fun q8 => ?_) (fun q8 => by exfalso; omega)
      refine V_iload_n C dX6_full_42 rfl rfl ?_
      exact V_iret C dX6_full_43 rfl hZ (by have e2 : fm 0 l = 0 := rfl; omega) rfl
    | succ k ih =>
      intro l m s hk hs hl hd hm e
      have hs' : s = (k : Int) := by omega
      subst hs'
      have f0 := wN_pos k
      have f1 := wN_22 (k := k) (by omega)
      have f2 := p2_18 (k := k) (by omega)
      have f3 := or_pow hd
      have f4 := sh1 k
      have f5 : 2 ^ (k + 1) = 2 * 2 ^ k := by rw [Nat.pow_succ, Nat.mul_comm]
      have f6 := wS_22 (k := k) (by omega)
      have f7 : wS k < l → wN k ≤ l := by
        intro h7
        have f8 := wS_2 k
        have f9 := wN_le (show k ≤ k + 1 by omega)
        by_cases hk1 : k = 0
        · subst hk1; simp [wN, wS] at *; omega
        · have g9 : wN k < wN (k + 1) := by
            obtain ⟨j, rfl⟩ : ∃ j, k = j + 1 := ⟨k - 1, by omega⟩
            show wN (j + 1) < wN j + wN (j + 1)
            have := wN_pos j
            omega
          omega
      refine V_iload_n C dX6_full_7 rfl rfl ?_
      refine V_if_lt (tgt := 42) C dX6_full_8 (by decide) (by omega) (fun q8 => by exfalso; omega) (fun q8 => ?_)
      refine V_iload_n C dX6_full_11 rfl rfl ?_
      refine V_iconst C dX6_full_12 ?_
      refine V_iload_n C dX6_full_13 rfl rfl ?_
      refine V_ishl C dX6_full_14 1 k (by first | rfl | omega) (by first | rfl | omega) (by omega) (by omega) ?_
      refine V_iconst C dX6_full_15 ?_
      refine V_isub C dX6_full_16 ?_
      obtain ⟨u, hu, hu2⟩ : ∃ u : Nat, u = 1 <<< k - 1 ∧ ((1 <<< k : Nat) : Int) - (1 : Int) = (u : Int) := ⟨_, rfl, by omega⟩
      rw [hu2]
      refine V_S1 (k2 := 0) (s2 := 0) C dX6_full_17 lX6_37 kX6_worths (c_X6_worths u (by omega) G N gf h) rfl rfl ⟨Nat.le_of_ble_eq_true rfl, Nat.le_of_ble_eq_true rfl⟩ (Nat.le_of_ble_eq_true rfl) (Nat.le_refl _) (Nat.le_refl _) ?_
      rw [hu, wo_full k (by omega)]
      refine V_icmp_le (tgt := 36) C dX6_full_20 (by decide) (by omega) (by omega) (fun q20 => ?_) (fun q20 => ?_)
      · first
        | (have g1 := fm_t (k := k) (l := l) (by omega)
           have g2 : l2 = l - wN k := by omega
           subst g2
           refine V_iinc C dX6_full_36 rfl (Nat.le_of_ble_eq_true rfl) rfl ?_
           refine V_goto (tgt := 7) C dX6_full_39 (by decide) ?_
           exact ih _ _ _ (by omega) (by omega) (by omega) (by rw [f3]; exact dvd_pow hd) (by omega) (by omega))
        | (have g1 := fm_f (k := k) (l := l) (by omega)
           refine V_iinc C dX6_full_36 rfl (Nat.le_of_ble_eq_true rfl) rfl ?_
           refine V_goto (tgt := 7) C dX6_full_39 (by decide) ?_
           exact ih _ _ _ (by omega) (by omega) (by omega) (dvd_pow0 hd) (by omega) (by omega))
      · refine V_iload_n C dX6_full_23 rfl rfl ?_
        refine V_iload_n C dX6_full_24 rfl rfl ?_
        refine V_S1 (k2 := 0) (s2 := 0) C dX6_full_25 lX6_33 kX6_worth (c_X6_worth k (by omega) G N gf h) rfl rfl ⟨Nat.le_of_ble_eq_true rfl, Nat.le_of_ble_eq_true rfl⟩ (Nat.le_of_ble_eq_true rfl) (Nat.le_refl _) (Nat.le_refl _) ?_
        refine V_isub C dX6_full_28 ?_
        obtain ⟨l2, hl2⟩ : ∃ l2 : Nat, (l : Int) - ((wN k : Nat) : Int) = (l2 : Int) := ⟨l - wN k, by omega⟩
        rw [hl2]
        refine V_istore_n C dX6_full_29 rfl (Nat.le_of_ble_eq_true rfl) rfl ?_
        refine V_iload_n C dX6_full_30 rfl rfl ?_
        refine V_iconst C dX6_full_31 ?_
        refine V_iload_n C dX6_full_32 rfl rfl ?_
        refine V_ishl C dX6_full_33 1 k (by first | rfl | omega) (by first | rfl | omega) (by omega) (by omega) ?_
        refine V_ior C dX6_full_34 m (1 <<< k) (by first | rfl | omega) (by first | rfl | omega) ?_
        refine V_istore_n C dX6_full_35 rfl (Nat.le_of_ble_eq_true rfl) rfl ?_
        first
        | (have g1 := fm_t (k := k) (l := l) (by omega)
           have g2 : l2 = l - wN k := by omega
           subst g2
           refine V_iinc C dX6_full_36 rfl (Nat.le_of_ble_eq_true rfl) rfl ?_
           refine V_goto (tgt := 7) C dX6_full_39 (by decide) ?_
           exact ih _ _ _ (by omega) (by omega) (by omega) (by rw [f3]; exact dvd_pow hd) (by omega) (by omega))
        | (have g1 := fm_f (k := k) (l := l) (by omega)
           refine V_iinc C dX6_full_36 rfl (Nat.le_of_ble_eq_true rfl) rfl ?_
           refine V_goto (tgt := 7) C dX6_full_39 (by decide) ?_
           exact ih _ _ _ (by omega) (by omega) (by omega) (dvd_pow0 hd) (by omega) (by omega))
  refine V_iload_n C dX6_full_0 rfl rfl ?_
  refine V_istore_n C dX6_full_1 rfl (Nat.le_of_ble_eq_true rfl) rfl ?_
  refine V_iconst C dX6_full_2 ?_
  refine V_istore_n C dX6_full_3 rfl (Nat.le_of_ble_eq_true rfl) rfl ?_
  refine V_bipush C dX6_full_4 (by decide +kernel) ?_
  refine V_istore_n C dX6_full_6 rfl (Nat.le_of_ble_eq_true rfl) rfl ?_
  exact loop 18 n 0 _ (by omega) (by omega) hn (Nat.dvd_zero _) (by decide) (by omega)
set_option maxRecDepth 100000 in
set_option maxHeartbeats 4000000 in
theorem c_X6_many (m : Nat) (hm : m < 2147483648) (G : GT) (N : Nat) (gf : Bool) (h : Hp) : Ct G yX6_many mX6_many [.int (iI (m : Int))] N gf h 0 0 (some (.int (iI (cn 22 m : Nat)))) N gf h := by
  refine Ct_of kX6_many.1 (by decide) [some (.int (iI (m : Int))), none, none] rfl (Nat.le_of_ble_eq_true rfl) ?_
  intro x C hZ
  have loop : ∀ (n k : Nat), k + n = 22 → V G mX6_many x 4 [some (.int (iI (m : Int))), some (.int (iI (cn k m : Nat))), some (.int (iI (k : Int)))] [] N gf h 0 0 := by
    intro n
    induction n with
    | zero =>
      intro k e
      refine V_iload_n C dX6_many_4 rfl rfl ?_
      refine V_bipush C dX6_many_5 (by decide +kernel) ?_
      refine V_icmp_ge (tgt := 24) C dX6_many_7 (by decide) (by omega) (by omega) (fun q7 => ?_) (fun q7 => by exfalso; omega)
      refine V_iload_n C dX6_many_24 rfl rfl ?_
      exact V_iret C dX6_many_25 rfl hZ (by rw [show k = 22 by omega]) rfl
    | succ n ih =>
      intro k e
      have f1 := wN_22 (k := k) (by omega)
      have f2 := b1_le m k
      have f3 := wo_le k m
      have f4 := wS_22 (k := k) (by omega)
      have f5 := cn_le k m
      refine V_iload_n C dX6_many_4 rfl rfl ?_
      refine V_bipush C dX6_many_5 (by decide +kernel) ?_
      refine V_icmp_ge (tgt := 24) C dX6_many_7 (by decide) (by omega) (by omega) (fun q7 => by exfalso; omega) (fun q7 => ?_)
      refine V_iload_n C dX6_many_10 rfl rfl ?_
      refine V_iload_n C dX6_many_11 rfl rfl ?_
      refine V_iload_n C dX6_many_12 rfl rfl ?_
      refine V_ishr C dX6_many_13 m k (by first | rfl | omega) (by first | rfl | omega) (by omega) (by omega) ?_
      refine V_iconst C dX6_many_14 ?_
      refine V_iand C dX6_many_15 (m >>> k) 1 (by first | rfl | omega) (by first | rfl | omega) ?_
      refine V_iadd C dX6_many_16 ?_
      refine V_istore_n C dX6_many_17 rfl (Nat.le_of_ble_eq_true rfl) rfl ?_
      refine V_iinc C dX6_many_18 rfl (Nat.le_of_ble_eq_true rfl) rfl ?_
      refine V_goto (tgt := 4) C dX6_many_21 (by decide) ?_
      exact ih (k + 1) (by omega)
  refine V_iconst C dX6_many_0 ?_
  refine V_istore_n C dX6_many_1 rfl (Nat.le_of_ble_eq_true rfl) rfl ?_
  refine V_iconst C dX6_many_2 ?_
  refine V_istore_n C dX6_many_3 rfl (Nat.le_of_ble_eq_true rfl) rfl ?_
  exact loop 22 0 (by omega)
set_option maxRecDepth 100000 in
set_option maxHeartbeats 4000000 in
theorem c_X6_step (m : Nat) (hm : m < 2147483648) (p : Int) (hp : -100 ≤ p ∧ p ≤ 100) (G : GT) (N : Nat) (gf : Bool) (h : Hp) : Ct G yX6_step mX6_step [.int (iI (m : Int)), .int (iI p)] N gf h 0 0 (some (.int (iI (ft 22 m p)))) N gf h := by
  refine Ct_of kX6_step.1 (by decide) [some (.int (iI (m : Int))), some (.int (iI p)), none, none, none, none] rfl (Nat.le_of_ble_eq_true rfl) ?_
  intro x C hZ
  have loop : ∀ (n k : Nat) (o : Option Value) (lf fd : Int), k + n = 22 → lf = p - (cn k m : Nat) → fd = ft k m p → V G mX6_step x 7 [some (.int (iI (m : Int))), some (.int (iI p)), some (.int (iI lf)), some (.int (iI fd)), some (.int (iI (k : Int))), o] [] N gf h 0 0 := by
    intro n
    induction n with
    | zero =>
      intro k o lf fd e e2 e3
      refine V_iload C dX6_step_7 rfl ?_
      refine V_bipush C dX6_step_9 (by decide +kernel) ?_
      refine V_icmp_ge (tgt := 66) C dX6_step_11 (by decide) (by omega) (by omega) (fun q11 => ?_) (fun q11 => by exfalso; omega)
      refine V_iload_n C dX6_step_66 rfl rfl ?_
      exact V_iret C dX6_step_67 rfl hZ (by rw [e3, show k = 22 by omega]) rfl
    | succ n ih =>
      intro k o lf fd e e2 e3
      have f1 := wN_22 (k := k) (by omega)
      have f2 := b1_le m k
      have f3 := wo_le k m
      have f4 := wS_22 (k := k) (by omega)
      have f5 := cn_le k m
      have f6 := ft_rng k m p
      refine V_iload C dX6_step_7 rfl ?_
      refine V_bipush C dX6_step_9 (by decide +kernel) ?_
      refine V_icmp_ge (tgt := 66) C dX6_step_11 (by decide) (by omega) (by omega) (fun q11 => by exfalso; omega) (fun q11 => ?_)
      refine V_iload_n C dX6_step_14 rfl rfl ?_
      refine V_iload C dX6_step_15 rfl ?_
      refine V_ishr C dX6_step_17 m k (by first | rfl | omega) (by first | rfl | omega) (by omega) (by omega) ?_
      refine V_iconst C dX6_step_18 ?_
      refine V_iand C dX6_step_19 (m >>> k) 1 (by first | rfl | omega) (by first | rfl | omega) ?_
      refine V_iconst C dX6_step_20 ?_
      refine V_icmp_ne (tgt := 28) C dX6_step_21 (by decide) (by omega) (by omega) (fun q21 => ?_) (fun q21 => ?_)
      · refine V_iconst C dX6_step_28 ?_
        refine V_istore C dX6_step_29 (Nat.le_of_ble_eq_true rfl) rfl ?_
        refine V_iload C dX6_step_31 rfl ?_
        refine V_if_eq (tgt := 45) C dX6_step_33 (by decide) (by omega) (fun q33 => ?_) (fun q33 => ?_)
        · try (exfalso; omega)
          all_goals
            refine V_iload_n C dX6_step_45 rfl rfl ?_
            refine V_istore_n C dX6_step_46 rfl (Nat.le_of_ble_eq_true rfl) rfl ?_
            refine V_iload_n C dX6_step_47 rfl rfl ?_
            refine V_iload C dX6_step_48 rfl ?_
            refine V_if_eq (tgt := 57) C dX6_step_50 (by decide) (by omega) (fun q50 => ?_) (fun q50 => ?_)
            · try (exfalso; omega)
              all_goals
                refine V_iconst C dX6_step_57 ?_
                refine V_isub C dX6_step_58 ?_
                refine V_istore_n C dX6_step_59 rfl (Nat.le_of_ble_eq_true rfl) rfl ?_
                refine V_iinc C dX6_step_60 rfl (Nat.le_of_ble_eq_true rfl) rfl ?_
                refine V_goto (tgt := 7) C dX6_step_63 (by decide) ?_
                exact ih (k + 1) _ _ _ (by omega) (by first | (rw [cn_1 (by omega)]; omega) | (rw [cn_0 (by omega)]; omega)) (by first | (rw [ft_1 (by omega) (by omega)]) | (rw [ft_0 (by omega)]; exact e3))
            · try (exfalso; omega)
              all_goals
                refine V_iconst C dX6_step_53 ?_
                refine V_goto (tgt := 58) C dX6_step_54 (by decide) ?_
                refine V_isub C dX6_step_58 ?_
                refine V_istore_n C dX6_step_59 rfl (Nat.le_of_ble_eq_true rfl) rfl ?_
                refine V_iinc C dX6_step_60 rfl (Nat.le_of_ble_eq_true rfl) rfl ?_
                refine V_goto (tgt := 7) C dX6_step_63 (by decide) ?_
                exact ih (k + 1) _ _ _ (by omega) (by first | (rw [cn_1 (by omega)]; omega) | (rw [cn_0 (by omega)]; omega)) (by first | (rw [ft_1 (by omega) (by omega)]) | (rw [ft_0 (by omega)]; exact e3))
        · try (exfalso; omega)
          all_goals
            refine V_iload_n C dX6_step_36 rfl rfl ?_
            refine V_if_ne (tgt := 45) C dX6_step_37 (by decide) (by omega) (fun q37 => ?_) (fun q37 => ?_)
            · try (exfalso; omega)
              all_goals
                refine V_iload_n C dX6_step_45 rfl rfl ?_
                refine V_istore_n C dX6_step_46 rfl (Nat.le_of_ble_eq_true rfl) rfl ?_
                refine V_iload_n C dX6_step_47 rfl rfl ?_
                refine V_iload C dX6_step_48 rfl ?_
                refine V_if_eq (tgt := 57) C dX6_step_50 (by decide) (by omega) (fun q50 => ?_) (fun q50 => ?_)
                · try (exfalso; omega)
                  all_goals
                    refine V_iconst C dX6_step_57 ?_
                    refine V_isub C dX6_step_58 ?_
                    refine V_istore_n C dX6_step_59 rfl (Nat.le_of_ble_eq_true rfl) rfl ?_
                    refine V_iinc C dX6_step_60 rfl (Nat.le_of_ble_eq_true rfl) rfl ?_
                    refine V_goto (tgt := 7) C dX6_step_63 (by decide) ?_
                    exact ih (k + 1) _ _ _ (by omega) (by first | (rw [cn_1 (by omega)]; omega) | (rw [cn_0 (by omega)]; omega)) (by first | (rw [ft_1 (by omega) (by omega)]) | (rw [ft_0 (by omega)]; exact e3))
                · try (exfalso; omega)
                  all_goals
                    refine V_iconst C dX6_step_53 ?_
                    refine V_goto (tgt := 58) C dX6_step_54 (by decide) ?_
                    refine V_isub C dX6_step_58 ?_
                    refine V_istore_n C dX6_step_59 rfl (Nat.le_of_ble_eq_true rfl) rfl ?_
                    refine V_iinc C dX6_step_60 rfl (Nat.le_of_ble_eq_true rfl) rfl ?_
                    refine V_goto (tgt := 7) C dX6_step_63 (by decide) ?_
                    exact ih (k + 1) _ _ _ (by omega) (by first | (rw [cn_1 (by omega)]; omega) | (rw [cn_0 (by omega)]; omega)) (by first | (rw [ft_1 (by omega) (by omega)]) | (rw [ft_0 (by omega)]; exact e3))
            · try (exfalso; omega)
              all_goals
                refine V_iload C dX6_step_40 rfl ?_
                refine V_goto (tgt := 46) C dX6_step_42 (by decide) ?_
                refine V_istore_n C dX6_step_46 rfl (Nat.le_of_ble_eq_true rfl) rfl ?_
                refine V_iload_n C dX6_step_47 rfl rfl ?_
                refine V_iload C dX6_step_48 rfl ?_
                refine V_if_eq (tgt := 57) C dX6_step_50 (by decide) (by omega) (fun q50 => ?_) (fun q50 => ?_)
                · try (exfalso; omega)
                  all_goals
                    refine V_iconst C dX6_step_57 ?_
                    refine V_isub C dX6_step_58 ?_
                    refine V_istore_n C dX6_step_59 rfl (Nat.le_of_ble_eq_true rfl) rfl ?_
                    refine V_iinc C dX6_step_60 rfl (Nat.le_of_ble_eq_true rfl) rfl ?_
                    refine V_goto (tgt := 7) C dX6_step_63 (by decide) ?_
                    exact ih (k + 1) _ _ _ (by omega) (by first | (rw [cn_1 (by omega)]; omega) | (rw [cn_0 (by omega)]; omega)) (by first | (rw [ft_1 (by omega) (by omega)]) | (rw [ft_0 (by omega)]; exact e3))
                · try (exfalso; omega)
                  all_goals
                    refine V_iconst C dX6_step_53 ?_
                    refine V_goto (tgt := 58) C dX6_step_54 (by decide) ?_
                    refine V_isub C dX6_step_58 ?_
                    refine V_istore_n C dX6_step_59 rfl (Nat.le_of_ble_eq_true rfl) rfl ?_
                    refine V_iinc C dX6_step_60 rfl (Nat.le_of_ble_eq_true rfl) rfl ?_
                    refine V_goto (tgt := 7) C dX6_step_63 (by decide) ?_
                    exact ih (k + 1) _ _ _ (by omega) (by first | (rw [cn_1 (by omega)]; omega) | (rw [cn_0 (by omega)]; omega)) (by first | (rw [ft_1 (by omega) (by omega)]) | (rw [ft_0 (by omega)]; exact e3))
      · refine V_iconst C dX6_step_24 ?_
        refine V_goto (tgt := 29) C dX6_step_25 (by decide) ?_
        refine V_istore C dX6_step_29 (Nat.le_of_ble_eq_true rfl) rfl ?_
        refine V_iload C dX6_step_31 rfl ?_
        refine V_if_eq (tgt := 45) C dX6_step_33 (by decide) (by omega) (fun q33 => ?_) (fun q33 => ?_)
        · try (exfalso; omega)
          all_goals
            refine V_iload_n C dX6_step_45 rfl rfl ?_
            refine V_istore_n C dX6_step_46 rfl (Nat.le_of_ble_eq_true rfl) rfl ?_
            refine V_iload_n C dX6_step_47 rfl rfl ?_
            refine V_iload C dX6_step_48 rfl ?_
            refine V_if_eq (tgt := 57) C dX6_step_50 (by decide) (by omega) (fun q50 => ?_) (fun q50 => ?_)
            · try (exfalso; omega)
              all_goals
                refine V_iconst C dX6_step_57 ?_
                refine V_isub C dX6_step_58 ?_
                refine V_istore_n C dX6_step_59 rfl (Nat.le_of_ble_eq_true rfl) rfl ?_
                refine V_iinc C dX6_step_60 rfl (Nat.le_of_ble_eq_true rfl) rfl ?_
                refine V_goto (tgt := 7) C dX6_step_63 (by decide) ?_
                exact ih (k + 1) _ _ _ (by omega) (by first | (rw [cn_1 (by omega)]; omega) | (rw [cn_0 (by omega)]; omega)) (by first | (rw [ft_1 (by omega) (by omega)]) | (rw [ft_0 (by omega)]; exact e3))
            · try (exfalso; omega)
              all_goals
                refine V_iconst C dX6_step_53 ?_
                refine V_goto (tgt := 58) C dX6_step_54 (by decide) ?_
                refine V_isub C dX6_step_58 ?_
                refine V_istore_n C dX6_step_59 rfl (Nat.le_of_ble_eq_true rfl) rfl ?_
                refine V_iinc C dX6_step_60 rfl (Nat.le_of_ble_eq_true rfl) rfl ?_
                refine V_goto (tgt := 7) C dX6_step_63 (by decide) ?_
                exact ih (k + 1) _ _ _ (by omega) (by first | (rw [cn_1 (by omega)]; omega) | (rw [cn_0 (by omega)]; omega)) (by first | (rw [ft_1 (by omega) (by omega)]) | (rw [ft_0 (by omega)]; exact e3))
        · try (exfalso; omega)
          all_goals
            refine V_iload_n C dX6_step_36 rfl rfl ?_
            refine V_if_ne (tgt := 45) C dX6_step_37 (by decide) (by omega) (fun q37 => ?_) (fun q37 => ?_)
            · try (exfalso; omega)
              all_goals
                refine V_iload_n C dX6_step_45 rfl rfl ?_
                refine V_istore_n C dX6_step_46 rfl (Nat.le_of_ble_eq_true rfl) rfl ?_
                refine V_iload_n C dX6_step_47 rfl rfl ?_
                refine V_iload C dX6_step_48 rfl ?_
                refine V_if_eq (tgt := 57) C dX6_step_50 (by decide) (by omega) (fun q50 => ?_) (fun q50 => ?_)
                · try (exfalso; omega)
                  all_goals
                    refine V_iconst C dX6_step_57 ?_
                    refine V_isub C dX6_step_58 ?_
                    refine V_istore_n C dX6_step_59 rfl (Nat.le_of_ble_eq_true rfl) rfl ?_
                    refine V_iinc C dX6_step_60 rfl (Nat.le_of_ble_eq_true rfl) rfl ?_
                    refine V_goto (tgt := 7) C dX6_step_63 (by decide) ?_
                    exact ih (k + 1) _ _ _ (by omega) (by first | (rw [cn_1 (by omega)]; omega) | (rw [cn_0 (by omega)]; omega)) (by first | (rw [ft_1 (by omega) (by omega)]) | (rw [ft_0 (by omega)]; exact e3))
                · try (exfalso; omega)
                  all_goals
                    refine V_iconst C dX6_step_53 ?_
                    refine V_goto (tgt := 58) C dX6_step_54 (by decide) ?_
                    refine V_isub C dX6_step_58 ?_
                    refine V_istore_n C dX6_step_59 rfl (Nat.le_of_ble_eq_true rfl) rfl ?_
                    refine V_iinc C dX6_step_60 rfl (Nat.le_of_ble_eq_true rfl) rfl ?_
                    refine V_goto (tgt := 7) C dX6_step_63 (by decide) ?_
                    exact ih (k + 1) _ _ _ (by omega) (by first | (rw [cn_1 (by omega)]; omega) | (rw [cn_0 (by omega)]; omega)) (by first | (rw [ft_1 (by omega) (by omega)]) | (rw [ft_0 (by omega)]; exact e3))
            · try (exfalso; omega)
              all_goals
                refine V_iload C dX6_step_40 rfl ?_
                refine V_goto (tgt := 46) C dX6_step_42 (by decide) ?_
                refine V_istore_n C dX6_step_46 rfl (Nat.le_of_ble_eq_true rfl) rfl ?_
                refine V_iload_n C dX6_step_47 rfl rfl ?_
                refine V_iload C dX6_step_48 rfl ?_
                refine V_if_eq (tgt := 57) C dX6_step_50 (by decide) (by omega) (fun q50 => ?_) (fun q50 => ?_)
                · try (exfalso; omega)
                  all_goals
                    refine V_iconst C dX6_step_57 ?_
                    refine V_isub C dX6_step_58 ?_
                    refine V_istore_n C dX6_step_59 rfl (Nat.le_of_ble_eq_true rfl) rfl ?_
                    refine V_iinc C dX6_step_60 rfl (Nat.le_of_ble_eq_true rfl) rfl ?_
                    refine V_goto (tgt := 7) C dX6_step_63 (by decide) ?_
                    exact ih (k + 1) _ _ _ (by omega) (by first | (rw [cn_1 (by omega)]; omega) | (rw [cn_0 (by omega)]; omega)) (by first | (rw [ft_1 (by omega) (by omega)]) | (rw [ft_0 (by omega)]; exact e3))
                · try (exfalso; omega)
                  all_goals
                    refine V_iconst C dX6_step_53 ?_
                    refine V_goto (tgt := 58) C dX6_step_54 (by decide) ?_
                    refine V_isub C dX6_step_58 ?_
                    refine V_istore_n C dX6_step_59 rfl (Nat.le_of_ble_eq_true rfl) rfl ?_
                    refine V_iinc C dX6_step_60 rfl (Nat.le_of_ble_eq_true rfl) rfl ?_
                    refine V_goto (tgt := 7) C dX6_step_63 (by decide) ?_
                    exact ih (k + 1) _ _ _ (by omega) (by first | (rw [cn_1 (by omega)]; omega) | (rw [cn_0 (by omega)]; omega)) (by first | (rw [ft_1 (by omega) (by omega)]) | (rw [ft_0 (by omega)]; exact e3))
  refine V_iload_n C dX6_step_0 rfl rfl ?_
  refine V_istore_n C dX6_step_1 rfl (Nat.le_of_ble_eq_true rfl) rfl ?_
  refine V_iconst C dX6_step_2 ?_
  refine V_istore_n C dX6_step_3 rfl (Nat.le_of_ble_eq_true rfl) rfl ?_
  refine V_iconst C dX6_step_4 ?_
  refine V_istore C dX6_step_5 (Nat.le_of_ble_eq_true rfl) rfl ?_
  exact loop 22 0 none _ _ (by omega) (by simp [cn]) rfl
def bcA (m : Nat) : Nat := m - (m >>> 1 &&& 1431655765)
def bcB (m : Nat) : Nat := (bcA m &&& 858993459) + (bcA m >>> 2 &&& 858993459)
def bcC (m : Nat) : Nat := bcB m + bcB m >>> 4 &&& 252645135
def bcD (m : Nat) : Nat := bcC m + bcC m >>> 8
def bcE (m : Nat) : Nat := bcD m + bcD m >>> 16
def bcN (m : Nat) : Nat := bcE m &&& 63
set_option maxRecDepth 100000 in
set_option maxHeartbeats 4000000 in
theorem c_J6_bitCount_0f7a4 (m : Nat) (hm : m < 2147483648) (G : GT) (N : Nat) (gf : Bool) (h : Hp) : Ct G yJ6_bitCount_0f7a4 mJ6_bitCount_0f7a4 [.int (iI (m : Int))] N gf h 0 0 (some (.int (iI (bcN m : Nat)))) N gf h := by
  refine Ct_of kJ6_bitCount_0f7a4.1 (by decide) [some (.int (iI (m : Int)))] rfl (Nat.le_of_ble_eq_true rfl) ?_
  intro x C hZ
  have a1 : (m >>> 1 &&& 1431655765) ≤ m := Nat.le_trans Nat.and_le_left (Nat.shiftRight_le m 1)
  have a2 : bcA m ≤ m := Nat.sub_le _ _
  have a3 : bcB m ≤ 858993459 + 858993459 := Nat.add_le_add Nat.and_le_right Nat.and_le_right
  have a4 : bcB m >>> 4 ≤ 107374182 := by rw [Nat.shiftRight_eq_div_pow]; omega
  have a5 : bcC m ≤ 252645135 := Nat.and_le_right
  have a6 : bcC m >>> 8 ≤ bcC m := Nat.shiftRight_le _ _
  have a7 : bcD m >>> 16 ≤ bcD m := Nat.shiftRight_le _ _
  have a8 : bcD m = bcC m + bcC m >>> 8 := rfl
  refine V_iload_n C dJ6_bitCount_0f7a4_0 rfl rfl ?_
  refine V_iload_n C dJ6_bitCount_0f7a4_1 rfl rfl ?_
  refine V_iconst C dJ6_bitCount_0f7a4_2 ?_
  refine V_iushr C dJ6_bitCount_0f7a4_3 m 1 (by first | rfl | omega) (by first | rfl | omega) (by omega) (by omega) ?_
  refine V_ldcw (n := 1431655765) C dJ6_bitCount_0f7a4_4 qJ6_265 rfl ?_
  refine V_iand C dJ6_bitCount_0f7a4_7 (m >>> 1) 1431655765 (by first | rfl | omega) (by first | rfl | omega) ?_
  refine V_isub C dJ6_bitCount_0f7a4_8 ?_
  rw [show (m : Int) - ((m >>> 1 &&& 1431655765 : Nat) : Int) = ((bcA m : Nat) : Int) by unfold bcA; omega]
  refine V_istore_n C dJ6_bitCount_0f7a4_9 rfl (Nat.le_of_ble_eq_true rfl) rfl ?_
  refine V_iload_n C dJ6_bitCount_0f7a4_10 rfl rfl ?_
  refine V_ldcw (n := 858993459) C dJ6_bitCount_0f7a4_11 qJ6_266 rfl ?_
  refine V_iand C dJ6_bitCount_0f7a4_14 (bcA m) 858993459 (by first | rfl | omega) (by first | rfl | omega) ?_
  refine V_iload_n C dJ6_bitCount_0f7a4_15 rfl rfl ?_
  refine V_iconst C dJ6_bitCount_0f7a4_16 ?_
  refine V_iushr C dJ6_bitCount_0f7a4_17 (bcA m) 2 (by first | rfl | omega) (by first | rfl | omega) (by omega) (by omega) ?_
  refine V_ldcw (n := 858993459) C dJ6_bitCount_0f7a4_18 qJ6_266 rfl ?_
  refine V_iand C dJ6_bitCount_0f7a4_21 (bcA m >>> 2) 858993459 (by first | rfl | omega) (by first | rfl | omega) ?_
  refine V_iadd C dJ6_bitCount_0f7a4_22 ?_
  rw [show ((bcA m &&& 858993459 : Nat) : Int) + ((bcA m >>> 2 &&& 858993459 : Nat) : Int) = ((bcB m : Nat) : Int) from rfl]
  refine V_istore_n C dJ6_bitCount_0f7a4_23 rfl (Nat.le_of_ble_eq_true rfl) rfl ?_
  refine V_iload_n C dJ6_bitCount_0f7a4_24 rfl rfl ?_
  refine V_iload_n C dJ6_bitCount_0f7a4_25 rfl rfl ?_
  refine V_iconst C dJ6_bitCount_0f7a4_26 ?_
  refine V_iushr C dJ6_bitCount_0f7a4_27 (bcB m) 4 (by first | rfl | omega) (by first | rfl | omega) (by omega) (by omega) ?_
  refine V_iadd C dJ6_bitCount_0f7a4_28 ?_
  refine V_ldcw (n := 252645135) C dJ6_bitCount_0f7a4_29 qJ6_267 rfl ?_
  refine V_iand C dJ6_bitCount_0f7a4_32 (bcB m + bcB m >>> 4) 252645135 (by first | rfl | omega) (by first | rfl | omega) ?_
  rw [show (((bcB m + bcB m >>> 4) &&& 252645135 : Nat) : Int) = ((bcC m : Nat) : Int) from rfl]
  refine V_istore_n C dJ6_bitCount_0f7a4_33 rfl (Nat.le_of_ble_eq_true rfl) rfl ?_
  refine V_iload_n C dJ6_bitCount_0f7a4_34 rfl rfl ?_
  refine V_iload_n C dJ6_bitCount_0f7a4_35 rfl rfl ?_
  refine V_bipush C dJ6_bitCount_0f7a4_36 (by decide +kernel) ?_
  refine V_iushr C dJ6_bitCount_0f7a4_38 (bcC m) 8 (by first | rfl | omega) (by first | rfl | omega) (by omega) (by omega) ?_
  refine V_iadd C dJ6_bitCount_0f7a4_39 ?_
  rw [show ((bcC m : Nat) : Int) + ((bcC m >>> 8 : Nat) : Int) = ((bcD m : Nat) : Int) from rfl]
  refine V_istore_n C dJ6_bitCount_0f7a4_40 rfl (Nat.le_of_ble_eq_true rfl) rfl ?_
  refine V_iload_n C dJ6_bitCount_0f7a4_41 rfl rfl ?_
  refine V_iload_n C dJ6_bitCount_0f7a4_42 rfl rfl ?_
  refine V_bipush C dJ6_bitCount_0f7a4_43 (by decide +kernel) ?_
  refine V_iushr C dJ6_bitCount_0f7a4_45 (bcD m) 16 (by first | rfl | omega) (by first | rfl | omega) (by omega) (by omega) ?_
  refine V_iadd C dJ6_bitCount_0f7a4_46 ?_
  rw [show ((bcD m : Nat) : Int) + ((bcD m >>> 16 : Nat) : Int) = ((bcE m : Nat) : Int) from rfl]
  refine V_istore_n C dJ6_bitCount_0f7a4_47 rfl (Nat.le_of_ble_eq_true rfl) rfl ?_
  refine V_iload_n C dJ6_bitCount_0f7a4_48 rfl rfl ?_
  refine V_bipush C dJ6_bitCount_0f7a4_49 (by decide +kernel) ?_
  refine V_iand C dJ6_bitCount_0f7a4_51 (bcE m) 63 (by first | rfl | omega) (by first | rfl | omega) ?_
  exact V_iret C dJ6_bitCount_0f7a4_52 rfl hZ (by first | rfl | omega) rfl
