set_option maxRecDepth 100000 in
set_option maxHeartbeats 4000000 in
theorem c_X5_worth (K : Nat) (hK : K ≤ 18) (G : GT) (N : Nat) (gf : Bool) (h : Hp) : Ct G yX5_worth mX5_worth [.int (iI (K : Int))] N gf h 0 0 (some (.int (iI (wN K : Nat)))) N gf h := by
  refine Ct_of kX5_worth.1 (by decide) [some (.int (iI (K : Int)))] rfl (Nat.le_of_ble_eq_true rfl) ?_
  intro x C hZ
  refine V_iload_n C dX5_worth_0 rfl rfl ?_
  refine V_if_lt (tgt := 20) C dX5_worth_1 (by decide) (by omega) (fun q1 => by exfalso; omega) (fun q1 => ?_)
  refine V_iload_n C dX5_worth_4 rfl rfl ?_
  refine V_gets C dX5_worth_5 gX5_314 ?_
  refine V_wlen C dX5_worth_8 ?_
  refine V_icmp_ge (tgt := 20) C dX5_worth_9 (by decide) (by omega) (by omega) (fun q9 => by exfalso; omega) (fun q9 => ?_)
  refine V_gets C dX5_worth_12 gX5_314 ?_
  refine V_iload_n C dX5_worth_15 rfl rfl ?_
  refine V_wld C dX5_worth_16 (by omega) ?_
  refine V_goto (tgt := 21) C dX5_worth_17 (by decide) ?_
  exact V_iret C dX5_worth_21 rfl hZ (by first | rfl | omega) rfl
set_option maxRecDepth 100000 in
set_option maxHeartbeats 4000000 in
theorem c_X5_hasStep (m k : Nat) (hm : m < 2147483648) (hk : k < 32) (G : GT) (N : Nat) (gf : Bool) (h : Hp) : Ct G yX5_hasStep mX5_hasStep [.int (iI (m : Int)), .int (iI (k : Int))] N gf h 0 0 (some (.int (iI ((m >>> k &&& 1 : Nat) : Int)))) N gf h := by
  refine Ct_of kX5_hasStep.1 (by decide) [some (.int (iI (m : Int))), some (.int (iI (k : Int)))] rfl (Nat.le_of_ble_eq_true rfl) ?_
  intro x C hZ
  have f2 := b1_le m k
  refine V_iload_n C dX5_hasStep_0 rfl rfl ?_
  refine V_iload_n C dX5_hasStep_1 rfl rfl ?_
  refine V_ishr C dX5_hasStep_2 m k (by first | rfl | omega) (by first | rfl | omega) (by omega) (by omega) ?_
  refine V_iconst C dX5_hasStep_3 ?_
  refine V_iand C dX5_hasStep_4 (m >>> k) 1 (by first | rfl | omega) (by first | rfl | omega) ?_
  refine V_iconst C dX5_hasStep_5 ?_
  refine V_icmp_ne (tgt := 13) C dX5_hasStep_6 (by decide) (by omega) (by omega) (fun q6 => ?_) (fun q6 => ?_)
  · refine V_iconst C dX5_hasStep_13 ?_
    exact V_zret C dX5_hasStep_14 rfl hZ (by omega) (by first | rfl | omega) rfl
  · refine V_iconst C dX5_hasStep_9 ?_
    refine V_goto (tgt := 14) C dX5_hasStep_10 (by decide) ?_
    exact V_zret C dX5_hasStep_14 rfl hZ (by omega) (by first | rfl | omega) rfl
set_option maxRecDepth 100000 in
set_option maxHeartbeats 4000000 in
theorem c_X5_worthOfMark (m : Nat) (hm : m < 2147483648) (G : GT) (N : Nat) (gf : Bool) (h : Hp) : Ct G yX5_worthOfMark mX5_worthOfMark [.int (iI (m : Int))] N gf h 0 0 (some (.int (iI (wo 18 m : Nat)))) N gf h := by
  refine Ct_of kX5_worthOfMark.1 (by decide) [some (.int (iI (m : Int))), none, none] rfl (Nat.le_of_ble_eq_true rfl) ?_
  intro x C hZ
  have loop : ∀ (n k : Nat), k + n = 18 → V G mX5_worthOfMark x 4 [some (.int (iI (m : Int))), some (.int (iI (wo k m : Nat))), some (.int (iI (k : Int)))] [] N gf h 0 0 := by
    intro n
    induction n with
    | zero =>
      intro k e
      refine V_iload_n C dX5_worthOfMark_4 rfl rfl ?_
      refine V_bipush C dX5_worthOfMark_5 (by decide +kernel) ?_
      refine V_icmp_ge (tgt := 31) C dX5_worthOfMark_7 (by decide) (by omega) (by omega) (fun q7 => ?_) (fun q7 => by exfalso; omega)
      refine V_iload_n C dX5_worthOfMark_31 rfl rfl ?_
      exact V_iret C dX5_worthOfMark_32 rfl hZ (by rw [show k = 18 by omega]) rfl
    | succ n ih =>
      intro k e
      have f1 := wN_22 (k := k) (by omega)
      have f2 := b1_le m k
      have f3 := wo_le k m
      have f4 := wS_22 (k := k) (by omega)
      have f5 := cn_le k m
      refine V_iload_n C dX5_worthOfMark_4 rfl rfl ?_
      refine V_bipush C dX5_worthOfMark_5 (by decide +kernel) ?_
      refine V_icmp_ge (tgt := 31) C dX5_worthOfMark_7 (by decide) (by omega) (by omega) (fun q7 => by exfalso; omega) (fun q7 => ?_)
      refine V_iload_n C dX5_worthOfMark_10 rfl rfl ?_
      refine V_iload_n C dX5_worthOfMark_11 rfl rfl ?_
      refine V_S1 (k2 := 0) (s2 := 0) C dX5_worthOfMark_12 lX5_318 kX5_hasStep (c_X5_hasStep m k hm (by omega) G N gf h) rfl rfl ⟨Nat.le_of_ble_eq_true rfl, Nat.le_of_ble_eq_true rfl⟩ (Nat.le_of_ble_eq_true rfl) (Nat.le_refl _) (Nat.le_refl _) ?_
      refine V_if_eq (tgt := 25) C dX5_worthOfMark_15 (by decide) (by omega) (fun q15 => ?_) (fun q15 => ?_)
      · refine V_eq rfl (loc' := [some (.int (iI (m : Int))), some (.int (iI (wo (k + 1) m : Nat))), some (.int (iI (k : Int)))]) (by first | (rw [wo_1 (by omega)]; rfl) | (rw [wo_0 (by omega)])) rfl rfl ?_
        refine V_iinc C dX5_worthOfMark_25 rfl (Nat.le_of_ble_eq_true rfl) rfl ?_
        refine V_goto (tgt := 4) C dX5_worthOfMark_28 (by decide) ?_
        exact ih (k + 1) (by omega)
      · refine V_iload_n C dX5_worthOfMark_18 rfl rfl ?_
        refine V_iload_n C dX5_worthOfMark_19 rfl rfl ?_
        refine V_S1 (k2 := 0) (s2 := 0) C dX5_worthOfMark_20 lX5_196 kX5_worth (c_X5_worth k (by omega) G N gf h) rfl rfl ⟨Nat.le_of_ble_eq_true rfl, Nat.le_of_ble_eq_true rfl⟩ (Nat.le_of_ble_eq_true rfl) (Nat.le_refl _) (Nat.le_refl _) ?_
        refine V_iadd C dX5_worthOfMark_23 ?_
        refine V_istore_n C dX5_worthOfMark_24 rfl (Nat.le_of_ble_eq_true rfl) rfl ?_
        refine V_eq rfl (loc' := [some (.int (iI (m : Int))), some (.int (iI (wo (k + 1) m : Nat))), some (.int (iI (k : Int)))]) (by first | (rw [wo_1 (by omega)]; rfl) | (rw [wo_0 (by omega)])) rfl rfl ?_
        refine V_iinc C dX5_worthOfMark_25 rfl (Nat.le_of_ble_eq_true rfl) rfl ?_
        refine V_goto (tgt := 4) C dX5_worthOfMark_28 (by decide) ?_
        exact ih (k + 1) (by omega)
  refine V_iconst C dX5_worthOfMark_0 ?_
  refine V_istore_n C dX5_worthOfMark_1 rfl (Nat.le_of_ble_eq_true rfl) rfl ?_
  refine V_iconst C dX5_worthOfMark_2 ?_
  refine V_istore_n C dX5_worthOfMark_3 rfl (Nat.le_of_ble_eq_true rfl) rfl ?_
  exact loop 18 0 (by omega)
set_option maxRecDepth 100000 in
set_option maxHeartbeats 4000000 in
theorem c_X5_greedyMark (n : Nat) (hn : n ≤ 6764) (G : GT) (N : Nat) (gf : Bool) (h : Hp) : Ct G yX5_greedyMark mX5_greedyMark [.int (iI (n : Int))] N gf h 0 0 (some (.int (iI (gm 18 n : Nat)))) N gf h := by
  refine Ct_of kX5_greedyMark.1 (by decide) [some (.int (iI (n : Int))), none, none, none] rfl (Nat.le_of_ble_eq_true rfl) ?_
  intro x C hZ
  have loop : ∀ (k l m : Nat) (s : Int), k ≤ 18 → s = (k : Int) - 1 → l ≤ 6764 → 2 ^ k ∣ m → m + 2 ^ k ≤ 262144 → m + gm k l = gm 18 n → V G mX5_greedyMark x 7 [some (.int (iI (n : Int))), some (.int (iI (m : Int))), some (.int (iI (l : Int))), some (.int (iI s))] [] N gf h 0 0 := by
    intro k
    induction k with
    | zero =>
      intro l m s hk hs hl hd hm e
      refine V_iload_n C dX5_greedyMark_7 rfl rfl ?_
      refine V_if_lt (tgt := 38) C dX5_greedyMark_8 (by decide) (by omega) (fun q8 => ?_) (fun q8 => by exfalso; omega)
      refine V_iload_n C dX5_greedyMark_38 rfl rfl ?_
      exact V_iret C dX5_greedyMark_39 rfl hZ (by have e2 : gm 0 l = 0 := rfl; omega) rfl
    | succ k ih =>
      intro l m s hk hs hl hd hm e
      have hs' : s = (k : Int) := by omega
      subst hs'
      have f1 := wN_22 (k := k) (by omega)
      have f2 := p2_18 (k := k) (by omega)
      have f3 := or_pow hd
      have f4 := sh1 k
      have f5 : 2 ^ (k + 1) = 2 * 2 ^ k := by rw [Nat.pow_succ, Nat.mul_comm]
      refine V_iload_n C dX5_greedyMark_7 rfl rfl ?_
      refine V_if_lt (tgt := 38) C dX5_greedyMark_8 (by decide) (by omega) (fun q8 => by exfalso; omega) (fun q8 => ?_)
      refine V_iload_n C dX5_greedyMark_11 rfl rfl ?_
      refine V_S1 (k2 := 0) (s2 := 0) C dX5_greedyMark_12 lX5_196 kX5_worth (c_X5_worth k (by omega) G N gf h) rfl rfl ⟨Nat.le_of_ble_eq_true rfl, Nat.le_of_ble_eq_true rfl⟩ (Nat.le_of_ble_eq_true rfl) (Nat.le_refl _) (Nat.le_refl _) ?_
      refine V_iload_n C dX5_greedyMark_15 rfl rfl ?_
      refine V_icmp_gt (tgt := 32) C dX5_greedyMark_16 (by decide) (by omega) (by omega) (fun q16 => ?_) (fun q16 => ?_)
      · first
        | (have g1 := gm_t (k := k) (l := l) (by omega)
           have g2 : l2 = l - wN k := by omega
           subst g2
           refine V_iinc C dX5_greedyMark_32 rfl (Nat.le_of_ble_eq_true rfl) rfl ?_
           refine V_goto (tgt := 7) C dX5_greedyMark_35 (by decide) ?_
           exact ih _ _ _ (by omega) (by omega) (by omega) (by rw [f3]; exact dvd_pow hd) (by omega) (by omega))
        | (have g1 := gm_f (k := k) (l := l) (by omega)
           refine V_iinc C dX5_greedyMark_32 rfl (Nat.le_of_ble_eq_true rfl) rfl ?_
           refine V_goto (tgt := 7) C dX5_greedyMark_35 (by decide) ?_
           exact ih _ _ _ (by omega) (by omega) (by omega) (dvd_pow0 hd) (by omega) (by omega))
      · refine V_iload_n C dX5_greedyMark_19 rfl rfl ?_
        refine V_iload_n C dX5_greedyMark_20 rfl rfl ?_
        refine V_S1 (k2 := 0) (s2 := 0) C dX5_greedyMark_21 lX5_196 kX5_worth (c_X5_worth k (by omega) G N gf h) rfl rfl ⟨Nat.le_of_ble_eq_true rfl, Nat.le_of_ble_eq_true rfl⟩ (Nat.le_of_ble_eq_true rfl) (Nat.le_refl _) (Nat.le_refl _) ?_
        refine V_isub C dX5_greedyMark_24 ?_
        obtain ⟨l2, hl2⟩ : ∃ l2 : Nat, (l : Int) - ((wN k : Nat) : Int) = (l2 : Int) := ⟨l - wN k, by omega⟩
        rw [hl2]
        refine V_istore_n C dX5_greedyMark_25 rfl (Nat.le_of_ble_eq_true rfl) rfl ?_
        refine V_iload_n C dX5_greedyMark_26 rfl rfl ?_
        refine V_iconst C dX5_greedyMark_27 ?_
        refine V_iload_n C dX5_greedyMark_28 rfl rfl ?_
        refine V_ishl C dX5_greedyMark_29 1 k (by first | rfl | omega) (by first | rfl | omega) (by omega) (by omega) ?_
        refine V_ior C dX5_greedyMark_30 m (1 <<< k) (by first | rfl | omega) (by first | rfl | omega) ?_
        refine V_istore_n C dX5_greedyMark_31 rfl (Nat.le_of_ble_eq_true rfl) rfl ?_
        first
        | (have g1 := gm_t (k := k) (l := l) (by omega)
           have g2 : l2 = l - wN k := by omega
           subst g2
           refine V_iinc C dX5_greedyMark_32 rfl (Nat.le_of_ble_eq_true rfl) rfl ?_
           refine V_goto (tgt := 7) C dX5_greedyMark_35 (by decide) ?_
           exact ih _ _ _ (by omega) (by omega) (by omega) (by rw [f3]; exact dvd_pow hd) (by omega) (by omega))
        | (have g1 := gm_f (k := k) (l := l) (by omega)
           refine V_iinc C dX5_greedyMark_32 rfl (Nat.le_of_ble_eq_true rfl) rfl ?_
           refine V_goto (tgt := 7) C dX5_greedyMark_35 (by decide) ?_
           exact ih _ _ _ (by omega) (by omega) (by omega) (dvd_pow0 hd) (by omega) (by omega))
  refine V_iconst C dX5_greedyMark_0 ?_
  refine V_istore_n C dX5_greedyMark_1 rfl (Nat.le_of_ble_eq_true rfl) rfl ?_
  refine V_iload_n C dX5_greedyMark_2 rfl rfl ?_
  refine V_istore_n C dX5_greedyMark_3 rfl (Nat.le_of_ble_eq_true rfl) rfl ?_
  refine V_bipush C dX5_greedyMark_4 (by decide +kernel) ?_
  refine V_istore_n C dX5_greedyMark_6 rfl (Nat.le_of_ble_eq_true rfl) rfl ?_
  exact loop 18 n 0 _ (by omega) (by omega) hn (Nat.dvd_zero _) (by decide) (by omega)
