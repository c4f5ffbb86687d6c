set_option maxRecDepth 100000 in
set_option maxHeartbeats 4000000 in
theorem c_X5_worthBelow (k : Nat) (hk : k ≤ 17) (G : GT) (N : Nat) (gf : Bool) (h : Hp) : Ct G yX5_worthBelow mX5_worthBelow [.int (iI (k : Int))] N gf h 0 0 (some (.int (iI (wS k : Nat)))) N gf h := by
  refine Ct_of kX5_worthBelow.1 (by decide) [some (.int (iI (k : Int)))] rfl (Nat.le_of_ble_eq_true rfl) ?_
  intro x C hZ
  have f := wS_2 k
  refine V_iload_n C dX5_worthBelow_0 rfl rfl ?_
  refine V_iconst C dX5_worthBelow_1 ?_
  refine V_iadd C dX5_worthBelow_2 ?_
  refine V_S1 (k2 := 0) (s2 := 0) C dX5_worthBelow_3 lX5_196 kX5_worth (c_X5_worth (k + 1) (by omega) G N gf h) rfl rfl ⟨Nat.le_of_ble_eq_true rfl, Nat.le_of_ble_eq_true rfl⟩ (Nat.le_of_ble_eq_true rfl) (Nat.le_refl _) (Nat.le_refl _) ?_
  refine V_iconst C dX5_worthBelow_6 ?_
  refine V_isub C dX5_worthBelow_7 ?_
  exact V_iret C dX5_worthBelow_8 rfl hZ (by first | rfl | omega) rfl
set_option maxRecDepth 100000 in
set_option maxHeartbeats 4000000 in
theorem c_X5_fullMark (n : Nat) (hn : n ≤ 6764) (G : GT) (N : Nat) (gf : Bool) (h : Hp) : Ct G yX5_fullMark mX5_fullMark [.int (iI (n : Int))] N gf h 0 0 (some (.int (iI (fm 18 n : Nat)))) N gf h := by
  refine Ct_of kX5_fullMark.1 (by decide) [some (.int (iI (n : Int))), none, none, none] rfl (Nat.le_of_ble_eq_true rfl) ?_
  intro x C hZ
  have loop : ∀ (k l m : Nat) (s : Int), k ≤ 18 → s = (k : Int) - 1 → l ≤ 6764 → 2 ^ k ∣ m → m + 2 ^ k ≤ 262144 → m + fm k l = fm 18 n → V G mX5_fullMark x 7 [some (.int (iI (n : Int))), some (.int (iI (m : Int))), some (.int (iI (l : Int))), some (.int (iI s))] [] N gf h 0 0 := by
    intro k
    induction k with
    | zero =>
      intro l m s hk hs hl hd hm e
      refine V_iload_n C dX5_fullMark_7 rfl rfl ?_
      refine V_if_lt (tgt := 38) C dX5_fullMark_8 (by decide) (by omega) (fun q8 => ?_) (fun q8 => by exfalso; omega)
      refine V_iload_n C dX5_fullMark_38 rfl rfl ?_
      exact V_iret C dX5_fullMark_39 rfl hZ (by have e2 : fm 0 l = 0 := rfl; omega) rfl
    | succ k ih =>
      intro l m s hk hs hl hd hm e
      have hs' : s = (k : Int) := by omega
      subst hs'
      have f0 := wN_pos k
      have f1 := wN_22 (k := k) (by omega)
      have f2 := p2_18 (k := k) (by omega)
      have f3 := or_pow hd
      have f4 := sh1 k
      have f5 : 2 ^ (k + 1) = 2 * 2 ^ k := by rw [Nat.pow_succ, Nat.mul_comm]
      have f6 := wS_22 (k := k) (by omega)
      have f7 : wS k < l → wN k ≤ l := by
        intro h7
        have f8 := wS_2 k
        have f9 := wN_le (show k ≤ k + 1 by omega)
        by_cases hk1 : k = 0
        · subst hk1; simp [wN, wS] at *; omega
        · have g9 : wN k < wN (k + 1) := by
            obtain ⟨j, rfl⟩ : ∃ j, k = j + 1 := ⟨k - 1, by omega⟩
            show wN (j + 1) < wN j + wN (j + 1)
            have := wN_pos j
            omega
          omega
      refine V_iload_n C dX5_fullMark_7 rfl rfl ?_
      refine V_if_lt (tgt := 38) C dX5_fullMark_8 (by decide) (by omega) (fun q8 => by exfalso; omega) (fun q8 => ?_)
      refine V_iload_n C dX5_fullMark_11 rfl rfl ?_
      refine V_iload_n C dX5_fullMark_12 rfl rfl ?_
      refine V_S1 (k2 := 0) (s2 := 0) C dX5_fullMark_13 lX5_322 kX5_worthBelow (c_X5_worthBelow k (by omega) G N gf h) rfl rfl ⟨Nat.le_of_ble_eq_true rfl, Nat.le_of_ble_eq_true rfl⟩ (Nat.le_of_ble_eq_true rfl) (Nat.le_refl _) (Nat.le_refl _) ?_
      refine V_icmp_le (tgt := 32) C dX5_fullMark_16 (by decide) (by omega) (by omega) (fun q16 => ?_) (fun q16 => ?_)
      · first
        | (have g1 := fm_t (k := k) (l := l) (by omega)
           have g2 : l2 = l - wN k := by omega
           subst g2
           refine V_iinc C dX5_fullMark_32 rfl (Nat.le_of_ble_eq_true rfl) rfl ?_
           refine V_goto (tgt := 7) C dX5_fullMark_35 (by decide) ?_
           exact ih _ _ _ (by omega) (by omega) (by omega) (by rw [f3]; exact dvd_pow hd) (by omega) (by omega))
        | (have g1 := fm_f (k := k) (l := l) (by omega)
           refine V_iinc C dX5_fullMark_32 rfl (Nat.le_of_ble_eq_true rfl) rfl ?_
           refine V_goto (tgt := 7) C dX5_fullMark_35 (by decide) ?_
           exact ih _ _ _ (by omega) (by omega) (by omega) (dvd_pow0 hd) (by omega) (by omega))
      · refine V_iload_n C dX5_fullMark_19 rfl rfl ?_
        refine V_iload_n C dX5_fullMark_20 rfl rfl ?_
        refine V_S1 (k2 := 0) (s2 := 0) C dX5_fullMark_21 lX5_196 kX5_worth (c_X5_worth k (by omega) G N gf h) rfl rfl ⟨Nat.le_of_ble_eq_true rfl, Nat.le_of_ble_eq_true rfl⟩ (Nat.le_of_ble_eq_true rfl) (Nat.le_refl _) (Nat.le_refl _) ?_
        refine V_isub C dX5_fullMark_24 ?_
        obtain ⟨l2, hl2⟩ : ∃ l2 : Nat, (l : Int) - ((wN k : Nat) : Int) = (l2 : Int) := ⟨l - wN k, by omega⟩
        rw [hl2]
        refine V_istore_n C dX5_fullMark_25 rfl (Nat.le_of_ble_eq_true rfl) rfl ?_
        refine V_iload_n C dX5_fullMark_26 rfl rfl ?_
        refine V_iconst C dX5_fullMark_27 ?_
        refine V_iload_n C dX5_fullMark_28 rfl rfl ?_
        refine V_ishl C dX5_fullMark_29 1 k (by first | rfl | omega) (by first | rfl | omega) (by omega) (by omega) ?_
        refine V_ior C dX5_fullMark_30 m (1 <<< k) (by first | rfl | omega) (by first | rfl | omega) ?_
        refine V_istore_n C dX5_fullMark_31 rfl (Nat.le_of_ble_eq_true rfl) rfl ?_
        first
        | (have g1 := fm_t (k := k) (l := l) (by omega)
           have g2 : l2 = l - wN k := by omega
           subst g2
           refine V_iinc C dX5_fullMark_32 rfl (Nat.le_of_ble_eq_true rfl) rfl ?_
           refine V_goto (tgt := 7) C dX5_fullMark_35 (by decide) ?_
           exact ih _ _ _ (by omega) (by omega) (by omega) (by rw [f3]; exact dvd_pow hd) (by omega) (by omega))
        | (have g1 := fm_f (k := k) (l := l) (by omega)
           refine V_iinc C dX5_fullMark_32 rfl (Nat.le_of_ble_eq_true rfl) rfl ?_
           refine V_goto (tgt := 7) C dX5_fullMark_35 (by decide) ?_
           exact ih _ _ _ (by omega) (by omega) (by omega) (dvd_pow0 hd) (by omega) (by omega))
  refine V_iconst C dX5_fullMark_0 ?_
  refine V_istore_n C dX5_fullMark_1 rfl (Nat.le_of_ble_eq_true rfl) rfl ?_
  refine V_iload_n C dX5_fullMark_2 rfl rfl ?_
  refine V_istore_n C dX5_fullMark_3 rfl (Nat.le_of_ble_eq_true rfl) rfl ?_
  refine V_bipush C dX5_fullMark_4 (by decide +kernel) ?_
  refine V_istore_n C dX5_fullMark_6 rfl (Nat.le_of_ble_eq_true rfl) rfl ?_
  exact loop 18 n 0 _ (by omega) (by omega) hn (Nat.dvd_zero _) (by decide) (by omega)
def bcA (m : Nat) : Nat := m - (m >>> 1 &&& 1431655765)
def bcB (m : Nat) : Nat := (bcA m &&& 858993459) + (bcA m >>> 2 &&& 858993459)
def bcC (m : Nat) : Nat := bcB m + bcB m >>> 4 &&& 252645135
def bcD (m : Nat) : Nat := bcC m + bcC m >>> 8
def bcE (m : Nat) : Nat := bcD m + bcD m >>> 16
def bcN (m : Nat) : Nat := bcE m &&& 63
set_option maxRecDepth 100000 in
set_option maxHeartbeats 4000000 in
theorem c_J6_bitCount_0f7a4 (m : Nat) (hm : m < 2147483648) (G : GT) (N : Nat) (gf : Bool) (h : Hp) : Ct G yJ6_bitCount_0f7a4 mJ6_bitCount_0f7a4 [.int (iI (m : Int))] N gf h 0 0 (some (.int (iI (bcN m : Nat)))) N gf h := by
  refine Ct_of kJ6_bitCount_0f7a4.1 (by decide) [some (.int (iI (m : Int)))] rfl (Nat.le_of_ble_eq_true rfl) ?_
  intro x C hZ
  have a1 : (m >>> 1 &&& 1431655765) ≤ m := Nat.le_trans Nat.and_le_left (Nat.shiftRight_le m 1)
  have a2 : bcA m ≤ m := Nat.sub_le _ _
  have a3 : bcB m ≤ 858993459 + 858993459 := Nat.add_le_add Nat.and_le_right Nat.and_le_right
  have a4 : bcB m >>> 4 ≤ 107374182 := by rw [Nat.shiftRight_eq_div_pow]; omega
  have a5 : bcC m ≤ 252645135 := Nat.and_le_right
  have a6 : bcC m >>> 8 ≤ bcC m := Nat.shiftRight_le _ _
  have a7 : bcD m >>> 16 ≤ bcD m := Nat.shiftRight_le _ _
  have a8 : bcD m = bcC m + bcC m >>> 8 := rfl
  refine V_iload_n C dJ6_bitCount_0f7a4_0 rfl rfl ?_
  refine V_iload_n C dJ6_bitCount_0f7a4_1 rfl rfl ?_
  refine V_iconst C dJ6_bitCount_0f7a4_2 ?_
  refine V_iushr C dJ6_bitCount_0f7a4_3 m 1 (by first | rfl | omega) (by first | rfl | omega) (by omega) (by omega) ?_
  refine V_ldcw (n := 1431655765) C dJ6_bitCount_0f7a4_4 qJ6_265 rfl ?_
  refine V_iand C dJ6_bitCount_0f7a4_7 (m >>> 1) 1431655765 (by first | rfl | omega) (by first | rfl | omega) ?_
  refine V_isub C dJ6_bitCount_0f7a4_8 ?_
  rw [show (m : Int) - ((m >>> 1 &&& 1431655765 : Nat) : Int) = ((bcA m : Nat) : Int) by unfold bcA; omega]
  refine V_istore_n C dJ6_bitCount_0f7a4_9 rfl (Nat.le_of_ble_eq_true rfl) rfl ?_
  refine V_iload_n C dJ6_bitCount_0f7a4_10 rfl rfl ?_
  refine V_ldcw (n := 858993459) C dJ6_bitCount_0f7a4_11 qJ6_266 rfl ?_
  refine V_iand C dJ6_bitCount_0f7a4_14 (bcA m) 858993459 (by first | rfl | omega) (by first | rfl | omega) ?_
  refine V_iload_n C dJ6_bitCount_0f7a4_15 rfl rfl ?_
  refine V_iconst C dJ6_bitCount_0f7a4_16 ?_
  refine V_iushr C dJ6_bitCount_0f7a4_17 (bcA m) 2 (by first | rfl | omega) (by first | rfl | omega) (by omega) (by omega) ?_
  refine V_ldcw (n := 858993459) C dJ6_bitCount_0f7a4_18 qJ6_266 rfl ?_
  refine V_iand C dJ6_bitCount_0f7a4_21 (bcA m >>> 2) 858993459 (by first | rfl | omega) (by first | rfl | omega) ?_
  refine V_iadd C dJ6_bitCount_0f7a4_22 ?_
  rw [show ((bcA m &&& 858993459 : Nat) : Int) + ((bcA m >>> 2 &&& 858993459 : Nat) : Int) = ((bcB m : Nat) : Int) from rfl]
  refine V_istore_n C dJ6_bitCount_0f7a4_23 rfl (Nat.le_of_ble_eq_true rfl) rfl ?_
  refine V_iload_n C dJ6_bitCount_0f7a4_24 rfl rfl ?_
  refine V_iload_n C dJ6_bitCount_0f7a4_25 rfl rfl ?_
  refine V_iconst C dJ6_bitCount_0f7a4_26 ?_
  refine V_iushr C dJ6_bitCount_0f7a4_27 (bcB m) 4 (by first | rfl | omega) (by first | rfl | omega) (by omega) (by omega) ?_
  refine V_iadd C dJ6_bitCount_0f7a4_28 ?_
  refine V_ldcw (n := 252645135) C dJ6_bitCount_0f7a4_29 qJ6_267 rfl ?_
  refine V_iand C dJ6_bitCount_0f7a4_32 (bcB m + bcB m >>> 4) 252645135 (by first | rfl | omega) (by first | rfl | omega) ?_
  rw [show (((bcB m + bcB m >>> 4) &&& 252645135 : Nat) : Int) = ((bcC m : Nat) : Int) from rfl]
  refine V_istore_n C dJ6_bitCount_0f7a4_33 rfl (Nat.le_of_ble_eq_true rfl) rfl ?_
  refine V_iload_n C dJ6_bitCount_0f7a4_34 rfl rfl ?_
  refine V_iload_n C dJ6_bitCount_0f7a4_35 rfl rfl ?_
  refine V_bipush C dJ6_bitCount_0f7a4_36 (by decide +kernel) ?_
  refine V_iushr C dJ6_bitCount_0f7a4_38 (bcC m) 8 (by first | rfl | omega) (by first | rfl | omega) (by omega) (by omega) ?_
  refine V_iadd C dJ6_bitCount_0f7a4_39 ?_
  rw [show ((bcC m : Nat) : Int) + ((bcC m >>> 8 : Nat) : Int) = ((bcD m : Nat) : Int) from rfl]
  refine V_istore_n C dJ6_bitCount_0f7a4_40 rfl (Nat.le_of_ble_eq_true rfl) rfl ?_
  refine V_iload_n C dJ6_bitCount_0f7a4_41 rfl rfl ?_
  refine V_iload_n C dJ6_bitCount_0f7a4_42 rfl rfl ?_
  refine V_bipush C dJ6_bitCount_0f7a4_43 (by decide +kernel) ?_
  refine V_iushr C dJ6_bitCount_0f7a4_45 (bcD m) 16 (by first | rfl | omega) (by first | rfl | omega) (by omega) (by omega) ?_
  refine V_iadd C dJ6_bitCount_0f7a4_46 ?_
  rw [show ((bcD m : Nat) : Int) + ((bcD m >>> 16 : Nat) : Int) = ((bcE m : Nat) : Int) from rfl]
  refine V_istore_n C dJ6_bitCount_0f7a4_47 rfl (Nat.le_of_ble_eq_true rfl) rfl ?_
  refine V_iload_n C dJ6_bitCount_0f7a4_48 rfl rfl ?_
  refine V_bipush C dJ6_bitCount_0f7a4_49 (by decide +kernel) ?_
  refine V_iand C dJ6_bitCount_0f7a4_51 (bcE m) 63 (by first | rfl | omega) (by first | rfl | omega) ?_
  exact V_iret C dJ6_bitCount_0f7a4_52 rfl hZ (by first | rfl | omega) rfl
