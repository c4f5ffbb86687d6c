/-! numbers that are said: no two neighbours, and each such set is what its worth is said as -/
theorem bitN (m k : Nat) : m >>> k &&& 1 = (m.testBit k).toNat := by
  rw [Nat.and_one_is_mod, Nat.shiftRight_eq_div_pow, ← Nat.toNat_testBit]
theorem bit_t {m k : Nat} (h : m.testBit k = true) : ((m >>> k &&& 1 : Nat) : Int) = 1 := by rw [bitN, h]; rfl
theorem bit_f {m k : Nat} (h : m.testBit k = false) : ¬ ((m >>> k &&& 1 : Nat) : Int) = 1 := by rw [bitN, h]; decide
def NA (m : Nat) : Prop := ∀ i, m.testBit i = true → m.testBit (i + 1) = false
theorem NA_of {m : Nat} (h : m &&& m >>> 1 = 0) : NA m := by
  intro i hi
  have h2 : (m &&& m >>> 1).testBit i = false := by rw [h]; exact Nat.zero_testBit i
  rw [Nat.testBit_and, Nat.testBit_shiftRight, hi, Nat.add_comm 1 i] at h2
  simpa using h2
theorem NA_and {m : Nat} (h : NA m) : m &&& m >>> 1 = 0 := by
  apply Nat.eq_of_testBit_eq
  intro i
  rw [Nat.testBit_and, Nat.testBit_shiftRight, Nat.zero_testBit, Nat.add_comm 1 i]
  rcases e : m.testBit i with _ | _
  · rfl
  · rw [h i e]; rfl
theorem NA_wo {m : Nat} (h : NA m) : ∀ k, wo k m < wN k
  | 0 => by show 0 < 1; decide
  | 1 => by
    rcases e : m.testBit 0 with _ | _
    · rw [wo_0 (bit_f e)]; show 0 < 2; decide
    · rw [wo_1 (bit_t e)]; show 0 + 1 < 2; decide
  | k + 2 => by
    have h0 := NA_wo h k
    have h1 := NA_wo h (k + 1)
    have e2 : wN (k + 2) = wN k + wN (k + 1) := rfl
    rcases e : m.testBit (k + 1) with _ | _
    · rw [wo_0 (bit_f e)]; omega
    · rw [wo_1 (bit_t e)]
      have e0 : m.testBit k = false := by
        rcases e9 : m.testBit k with _ | _
        · rfl
        · rw [h k e9] at e; cases e
      rw [wo_0 (bit_f e0)]; omega
theorem mod_bit (m k : Nat) : m % 2 ^ (k + 1) = (if m.testBit k then 2 ^ k else 0) + m % 2 ^ k := by
  rw [Nat.mod_pow_succ, ← Nat.toNat_testBit]
  rcases m.testBit k with _ | _
  · simp
  · simp [Nat.add_comm]
theorem gm_wo {m : Nat} (h : NA m) : ∀ k, gm k (wo k m) = m % 2 ^ k
  | 0 => by show 0 = m % 1; omega
  | k + 1 => by
    have h0 := NA_wo h k
    have ih := gm_wo h k
    rw [mod_bit]
    rcases e : m.testBit k with _ | _
    · rw [wo_0 (bit_f e), gm_f (by omega), ih]; simp
    · rw [wo_1 (bit_t e), gm_t (by omega), show wo k m + wN k - wN k = wo k m by omega, ih]; simp
theorem gm_22 {v : Nat} (h : v ≤ 6764) : gm 22 v = gm 18 v := by
  have hw : ∀ k, 18 ≤ k → ¬ wN k ≤ v := fun k hk => by
    have := wN_le hk
    have h18 : wN 18 = 6765 := by decide
    omega
  rw [gm_f (hw 21 (by decide)), gm_f (hw 20 (by decide)), gm_f (hw 19 (by decide)), gm_f (hw 18 (by decide))]
/-- a set without neighbours below the step 18 is what its worth is said as -/
theorem gm_of {m : Nat} (h : NA m) (hm : m < 262144) : gm 18 (wo 18 m) = m ∧ wo 18 m ≤ 6764 := by
  have h1 := gm_wo h 18
  have h2 := NA_wo h 18
  have h18 : wN 18 = 6765 := by decide
  rw [Nat.mod_eq_of_lt (show m < 2 ^ 18 from hm)] at h1
  exact ⟨h1, by omega⟩
/-! each number by itself, by the kernel -/
def fuB (f : Nat) : Nat → Bool
  | 0 => true
  | j + 1 => (Nat.blt f (1 <<< (j + 1)) || !(Nat.beq (f >>> j &&& 3) 0)) && fuB f j
def nuB (n : Nat) : Bool := Nat.beq (gm 18 n &&& gm 18 n >>> 1) 0 && (Nat.beq (wo 18 (fm 18 n)) n && (Nat.ble (fm 18 n) (gm 18 n) && (Nat.ble 1 ((woS (gm 18 n) 18).1 + (woS (gm 18 n) 18).2.1) && ((Nat.beq (gm 18 n) (fm 18 n) || Nat.ble 2 ((woS (gm 18 n) 18).1 + (woS (gm 18 n) 18).2.1)) && fuB (fm 18 n) 17))))
set_option maxRecDepth 1000000 in
theorem chkN_0 : allB (fun k => nuB (0 + k)) 1700 = true := by decide +kernel
set_option maxRecDepth 1000000 in
theorem chkN_1 : allB (fun k => nuB (1700 + k)) 1700 = true := by decide +kernel
set_option maxRecDepth 1000000 in
theorem chkN_2 : allB (fun k => nuB (3400 + k)) 1700 = true := by decide +kernel
set_option maxRecDepth 1000000 in
theorem chkN_3 : allB (fun k => nuB (5100 + k)) 1665 = true := by decide +kernel
theorem chkN {n : Nat} (h : n ≤ 6764) : nuB n = true := by
  by_cases c0 : n < 1700
  · have := allB_of chkN_0 (n - 0) (by omega)
    rwa [show 0 + (n - 0) = n by omega] at this
  by_cases c1 : n < 3400
  · have := allB_of chkN_1 (n - 1700) (by omega)
    rwa [show 1700 + (n - 1700) = n by omega] at this
  by_cases c2 : n < 5100
  · have := allB_of chkN_2 (n - 3400) (by omega)
    rwa [show 3400 + (n - 3400) = n by omega] at this
  have := allB_of chkN_3 (n - 5100) (by omega)
  rwa [show 5100 + (n - 5100) = n by omega] at this
theorem nu_of {n : Nat} (h : n ≤ 6764) : gm 18 n &&& gm 18 n >>> 1 = 0 ∧ wo 22 (fm 18 n) = n ∧ fm 18 n ≤ gm 18 n ∧ 1 ≤ cw (gm 18 n) ∧ (gm 18 n = fm 18 n ∨ 1 < cw (gm 18 n)) ∧ fuB (fm 18 n) 17 = true := by
  have g := chkN h
  unfold nuB at g
  simp only [Bool.and_eq_true, Bool.or_eq_true] at g
  obtain ⟨g1, g2, g3, g4, g5, g6⟩ := g
  have hc := cw_woS (gm 18 n)
  rw [woS_18 (gm_18 n)] at hc
  have g4 := Nat.le_of_ble_eq_true g4
  refine ⟨Nat.eq_of_beq_eq_true g1, ?_, Nat.le_of_ble_eq_true g3, by omega, ?_, g6⟩
  · rw [wo_18 (fm_18 n)]; exact Nat.eq_of_beq_eq_true g2
  · rcases g5 with g5 | g5
    · exact .inl (Nat.eq_of_beq_eq_true g5)
    · have := Nat.le_of_ble_eq_true g5
      exact .inr (by omega)
theorem fu_of {f : Nat} : ∀ {n : Nat}, fuB f n = true → ∀ j, j < n → f < 1 <<< (j + 1) ∨ f >>> j &&& 3 ≠ 0
  | n + 1, h, j, hj => by
    simp only [fuB, Bool.and_eq_true, Bool.or_eq_true] at h
    by_cases e : j = n
    · subst e
      rcases h.1 with h1 | h1
      · exact .inl (Nat.lt_of_lt_of_le (Nat.lt_succ_self f) (Nat.le_of_ble_eq_true h1))
      · right
        intro w
        rw [w] at h1
        cases h1
    · exact fu_of h.2 j (by omega)
theorem NA_gm {n : Nat} (h : n ≤ 6764) : NA (gm 18 n) := NA_of (nu_of h).1
/-! the greatest step -/
theorem hl_bit {m : Nat} : ∀ {k : Nat}, hl k m ≠ 0 → m.testBit (hl k m - 1) = true
  | 0, h => absurd rfl h
  | k + 1, h => by
    rcases e : m.testBit k with _ | _
    · rw [hl_0 (bit_f e)] at h ⊢; exact hl_bit h
    · rw [hl_1 (bit_t e)]; exact e
theorem hl_up {m i : Nat} : ∀ {k : Nat}, hl k m ≤ i → i < k → m.testBit i = false
  | k + 1, h, hk => by
    rcases e : m.testBit k with _ | _
    · rw [hl_0 (bit_f e)] at h
      by_cases e2 : i = k
      · rw [e2]; exact e
      · exact hl_up h (by omega)
    · rw [hl_1 (bit_t e)] at h; omega
theorem hl_eq {m j : Nat} : ∀ {k : Nat}, j < k → m.testBit j = true → (∀ i, j < i → m.testBit i = false) → hl k m = j + 1
  | k + 1, hk, hb, hu => by
    by_cases e : j = k
    · subst e; exact hl_1 (bit_t hb)
    · rw [hl_0 (bit_f (hu k (by omega)))]
      exact hl_eq (by omega) hb hu
theorem hl_pos {m : Nat} : ∀ {k : Nat}, 1 ≤ cn k m → 1 ≤ hl k m
  | 0, h => by simp [cn] at h
  | k + 1, h => by
    rcases e : m.testBit k with _ | _
    · rw [hl_0 (bit_f e)]; rw [cn_0 (bit_f e)] at h; exact hl_pos h
    · rw [hl_1 (bit_t e)]; omega
theorem wo_pos {m j : Nat} (hb : m.testBit j = true) : ∀ {k : Nat}, j < k → 1 ≤ wo k m
  | k + 1, hk => by
    by_cases e : j = k
    · subst e
      rw [wo_1 (bit_t hb)]
      have := wN_pos j
      omega
    · have h1 : wo k m ≤ wo (k + 1) m := Nat.le_add_right _ _
      exact Nat.le_trans (wo_pos hb (by omega)) h1
/-! sums by carries -/
theorem cI_comm (m o : Nat) : cI m o = cI o m := by
  funext k
  simp only [cI]
  split
  · exact Int.add_comm _ _
  · rfl
theorem adE_comm (m o : Nat) : adE m o = adE o m := by unfold adE; rw [cI_comm]
theorem adC_comm (m o : Nat) : adC m o = adC o m := by unfold adC; rw [cI_comm]
theorem mkN_tb (E : Nat → Int) : ∀ k i, (mkN E k).testBit i = (decide (i < k) && decide (0 < E i))
  | 0, i => by simp [mkN]
  | k + 1, i => by
    have ih := mkN_tb E k i
    simp only [mkN]
    by_cases e : i = k
    · subst e
      by_cases c : 0 < E i
      · rw [if_pos c, Nat.testBit_or, Nat.one_shiftLeft, Nat.testBit_two_pow]; simp [c]
      · rw [if_neg c, ih]; simp [c]
    · have e1 : decide (i < k + 1) = decide (i < k) := by by_cases c : i < k <;> simp [c] <;> omega
      rw [e1, ← ih]
      split
      · rw [Nat.testBit_or, Nat.one_shiftLeft, Nat.testBit_two_pow, decide_eq_false (Ne.symm e)]; simp
      · rfl
theorem NA_ad {m o : Nat} (hm : m < 262144) (ho : o < 262144) (hv : wo 18 m + wo 18 o < 17711) : NA (mkN (adE m o) 22) := by
  intro i hi
  rw [mkN_tb] at hi ⊢
  simp only [Bool.and_eq_true, decide_eq_true_eq] at hi
  by_cases c : i < 20
  · have h := fk_none (adE_none m o) i c
    simp only [cyB, Bool.or_eq_false_iff, decide_eq_false_iff_not] at h
    rw [decide_eq_false (show ¬ 0 < adE m o (i + 1) from fun w => h.1 ⟨hi.2, w⟩)]; simp
  · have h := adE_hi hm ho hv (k := i) (by omega) (by omega)
    omega
theorem wo_mk (E : Nat → Int) {n : Nat} : ∀ k, k ≤ n → (∀ i, i < k → E i = 0 ∨ E i = 1) → ((wo k (mkN E n) : Nat) : Int) = sm (fun i => (wN i : Int)) E k
  | 0, _, _ => rfl
  | k + 1, hk, h => by
    have ih := wo_mk E (n := n) k (by omega) (fun i hi => h i (by omega))
    have hb := mkN_tb E n k
    rw [decide_eq_true (show k < n by omega), Bool.true_and] at hb
    simp only [sm]
    rcases h k (by omega) with e | e
    · rw [decide_eq_false (show ¬ 0 < E k by omega)] at hb
      rw [wo_0 (bit_f hb), ih, e]; omega
    · rw [decide_eq_true (show 0 < E k by omega)] at hb
      rw [wo_1 (bit_t hb), e, ← ih]; omega
theorem mkN_l2 (E : Nat → Int) : ∀ k, mkN E k < 2 ^ k
  | 0 => by show 0 < 1; decide
  | k + 1 => by
    have h := mkN_l2 E k
    have h2 : (2 : Nat) ^ (k + 1) = 2 ^ k * 2 := by rw [Nat.pow_succ]
    simp only [mkN]
    split
    · rw [Nat.one_shiftLeft]
      exact Nat.or_lt_two_pow (by omega) (Nat.pow_lt_pow_right (by decide) (Nat.lt_succ_self k))
    · omega
/-- the sum of two numbers by carries: no neighbours; and where it can be said, it is what is said -/
theorem ad_sum {n m : Nat} (hn : n ≤ 6764) (hm : m ≤ 6764) : mkN (adE (gm 18 n) (gm 18 m)) 22 < 4194304 ∧ mkN (adE (gm 18 n) (gm 18 m)) 22 &&& mkN (adE (gm 18 n) (gm 18 m)) 22 >>> 1 = 0 ∧ (n + m ≤ 6764 → mkN (adE (gm 18 n) (gm 18 m)) 22 = gm 18 (n + m)) := by
  have hv : wo 18 (gm 18 n) + wo 18 (gm 18 m) < 17711 := by rw [wo_gm hn, wo_gm hm]; omega
  have hN := NA_ad (gm_18 n) (gm_18 m) hv
  have hL := mkN_l2 (adE (gm 18 n) (gm 18 m)) 22
  refine ⟨hL, NA_and hN, fun hs => ?_⟩
  have h01 : ∀ i, i < 22 → adE (gm 18 n) (gm 18 m) i = 0 ∨ adE (gm 18 n) (gm 18 m) i = 1 := fun i hi => adE_01 (gm_18 n) (gm_18 m) hv (by omega)
  have hw := wo_mk (adE (gm 18 n) (gm 18 m)) 22 (Nat.le_refl _) h01
  have h24 : sm (fun i => (wN i : Int)) (adE (gm 18 n) (gm 18 m)) 24 = ((n + m : Nat) : Int) := by
    have := (cyE_val 3000 (cI (gm 18 n) (gm 18 m))).trans (cI_val (gm_18 n) (gm_18 m))
    rw [wo_gm hn, wo_gm hm] at this
    exact this
  have e22 := adE_hi (gm_18 n) (gm_18 m) hv (k := 22) (by decide) (by decide)
  have e23 := adE_hi (gm_18 n) (gm_18 m) hv (k := 23) (by decide) (by decide)
  have h22 : sm (fun i => (wN i : Int)) (adE (gm 18 n) (gm 18 m)) 24 = sm (fun i => (wN i : Int)) (adE (gm 18 n) (gm 18 m)) 22 := by
    simp only [sm]; rw [e22, e23]; omega
  have hx : wo 22 (mkN (adE (gm 18 n) (gm 18 m)) 22) = n + m := by omega
  have hg := gm_wo hN 22
  rw [hx, gm_22 hs, Nat.mod_eq_of_lt hL] at hg
  exact hg.symm
/-! words by gaps, summed -/
def wdS (m : Nat) : Nat → Int
  | 0 => 0
  | p + 1 => wdS m p + wd m 2 (p : Int)
theorem wdS_ft (m : Nat) : ∀ p : Nat, wdS m (p + 1) = ft 22 m (p : Int)
  | 0 => by
    show 0 + wd m 2 0 = ft 22 m 0
    unfold wd
    rw [if_pos (.inr rfl), if_neg (by decide)]; omega
  | p + 1 => by
    have ih := wdS_ft m p
    show wdS m (p + 1) + wd m 2 ((p + 1 : Nat) : Int) = _
    rw [ih]
    unfold wd
    rw [if_neg (show ¬ ((2 : Int) < 2 ∨ ((p + 1 : Nat) : Int) = 0) by omega), if_neg (show ¬ (2 : Int) = 0 by decide), show (((p + 1 : Nat) : Int) - 1) = (p : Int) by omega]
    omega
theorem wd_0 (m : Nat) : wd m 0 0 = ft 22 m ((cn 22 m : Int) - 1) := by
  unfold wd
  rw [if_pos (.inl (by decide)), if_pos rfl]
  congr 1; omega
theorem wdS_r (m p : Nat) : -1 ≤ wdS m p ∧ wdS m p ≤ 22 := by
  rcases p with _ | p
  · show -1 ≤ (0 : Int) ∧ (0 : Int) ≤ 22; decide
  · rw [wdS_ft]
    have := ft_rng 22 m p
    omega
theorem wdS_cn {m : Nat} (h : 1 ≤ cn 22 m) : wdS m (cn 22 m) = wd m 0 0 := by
  obtain ⟨c, hc⟩ : ∃ c, cn 22 m = c + 1 := ⟨cn 22 m - 1, by omega⟩
  rw [wd_0, hc, wdS_ft, show (((c + 1 : Nat) : Int) - 1) = (c : Int) by omega]
/-! the richest -/
theorem ri_max (f : Nat → Int) : ∀ k j, j ≤ k → f j ≤ f (ri f k)
  | 0, j, h => by rw [show j = 0 by omega]; exact Int.le_refl _
  | k + 1, j, h => by
    have ih := ri_max f k
    simp only [ri]
    by_cases c : f (ri f k) < f (k + 1)
    · rw [if_pos c]
      by_cases e : j = k + 1
      · rw [e]; exact Int.le_refl _
      · have := ih j (by omega); omega
    · rw [if_neg c]
      by_cases e : j = k + 1
      · rw [e]; omega
      · exact ih j (by omega)
