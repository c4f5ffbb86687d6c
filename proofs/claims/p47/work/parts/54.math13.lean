/-! the digits as one number -/
def dN (d : Nat → Int) : Nat → Nat
  | 0 => 0
  | k + 1 => if d k = 1 then dN d k ||| 1 <<< k else dN d k
theorem bt1 (D p : Nat) : D >>> p &&& 1 = if D.testBit p = true then 1 else 0 := by
  rw [Nat.and_one_is_mod, Nat.shiftRight_eq_div_pow, Nat.testBit_eq_decide_div_mod_eq]
  have h := Nat.mod_two_eq_zero_or_one (D / 2 ^ p)
  by_cases e : D / 2 ^ p % 2 = 1
  · rw [decide_eq_true e, if_pos rfl, e]
  · rw [decide_eq_false e, if_neg (by decide)]; omega
theorem dN_tb (d : Nat → Int) : ∀ n i, (dN d n).testBit i = (decide (i < n) && decide (d i = 1))
  | 0, i => by simp [dN]
  | n + 1, i => by
    simp only [dN]
    by_cases e : i = n
    · subst e
      by_cases h : d i = 1
      · rw [if_pos h, Nat.testBit_or, Nat.one_shiftLeft, Nat.testBit_two_pow, decide_eq_true (rfl : i = i), decide_eq_true h, decide_eq_true (Nat.lt_succ_self i)]; simp
      · rw [if_neg h, dN_tb d i i, decide_eq_false h]; simp
    · have e1 : decide (i < n + 1) = decide (i < n) := by by_cases c : i < n <;> simp [c] <;> omega
      rw [e1]
      by_cases h : d n = 1
      · rw [if_pos h, Nat.testBit_or, Nat.one_shiftLeft, Nat.testBit_two_pow, decide_eq_false (Ne.symm e), dN_tb d n i]; simp
      · rw [if_neg h, dN_tb d n i]
theorem dN_lt (d : Nat → Int) (n : Nat) : dN d n < 2 ^ n := by
  refine Nat.lt_pow_two_of_testBit _ (fun i hi => ?_)
  rw [dN_tb, decide_eq_false (by omega)]; rfl
theorem dN_64 (d : Nat → Int) {n : Nat} (h : n ≤ 64) : dN d n < 18446744073709551616 := Nat.lt_of_lt_of_le (dN_lt d n) (Nat.le_trans (Nat.pow_le_pow_right (by decide) h) (by decide))
theorem dN_bit {d : Nat → Int} {n p : Nat} (h : p < n) (h01 : 0 ≤ d p ∧ d p ≤ 1) : ((dN d n >>> p &&& 1 : Nat) : Int) = d p := by
  rw [bt1, dN_tb, decide_eq_true h]
  by_cases e : d p = 1
  · rw [decide_eq_true e]; exact e.symm
  · rw [decide_eq_false e, if_neg (by decide)]
    have e0 : d p = 0 := by omega
    rw [e0]; rfl
theorem dN_congr {d e : Nat → Int} : ∀ {n : Nat}, (∀ j, j < n → d j = e j) → dN d n = dN e n
  | 0, _ => rfl
  | n + 1, h => by
    simp only [dN]
    rw [h n (by omega), dN_congr (fun j hj => h j (by omega))]
theorem dN_turn {z : Nat → Int} {n p : Nat} (hp : p < n) (h01 : 0 ≤ z (7 + p) ∧ z (7 + p) ≤ 1) : dN (fun j => tD z p (7 + j)) n = dN (fun j => z (7 + j)) n ^^^ 1 <<< p := by
  apply Nat.eq_of_testBit_eq
  intro i
  rw [Nat.testBit_xor, dN_tb, dN_tb, Nat.one_shiftLeft, Nat.testBit_two_pow]
  try dsimp only
  by_cases e : i = p
  · subst e
    rw [show tD z i (7 + i) = 1 - z (7 + i) from us_at _ _ _, decide_eq_true hp, decide_eq_true (rfl : i = i)]
    by_cases h : z (7 + i) = 1
    · rw [decide_eq_true h, decide_eq_false (by omega)]; rfl
    · rw [decide_eq_false h, decide_eq_true (by omega)]; rfl
  · rw [show tD z p (7 + i) = z (7 + i) from us_ne _ _ (by omega), decide_eq_false (Ne.symm e)]
    simp
theorem hl_hi {m : Nat} : ∀ {k j : Nat}, hl k m ≤ j → j < k → m >>> j &&& 1 = 0
  | 0, _, _, h => absurd h (Nat.not_lt_zero _)
  | k + 1, j, h1, h2 => by
    have b := b1_le m k
    by_cases e : ((m >>> k &&& 1 : Nat) : Int) = 1
    · rw [hl_1 e] at h1; omega
    · rw [hl_0 e] at h1
      by_cases c : j = k
      · subst c; omega
      · exact hl_hi h1 (by omega)
theorem hl_tb {m j : Nat} (hm : m < 262144) (h : hl 18 m ≤ j) : m.testBit j = false := by
  have h0 : m >>> j &&& 1 = 0 := by
    by_cases c : j < 18
    · exact hl_hi h c
    · exact hi_0 hm (by omega)
  rw [bt1] at h0
  by_cases e : m.testBit j = true
  · rw [if_pos e] at h0; cases h0
  · simpa using e
theorem dN_send {z : Nat → Int} {L m k : Nat} (hm : m < 262144) (hk : k = hl 18 m + 1) : dN (fun j => sdF z L m k k (7 + j)) (L + k) = dN (fun j => z (7 + j)) L ||| (m ||| 1 <<< hl 18 m) <<< L := by
  apply Nat.eq_of_testBit_eq
  intro i
  rw [Nat.testBit_or, dN_tb, dN_tb, Nat.testBit_shiftLeft, Nat.testBit_or, Nat.one_shiftLeft, Nat.testBit_two_pow]
  try dsimp only
  by_cases c : i < L
  · rw [sdF_ne (by omega) (by omega), decide_eq_true c, decide_eq_true (show i < L + k by omega), decide_eq_false (show ¬ i ≥ L by omega)]
    simp
  · rw [decide_eq_false c, decide_eq_true (show i ≥ L by omega)]
    by_cases c2 : i < L + k
    · rw [decide_eq_true c2]
      have e : sdF z L m k k (7 + i) = if (i - L) + 1 = k then 1 else ((m >>> (i - L) &&& 1 : Nat) : Int) := by
        simp only [sdF]
        rw [if_neg (by omega), if_pos ⟨by omega, by omega⟩, show 7 + i - 7 - L = i - L by omega]
      rw [e]
      by_cases c3 : i - L + 1 = k
      · rw [if_pos c3, decide_eq_true (show hl 18 m = i - L by omega)]; simp
      · rw [if_neg c3, decide_eq_false (show ¬ hl 18 m = i - L by omega), bt1]
        by_cases c4 : m.testBit (i - L) = true
        · rw [c4]; rfl
        · simp [c4]
    · rw [decide_eq_false c2, hl_tb hm (show hl 18 m ≤ i - L by omega), decide_eq_false (show ¬ hl 18 m = i - L by omega)]; rfl
theorem dN_cut {z : Nat → Int} {L n : Nat} (hn : n ≤ L) : dN (fun j => ctF z n (L - n) (L - n) (7 + j)) (L - n) = dN (fun j => z (7 + j)) L >>> n := by
  apply Nat.eq_of_testBit_eq
  intro i
  rw [Nat.testBit_shiftRight, dN_tb, dN_tb]
  try dsimp only
  by_cases c : i < L - n
  · have e : ctF z n (L - n) (L - n) (7 + i) = z (7 + (n + i)) := by
      simp only [ctF]
      rw [if_neg (by omega), if_pos ⟨by omega, by omega⟩]
      congr 1; omega
    rw [e, decide_eq_true c, decide_eq_true (show n + i < L by omega)]
  · rw [decide_eq_false c, decide_eq_false (show ¬ n + i < L by omega)]; rfl
theorem rdS_lo (d : Nat → Int) (k : Nat) : (rdS d k).2.1 ≤ k := by have := rdS_le d k; omega
theorem rdS_tb (d : Nat → Int) : ∀ k i, (rdS d k).1.testBit i = (decide (i < 18) && decide (i < (rdS d k).2.1) && decide (d (k - (rdS d k).2.1 + i) = 1))
  | 0, i => by simp [rdS]
  | k + 1, i => by
    by_cases h : d k = 1 ∧ 0 < (rdS d k).2.1 ∧ d (k - 1) = 1
    · rw [rdS_e h]; simp
    · rw [rdS_n h]
      dsimp only
      have ih := rdS_tb d k i
      have hl := rdS_lo d k
      rw [show k + 1 - ((rdS d k).2.1 + 1) = k - (rdS d k).2.1 by omega]
      by_cases e : i = (rdS d k).2.1
      · rw [e, show k - (rdS d k).2.1 + (rdS d k).2.1 = k by omega]
        rw [e, decide_eq_false (Nat.lt_irrefl _)] at ih
        by_cases c : d k = 1 ∧ (rdS d k).2.1 < 18
        · rw [if_pos c, Nat.testBit_or, Nat.one_shiftLeft, Nat.testBit_two_pow, decide_eq_true rfl, decide_eq_true c.2, decide_eq_true c.1]; simp
        · rw [if_neg c, ih]
          by_cases c2 : (rdS d k).2.1 < 18
          · rw [decide_eq_false (show ¬ d k = 1 from fun w => c ⟨w, c2⟩)]; simp
          · rw [decide_eq_false c2]; simp
      · have e1 : decide (i < (rdS d k).2.1 + 1) = decide (i < (rdS d k).2.1) := by by_cases c : i < (rdS d k).2.1 <;> simp [c] <;> omega
        rw [e1, ← ih]
        split
        · rw [Nat.testBit_or, Nat.one_shiftLeft, Nat.testBit_two_pow, decide_eq_false (Ne.symm e)]; simp
        · rfl
theorem rdS_mark (d : Nat → Int) {k L : Nat} (hk : k ≤ L) (h : (rdS d k).2.1 ≤ 18) : dN d L >>> (k - (rdS d k).2.1) &&& (1 <<< (rdS d k).2.1 - 1) = (rdS d k).1 := by
  apply Nat.eq_of_testBit_eq
  intro i
  rw [Nat.testBit_and, Nat.testBit_shiftRight, dN_tb, rdS_tb, Nat.one_shiftLeft, Nat.testBit_two_pow_sub_one]
  have hl := rdS_lo d k
  by_cases c : i < (rdS d k).2.1
  · rw [decide_eq_true c, decide_eq_true (show i < 18 by omega), decide_eq_true (show k - (rdS d k).2.1 + i < L by omega)]; simp
  · rw [decide_eq_false c]; simp
/-- the world of the class's reading -/
def Rd (K : Nat → Nat → Int) (n w l : Int) (fo : Nat → Int) : Nat → Nat → Int := us (us K 8 (us (us (us (K 8) 1 n) 2 w) 3 l)) 9 fo
theorem Rd_8 (K : Nat → Nat → Int) (n w l : Int) (fo : Nat → Int) : Rd K n w l fo 8 = us (us (us (K 8) 1 n) 2 w) 3 l := rfl
theorem Rd_9 (K : Nat → Nat → Int) (n w l : Int) (fo : Nat → Int) : Rd K n w l fo 9 = fo := rfl
theorem Rd_ne {K : Nat → Nat → Int} {n w l : Int} {fo : Nat → Int} {q : Nat} (h8 : q ≠ 8) (h9 : q ≠ 9) : Rd K n w l fo q = K q := by unfold Rd; rw [us_ne _ _ h9, us_ne _ _ h8]
theorem Rd_p1 (K : Nat → Nat → Int) (n w l v : Int) (fo : Nat → Int) : us (Rd K n w l fo) 8 (us (Rd K n w l fo 8) 1 v) = Rd K v w l fo := by
  funext q j
  simp only [Rd, us]
  by_cases h8 : q = 8 <;> by_cases h9 : q = 9 <;> by_cases j1 : j = 1 <;> by_cases j2 : j = 2 <;> by_cases j3 : j = 3 <;> simp_all [us]
theorem Rd_p2 (K : Nat → Nat → Int) (n w l v : Int) (fo : Nat → Int) : us (Rd K n w l fo) 8 (us (Rd K n w l fo 8) 2 v) = Rd K n v l fo := by
  funext q j
  simp only [Rd, us]
  by_cases h8 : q = 8 <;> by_cases h9 : q = 9 <;> by_cases j1 : j = 1 <;> by_cases j2 : j = 2 <;> by_cases j3 : j = 3 <;> simp_all [us]
theorem Rd_p3 (K : Nat → Nat → Int) (n w l v : Int) (fo : Nat → Int) : us (Rd K n w l fo) 8 (us (Rd K n w l fo 8) 3 v) = Rd K n w v fo := by
  funext q j
  simp only [Rd, us]
  by_cases h8 : q = 8 <;> by_cases h9 : q = 9 <;> by_cases j1 : j = 1 <;> by_cases j2 : j = 2 <;> by_cases j3 : j = 3 <;> simp_all [us]
theorem Rd_f (K : Nat → Nat → Int) (n w l : Int) (fo fo' : Nat → Int) : us (Rd K n w l fo) 9 fo' = Rd K n w l fo' := by
  unfold Rd; rw [us_us]
theorem Rd_s (K : Nat → Nat → Int) : us (us K 8 (us (K 8) 1 0)) 8 (us ((us K 8 (us (K 8) 1 0)) 8) 2 0) = Rd K 0 0 (K 8 3) (K 9) := by
  funext q j
  simp only [Rd, us]
  by_cases h8 : q = 8 <;> by_cases h9 : q = 9 <;> by_cases j1 : j = 1 <;> by_cases j2 : j = 2 <;> by_cases j3 : j = 3 <;> simp_all [us]
theorem i_X5_digitOf (G : GT) (N : Nat) (gf : Bool) (h : Hp) (D : Nat) (p : Int) (hD : D < 18446744073709551616) (hp : 0 ≤ p ∧ p < 64) : Ct G yX5_digitOf mX5_digitOf [.long (lL (D : Int)), .int (iI p)] N gf h 0 0 (some (.int (iI ((D >>> p.toNat &&& 1 : Nat) : Int)))) N gf h := by
  have := c_X5_digitOf D p.toNat hD (by omega) G N gf h
  rwa [toN hp.1] at this
