/-! sending and reading -/
def sdF (z : Nat → Int) (L m len k : Nat) : Nat → Int := fun j => if j = 6 then (L : Int) + k else if 7 + L ≤ j ∧ j < 7 + L + k then (if j - 7 - L + 1 = len then 1 else ((m >>> (j - 7 - L) &&& 1 : Nat) : Int)) else z j
theorem sdF_0 {z : Nat → Int} {L m len : Nat} (h : z 6 = L) : sdF z L m len 0 = z := by
  funext j
  simp only [sdF]
  by_cases e : j = 6
  · subst e; rw [if_pos rfl, h]; omega
  · rw [if_neg e, if_neg (by omega)]
theorem sdF_s {z : Nat → Int} {L m len k : Nat} {v : Int} (hv : v = if k + 1 = len then 1 else ((m >>> k &&& 1 : Nat) : Int)) : us (us (sdF z L m len k) (7 + L + k) v) 6 ((L : Int) + k + 1) = sdF z L m len (k + 1) := by
  funext j
  by_cases e : j = 6
  · subst e; rw [us_at]; simp only [sdF, if_true]; omega
  · rw [us_ne _ _ e]
    by_cases e2 : j = 7 + L + k
    · subst e2
      rw [us_at, hv]
      simp only [sdF]
      rw [if_neg e, show 7 + L + k - 7 - L = k by omega, if_pos (show 7 + L ≤ 7 + L + k ∧ 7 + L + k < 7 + L + (k + 1) from ⟨by omega, by omega⟩)]
    · rw [us_ne _ _ e2]
      simp only [sdF]
      rw [if_neg e, if_neg e]
      by_cases h : 7 + L ≤ j ∧ j < 7 + L + k
      · rw [if_pos h, if_pos (show 7 + L ≤ j ∧ j < 7 + L + (k + 1) from ⟨by omega, by omega⟩)]
      · rw [if_neg h, if_neg (show ¬ (7 + L ≤ j ∧ j < 7 + L + (k + 1)) by omega)]
/-- reading k digits: the mark so far, how many digits of this number, errors, the numbers -/
def rdS (d : Nat → Int) : Nat → Nat × Nat × Nat × List Nat
  | 0 => (0, 0, 0, [])
  | k + 1 =>
    if d k = 1 ∧ 0 < (rdS d k).2.1 ∧ d (k - 1) = 1 then
      (0, 0, if (rdS d k).2.1 ≤ 18 then (rdS d k).2.2.1 else (rdS d k).2.2.1 + 1, if (rdS d k).2.1 ≤ 18 then (rdS d k).2.2.2 ++ [wo 22 (rdS d k).1] else (rdS d k).2.2.2)
    else (if d k = 1 ∧ (rdS d k).2.1 < 18 then (rdS d k).1 ||| 1 <<< (rdS d k).2.1 else (rdS d k).1, (rdS d k).2.1 + 1, (rdS d k).2.2.1, (rdS d k).2.2.2)
theorem rdS_mk (d : Nat → Int) : ∀ k, (rdS d k).1 < 262144
  | 0 => by show 0 < 262144; decide
  | k + 1 => by
    have h := rdS_mk d k
    simp only [rdS]
    split
    · show 0 < 262144; decide
    · show (if d k = 1 ∧ (rdS d k).2.1 < 18 then (rdS d k).1 ||| 1 <<< (rdS d k).2.1 else (rdS d k).1) < 262144
      split
      · rename_i h2
        have h3 : 1 <<< (rdS d k).2.1 < 2 ^ 18 := by rw [Nat.shiftLeft_eq, Nat.one_mul]; exact Nat.pow_lt_pow_right (by decide) h2.2
        exact Nat.or_lt_two_pow (n := 18) h h3
      · exact h
theorem rdS_le (d : Nat → Int) : ∀ k, 2 * (rdS d k).2.2.2.length + (rdS d k).2.1 + (rdS d k).2.2.1 ≤ k
  | 0 => by show 2 * 0 + 0 + 0 ≤ 0; decide
  | k + 1 => by
    have h := rdS_le d k
    simp only [rdS]
    split
    · rename_i h1
      by_cases h2 : (rdS d k).2.1 ≤ 18
      · simp only [if_pos h2, List.length_append, List.length_cons, List.length_nil]; omega
      · simp only [if_neg h2]; omega
    · simp only []; omega
theorem rdS_e {d : Nat → Int} {k : Nat} (h : d k = 1 ∧ 0 < (rdS d k).2.1 ∧ d (k - 1) = 1) : rdS d (k + 1) = (0, 0, if (rdS d k).2.1 ≤ 18 then (rdS d k).2.2.1 else (rdS d k).2.2.1 + 1, if (rdS d k).2.1 ≤ 18 then (rdS d k).2.2.2 ++ [wo 22 (rdS d k).1] else (rdS d k).2.2.2) := by
  simp only [rdS]; rw [if_pos h]
theorem rdS_n {d : Nat → Int} {k : Nat} (h : ¬ (d k = 1 ∧ 0 < (rdS d k).2.1 ∧ d (k - 1) = 1)) : rdS d (k + 1) = (if d k = 1 ∧ (rdS d k).2.1 < 18 then (rdS d k).1 ||| 1 <<< (rdS d k).2.1 else (rdS d k).1, (rdS d k).2.1 + 1, (rdS d k).2.2.1, (rdS d k).2.2.2) := by
  simp only [rdS]; rw [if_neg h]
/-- a row that begins with these numbers -/
def foU (fo : Nat → Int) (l : List Nat) : Nat → Int := fun j => if j < l.length then ((l.getD j 0 : Nat) : Int) else fo j
theorem foU_0 (fo : Nat → Int) : foU fo [] = fo := by funext j; simp [foU]
theorem foU_s (fo : Nat → Int) (l : List Nat) (v : Nat) : us (foU fo l) l.length (v : Int) = foU fo (l ++ [v]) := by
  funext j
  by_cases e : j = l.length
  · subst e; rw [us_at]; simp [foU]
  · rw [us_ne _ _ e]
    simp only [foU, List.length_append, List.length_cons, List.length_nil]
    by_cases h : j < l.length
    · rw [if_pos h, if_pos (by omega)]
      simp [List.getD_eq_getElem?_getD, List.getElem?_append_left h]
    · rw [if_neg h, if_neg (by omega)]
/-- the world while the stream is read -/
def Wd (K : Nat → Nat → Int) (wr lo : Int) (fo : Nat → Int) : Nat → Nat → Int := us (us K 28 (us (us (K 28) 12 wr) 13 lo)) 32 fo
theorem Wd_29 (K : Nat → Nat → Int) (wr lo : Int) (fo : Nat → Int) : Wd K wr lo fo 29 = K 29 := rfl
theorem Wd_32 (K : Nat → Nat → Int) (wr lo : Int) (fo : Nat → Int) : Wd K wr lo fo 32 = fo := rfl
theorem Wd_12 (K : Nat → Nat → Int) (wr lo : Int) (fo : Nat → Int) : Wd K wr lo fo 28 12 = wr := rfl
theorem Wd_13 (K : Nat → Nat → Int) (wr lo : Int) (fo : Nat → Int) : Wd K wr lo fo 28 13 = lo := rfl
theorem Wd_p12 (K : Nat → Nat → Int) (wr lo : Int) (fo : Nat → Int) (z : Int) : us (Wd K wr lo fo) 28 (us (Wd K wr lo fo 28) 12 z) = Wd K z lo fo := by
  have e : Wd K wr lo fo 28 = us (us (K 28) 12 wr) 13 lo := rfl
  rw [e, us_comm (us (K 28) 12 wr) lo z (by decide), us_us]
  unfold Wd
  rw [us_comm (us K 28 _) fo _ (by decide), us_us]
theorem Wd_p13 (K : Nat → Nat → Int) (wr lo : Int) (fo : Nat → Int) (z : Int) : us (Wd K wr lo fo) 28 (us (Wd K wr lo fo 28) 13 z) = Wd K wr z fo := by
  have e : Wd K wr lo fo 28 = us (us (K 28) 12 wr) 13 lo := rfl
  rw [e, us_us]
  unfold Wd
  rw [us_comm (us K 28 _) fo _ (by decide), us_us]
theorem Wd_f (K : Nat → Nat → Int) (wr lo : Int) (fo fo' : Nat → Int) : us (Wd K wr lo fo) 32 fo' = Wd K wr lo fo' := by
  unfold Wd; rw [us_us]
theorem us_same2 {α : Type} {K : Nat → α} {a b : Nat} {x : α} (n : a ≠ b) : us (us K a x) b (K b) = us K a x := by
  rw [us_comm K x (K b) n, us_same]
