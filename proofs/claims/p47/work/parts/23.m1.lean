def goT (a b c : Bool) : Int := if a = true then (if b = true then (if c = true then 0 else 3) else 2) else 1
theorem goT_0 (a b c : Bool) : goT a b c = 0 ↔ (a && b && c) = true := by cases a <;> cases b <;> cases c <;> decide
theorem goT_r (a b c : Bool) : 0 ≤ goT a b c ∧ goT a b c ≤ 3 := by cases a <;> cases b <;> cases c <;> decide
/-- the reference's note of what it would have thrown -/
def kT (K : Nat → Nat → Int) (v : Int) : Nat → Nat → Int := us K 28 (us (K 28) 3 v)
/-- a slot's first k cells copied -/
def cpS (s : Nat → Int) (fr to k : Nat) : Nat → Int := fun j => if 74 * to ≤ j ∧ j < 74 * to + k then s (j - 74 * to + 74 * fr) else s j
theorem cpS_0 (s : Nat → Int) (fr to : Nat) : cpS s fr to 0 = s := by funext j; simp only [cpS]; rw [if_neg (by omega)]
theorem cpS_s (s : Nat → Int) {fr to k : Nat} (n : fr ≠ to) (hk : k < 74) : us (cpS s fr to k) (74 * to + k) (cpS s fr to k (74 * fr + k)) = cpS s fr to (k + 1) := by
  funext j
  by_cases e : j = 74 * to + k
  · subst e
    rw [us_at]
    simp only [cpS]
    rw [if_neg (by omega), if_pos (by omega)]
    congr 1; omega
  · rw [us_ne _ _ e]
    simp only [cpS]
    by_cases h : 74 * to ≤ j ∧ j < 74 * to + k
    · rw [if_pos h, if_pos (by omega)]
    · rw [if_neg h, if_neg (by omega)]
theorem cpS_at (s : Nat → Int) (fr to : Nat) {i k : Nat} (hk : k < 74) : cpS s fr to 74 (74 * i + k) = if i = to then s (74 * fr + k) else s (74 * i + k) := by
  simp only [cpS]
  by_cases e : i = to
  · subst e; rw [if_pos (by omega), if_pos rfl]; congr 1; omega
  · rw [if_neg (by omega), if_neg e]
