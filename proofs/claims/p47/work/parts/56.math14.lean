/-! the scan of a text, a character at a time: 0 expected, 1 kind, 2 stall, 3 value, 4 least, 5 most -/
theorem narC {z : Int} (h : 0 ≤ z ∧ z < 65536) : narrow .char (.int (iI z)) = .int (iI z) ∧ fits .char (.int (iI z)) = true := by
  obtain ⟨m, rfl⟩ := Int.eq_ofNat_of_zero_le h.1
  have e : iI (m : Int) = nI m := iI_nat m
  show narrow .char (.int (iI (m : Int))) = .int (iI (m : Int)) ∧ fits .char (.int (iI (m : Int))) = true
  rw [e]
  exact pk_charN (by omega)
def xpN (f : Nat → Int) (c a b : Int) : Nat → Int := us (us (us (us f 1 c) 4 a) 5 b) 0 3
def scB0 (c : Int) : Bool := decide (c = 115 ∨ c = 102 ∨ (48 ≤ c ∧ c ≤ 53))
def scF0 (f : Nat → Int) (c : Int) : Nat → Int := if c = 115 then xpN f c 1 6764 else if c = 102 then xpN f c 0 63 else if 48 ≤ c ∧ c ≤ 53 then us (us f 2 (c - 48)) 0 1 else f
def scB1 (c : Int) : Bool := decide (c = 61 ∨ c = 43 ∨ c = 45 ∨ c = 94)
def scF1 (f : Nat → Int) (c : Int) : Nat → Int := if c = 61 then xpN f c 0 6764 else if c = 94 then us (us f 1 c) 0 5 else if c = 43 ∨ c = 45 then us (us f 1 c) 0 2 else f
def scB2 (c : Int) : Bool := decide (48 ≤ c ∧ c ≤ 53)
def scF2 (f : Nat → Int) (c : Int) : Nat → Int := if 48 ≤ c ∧ c ≤ 53 then us (us f 3 (c - 48)) 0 5 else f
def scB3 (f : Nat → Int) (c : Int) : Bool := decide (48 ≤ c ∧ c ≤ 57 ∧ f 4 ≤ c - 48)
def scF3 (f : Nat → Int) (c : Int) : Nat → Int := if 48 ≤ c ∧ c ≤ 57 ∧ f 4 ≤ c - 48 then us (us f 3 (c - 48)) 0 (if c = 48 then 5 else 4) else f
def scB4 (f : Nat → Int) (c : Int) : Bool := decide (48 ≤ c ∧ c ≤ 57 ∧ f 3 * 10 + c - 48 ≤ f 5)
def scF4 (f : Nat → Int) (c : Int) : Nat → Int := if 48 ≤ c ∧ c ≤ 57 ∧ f 3 * 10 + c - 48 ≤ f 5 then us f 3 (f 3 * 10 + c - 48) else f
def scB5 (c : Int) : Bool := decide (c = 59)
def scF5 (f : Nat → Int) (c : Int) : Nat → Int := if c = 59 then us f 0 0 else f
def scB (f : Nat → Int) (c : Int) : Bool :=
  if f 0 = 0 then scB0 c else if f 0 = 1 then scB1 c else if f 0 = 2 then scB2 c else if f 0 = 3 then scB3 f c else if f 0 = 4 then (scB4 f c || scB5 c) else scB5 c
def scF (f : Nat → Int) (c : Int) : Nat → Int :=
  if f 0 = 0 then scF0 f c else if f 0 = 1 then scF1 f c else if f 0 = 2 then scF2 f c else if f 0 = 3 then scF3 f c else if f 0 = 4 then (if scB4 f c = true then scF4 f c else scF5 f c) else scF5 f c
/-- what is known of the scan's fields -/
def scI (f : Nat → Int) : Prop := (0 ≤ f 0 ∧ f 0 ≤ 5) ∧ (f 0 = 3 ∨ f 0 = 4 → (0 ≤ f 4 ∧ f 4 ≤ 1) ∧ 0 ≤ f 5 ∧ f 5 ≤ 6764) ∧ (f 0 = 4 → 0 ≤ f 3 ∧ f 3 ≤ 6764)
theorem xpN_0 (f : Nat → Int) (c a b : Int) : xpN f c a b 0 = 3 := rfl
theorem xpN_1 (f : Nat → Int) (c a b : Int) : xpN f c a b 1 = c := rfl
theorem xpN_2 (f : Nat → Int) (c a b : Int) : xpN f c a b 2 = f 2 := rfl
theorem xpN_4 (f : Nat → Int) (c a b : Int) : xpN f c a b 4 = a := rfl
theorem xpN_5 (f : Nat → Int) (c a b : Int) : xpN f c a b 5 = b := rfl
theorem xpN_I (f : Nat → Int) (c : Int) {a b : Int} (ha : 0 ≤ a ∧ a ≤ 1) (hb : 0 ≤ b ∧ b ≤ 6764) : scI (xpN f c a b) := by
  refine ⟨by rw [xpN_0]; decide, fun _ => by rw [xpN_4, xpN_5]; exact ⟨ha, hb⟩, fun h => ?_⟩
  rw [xpN_0] at h; omega
theorem us_I {f : Nat → Int} {v : Int} (h : v = 0 ∨ v = 1 ∨ v = 2 ∨ v = 5) : scI (us f 0 v) := by
  refine ⟨?_, fun g => ?_, fun g => ?_⟩
  · rw [us_at]; omega
  · rw [us_at] at g; omega
  · rw [us_at] at g; omega
theorem scI_F {f : Nat → Int} {c : Int} (h : scI f) (hc : 0 ≤ c ∧ c ≤ 200) : scI (scF f c) := by
  obtain ⟨h1, h2, h3⟩ := h
  unfold scF
  by_cases e0 : f 0 = 0
  · rw [if_pos e0]; unfold scF0
    split
    · exact xpN_I _ _ (by decide) (by decide)
    · split
      · exact xpN_I _ _ (by decide) (by decide)
      · split
        · exact us_I (.inr (.inl rfl))
        · exact ⟨h1, h2, h3⟩
  rw [if_neg e0]
  by_cases e1 : f 0 = 1
  · rw [if_pos e1]; unfold scF1
    split
    · exact xpN_I _ _ (by decide) (by decide)
    · split
      · exact us_I (.inr (.inr (.inr rfl)))
      · split
        · exact us_I (.inr (.inr (.inl rfl)))
        · exact ⟨h1, h2, h3⟩
  rw [if_neg e1]
  by_cases e2 : f 0 = 2
  · rw [if_pos e2]; unfold scF2
    split
    · exact us_I (.inr (.inr (.inr rfl)))
    · exact ⟨h1, h2, h3⟩
  rw [if_neg e2]
  by_cases e3 : f 0 = 3
  · rw [if_pos e3]; unfold scF3
    split
    · rename_i g
      split
      · exact us_I (.inr (.inr (.inr rfl)))
      · refine ⟨by rw [us_at]; decide, fun _ => ?_, fun _ => ?_⟩
        · rw [us_ne _ _ (by decide), us_ne _ _ (by decide), us_ne _ _ (by decide), us_ne _ _ (by decide)]
          exact h2 (.inl e3)
        · rw [us_ne _ _ (by decide), us_at]; omega
    · exact ⟨h1, h2, h3⟩
  rw [if_neg e3]
  by_cases e4 : f 0 = 4
  · rw [if_pos e4]
    split
    · unfold scF4
      split
      · rename_i g
        have g3 := h3 e4
        have g2 := h2 (.inr e4)
        refine ⟨by rw [us_ne _ _ (by decide)]; exact h1, fun _ => ?_, fun _ => ?_⟩
        · rw [us_ne _ _ (by decide), us_ne _ _ (by decide)]; exact g2
        · rw [us_at]; omega
      · exact ⟨h1, h2, h3⟩
    · unfold scF5
      split
      · exact us_I (.inl rfl)
      · exact ⟨h1, h2, h3⟩
  rw [if_neg e4]
  unfold scF5
  split
  · exact us_I (.inl rfl)
  · exact ⟨h1, h2, h3⟩
