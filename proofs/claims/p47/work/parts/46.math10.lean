/-! the bits of a quotient -/
theorem lcp_lt {a b : Int} (h : a < b) : lcp a b = -1 := by unfold lcp; rw [if_neg (by omega), if_neg (by omega)]
theorem lcp_gt {a b : Int} (h : b < a) : lcp a b = 1 := by unfold lcp; rw [if_pos h]
theorem lcp_eq {a b : Int} (h : a = b) : lcp a b = 0 := by unfold lcp; rw [if_neg (by omega), if_pos h]
def btS (b : Nat) : Nat → Nat → Nat → Nat × Nat
  | 0, t, s => (t, s)
  | f + 1, t, s => if t / b < 4503599627370496 then btS b f (2 * t) (s + 1) else (t, s)
def btQ (b t : Nat) : Nat := if b < t % b * 2 ∨ (t % b * 2 = b ∧ t / b % 2 = 1) then t / b + 1 else t / b
def btR (q s : Nat) : Int := if q = 9007199254740992 then (1075 - ((s : Int) + -1)) * 4503599627370496 + (4503599627370496 - 4503599627370496) else (1075 - (s : Int)) * 4503599627370496 + ((q : Int) - 4503599627370496)
def btV (a b : Nat) : Int := btR (btQ b (btS b 70 a 0).1) (btS b 70 a 0).2
