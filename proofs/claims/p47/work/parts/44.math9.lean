/-! cutting -/
def ctF (z : Nat → Int) (n : Nat) (L k : Nat) : Nat → Int := fun j => if j = 6 then (L : Int) else if 7 ≤ j ∧ j < 7 + k then z (j + n) else z j
theorem ctF_0 {z : Nat → Int} {n L : Nat} : us z 6 L = ctF z n L 0 := by
  funext j
  by_cases e : j = 6
  · subst e; rw [us_at]; rfl
  · rw [us_ne _ _ e]; simp only [ctF]; rw [if_neg e, if_neg (by omega)]
theorem ctF_s {z : Nat → Int} {n L k : Nat} : us (ctF z n L k) (7 + k) (z (7 + k + n)) = ctF z n L (k + 1) := by
  funext j
  by_cases e : j = 7 + k
  · subst e; rw [us_at]; simp only [ctF]; rw [if_neg (by omega), if_pos (by omega)]
  · rw [us_ne _ _ e]; simp only [ctF]
    by_cases h : j = 6
    · rw [if_pos h, if_pos h]
    · rw [if_neg h, if_neg h]
      by_cases h2 : 7 ≤ j ∧ j < 7 + k
      · rw [if_pos h2, if_pos (by omega)]
      · rw [if_neg h2, if_neg (by omega)]
theorem ctF_up {z : Nat → Int} {n L k j : Nat} (h1 : 7 + k ≤ j) : ctF z n L k j = z j := by
  simp only [ctF]; rw [if_neg (by omega), if_neg (by omega)]
theorem ctF_6 {z : Nat → Int} {n L k : Nat} : ctF z n L k 6 = L := rfl
theorem ctF_of {z z' : Nat → Int} {n L k j : Nat} (h : ∀ i, i < 7 + k + n → z' i = z i) (hj : j < 7 + k) : ctF z' n L k j = ctF z n L k j := by
  simp only [ctF]
  by_cases h1 : j = 6
  · rw [if_pos h1, if_pos h1]
  · rw [if_neg h1, if_neg h1]
    by_cases h2 : 7 ≤ j ∧ j < 7 + k
    · rw [if_pos h2, if_pos h2]; exact h _ (by omega)
    · rw [if_neg h2, if_neg h2]; exact h _ (by omega)
/-! the digest -/
def mxF (f : Nat → Int) : Nat → Int → Int
  | 0, h => h
  | k + 1, h => 31 * mxF f k h + f k
def trH (m : Nat) : Nat → Int → Int
  | 0, h => h
  | t + 1, h => mxF (fun p => wd m t p) (cn 22 m) (31 * trH m t h + (cn 22 m : Nat))
def nuH (h z : Int) : Int := trH (gm 18 z.toNat) 3 (31 * (31 * (31 * (31 * (31 * (31 * h + z) + (gm 18 z.toNat : Nat)) + (fm 18 z.toNat : Nat)) + cw (gm 18 z.toNat)) + cw (gm 18 z.toNat)) + (cn 22 (gm 18 z.toNat) : Nat))
def stH (z : Nat → Int) : Nat → Int → Int
  | 0, h => h
  | k + 1, h => nuH (stH z k h) (z k)
def caH (z : Nat → Int) : Nat → Int → Int
  | 0, h => h
  | k + 1, h => 31 * (31 * caH z k h + (mkN (adE (gm 18 (z k).toNat) (gm 18 (z ((k + 1) % 6)).toNat)) 22 : Nat)) + (adC (gm 18 (z k).toNat) (gm 18 (z ((k + 1) % 6)).toNat) : Nat)
/-- the scratch of the carries -/
def Wc (K : Nat → Nat → Int) (c : Nat → Int) (n : Int) : Nat → Nat → Int := us (us K 31 c) 28 (us (K 28) 10 n)
theorem Wc_self (K : Nat → Nat → Int) : Wc K (K 31) (K 28 10) = K := by
  unfold Wc; rw [us_same, us_same, us_same]
theorem Wc_Wc (K : Nat → Nat → Int) (c c' : Nat → Int) (n n' : Int) : us (us (Wc K c n) 31 c') 28 (us (Wc K c n 28) 10 n') = Wc K c' n' := by
  show us (us (us (us K 31 c) 28 _) 31 c') 28 (us (us (K 28) 10 n) 10 n') = _
  rw [us_us (K 28), us_comm _ _ c' (by decide), us_us, us_us]; rfl
theorem Wc_29 (K : Nat → Nat → Int) (c : Nat → Int) (n : Int) : Wc K c n 29 = K 29 := rfl
theorem Wc_10 (K : Nat → Nat → Int) (c : Nat → Int) (n : Int) : Wc K c n 28 10 = n := rfl
theorem mkN_lt (c : Nat → Int) : ∀ k, mkN c k < 2 ^ k
  | 0 => by show 0 < 1; decide
  | k + 1 => by
    have h := mkN_lt c k
    have h2 : mkN c k < 2 ^ (k + 1) := Nat.lt_of_lt_of_le h (Nat.pow_le_pow_right (by decide) (by omega))
    simp only [mkN]
    split
    · exact Nat.or_lt_two_pow h2 (by rw [Nat.shiftLeft_eq, Nat.one_mul]; exact Nat.pow_lt_pow_right (by decide) (by omega))
    · exact h2
theorem mkN_r (c : Nat → Int) : mkN c 22 < 4194304 := mkN_lt c 22
theorem adC_r (m o : Nat) : adC m o ≤ 3000 := cyN_le _ _
theorem ft_r (m : Nat) (p : Int) : -1 ≤ ft 22 m p ∧ ft 22 m p ≤ 21 := by
  rcases ft_rng 22 m p with h | h
  · omega
  · omega
theorem wd_r (m : Nat) (t p : Int) : -30 ≤ wd m t p ∧ wd m t p ≤ 30 := by
  unfold wd
  have h1 := ft_r m (if t = 0 then (cn 22 m : Int) - 1 - p else p)
  have h2 := ft_r m (p - 1)
  split <;> omega
