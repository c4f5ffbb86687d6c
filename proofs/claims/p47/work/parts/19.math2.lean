/-! more of the numbers -/
theorem hi_0 {m k : Nat} (hm : m < 262144) (hk : 18 ≤ k) : m >>> k &&& 1 = 0 := by
  have h1 : m >>> k = 0 := by
    rw [Nat.shiftRight_eq_div_pow]
    exact Nat.div_eq_of_lt (Nat.lt_of_lt_of_le hm (Nat.le_trans (by decide : 262144 ≤ 2 ^ 18) (Nat.pow_le_pow_right (by decide) hk)))
  rw [h1]; rfl
theorem wo_18 {m : Nat} (hm : m < 262144) : wo 22 m = wo 18 m := by
  show wo 18 m + (m >>> 18 &&& 1) * wN 18 + (m >>> 19 &&& 1) * wN 19 + (m >>> 20 &&& 1) * wN 20 + (m >>> 21 &&& 1) * wN 21 = wo 18 m
  rw [hi_0 hm (by decide), hi_0 hm (by decide), hi_0 hm (by decide), hi_0 hm (by decide)]
  omega
theorem cn_18 {m : Nat} (hm : m < 262144) : cn 22 m = cn 18 m := by
  show cn 18 m + (m >>> 18 &&& 1) + (m >>> 19 &&& 1) + (m >>> 20 &&& 1) + (m >>> 21 &&& 1) = cn 18 m
  rw [hi_0 hm (by decide), hi_0 hm (by decide), hi_0 hm (by decide), hi_0 hm (by decide)]
  omega
theorem ft_18 {m : Nat} (hm : m < 262144) (p : Int) : ft 22 m p = ft 18 m p := by
  have h : ∀ k, 18 ≤ k → ft (k + 1) m p = ft k m p := fun k hk => ft_0 (fun q => by rw [hi_0 hm hk] at q; exact absurd q.1 (by decide))
  rw [h 21 (by decide), h 20 (by decide), h 19 (by decide), h 18 (by decide)]
/-- one more than the greatest step; 0 of no step -/
def hl : Nat → Nat → Nat
  | 0, _ => 0
  | k + 1, m => if ((m >>> k &&& 1 : Nat) : Int) = 1 then k + 1 else hl k m
theorem hl_1 {k m : Nat} (h : ((m >>> k &&& 1 : Nat) : Int) = 1) : hl (k + 1) m = k + 1 := by simp only [hl]; rw [if_pos h]
theorem hl_0 {k m : Nat} (h : ¬ ((m >>> k &&& 1 : Nat) : Int) = 1) : hl (k + 1) m = hl k m := by simp only [hl]; rw [if_neg h]
theorem hl_le : ∀ k m, hl k m ≤ k
  | 0, _ => Nat.le_refl _
  | k + 1, m => by
    simp only [hl]
    split
    · exact Nat.le_refl _
    · exact Nat.le_succ_of_le (hl_le k m)
theorem hl_ft : ∀ {k m : Nat}, 1 ≤ cn k m → (hl k m : Int) = ft k m ((cn k m : Int) - 1) + 1
  | 0, m, h => by simp [cn] at h
  | k + 1, m, h => by
    by_cases e : ((m >>> k &&& 1 : Nat) : Int) = 1
    · have h1 := cn_1 e
      rw [hl_1 e, ft_1 e (by omega)]
      rfl
    · have h1 := cn_0 e
      rw [hl_0 e, ft_0 (fun q => e q.1), h1]
      exact hl_ft (by omega)
/-- a step with p below it is there, if there are more than p -/
theorem ft_ex {m p : Nat} : ∀ {K : Nat}, p < cn K m → ∃ j, j < K ∧ ((m >>> j &&& 1 : Nat) : Int) = 1 ∧ cn j m = p
  | 0, h => by simp [cn] at h
  | K + 1, h => by
    by_cases e : ((m >>> K &&& 1 : Nat) : Int) = 1
    · have h1 := cn_1 e
      by_cases e2 : cn K m = p
      · exact ⟨K, Nat.lt_succ_self K, e, e2⟩
      · obtain ⟨j, h2, h3, h4⟩ := ft_ex (K := K) (m := m) (p := p) (by omega)
        exact ⟨j, Nat.lt_succ_of_lt h2, h3, h4⟩
    · have h1 := cn_0 e
      obtain ⟨j, h2, h3, h4⟩ := ft_ex (K := K) (m := m) (p := p) (by omega)
      exact ⟨j, Nat.lt_succ_of_lt h2, h3, h4⟩
theorem ft_in {m p K : Nat} (h : p < cn K m) : 0 ≤ ft K m p ∧ ft K m p < K := by
  obtain ⟨j, h1, h2, h3⟩ := ft_ex h
  rw [ft_stay h2 (by omega : (cn j m : Int) = (p : Int)) K h1]
  omega
theorem ft_gap {m p K : Nat} (h : p + 1 < cn K m) : ft K m p < ft K m ((p : Int) + 1) := by
  obtain ⟨j, h1, h2, h3⟩ := ft_ex (K := K) (m := m) (p := p) (by omega)
  obtain ⟨i, g1, g2, g3⟩ := ft_ex (K := K) (m := m) (p := p + 1) h
  rw [ft_stay h2 (by omega : (cn j m : Int) = (p : Int)) K h1, ft_stay g2 (by omega : (cn i m : Int) = (p : Int) + 1) K g1]
  have : ¬ i ≤ j := fun q => by have := cn_mono (m := m) q; omega
  omega
/-- the counts by gaps, behind the step p -/
def cwA (m : Nat) : Nat → Int × Int
  | 0 => (1, ft 22 m 0 / 2)
  | k + 1 => ((cwA m k).1 + (cwA m k).2, (cwA m k).1 * ((ft 22 m ((k : Int) + 1) - ft 22 m k - 1) / 2) + (cwA m k).2 * ((ft 22 m ((k : Int) + 1) - ft 22 m k) / 2))
def cw (m : Nat) : Int := if cn 22 m = 0 then 1 else (cwA m (cn 22 m - 1)).1 + (cwA m (cn 22 m - 1)).2
/-- a word -/
def wd (m : Nat) (t p : Int) : Int := if t < 2 ∨ p = 0 then ft 22 m (if t = 0 then (cn 22 m : Int) - 1 - p else p) else ft 22 m (if t = 0 then (cn 22 m : Int) - 1 - p else p) - ft 22 m (p - 1)
def csO : Nat → Nat → Option Nat
  | 0, m => if m < 1048576 then some m else none
  | f + 1, m => if m < 1048576 then (if m &&& m >>> 1 = 0 then some m else csO f (m + (m &&& m >>> 1))) else none
