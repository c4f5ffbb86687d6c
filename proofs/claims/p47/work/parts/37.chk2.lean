set_option maxRecDepth 1000000 in
theorem chk4 : allB (fun n => decide (131072 ≤ gm 18 n ∨ wo 18 (gm 18 n <<< 1) ≤ 6764)) 6765 = true := by decide +kernel
theorem wo_up {n : Nat} (h : n ≤ 6764) (hm : gm 18 n < 131072) : wo 22 (gm 18 n <<< 1) = wo 18 (gm 18 n <<< 1) ∧ wo 22 (gm 18 n <<< 1) ≤ 6764 := by
  have h1 : gm 18 n <<< 1 = gm 18 n * 2 := by rw [Nat.shiftLeft_eq]
  have h2 := wo_18 (m := gm 18 n <<< 1) (by omega)
  have h3 := of_decide_eq_true (allB_of chk4 n (by omega))
  rw [h2]
  exact ⟨rfl, by omega⟩
/-- ways by gaps, a step at a time: first, second, the step before and one -/
def woS (m : Nat) : Nat → Nat × Nat × Nat
  | 0 => (1, 0, 0)
  | k + 1 =>
    if m >>> k &&& 1 = 1 then
      (if (woS m k).2.2 = 0 then (1, k / 2, k + 1)
       else ((woS m k).1 + (woS m k).2.1, (woS m k).1 * ((k + 1 - (woS m k).2.2 - 1) / 2) + (woS m k).2.1 * ((k + 1 - (woS m k).2.2) / 2), k + 1))
    else woS m k
theorem woS_inv (m : Nat) : ∀ k, k ≤ 22 → (cn k m = 0 ∧ woS m k = (1, 0, 0)) ∨ (1 ≤ cn k m ∧ (((woS m k).1 : Nat) : Int) = (cwA m (cn k m - 1)).1 ∧ (((woS m k).2.1 : Nat) : Int) = (cwA m (cn k m - 1)).2 ∧ (((woS m k).2.2 : Nat) : Int) = ft 22 m ((cn k m : Int) - 1) + 1 ∧ 1 ≤ (woS m k).2.2 ∧ (woS m k).2.2 ≤ k)
  | 0, _ => .inl ⟨rfl, rfl⟩
  | k + 1, hk => by
    have ih := woS_inv m k (by omega)
    by_cases hb : m >>> k &&& 1 = 1
    · have hbi : ((m >>> k &&& 1 : Nat) : Int) = 1 := by omega
      have hf := ft_stay hbi (show (cn k m : Int) = (cn k m : Nat) from rfl) 22 (by omega)
      have hc := cn_1 hbi
      right
      rcases ih with h | h
      · have e : woS m (k + 1) = (1, k / 2, k + 1) := by
          simp only [woS]; rw [if_pos hb, h.2, if_pos rfl]
        rw [hc, h.1, e]
        rw [h.1] at hf
        have hf : ft 22 m 0 = k := hf
        refine ⟨by omega, rfl, ?_, ?_, ?_, ?_⟩
        · show ((k / 2 : Nat) : Int) = ft 22 m 0 / 2
          rw [hf]; omega
        · show ((k + 1 : Nat) : Int) = ft 22 m (((0 + 1 : Nat) : Int) - 1) + 1
          rw [show (((0 + 1 : Nat) : Int) - 1) = 0 by omega, hf]; rfl
        · show 1 ≤ k + 1
          omega
        · exact Nat.le_refl _
      · obtain ⟨h1, h2, h3, h4, h5, h6⟩ := h
        have e : woS m (k + 1) = ((woS m k).1 + (woS m k).2.1, (woS m k).1 * ((k + 1 - (woS m k).2.2 - 1) / 2) + (woS m k).2.1 * ((k + 1 - (woS m k).2.2) / 2), k + 1) := by
          conv => lhs; simp only [woS]
          rw [if_pos hb, if_neg (by omega)]
        obtain ⟨q, hq⟩ : ∃ q, cn k m = q + 1 := ⟨cn k m - 1, by omega⟩
        rw [hq] at hf h2 h3 h4 hc
        rw [show q + 1 - 1 = q by omega] at h2 h3
        rw [show ((q + 1 : Nat) : Int) - 1 = (q : Int) by omega] at h4
        rw [hc, e, show q + 1 + 1 - 1 = q + 1 by omega]
        refine ⟨by omega, ?_, ?_, ?_, ?_, ?_⟩
        · show (((woS m k).1 + (woS m k).2.1 : Nat) : Int) = (cwA m q).1 + (cwA m q).2
          rw [← h2, ← h3]; rfl
        · show (((woS m k).1 * ((k + 1 - (woS m k).2.2 - 1) / 2) + (woS m k).2.1 * ((k + 1 - (woS m k).2.2) / 2) : Nat) : Int) = (cwA m q).1 * ((ft 22 m ((q : Int) + 1) - ft 22 m q - 1) / 2) + (cwA m q).2 * ((ft 22 m ((q : Int) + 1) - ft 22 m q) / 2)
          rw [show ft 22 m ((q : Int) + 1) = k from hf, ← h2, ← h3]
          have a1 : (((k + 1 - (woS m k).2.2 - 1) / 2 : Nat) : Int) = ((k : Int) - ft 22 m q - 1) / 2 := by omega
          have a2 : (((k + 1 - (woS m k).2.2) / 2 : Nat) : Int) = ((k : Int) - ft 22 m q) / 2 := by omega
          rw [Int.natCast_add, Int.natCast_mul, Int.natCast_mul, a1, a2]
        · show ((k + 1 : Nat) : Int) = ft 22 m (((q + 1 + 1 : Nat) : Int) - 1) + 1
          rw [show (((q + 1 + 1 : Nat) : Int) - 1) = ((q + 1 : Nat) : Int) by omega, hf]; rfl
        · show 1 ≤ k + 1
          omega
        · exact Nat.le_refl _
    · have hbi : ¬ ((m >>> k &&& 1 : Nat) : Int) = 1 := by omega
      have e : woS m (k + 1) = woS m k := by
        conv => lhs; simp only [woS]
        rw [if_neg hb]
      rw [cn_0 hbi, e]
      rcases ih with h | h
      · exact .inl h
      · exact .inr ⟨h.1, h.2.1, h.2.2.1, h.2.2.2.1, h.2.2.2.2.1, by omega⟩
theorem cw_woS (m : Nat) : cw m = (((woS m 22).1 + (woS m 22).2.1 : Nat) : Int) := by
  unfold cw
  rcases woS_inv m 22 (by omega) with h | h
  · rw [if_pos h.1, h.2]; rfl
  · rw [if_neg (by omega), ← h.2.1, ← h.2.2.1]; rfl
theorem woS_18 {m : Nat} (hm : m < 262144) : woS m 22 = woS m 18 := by
  have h : ∀ k, 18 ≤ k → woS m (k + 1) = woS m k := fun k hk => by
    conv => lhs; simp only [woS]
    rw [if_neg (by have := hi_0 hm hk; omega)]
  rw [h 21 (by omega), h 20 (by omega), h 19 (by omega), h 18 (by omega)]
set_option maxRecDepth 1000000 in
theorem chk5 : allB (fun n => decide ((woS (gm 18 n) 18).1 + (woS (gm 18 n) 18).2.1 ≤ 100000)) 6765 = true := by decide +kernel
theorem cw_r {n : Nat} (h : n ≤ 6764) : 0 ≤ cw (gm 18 n) ∧ cw (gm 18 n) ≤ 100000 := by
  have := of_decide_eq_true (allB_of chk5 n (by omega))
  rw [cw_woS, woS_18 (gm_18 n)]
  omega
