/-! facts of all numbers, by the kernel -/
def allB (p : Nat → Bool) : Nat → Bool
  | 0 => true
  | n + 1 => p n && allB p n
theorem allB_of {p : Nat → Bool} : ∀ {n : Nat}, allB p n = true → ∀ k, k < n → p k = true
  | n + 1, h, k, hk => by
    simp only [allB, Bool.and_eq_true] at h
    rcases Nat.lt_succ_iff_lt_or_eq.mp hk with e | e
    · exact allB_of h.2 k e
    · rw [e]; exact h.1
set_option maxRecDepth 1000000 in
theorem chk1 : allB (fun n => decide (wo 18 (gm 18 n) = n)) 6765 = true := by decide +kernel
set_option maxRecDepth 1000000 in
theorem chk2 : allB (fun n => decide (bcN (gm 18 n) = cn 18 (gm 18 n)) && decide (bcN (fm 18 n) = cn 18 (fm 18 n))) 6765 = true := by decide +kernel
set_option maxRecDepth 1000000 in
theorem chk3 : allB (fun n => decide (csO 18 (gm 18 n + 1) = some (gm 18 (n + 1)))) 6764 = true := by decide +kernel
theorem wo_gm {n : Nat} (h : n ≤ 6764) : wo 18 (gm 18 n) = n := of_decide_eq_true (allB_of chk1 n (by omega))
theorem bc_gm {n : Nat} (h : n ≤ 6764) : bcN (gm 18 n) = cn 18 (gm 18 n) := by
  have := allB_of chk2 n (by omega)
  simp only [Bool.and_eq_true] at this
  exact of_decide_eq_true this.1
theorem bc_fm {n : Nat} (h : n ≤ 6764) : bcN (fm 18 n) = cn 18 (fm 18 n) := by
  have := allB_of chk2 n (by omega)
  simp only [Bool.and_eq_true] at this
  exact of_decide_eq_true this.2
theorem cs_gm {n : Nat} (h : n < 6764) : csO 18 (gm 18 n + 1) = some (gm 18 (n + 1)) := of_decide_eq_true (allB_of chk3 n h)
theorem gm_18 (n : Nat) : gm 18 n < 262144 := gm_lt 18 n
theorem fm_18 (n : Nat) : fm 18 n < 262144 := fm_lt 18 n
theorem wo_cn0 : ∀ k m, cn k m = 0 → wo k m = 0
  | 0, _, _ => rfl
  | k + 1, m, h => by
    simp only [cn] at h
    have h1 := wo_cn0 k m (by omega)
    simp only [wo, h1, show m >>> k &&& 1 = 0 by omega]
    omega
theorem cn_gm {n : Nat} (h : n ≤ 6764) (h0 : 1 ≤ n) : 1 ≤ cn 22 (gm 18 n) := by
  rw [cn_18 (gm_18 n)]
  have h1 := wo_gm h
  by_cases e : cn 18 (gm 18 n) = 0
  · have := wo_cn0 18 _ e; omega
  · omega
theorem cn_gm0 : cn 22 (gm 18 0) = 0 := by decide +kernel
