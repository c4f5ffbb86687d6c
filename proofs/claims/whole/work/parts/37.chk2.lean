set_option maxRecDepth 1000000 in
theorem chk4 : allB (fun n => decide (131072 ≤ gm 18 n ∨ wo 18 (gm 18 n <<< 1) ≤ 6764)) 6765 = true := by decide +kernel
theorem wo_up {n : Nat} (h : n ≤ 6764) (hm : gm 18 n < 131072) : wo 22 (gm 18 n <<< 1) = wo 18 (gm 18 n <<< 1) ∧ wo 22 (gm 18 n <<< 1) ≤ 6764 := by
  have h1 : gm 18 n <<< 1 = gm 18 n * 2 := by rw [Nat.shiftLeft_eq]
  have h2 := wo_18 (m := gm 18 n <<< 1) (by omega)
  have h3 := of_decide_eq_true (allB_of chk4 n (by omega))
  rw [h2]
  exact ⟨rfl, by omega⟩
