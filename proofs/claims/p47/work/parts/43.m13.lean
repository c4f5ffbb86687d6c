theorem su_of {z z' : Nat → Int} (h : ∀ k, k < 6 → z' k = z k) : su z' 6 = su z 6 := by
  have g : ∀ n, n ≤ 6 → su z' n = su z n := by
    intro n
    induction n with
    | zero => intro _; rfl
    | succ n ih => intro hn; simp only [su]; rw [ih (by omega), h n (by omega)]
  exact g 6 (by omega)
