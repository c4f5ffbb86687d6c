theorem rdN_v (z : Nat → Int) : ∀ k, k < (rdZ z).2.2.2.length → (((rdZ z).2.2.2.getD k 0 : Nat) : Int) ≤ 100000 := fun k hk => by have := rdZ_v z hk; omega
/-- the scratch after the numbers -/
def dW (z : Nat → Int) (K : Nat → Nat → Int) : Nat → Nat → Nat → Int
  | 0 => K
  | k + 1 => tbW 18 12 15 (putW 12 (z k) 1 (us (dW z K k) 12 (us (dW z K k 12) 2 0)))
theorem dW_C (z : Nat → Int) (K : Nat → Nat → Int) : ∀ k, EqC K (dW z K k)
  | 0 => EqC.rf K
  | k + 1 => (dW_C z K k).tr (EqC_tb (dW z K k) (z k))
theorem RS_C {K K' : Nat → Nat → Int} {z : Nat → Int} (e : EqC K K') (h : RS K 1 z) : RS K' 1 z := RS_congr (e 1 (by decide)) (e 2 (by decide)) h
