/-! the numbers of the document -/
def wS : Nat → Nat
  | 0 => 0
  | k + 1 => wS k + wN k
def gm : Nat → Nat → Nat
  | 0, _ => 0
  | k + 1, l => if wN k ≤ l then 2 ^ k + gm k (l - wN k) else gm k l
def fm : Nat → Nat → Nat
  | 0, _ => 0
  | k + 1, l => if wS k < l then 2 ^ k + fm k (l - wN k) else fm k l
/-- the worth of the lowest k steps of a mark; how many they are -/
def wo : Nat → Nat → Nat
  | 0, _ => 0
  | k + 1, m => wo k m + (m >>> k &&& 1) * wN k
def cn : Nat → Nat → Nat
  | 0, _ => 0
  | k + 1, m => cn k m + (m >>> k &&& 1)
theorem wS_2 : ∀ k, wS k + 2 = wN (k + 1)
  | 0 => rfl
  | k + 1 => by
    have h := wS_2 k
    show wS k + wN k + 2 = wN k + wN (k + 1)
    omega
theorem wN_le : ∀ {a b : Nat}, a ≤ b → wN a ≤ wN b := by
  intro a b h
  induction h with
  | refl => exact Nat.le_refl _
  | step h ih =>
    rename_i m
    refine Nat.le_trans ih ?_
    cases m with
    | zero => decide
    | succ m => show wN (m + 1) ≤ wN m + wN (m + 1); omega
theorem wN_22 {k : Nat} (h : k ≤ 22) : wN k ≤ 46368 := Nat.le_trans (wN_le h) (by decide)
theorem wS_22 {k : Nat} (h : k ≤ 22) : wS k ≤ 75023 := by
  have := wS_2 k
  have h2 : wN (k + 1) ≤ wN 23 := wN_le (by omega)
  have h3 : wN 23 = 75025 := by decide
  omega
theorem wN_pos : ∀ k, 1 ≤ wN k := fun k => Nat.le_trans (by decide : 1 ≤ wN 0) (wN_le (Nat.zero_le k))
theorem gm_lt : ∀ k l, gm k l < 2 ^ k
  | 0, _ => by decide
  | k + 1, l => by
    have h1 := gm_lt k l
    have h2 := gm_lt k (l - wN k)
    simp only [gm, Nat.pow_succ]
    split <;> omega
theorem fm_lt : ∀ k l, fm k l < 2 ^ k
  | 0, _ => by decide
  | k + 1, l => by
    have h1 := fm_lt k l
    have h2 := fm_lt k (l - wN k)
    simp only [fm, Nat.pow_succ]
    split <;> omega
theorem b1_le (m k : Nat) : m >>> k &&& 1 ≤ 1 := by
  rw [Nat.and_one_is_mod]; omega
theorem wo_le : ∀ k m, wo k m ≤ wS k
  | 0, _ => Nat.le_refl _
  | k + 1, m => by
    have h := wo_le k m
    have h2 := Nat.mul_le_mul_right (wN k) (b1_le m k)
    simp only [wo, wS]
    omega
theorem cn_le : ∀ k m, cn k m ≤ k
  | 0, _ => Nat.le_refl _
  | k + 1, m => by
    have h := cn_le k m
    have h2 := b1_le m k
    simp only [cn]
    omega
/-- a bit above all others is set -/
theorem or_pow {m k : Nat} (h : 2 ^ (k + 1) ∣ m) : m ||| 1 <<< k = m + 2 ^ k := by
  obtain ⟨c, rfl⟩ := h
  rw [Nat.shiftLeft_eq, Nat.one_mul]
  exact (Nat.two_pow_add_eq_or_of_lt (Nat.pow_lt_pow_right (by decide) (Nat.lt_succ_self k)) c).symm
