/-! the numbers of the document -/
def wS : Nat → Nat
  | 0 => 0
  | k + 1 => wS k + wN k
def gm : Nat → Nat → Nat
  | 0, _ => 0
  | k + 1, l => if wN k ≤ l then 2 ^ k + gm k (l - wN k) else gm k l
def fm : Nat → Nat → Nat
  | 0, _ => 0
  | k + 1, l => if wS k < l then 2 ^ k + fm k (l - wN k) else fm k l
/-- the worth of the lowest k steps of a mark; how many they are -/
def wo : Nat → Nat → Nat
  | 0, _ => 0
  | k + 1, m => wo k m + (m >>> k &&& 1) * wN k
def cn : Nat → Nat → Nat
  | 0, _ => 0
  | k + 1, m => cn k m + (m >>> k &&& 1)
theorem wS_2 : ∀ k, wS k + 2 = wN (k + 1)
  | 0 => rfl
  | k + 1 => by
    have h := wS_2 k
    show wS k + wN k + 2 = wN k + wN (k + 1)
    omega
theorem wN_le : ∀ {a b : Nat}, a ≤ b → wN a ≤ wN b := by
  intro a b h
  induction h with
  | refl => exact Nat.le_refl _
  | step h ih =>
    rename_i m
    refine Nat.le_trans ih ?_
    cases m with
    | zero => decide
    | succ m => show wN (m + 1) ≤ wN m + wN (m + 1); omega
theorem wN_22 {k : Nat} (h : k ≤ 22) : wN k ≤ 46368 := Nat.le_trans (wN_le h) (by decide)
theorem wS_22 {k : Nat} (h : k ≤ 22) : wS k ≤ 75023 := by
  have := wS_2 k
  have h2 : wN (k + 1) ≤ wN 23 := wN_le (by omega)
  have h3 : wN 23 = 75025 := by decide
  omega
theorem wN_pos : ∀ k, 1 ≤ wN k := fun k => Nat.le_trans (by decide : 1 ≤ wN 0) (wN_le (Nat.zero_le k))
theorem gm_lt : ∀ k l, gm k l < 2 ^ k
  | 0, _ => Nat.zero_lt_one
  | k + 1, l => by
    have h1 := gm_lt k l
    have h2 := gm_lt k (l - wN k)
    simp only [gm, Nat.pow_succ]
    split <;> omega
theorem fm_lt : ∀ k l, fm k l < 2 ^ k
  | 0, _ => Nat.zero_lt_one
  | k + 1, l => by
    have h1 := fm_lt k l
    have h2 := fm_lt k (l - wN k)
    simp only [fm, Nat.pow_succ]
    split <;> omega
theorem b1_le (m k : Nat) : m >>> k &&& 1 ≤ 1 := by
  rw [Nat.and_one_is_mod]; omega
theorem wo_le : ∀ k m, wo k m ≤ wS k
  | 0, _ => Nat.le_refl _
  | k + 1, m => by
    have h := wo_le k m
    have h2 := Nat.mul_le_mul_right (wN k) (b1_le m k)
    simp only [wo, wS]
    omega
theorem cn_le : ∀ k m, cn k m ≤ k
  | 0, _ => Nat.le_refl _
  | k + 1, m => by
    have h := cn_le k m
    have h2 := b1_le m k
    simp only [cn]
    omega
/-- a bit above all others is set -/
theorem or_pow {m k : Nat} (h : 2 ^ (k + 1) ∣ m) : m ||| 1 <<< k = m + 2 ^ k := by
  obtain ⟨c, rfl⟩ := h
  rw [Nat.shiftLeft_eq, Nat.one_mul]
  exact (Nat.two_pow_add_eq_or_of_lt (Nat.pow_lt_pow_right (by decide) (Nat.lt_succ_self k)) c).symm
theorem wo_0 {k m : Nat} (h : ¬ ((m >>> k &&& 1 : Nat) : Int) = 1) : wo (k + 1) m = wo k m := by
  have h1 := b1_le m k
  have h2 : m >>> k &&& 1 = 0 := by omega
  simp only [wo, h2, Nat.zero_mul, Nat.add_zero]
theorem wo_1 {k m : Nat} (h : ((m >>> k &&& 1 : Nat) : Int) = 1) : wo (k + 1) m = wo k m + wN k := by
  have h2 : m >>> k &&& 1 = 1 := by omega
  simp only [wo, h2, Nat.one_mul]
theorem cn_0 {k m : Nat} (h : ¬ ((m >>> k &&& 1 : Nat) : Int) = 1) : cn (k + 1) m = cn k m := by
  have h1 := b1_le m k
  have h2 : m >>> k &&& 1 = 0 := by omega
  simp only [cn, h2, Nat.add_zero]
theorem cn_1 {k m : Nat} (h : ((m >>> k &&& 1 : Nat) : Int) = 1) : cn (k + 1) m = cn k m + 1 := by
  have h2 : m >>> k &&& 1 = 1 := by omega
  simp only [cn, h2]
theorem cn_mono {m : Nat} : ∀ {a b : Nat}, a ≤ b → cn a m ≤ cn b m := by
  intro a b h
  induction h with
  | refl => exact Nat.le_refl _
  | step h ih => exact Nat.le_trans ih (Nat.le_add_right _ _)
/-- the step of a mark with p steps below it -/
def ft : Nat → Nat → Int → Int
  | 0, _, _ => -1
  | k + 1, m, p => if ((m >>> k &&& 1 : Nat) : Int) = 1 ∧ (cn k m : Int) = p then (k : Int) else ft k m p
theorem ft_1 {k m : Nat} {p : Int} (h : ((m >>> k &&& 1 : Nat) : Int) = 1) (h2 : (cn k m : Int) = p) : ft (k + 1) m p = k := by simp only [ft]; rw [if_pos ⟨h, h2⟩]
theorem ft_0 {k m : Nat} {p : Int} (h : ¬ (((m >>> k &&& 1 : Nat) : Int) = 1 ∧ (cn k m : Int) = p)) : ft (k + 1) m p = ft k m p := by simp only [ft]; rw [if_neg h]
theorem ft_rng : ∀ (k m : Nat) (p : Int), -1 ≤ ft k m p ∧ ft k m p < k ∨ ft k m p = -1
  | 0, _, _ => Or.inr rfl
  | k + 1, m, p => by
    simp only [ft]
    split
    · left; omega
    · rcases ft_rng k m p with h | h
      · left; omega
      · right; exact h
/-- behind it nothing changes -/
theorem ft_stay {j m : Nat} {p : Int} (h : ((m >>> j &&& 1 : Nat) : Int) = 1) (h2 : (cn j m : Int) = p) : ∀ k, j < k → ft k m p = j := by
  intro k hk
  induction k with
  | zero => omega
  | succ k ih =>
    by_cases e : j = k
    · subst e; exact ft_1 h h2
    · have h3 : cn (j + 1) m ≤ cn k m := cn_mono (by omega)
      have h4 := cn_1 h
      rw [ft_0 (fun q => by omega)]
      exact ih (by omega)
theorem ft_none {m : Nat} {p : Int} : ∀ k, (cn k m : Int) ≤ p → ft k m p = -1
  | 0, _ => rfl
  | k + 1, hp => by
    by_cases e : ((m >>> k &&& 1 : Nat) : Int) = 1
    · have h4 := cn_1 e
      rw [ft_0 (fun q => by omega)]
      exact ft_none k (by omega)
    · have h4 := cn_0 e
      rw [ft_0 (fun q => e q.1)]
      exact ft_none k (by omega)
theorem gm_t {k l : Nat} (h : wN k ≤ l) : gm (k + 1) l = 2 ^ k + gm k (l - wN k) := by simp only [gm]; rw [if_pos h]
theorem gm_f {k l : Nat} (h : ¬ wN k ≤ l) : gm (k + 1) l = gm k l := by simp only [gm]; rw [if_neg h]
theorem fm_t {k l : Nat} (h : wS k < l) : fm (k + 1) l = 2 ^ k + fm k (l - wN k) := by simp only [fm]; rw [if_pos h]
theorem fm_f {k l : Nat} (h : ¬ wS k < l) : fm (k + 1) l = fm k l := by simp only [fm]; rw [if_neg h]
theorem wo_full : ∀ k, k < 22 → wo 22 (1 <<< k - 1) = wS k := by decide +kernel
theorem p2_18 {k : Nat} (h : k ≤ 18) : 2 ^ k ≤ 262144 ∧ 1 ≤ 2 ^ k := ⟨Nat.le_trans (Nat.pow_le_pow_right (by decide) h) (by decide), Nat.one_le_two_pow⟩
theorem sh1 (k : Nat) : 1 <<< k = 2 ^ k := by rw [Nat.shiftLeft_eq, Nat.one_mul]
theorem dvd_pow {k m : Nat} (h : 2 ^ (k + 1) ∣ m) : 2 ^ k ∣ m + 2 ^ k := by
  obtain ⟨c, rfl⟩ := h
  exact ⟨2 * c + 1, by rw [Nat.pow_succ, Nat.mul_add, Nat.mul_one, Nat.mul_assoc]⟩
theorem dvd_pow0 {k m : Nat} (h : 2 ^ (k + 1) ∣ m) : 2 ^ k ∣ m := Nat.dvd_trans ⟨2, by rw [Nat.pow_succ]⟩ h
def b2 : Bool → Int
  | true => 1
  | false => 0
theorem b2_01 (b : Bool) : b2 b = 0 ∨ b2 b = 1 := by cases b <;> simp [b2]
theorem b2_t {P : Prop} (D : Decidable P) (h : P) : 1 = b2 (@decide P D) := by rw [decide_eq_true h]; rfl
theorem b2_f {P : Prop} (D : Decidable P) (h : ¬ P) : 0 = b2 (@decide P D) := by rw [decide_eq_false h]; rfl
