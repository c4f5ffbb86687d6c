/-! the slots of the reference; saving; carries -/
/-- a state: six numbers, the stream's length, 64 digits, whether it has stopped, the part, why -/
def GZ (z : Nat → Int) : Prop := (∀ k, k < 6 → 0 ≤ z k ∧ z k ≤ 6764) ∧ (0 ≤ z 6 ∧ z 6 ≤ 64) ∧ (∀ k, 7 ≤ k → k < 71 → 0 ≤ z k ∧ z k ≤ 1) ∧ (0 ≤ z 71 ∧ z 71 ≤ 1) ∧ (0 ≤ z 72 ∧ z 72 ≤ 100) ∧ (0 ≤ z 73 ∧ z 73 ≤ 4)
def shS (s : Nat → Int) : Nat → Nat → Int
  | 0 => s
  | k + 1 => cpS (shS s k) (k + 2) (k + 1) 74
def svS (s : Nat → Int) (st : Nat) : Nat → Int := if st = 5 then cpS (shS s 4) 0 5 74 else cpS s 0 (st + 1) 74
/-! int forms -/
theorem toN {z : Int} (h : 0 ≤ z) : ((z.toNat : Nat) : Int) = z := by omega
section INT
variable (G : GT) (N : Nat) (gf : Bool) (h : Hp)
theorem i_X5_greedyMark (z : Int) (hz : 0 ≤ z ∧ z ≤ 6764) : Ct G yX5_greedyMark mX5_greedyMark [.int (iI z)] N gf h 0 0 (some (.int (iI (gm 18 z.toNat : Nat)))) N gf h := by
  have := c_X5_greedyMark z.toNat (by omega) G N gf h
  rwa [toN hz.1] at this
theorem i_X5_fullMark (z : Int) (hz : 0 ≤ z ∧ z ≤ 6764) : Ct G yX5_fullMark mX5_fullMark [.int (iI z)] N gf h 0 0 (some (.int (iI (fm 18 z.toNat : Nat)))) N gf h := by
  have := c_X5_fullMark z.toNat (by omega) G N gf h
  rwa [toN hz.1] at this
theorem i_X5_countedMark (z : Int) (hz : 0 ≤ z ∧ z ≤ 6764) : Ct G yX5_countedMark mX5_countedMark [.int (iI z)] N gf h 0 0 (some (.int (iI (gm 18 z.toNat : Nat)))) N gf h := by
  have := c_X5_countedMark z.toNat (by omega) G N gf h
  rwa [toN hz.1] at this
end INT
/-! carries: a step at which one is due, what it does, the first of them from the step 19 down -/
def cyB (c : Nat → Int) (k : Nat) : Bool := decide (0 < c k ∧ 0 < c (k + 1)) || decide (1 < c k)
def cyF (c : Nat → Int) (k : Nat) : Nat → Int :=
  if 0 < c k ∧ 0 < c (k + 1) then us (us (us c k (c k - 1)) (k + 1) (c (k + 1) - 1)) (k + 2) (c (k + 2) + 1)
  else if 1 < c k then (match k with
    | 0 => us (us c 0 (c 0 - 2)) 1 (c 1 + 1)
    | 1 => us (us (us c 1 (c 1 - 2)) 2 (c 2 + 1)) 0 (c 0 + 1)
    | j + 2 => us (us (us c (j + 2) (c (j + 2) - 2)) (j + 3) (c (j + 3) + 1)) j (c j + 1))
  else c
def fk : Nat → (Nat → Int) → Option Nat
  | 0, _ => none
  | k + 1, c => if cyB c k then some k else fk k c
def cyN : Nat → (Nat → Int) → Nat
  | 0, _ => 0
  | f + 1, c => match fk 20 c with
    | none => 0
    | some k => cyN f (cyF c k) + 1
def cyE : Nat → (Nat → Int) → Nat → Int
  | 0, c => c
  | f + 1, c => match fk 20 c with
    | none => c
    | some k => cyE f (cyF c k)
/-- a sum over the first n places -/
def sm (w c : Nat → Int) : Nat → Int
  | 0 => 0
  | n + 1 => sm w c n + w n * c n
theorem sm_us {w c : Nat → Int} {i : Nat} {v : Int} : ∀ {n : Nat}, sm w (us c i v) n = sm w c n + (if i < n then w i * (v - c i) else 0)
  | 0 => by simp [sm]
  | n + 1 => by
    simp only [sm, sm_us (n := n)]
    by_cases e : n = i
    · subst e
      rw [us_at, if_neg (by omega), if_pos (by omega), Int.mul_sub]
      omega
    · rw [us_ne _ _ e]
      by_cases h : i < n
      · rw [if_pos h, if_pos (by omega)]; omega
      · rw [if_neg h, if_neg (by omega)]; omega
/-- what falls with each carry -/
def wP : Nat → Int := fun k => if k = 0 then 3 else (k : Int) + 4
theorem cyF_sm (w : Nat → Int) (c : Nat → Int) {k : Nat} (hk : k ≤ 19) (hb : cyB c k = true) : ∃ j : Int, j = (if 0 < c k ∧ 0 < c (k + 1) then w (k + 2) - w (k + 1) - w k else w (k + 1) - 2 * w k + (match k with
    | 0 => 0
    | 1 => w 0
    | j + 2 => w j)) ∧ sm w (cyF c k) 24 = sm w c 24 + j := by
  refine ⟨_, rfl, ?_⟩
  unfold cyF
  by_cases h : 0 < c k ∧ 0 < c (k + 1)
  · rw [if_pos h, if_pos h, sm_us, sm_us, sm_us, if_pos (by omega), if_pos (by omega), if_pos (by omega)]
    rw [us_ne c _ (show k + 1 ≠ k by omega), us_ne _ _ (show k + 2 ≠ k + 1 by omega), us_ne _ _ (show k + 2 ≠ k by omega)]
    rw [show c k - 1 - c k = -1 by omega, show c (k + 1) - 1 - c (k + 1) = -1 by omega, show c (k + 2) + 1 - c (k + 2) = 1 by omega]
    omega
  · rw [if_neg h, if_neg h]
    have h2 : 1 < c k := by
      simp only [cyB, Bool.or_eq_true, decide_eq_true_eq] at hb
      rcases hb with hb | hb
      · exact absurd hb h
      · exact hb
    rw [if_pos h2]
    match k, hk, h2 with
    | 0, _, _ =>
      simp only []
      rw [sm_us, sm_us, if_pos (by omega), if_pos (by omega), us_ne _ _ (show (1 : Nat) ≠ 0 by omega)]
      rw [show c 0 - 2 - c 0 = -2 by omega, show c 1 + 1 - c 1 = 1 by omega]
      simp only [Nat.zero_add]
      omega
    | 1, _, _ =>
      simp only []
      rw [sm_us, sm_us, sm_us, if_pos (by omega), if_pos (by omega), if_pos (by omega), us_ne _ _ (show (2 : Nat) ≠ 1 by omega), us_ne _ _ (show (0 : Nat) ≠ 2 by omega), us_ne _ _ (show (0 : Nat) ≠ 1 by omega)]
      rw [show c 1 - 2 - c 1 = -2 by omega, show c 2 + 1 - c 2 = 1 by omega, show c 0 + 1 - c 0 = 1 by omega]
      show _ = sm w c 24 + (w 2 - 2 * w 1 + w 0)
      omega
    | j + 2, hk, _ =>
      simp only []
      rw [sm_us, sm_us, sm_us, if_pos (by omega), if_pos (by omega), if_pos (by omega), us_ne _ _ (show j + 3 ≠ j + 2 by omega), us_ne _ _ (show j ≠ j + 3 by omega), us_ne _ _ (show j ≠ j + 2 by omega)]
      rw [show c (j + 2) - 2 - c (j + 2) = -2 by omega, show c (j + 3) + 1 - c (j + 3) = 1 by omega, show c j + 1 - c j = 1 by omega]
      show _ = sm w c 24 + (w (j + 3) - 2 * w (j + 2) + w j)
      omega
theorem cyF_pot (c : Nat → Int) {k : Nat} (hk : k ≤ 19) (hb : cyB c k = true) : sm wP (cyF c k) 24 < sm wP c 24 := by
  obtain ⟨j, h1, h2⟩ := cyF_sm wP c hk hb
  have h3 : j < 0 := by
    rw [h1]
    by_cases h : 0 < c k ∧ 0 < c (k + 1)
    · rw [if_pos h]
      simp only [wP]
      split <;> split <;> split <;> omega
    · rw [if_neg h]
      match k with
      | 0 => simp [wP]
      | 1 => simp [wP]
      | j + 2 =>
        simp only [wP]
        split <;> split <;> split <;> omega
  omega
theorem cyF_val (c : Nat → Int) {k : Nat} (hk : k ≤ 19) (hb : cyB c k = true) : sm (fun i => (wN i : Int)) (cyF c k) 24 = sm (fun i => (wN i : Int)) c 24 := by
  obtain ⟨j, h1, h2⟩ := cyF_sm (fun i => (wN i : Int)) c hk hb
  have h3 : j = 0 := by
    rw [h1]
    have h5 : wN (k + 2) = wN k + wN (k + 1) := rfl
    by_cases h : 0 < c k ∧ 0 < c (k + 1)
    · rw [if_pos h]
      omega
    · rw [if_neg h]
      match k with
      | 0 => rfl
      | 1 => rfl
      | j + 2 =>
        have h6 : wN (j + 3) = wN (j + 1) + wN (j + 2) := rfl
        have h7 : wN (j + 2) = wN j + wN (j + 1) := rfl
        show (wN (j + 3) : Int) - 2 * (wN (j + 2) : Int) + (wN j : Int) = 0
        omega
  omega
/-- no count is below 0 -/
def c0 (c : Nat → Int) : Prop := ∀ k, 0 ≤ c k
theorem us_c0 {c : Nat → Int} (h : c0 c) {i : Nat} {v : Int} (hv : 0 ≤ v) : c0 (us c i v) := by
  intro k
  by_cases e : k = i
  · subst e; rw [us_at]; exact hv
  · rw [us_ne _ _ e]; exact h k
theorem cyF_c0 {c : Nat → Int} (h : c0 c) (k : Nat) : c0 (cyF c k) := by
  unfold cyF
  by_cases h1 : 0 < c k ∧ 0 < c (k + 1)
  · rw [if_pos h1]
    exact us_c0 (us_c0 (us_c0 h (by omega)) (by omega)) (by have := h (k + 2); omega)
  · rw [if_neg h1]
    by_cases h2 : 1 < c k
    · rw [if_pos h2]
      match k, h2 with
      | 0, h2 => exact us_c0 (us_c0 h (by omega)) (by have := h 1; omega)
      | 1, h2 => exact us_c0 (us_c0 (us_c0 h (by omega)) (by have := h 2; omega)) (by have := h 0; omega)
      | j + 2, h2 => exact us_c0 (us_c0 (us_c0 h (by omega)) (by have := h (j + 3); omega)) (by have := h j; omega)
    · rw [if_neg h2]; exact h
theorem sm_nn {w c : Nat → Int} (hw : ∀ k, 0 ≤ w k) (h : c0 c) : ∀ n, 0 ≤ sm w c n
  | 0 => Int.le_refl _
  | n + 1 => by
    have h1 := sm_nn hw h n
    have h2 := Int.mul_nonneg (hw n) (h n)
    simp only [sm]; omega
theorem sm_ge {w c : Nat → Int} (hw : ∀ k, 0 ≤ w k) (h : c0 c) {i : Nat} : ∀ {n : Nat}, i < n → w i * c i ≤ sm w c n
  | n + 1, hi => by
    simp only [sm]
    by_cases e : i = n
    · subst e
      have := sm_nn hw h i
      omega
    · have h1 := sm_ge hw h (i := i) (n := n) (by omega)
      have h2 := Int.mul_nonneg (hw n) (h n)
      omega
theorem wP_nn (k : Nat) : 0 ≤ wP k := by simp only [wP]; split <;> omega
theorem wP_3 (k : Nat) : 3 ≤ wP k := by simp only [wP]; split <;> omega
/-- each count is at most what falls -/
theorem c_le_pot {c : Nat → Int} (h : c0 c) {i : Nat} (hi : i < 24) : c i ≤ sm wP c 24 := by
  have h1 := sm_ge wP_nn h hi
  have h2 := Int.mul_le_mul_of_nonneg_right (wP_3 i) (h i)
  have h3 := h i
  omega
theorem fk_some : ∀ {n : Nat} {c : Nat → Int} {k : Nat}, fk n c = some k → k < n ∧ cyB c k = true
  | n + 1, c, k, h => by
    simp only [fk] at h
    split at h
    · rename_i hb
      cases h
      exact ⟨Nat.lt_succ_self _, hb⟩
    · obtain ⟨h1, h2⟩ := fk_some h
      exact ⟨Nat.lt_succ_of_lt h1, h2⟩
theorem fk_none : ∀ {n : Nat} {c : Nat → Int}, fk n c = none → ∀ k, k < n → cyB c k = false
  | n + 1, c, h, k, hk => by
    simp only [fk] at h
    split at h
    · cases h
    · rename_i hb
      by_cases e : k = n
      · subst e; simpa using hb
      · exact fk_none h k (by omega)
theorem cyE_none : ∀ (f : Nat) (c : Nat → Int), c0 c → sm wP c 24 < f → fk 20 (cyE f c) = none
  | 0, c, h0, h => by have := sm_nn wP_nn h0 24; omega
  | f + 1, c, h0, h => by
    simp only [cyE]
    cases e : fk 20 c with
    | none => exact e
    | some k =>
      obtain ⟨h1, h2⟩ := fk_some e
      have h3 := cyF_pot c (by omega) h2
      exact cyE_none f (cyF c k) (cyF_c0 h0 k) (by omega)
theorem cyE_c0 : ∀ (f : Nat) (c : Nat → Int), c0 c → c0 (cyE f c)
  | 0, c, h0 => h0
  | f + 1, c, h0 => by
    simp only [cyE]
    cases e : fk 20 c with
    | none => exact h0
    | some k => exact cyE_c0 f _ (cyF_c0 h0 k)
theorem cyE_val : ∀ (f : Nat) (c : Nat → Int), sm (fun i => (wN i : Int)) (cyE f c) 24 = sm (fun i => (wN i : Int)) c 24
  | 0, c => rfl
  | f + 1, c => by
    simp only [cyE]
    cases e : fk 20 c with
    | none => rfl
    | some k =>
      obtain ⟨h1, h2⟩ := fk_some e
      rw [cyE_val f, cyF_val c (by omega) h2]
theorem cyN_le : ∀ (f : Nat) (c : Nat → Int), cyN f c ≤ f
  | 0, c => Nat.le_refl _
  | f + 1, c => by
    simp only [cyN]
    cases e : fk 20 c with
    | none => exact Nat.zero_le _
    | some k => exact Nat.succ_le_succ (cyN_le f _)
