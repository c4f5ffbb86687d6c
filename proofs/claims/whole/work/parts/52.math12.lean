/-! the rows of ways -/
def isR (a : Nat) : Bool := a == 12 || a == 15
theorem isR_c {a : Nat} (h : isR a = true) : a = 12 ∨ a = 15 := by
  simp only [isR, Bool.or_eq_true, beq_iff_eq] at h
  omega
theorem isR_lt {a : Nat} (h : isR a = true) : a < 34 := by rcases isR_c h with rfl | rfl <;> decide
theorem isR_lt1 {a : Nat} (h : isR a = true) : a + 1 < 34 := by rcases isR_c h with rfl | rfl <;> decide
theorem isR_lt2 {a : Nat} (h : isR a = true) : a + 2 < 34 := by rcases isR_c h with rfl | rfl <;> decide
theorem cO_ry {G : GT} {r : Nat → Option Nat} {a : Nat} (h : isR a = true) (f : Nat → Int) : cO G r a f = .inr (4, wyL G a f) := by rcases isR_c h with rfl | rfl <;> rfl
theorem cO_r1 {G : GT} {r : Nat → Option Nat} {a : Nat} (h : isR a = true) (f : Nat → Int) : cO G r (a + 1) f = aI G 4 f := by rcases isR_c h with rfl | rfl <;> rfl
theorem cO_r2 {G : GT} {r : Nat → Option Nat} {a : Nat} (h : isR a = true) (f : Nat → Int) : cO G r (a + 2) f = aI G 4 f := by rcases isR_c h with rfl | rfl <;> rfl
/-- the first place below n that holds x -/
def fnd (L : Nat → Int) (x : Int) : Nat → Option Nat
  | 0 => none
  | n + 1 => match fnd L x n with
    | some i => some i
    | none => if L n = x then some n else none
theorem fnd_none {L : Nat → Int} {x : Int} : ∀ {n : Nat}, fnd L x n = none → ∀ j, j < n → L j ≠ x
  | 0, _, j, hj => absurd hj (Nat.not_lt_zero j)
  | n + 1, h, j, hj => by
    simp only [fnd] at h
    split at h
    · cases h
    · rename_i h1
      split at h
      · cases h
      · rename_i h2
        by_cases e : j = n
        · subst e; exact h2
        · exact fnd_none h1 j (by omega)
theorem fnd_some {L : Nat → Int} {x : Int} : ∀ {n i : Nat}, fnd L x n = some i → i < n ∧ L i = x ∧ ∀ j, j < i → L j ≠ x
  | 0, _, h => by cases h
  | n + 1, i, h => by
    simp only [fnd] at h
    split at h
    · rename_i h1
      cases h
      obtain ⟨a, b, c⟩ := fnd_some h1
      exact ⟨by omega, b, c⟩
    · rename_i h1
      split at h
      · rename_i h2
        cases h
        exact ⟨by omega, h2, fun j hj => fnd_none h1 j hj⟩
      · cases h
def putW (a : Nat) (x c : Int) (K : Nat → Nat → Int) : Nat → Nat → Int :=
  match fnd (K (a + 1)) x (K a 2).toNat with
  | some i => us K (a + 2) (us (K (a + 2)) i (K (a + 2) i + c))
  | none => us (us (us K (a + 1) (us (K (a + 1)) (K a 2).toNat x)) (a + 2) (us (K (a + 2)) (K a 2).toNat c)) a (us (K a) 2 (K a 2 + 1))
def goS (b s : Nat) (y d : Int) (K : Nat → Nat → Int) : Nat → Nat → Int :=
  let K1 := if y ≤ (wS s : Nat) then putW b y d K else K
  if 0 ≤ y - (wN s : Nat) ∧ y - (wN s : Nat) ≤ (wS s : Nat) then putW b (y - (wN s : Nat)) d K1 else K1
def goW (a b s : Nat) (K : Nat → Nat → Int) : Nat → Nat → Nat → Int
  | 0 => K
  | j + 1 => goS b s (K (a + 1) j) (K (a + 2) j) (goW a b s K j)
def tbW : Nat → Nat → Nat → (Nat → Nat → Int) → Nat → Nat → Int
  | 0, _, _, K => K
  | k + 1, a, b, K => tbW k b a (goW a b k (us K b (us (K b) 2 0)) (K a 2).toNat)
theorem putW_ne {a q : Nat} {x c : Int} {K : Nat → Nat → Int} (h0 : q ≠ a) (h1 : q ≠ a + 1) (h2 : q ≠ a + 2) : putW a x c K q = K q := by
  unfold putW
  split
  · rw [us_ne _ _ h2]
  · rw [us_ne _ _ h0, us_ne _ _ h2, us_ne _ _ h1]
theorem goS_ne {b s q : Nat} {y d : Int} {K : Nat → Nat → Int} (h0 : q ≠ b) (h1 : q ≠ b + 1) (h2 : q ≠ b + 2) : goS b s y d K q = K q := by
  unfold goS
  dsimp only
  split
  · rw [putW_ne h0 h1 h2]
    split
    · rw [putW_ne h0 h1 h2]
    · rfl
  · split
    · rw [putW_ne h0 h1 h2]
    · rfl
theorem goW_ne {a b s q : Nat} {K : Nat → Nat → Int} (h0 : q ≠ b) (h1 : q ≠ b + 1) (h2 : q ≠ b + 2) : ∀ j, goW a b s K j q = K q
  | 0 => rfl
  | j + 1 => by simp only [goW]; rw [goS_ne h0 h1 h2, goW_ne h0 h1 h2 j]
theorem tbW_ne {q : Nat} (h : q < 12 ∨ 17 < q) : ∀ {k a b : Nat} {K : Nat → Nat → Int}, isR a = true → isR b = true → tbW k a b K q = K q
  | 0, _, _, _, _, _ => rfl
  | k + 1, a, b, K, ha, hb => by
    simp only [tbW]
    rw [tbW_ne h hb ha]
    have c := isR_c hb
    rw [goW_ne (by omega) (by omega) (by omega), us_ne _ _ (by omega)]
/-! the same by lists -/
def lfd (l : List (Nat × Nat)) (x : Nat) : Nat → Option Nat
  | 0 => none
  | n + 1 => match lfd l x n with
    | some i => some i
    | none => if (l.getD n (0, 0)).1 = x then some n else none
def rwP (x c : Nat) (l : List (Nat × Nat)) : List (Nat × Nat) := match lfd l x l.length with
  | some i => l.set i ((l.getD i (0, 0)).1, (l.getD i (0, 0)).2 + c)
  | none => l ++ [(x, c)]
def rwS (s : Nat) (q : Nat × Nat) (acc : List (Nat × Nat)) : List (Nat × Nat) :=
  let a1 := if q.1 ≤ wS s then rwP q.1 q.2 acc else acc
  if wN s ≤ q.1 ∧ q.1 - wN s ≤ wS s then rwP (q.1 - wN s) q.2 a1 else a1
def rwG (s : Nat) (l : List (Nat × Nat)) : Nat → List (Nat × Nat)
  | 0 => []
  | j + 1 => rwS s (l.getD j (0, 0)) (rwG s l j)
def tbOK (l : List (Nat × Nat)) : Bool := decide (l.length ≤ 2) && l.all (fun q => decide (q.1 ≤ 6764) && decide (q.2 ≤ 100000))
def tbC : Nat → List (Nat × Nat) → Option (List (Nat × Nat))
  | 0, l => if tbOK l then some l else none
  | k + 1, l => if tbOK l then tbC k (rwG k l l.length) else none
def lct (l : List (Nat × Nat)) : Nat := match lfd l 0 l.length with
  | some i => (l.getD i (0, 0)).2
  | none => 0
def RW (K : Nat → Nat → Int) (a : Nat) (l : List (Nat × Nat)) : Prop := K a 2 = (l.length : Nat) ∧ ∀ i, i < l.length → K (a + 1) i = ((l.getD i (0, 0)).1 : Nat) ∧ K (a + 2) i = ((l.getD i (0, 0)).2 : Nat)
theorem fnd_lfd {L : Nat → Int} {l : List (Nat × Nat)} {x : Nat} : ∀ {n : Nat}, (∀ i, i < n → L i = ((l.getD i (0, 0)).1 : Nat)) → fnd L x n = lfd l x n
  | 0, _ => rfl
  | n + 1, h => by
    simp only [fnd, lfd]
    rw [fnd_lfd (fun i hi => h i (by omega)), h n (by omega)]
    split
    · rfl
    · by_cases e : (l.getD n (0, 0)).1 = x
      · rw [if_pos e, if_pos (by omega)]
      · rw [if_neg e, if_neg (by omega)]
theorem lfd_lt {l : List (Nat × Nat)} {x : Nat} : ∀ {n i : Nat}, lfd l x n = some i → i < n
  | 0, _, h => by cases h
  | n + 1, i, h => by
    simp only [lfd] at h
    split at h
    · rename_i h1
      cases h
      have := lfd_lt h1
      omega
    · split at h
      · cases h; omega
      · cases h
theorem RW_fnd {K : Nat → Nat → Int} {a : Nat} {l : List (Nat × Nat)} (h : RW K a l) (x : Nat) : fnd (K (a + 1)) x (K a 2).toNat = lfd l x l.length := by
  rw [h.1, show ((l.length : Nat) : Int).toNat = l.length from rfl]
  exact fnd_lfd (fun i hi => (h.2 i hi).1)
theorem RW_put {K : Nat → Nat → Int} {a : Nat} {l : List (Nat × Nat)} (h : RW K a l) (x c : Nat) : RW (putW a x c K) a (rwP x c l) := by
  unfold putW rwP
  rw [RW_fnd h]
  split
  · rename_i i hi
    have hl := lfd_lt hi
    refine ⟨?_, fun j hj => ?_⟩
    · rw [us_ne _ _ (by omega), h.1, List.length_set]
    · rw [List.length_set] at hj
      rw [us_ne _ _ (by omega), us_at]
      by_cases e : j = i
      · subst e
        rw [us_at, (h.2 j hj).1, (h.2 j hj).2]
        simp [hj]
      · rw [us_ne _ _ e, (h.2 j hj).1, (h.2 j hj).2]
        simp [List.getElem?_set_ne (Ne.symm e)]
  · refine ⟨?_, fun j hj => ?_⟩
    · rw [us_at, us_at, h.1]; simp
    · rw [List.length_append, List.length_singleton] at hj
      rw [us_ne _ _ (show a + 1 ≠ a by omega), us_ne _ _ (show a + 1 ≠ a + 2 by omega), us_at, us_ne _ _ (show a + 2 ≠ a by omega), us_at, h.1, show ((l.length : Nat) : Int).toNat = l.length from rfl]
      by_cases e : j = l.length
      · subst e
        rw [us_at, us_at]
        simp
      · rw [us_ne _ _ e, us_ne _ _ e, (h.2 j (by omega)).1, (h.2 j (by omega)).2]
        simp [List.getElem?_append_left (show j < l.length by omega)]
theorem rwP_len (x c : Nat) (l : List (Nat × Nat)) : (rwP x c l).length ≤ l.length + 1 := by
  unfold rwP
  split
  · simp
  · simp
theorem RW_goS {K : Nat → Nat → Int} {b s : Nat} {acc : List (Nat × Nat)} (h : RW K b acc) (q : Nat × Nat) : RW (goS b s (q.1 : Nat) (q.2 : Nat) K) b (rwS s q acc) := by
  unfold goS rwS
  dsimp only
  by_cases c1 : q.1 ≤ wS s
  · rw [if_pos (show ((q.1 : Nat) : Int) ≤ (wS s : Nat) by omega), if_pos c1]
    by_cases c2 : wN s ≤ q.1 ∧ q.1 - wN s ≤ wS s
    · rw [if_pos (show 0 ≤ ((q.1 : Nat) : Int) - (wN s : Nat) ∧ ((q.1 : Nat) : Int) - (wN s : Nat) ≤ (wS s : Nat) by omega), if_pos c2, show ((q.1 : Nat) : Int) - (wN s : Nat) = ((q.1 - wN s : Nat) : Int) by omega]
      exact RW_put (RW_put h _ _) _ _
    · rw [if_neg (show ¬ (0 ≤ ((q.1 : Nat) : Int) - (wN s : Nat) ∧ ((q.1 : Nat) : Int) - (wN s : Nat) ≤ (wS s : Nat)) by omega), if_neg c2]
      exact RW_put h _ _
  · rw [if_neg (show ¬ ((q.1 : Nat) : Int) ≤ (wS s : Nat) by omega), if_neg c1]
    by_cases c2 : wN s ≤ q.1 ∧ q.1 - wN s ≤ wS s
    · rw [if_pos (show 0 ≤ ((q.1 : Nat) : Int) - (wN s : Nat) ∧ ((q.1 : Nat) : Int) - (wN s : Nat) ≤ (wS s : Nat) by omega), if_pos c2, show ((q.1 : Nat) : Int) - (wN s : Nat) = ((q.1 - wN s : Nat) : Int) by omega]
      exact RW_put h _ _
    · rw [if_neg (show ¬ (0 ≤ ((q.1 : Nat) : Int) - (wN s : Nat) ∧ ((q.1 : Nat) : Int) - (wN s : Nat) ≤ (wS s : Nat)) by omega), if_neg c2]
      exact h
theorem rwS_len (s : Nat) (q : Nat × Nat) (acc : List (Nat × Nat)) : (rwS s q acc).length ≤ acc.length + 2 := by
  unfold rwS
  dsimp only
  have h1 := rwP_len q.1 q.2 acc
  have h2 := rwP_len (q.1 - wN s) q.2 (rwP q.1 q.2 acc)
  have h3 := rwP_len (q.1 - wN s) q.2 acc
  split <;> split <;> omega
theorem rwG_len (s : Nat) (l : List (Nat × Nat)) : ∀ j, (rwG s l j).length ≤ 2 * j
  | 0 => Nat.le_refl _
  | j + 1 => by
    have h1 := rwS_len s (l.getD j (0, 0)) (rwG s l j)
    have h2 := rwG_len s l j
    simp only [rwG]
    omega
theorem RW_goW {K : Nat → Nat → Int} {a b s : Nat} {l : List (Nat × Nat)} (h : RW K a l) (hb : RW K b []) : ∀ j, j ≤ l.length → RW (goW a b s K j) b (rwG s l j)
  | 0, _ => hb
  | j + 1, hj => by
    simp only [goW, rwG]
    rw [(h.2 j (by omega)).1, (h.2 j (by omega)).2]
    exact RW_goS (RW_goW h hb j (by omega)) _
theorem tbOK_r {l : List (Nat × Nat)} (h : tbOK l = true) : l.length ≤ 2 ∧ ∀ i, i < l.length → (l.getD i (0, 0)).1 ≤ 6764 ∧ (l.getD i (0, 0)).2 ≤ 100000 := by
  simp only [tbOK, Bool.and_eq_true, decide_eq_true_eq, List.all_eq_true] at h
  refine ⟨h.1, fun i hi => ?_⟩
  have := h.2 (l.getD i (0, 0)) (by rw [List.getD_eq_getElem?_getD, List.getElem?_eq_getElem hi, Option.getD_some]; exact List.getElem_mem hi)
  exact this
theorem chk6 : allB (fun n => match tbC 18 [(n, 1)] with
  | some l => decide (lct l = (woS (gm 18 n) 18).1 + (woS (gm 18 n) 18).2.1)
  | none => false) 6765 = true := by decide +kernel
theorem tb_ways {n : Nat} (h : n ≤ 6764) : ∃ l, tbC 18 [(n, 1)] = some l ∧ ((lct l : Nat) : Int) = cw (gm 18 n) := by
  have h1 := allB_of chk6 n (by omega)
  dsimp only at h1
  split at h1
  · rename_i l hl
    refine ⟨l, hl, ?_⟩
    have h2 := of_decide_eq_true h1
    rw [cw_woS, woS_18 (gm_18 n), h2]
  · cases h1
theorem RW_rng {K : Nat → Nat → Int} {a : Nat} {l : List (Nat × Nat)} (h : RW K a l) (hv : ∀ i, i < l.length → (l.getD i (0, 0)).1 ≤ 6764) : ∀ i, i < (K a 2).toNat → 0 ≤ K (a + 1) i ∧ K (a + 1) i ≤ 100000 := by
  intro i hi
  rw [h.1, show ((l.length : Nat) : Int).toNat = l.length from rfl] at hi
  have := hv i hi
  rw [(h.2 i hi).1]
  omega
theorem rwP_v (x c : Nat) (l : List (Nat × Nat)) (hx : x ≤ 6764) (hv : ∀ i, i < l.length → (l.getD i (0, 0)).1 ≤ 6764) : ∀ i, i < (rwP x c l).length → ((rwP x c l).getD i (0, 0)).1 ≤ 6764 := by
  unfold rwP
  split
  · rename_i k hk
    have hl := lfd_lt hk
    intro i hi
    rw [List.length_set] at hi
    by_cases e : i = k
    · subst e
      have := hv i hi
      simpa [hi] using this
    · have := hv i hi
      simpa [List.getElem?_set_ne (Ne.symm e)] using this
  · intro i hi
    rw [List.length_append, List.length_singleton] at hi
    by_cases e : i = l.length
    · subst e; simpa using hx
    · have := hv i (by omega)
      simpa [List.getElem?_append_left (show i < l.length by omega)] using this
theorem rwS_v (s : Nat) (q : Nat × Nat) (acc : List (Nat × Nat)) (hq : q.1 ≤ 6764) (hv : ∀ i, i < acc.length → (acc.getD i (0, 0)).1 ≤ 6764) : ∀ i, i < (rwS s q acc).length → ((rwS s q acc).getD i (0, 0)).1 ≤ 6764 := by
  unfold rwS
  dsimp only
  by_cases c1 : q.1 ≤ wS s
  · rw [if_pos c1]
    by_cases c2 : wN s ≤ q.1 ∧ q.1 - wN s ≤ wS s
    · rw [if_pos c2]; exact rwP_v _ _ _ (by omega) (rwP_v _ _ _ hq hv)
    · rw [if_neg c2]; exact rwP_v _ _ _ hq hv
  · rw [if_neg c1]
    by_cases c2 : wN s ≤ q.1 ∧ q.1 - wN s ≤ wS s
    · rw [if_pos c2]; exact rwP_v _ _ _ (by omega) hv
    · rw [if_neg c2]; exact hv
theorem rwG_v (s : Nat) (l : List (Nat × Nat)) (hv : ∀ i, i < l.length → (l.getD i (0, 0)).1 ≤ 6764) : ∀ j, j ≤ l.length → ∀ i, i < (rwG s l j).length → ((rwG s l j).getD i (0, 0)).1 ≤ 6764
  | 0, _ => fun i hi => absurd hi (Nat.not_lt_zero i)
  | j + 1, hj => by
    simp only [rwG]
    exact rwS_v _ _ _ (hv j (by omega)) (rwG_v s l hv j (by omega))
