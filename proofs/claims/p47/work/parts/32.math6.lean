/-! the text -/
def iA (t : Nat → Int) (T : Nat) (lo hi : Int) (a : Nat) : Bool := decide (a < T ∧ lo ≤ t a ∧ t a ≤ hi)
theorem iA_t {t : Nat → Int} {T a : Nat} {lo hi : Int} (h : iA t T lo hi a = true) : a < T ∧ lo ≤ t a ∧ t a ≤ hi := of_decide_eq_true h
theorem iA_f {t : Nat → Int} {T a : Nat} {lo hi : Int} (h : iA t T lo hi a = false) : ¬ (a < T ∧ lo ≤ t a ∧ t a ≤ hi) := of_decide_eq_false h
theorem iA_T {t : Nat → Int} {T a : Nat} {lo hi : Int} (h : a < T ∧ lo ≤ t a ∧ t a ≤ hi) : iA t T lo hi a = true := decide_eq_true h
theorem iA_F {t : Nat → Int} {T a : Nat} {lo hi : Int} (h : ¬ (a < T ∧ lo ≤ t a ∧ t a ≤ hi)) : iA t T lo hi a = false := decide_eq_false h
def nuL (t : Nat → Int) (T : Nat) (most : Int) : Nat → Int → Nat → Int × Nat
  | 0, v, a => (v, a)
  | f + 1, v, a => if 0 < v ∧ iA t T 48 57 a = true ∧ 10 * v + t a - 48 ≤ most then nuL t T most f (10 * v + t a - 48) (a + 1) else (v, a)
def nu (t : Nat → Int) (T : Nat) (least most : Int) (a : Nat) : Int × Nat :=
  if iA t T (48 + least) (48 + (if most < 9 then most else 9)) a = true then nuL t T most (T - (a + 1)) (t a - 48) (a + 1) else (-1, a)
theorem nuL_b {t : Nat → Int} {T : Nat} {most : Int} : ∀ (f : Nat) (v : Int) (a : Nat), a + f = T → 0 ≤ v → v ≤ most → v ≤ (nuL t T most f v a).1 ∧ (nuL t T most f v a).1 ≤ most ∧ a ≤ (nuL t T most f v a).2 ∧ (nuL t T most f v a).2 ≤ T
  | 0, v, a, e, h0, h1 => by
    show v ≤ v ∧ v ≤ most ∧ a ≤ a ∧ a ≤ T
    omega
  | f + 1, v, a, e, h0, h1 => by
    simp only [nuL]
    split
    · rename_i g
      have g2 := iA_t g.2.1
      have ih := nuL_b (t := t) (T := T) (most := most) f (10 * v + t a - 48) (a + 1) (by omega) (by omega) (by omega)
      omega
    · show v ≤ v ∧ v ≤ most ∧ a ≤ a ∧ a ≤ T
      omega
theorem nu_b {t : Nat → Int} {T : Nat} {least most : Int} {a : Nat} (h : a ≤ T) (hl : 0 ≤ least) (hm : 5 ≤ most) : (((nu t T least most a).1 = -1 ∧ (nu t T least most a).2 = a) ∨ (least ≤ (nu t T least most a).1 ∧ (nu t T least most a).1 ≤ most ∧ a + 1 ≤ (nu t T least most a).2)) ∧ (nu t T least most a).2 ≤ T := by
  unfold nu
  by_cases g : iA t T (48 + least) (48 + (if most < 9 then most else 9)) a = true
  · rw [if_pos g]
    have g2 := iA_t g
    have g3 : (if most < 9 then most else 9) ≤ most := by split <;> omega
    have b := nuL_b (t := t) (T := T) (most := most) (T - (a + 1)) (t a - 48) (a + 1) (by omega) (by omega) (by omega)
    omega
  · rw [if_neg g]
    exact ⟨.inl ⟨rfl, rfl⟩, h⟩
/-- a part: its sign or a blank, its first and second numbers, where it ends -/
def pt (t : Nat → Int) (T a : Nat) : Int × Int × Int × Nat :=
  if iA t T 115 115 a = true then (if 0 < (nu t T 1 6764 (a + 1)).1 then 115 else 32, (nu t T 1 6764 (a + 1)).1, 0, (nu t T 1 6764 (a + 1)).2)
  else if iA t T 102 102 a = true then (if 0 ≤ (nu t T 0 63 (a + 1)).1 then 102 else 32, (nu t T 0 63 (a + 1)).1, 0, (nu t T 0 63 (a + 1)).2)
  else if iA t T 48 53 a = true then
    if a + 1 < T ∧ (t (a + 1) = 61 ∨ t (a + 1) = 43 ∨ t (a + 1) = 45 ∨ t (a + 1) = 94) then
      if t (a + 1) = 94 then (94, t a - 48, 0, a + 2)
      else (if 0 ≤ (nu t T 0 (if t (a + 1) = 61 then 6764 else 5) (a + 2)).1 then t (a + 1) else 32, t a - 48, (nu t T 0 (if t (a + 1) = 61 then 6764 else 5) (a + 2)).1, (nu t T 0 (if t (a + 1) = 61 then 6764 else 5) (a + 2)).2)
    else (32, t a - 48, -1, a + 1)
  else (32, -1, -1, a)
def pz (t : Nat → Int) (T : Nat) (s0 : Int) (a : Nat) : Int := if iA t T 115 115 a = true ∨ iA t T 102 102 a = true then s0 else (pt t T a).2.2.1
theorem pt_b {t : Nat → Int} {T a : Nat} (h : a ≤ T) : a ≤ (pt t T a).2.2.2 ∧ (pt t T a).2.2.2 ≤ T := by
  unfold pt
  split
  · rename_i g
    have g2 := iA_t g
    have b := nu_b (t := t) (T := T) (least := 1) (most := 6764) (a := a + 1) (by omega) (by decide) (by decide)
    show a ≤ (nu t T 1 6764 (a + 1)).2 ∧ (nu t T 1 6764 (a + 1)).2 ≤ T
    omega
  · split
    · rename_i g
      have g2 := iA_t g
      have b := nu_b (t := t) (T := T) (least := 0) (most := 63) (a := a + 1) (by omega) (by decide) (by decide)
      show a ≤ (nu t T 0 63 (a + 1)).2 ∧ (nu t T 0 63 (a + 1)).2 ≤ T
      omega
    · split
      · rename_i g
        have g2 := iA_t g
        split
        · rename_i g3
          split
          · show a ≤ a + 2 ∧ a + 2 ≤ T
            omega
          · have b := nu_b (t := t) (T := T) (least := 0) (most := if t (a + 1) = 61 then 6764 else 5) (a := a + 2) (by omega) (by decide) (by split <;> decide)
            show a ≤ (nu t T 0 (if t (a + 1) = 61 then 6764 else 5) (a + 2)).2 ∧ (nu t T 0 (if t (a + 1) = 61 then 6764 else 5) (a + 2)).2 ≤ T
            omega
        · show a ≤ a + 1 ∧ a + 1 ≤ T
          omega
      · show a ≤ a ∧ a ≤ T
        omega
theorem pt_ok {t : Nat → Int} {T a : Nat} (h : a ≤ T) (hw : (pt t T a).1 ≠ 32) :
    ((pt t T a).1 = 61 ∧ 0 ≤ (pt t T a).2.1 ∧ (pt t T a).2.1 ≤ 5 ∧ 0 ≤ (pt t T a).2.2.1 ∧ (pt t T a).2.2.1 ≤ 6764 ∧ ∀ s, pz t T s a = (pt t T a).2.2.1)
    ∨ ((pt t T a).1 = 43 ∧ 0 ≤ (pt t T a).2.1 ∧ (pt t T a).2.1 ≤ 5 ∧ 0 ≤ (pt t T a).2.2.1 ∧ (pt t T a).2.2.1 ≤ 5 ∧ ∀ s, pz t T s a = (pt t T a).2.2.1)
    ∨ ((pt t T a).1 = 45 ∧ 0 ≤ (pt t T a).2.1 ∧ (pt t T a).2.1 ≤ 5 ∧ 0 ≤ (pt t T a).2.2.1 ∧ (pt t T a).2.2.1 ≤ 5 ∧ ∀ s, pz t T s a = (pt t T a).2.2.1)
    ∨ ((pt t T a).1 = 94 ∧ 0 ≤ (pt t T a).2.1 ∧ (pt t T a).2.1 ≤ 5)
    ∨ ((pt t T a).1 = 115 ∧ 1 ≤ (pt t T a).2.1 ∧ (pt t T a).2.1 ≤ 6764)
    ∨ ((pt t T a).1 = 102 ∧ 0 ≤ (pt t T a).2.1 ∧ (pt t T a).2.1 ≤ 63) := by
  by_cases c1 : iA t T 115 115 a = true
  · have e : pt t T a = (if 0 < (nu t T 1 6764 (a + 1)).1 then 115 else 32, (nu t T 1 6764 (a + 1)).1, 0, (nu t T 1 6764 (a + 1)).2) := by unfold pt; rw [if_pos c1]
    rw [e] at hw ⊢
    have g2 := iA_t c1
    have b := nu_b (t := t) (T := T) (least := 1) (most := 6764) (a := a + 1) (by omega) (by decide) (by decide)
    dsimp only at hw ⊢
    by_cases c : 0 < (nu t T 1 6764 (a + 1)).1
    · rw [if_pos c]; omega
    · rw [if_neg c] at hw; exact absurd rfl hw
  by_cases c2 : iA t T 102 102 a = true
  · have e : pt t T a = (if 0 ≤ (nu t T 0 63 (a + 1)).1 then 102 else 32, (nu t T 0 63 (a + 1)).1, 0, (nu t T 0 63 (a + 1)).2) := by unfold pt; rw [if_neg c1, if_pos c2]
    rw [e] at hw ⊢
    have g2 := iA_t c2
    have b := nu_b (t := t) (T := T) (least := 0) (most := 63) (a := a + 1) (by omega) (by decide) (by decide)
    dsimp only at hw ⊢
    by_cases c : 0 ≤ (nu t T 0 63 (a + 1)).1
    · rw [if_pos c]; omega
    · rw [if_neg c] at hw; exact absurd rfl hw
  have hz : ∀ s, pz t T s a = (pt t T a).2.2.1 := fun s => by unfold pz; rw [if_neg (fun q => q.elim c1 c2)]
  by_cases c3 : iA t T 48 53 a = true
  · have g2 := iA_t c3
    by_cases c4 : a + 1 < T ∧ (t (a + 1) = 61 ∨ t (a + 1) = 43 ∨ t (a + 1) = 45 ∨ t (a + 1) = 94)
    · by_cases c5 : t (a + 1) = 94
      · have e : pt t T a = (94, t a - 48, 0, a + 2) := by unfold pt; rw [if_neg c1, if_neg c2, if_pos c3, if_pos c4, if_pos c5]
        rw [e]
        dsimp only
        omega
      · have e : pt t T a = (if 0 ≤ (nu t T 0 (if t (a + 1) = 61 then 6764 else 5) (a + 2)).1 then t (a + 1) else 32, t a - 48, (nu t T 0 (if t (a + 1) = 61 then 6764 else 5) (a + 2)).1, (nu t T 0 (if t (a + 1) = 61 then 6764 else 5) (a + 2)).2) := by unfold pt; rw [if_neg c1, if_neg c2, if_pos c3, if_pos c4, if_neg c5]
        rw [e] at hw hz ⊢
        have b := nu_b (t := t) (T := T) (least := 0) (most := if t (a + 1) = 61 then 6764 else 5) (a := a + 2) (by omega) (by decide) (by split <;> decide)
        dsimp only at hw hz ⊢
        by_cases c : 0 ≤ (nu t T 0 (if t (a + 1) = 61 then 6764 else 5) (a + 2)).1
        · rw [if_pos c]
          rcases c4.2 with q | q | q | q
          · refine .inl ⟨q, by omega, by omega, c, ?_, hz⟩
            rw [if_pos q] at b ⊢; omega
          · refine .inr (.inl ⟨q, by omega, by omega, c, ?_, hz⟩)
            rw [if_neg (by omega)] at b ⊢; omega
          · refine .inr (.inr (.inl ⟨q, by omega, by omega, c, ?_, hz⟩))
            rw [if_neg (by omega)] at b ⊢; omega
          · exact absurd q c5
        · rw [if_neg c] at hw; exact absurd rfl hw
    · have e : pt t T a = (32, t a - 48, -1, a + 1) := by unfold pt; rw [if_neg c1, if_neg c2, if_pos c3, if_neg c4]
      rw [e] at hw; exact absurd rfl hw
  · have e : pt t T a = (32, -1, -1, a) := by unfold pt; rw [if_neg c1, if_neg c2, if_neg c3]
    rw [e] at hw; exact absurd rfl hw
/-- whether a text is works, and where its reading ends -/
def wh (t : Nat → Int) (T : Nat) : Nat → Nat → Bool × Nat
  | 0, a => (false, a)
  | f + 1, a => if (pt t T a).1 = 32 then (false, (pt t T a).2.2.2) else if iA t T 59 59 (pt t T a).2.2.2 = true then wh t T f ((pt t T a).2.2.2 + 1) else (decide ((pt t T a).2.2.2 = T), (pt t T a).2.2.2)
/-- what is left in the fields -/
def whF (t : Nat → Int) (T : Nat) : Nat → Int → Nat → Int × Int
  | 0, s, _ => (0, s)
  | f + 1, s, a => if (pt t T a).1 = 32 then ((pt t T a).2.1, pz t T s a) else if iA t T 59 59 (pt t T a).2.2.2 = true then whF t T f (pz t T s a) ((pt t T a).2.2.2 + 1) else ((pt t T a).2.1, pz t T s a)
/-- the world while the text is read -/
def Wq (K : Nat → Nat → Int) (a f s : Int) : Nat → Nat → Int := us K 28 (us (us (us (K 28) 6 a) 7 f) 8 s)
theorem Wq_5 (K : Nat → Nat → Int) (a f s : Int) : Wq K a f s 28 5 = K 28 5 := rfl
theorem Wq_6 (K : Nat → Nat → Int) (a f s : Int) : Wq K a f s 28 6 = a := rfl
theorem Wq_7 (K : Nat → Nat → Int) (a f s : Int) : Wq K a f s 28 7 = f := rfl
theorem Wq_8 (K : Nat → Nat → Int) (a f s : Int) : Wq K a f s 28 8 = s := rfl
theorem Wq_29 (K : Nat → Nat → Int) (a f s : Int) : Wq K a f s 29 = K 29 := rfl
theorem Wq_30 (K : Nat → Nat → Int) (a f s : Int) : Wq K a f s 30 = K 30 := rfl
theorem Wq_self (K : Nat → Nat → Int) : Wq K (K 28 6) (K 28 7) (K 28 8) = K := by
  unfold Wq; rw [us_same, us_same, us_same, us_same]
theorem Wq_p6 (K : Nat → Nat → Int) (a f s z : Int) : us (Wq K a f s) 28 (us (Wq K a f s 28) 6 z) = Wq K z f s := by
  show us (us K 28 _) 28 (us (us (us (us (K 28) 6 a) 7 f) 8 s) 6 z) = _
  rw [us_us, us_comm _ s z (by decide), us_comm _ f z (by decide), us_us]; rfl
theorem Wq_p7 (K : Nat → Nat → Int) (a f s z : Int) : us (Wq K a f s) 28 (us (Wq K a f s 28) 7 z) = Wq K a z s := by
  show us (us K 28 _) 28 (us (us (us (us (K 28) 6 a) 7 f) 8 s) 7 z) = _
  rw [us_us, us_comm _ s z (by decide), us_us]; rfl
theorem Wq_p8 (K : Nat → Nat → Int) (a f s z : Int) : us (Wq K a f s) 28 (us (Wq K a f s 28) 8 z) = Wq K a f z := by
  show us (us K 28 _) 28 (us (us (us (us (K 28) 6 a) 7 f) 8 s) 8 z) = _
  rw [us_us, us_us]; rfl
theorem Wq_s6 (K : Nat → Nat → Int) (z : Int) : us K 28 (us (K 28) 6 z) = Wq K z (K 28 7) (K 28 8) := by
  have h := Wq_p6 K (K 28 6) (K 28 7) (K 28 8) z
  rw [Wq_self] at h
  exact h
