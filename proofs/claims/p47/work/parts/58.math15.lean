/-! the scan against the reference's reading -/
theorem sB0 {f : Nat → Int} {c : Int} (h : f 0 = 0) : scB f c = scB0 c := by unfold scB; rw [if_pos h]
theorem sF0 {f : Nat → Int} {c : Int} (h : f 0 = 0) : scF f c = scF0 f c := by unfold scF; rw [if_pos h]
theorem sB1 {f : Nat → Int} {c : Int} (h : f 0 = 1) : scB f c = scB1 c := by unfold scB; rw [if_neg (show ¬ f 0 = 0 by omega), if_pos h]
theorem sF1 {f : Nat → Int} {c : Int} (h : f 0 = 1) : scF f c = scF1 f c := by unfold scF; rw [if_neg (show ¬ f 0 = 0 by omega), if_pos h]
theorem sB2 {f : Nat → Int} {c : Int} (h : f 0 = 2) : scB f c = scB2 c := by unfold scB; rw [if_neg (show ¬ f 0 = 0 by omega), if_neg (show ¬ f 0 = 1 by omega), if_pos h]
theorem sF2 {f : Nat → Int} {c : Int} (h : f 0 = 2) : scF f c = scF2 f c := by unfold scF; rw [if_neg (show ¬ f 0 = 0 by omega), if_neg (show ¬ f 0 = 1 by omega), if_pos h]
theorem sB3 {f : Nat → Int} {c : Int} (h : f 0 = 3) : scB f c = scB3 f c := by unfold scB; rw [if_neg (show ¬ f 0 = 0 by omega), if_neg (show ¬ f 0 = 1 by omega), if_neg (show ¬ f 0 = 2 by omega), if_pos h]
theorem sF3 {f : Nat → Int} {c : Int} (h : f 0 = 3) : scF f c = scF3 f c := by unfold scF; rw [if_neg (show ¬ f 0 = 0 by omega), if_neg (show ¬ f 0 = 1 by omega), if_neg (show ¬ f 0 = 2 by omega), if_pos h]
theorem sB4 {f : Nat → Int} {c : Int} (h : f 0 = 4) : scB f c = (scB4 f c || scB5 c) := by unfold scB; rw [if_neg (show ¬ f 0 = 0 by omega), if_neg (show ¬ f 0 = 1 by omega), if_neg (show ¬ f 0 = 2 by omega), if_neg (show ¬ f 0 = 3 by omega), if_pos h]
theorem sF4 {f : Nat → Int} {c : Int} (h : f 0 = 4) : scF f c = if scB4 f c = true then scF4 f c else scF5 f c := by unfold scF; rw [if_neg (show ¬ f 0 = 0 by omega), if_neg (show ¬ f 0 = 1 by omega), if_neg (show ¬ f 0 = 2 by omega), if_neg (show ¬ f 0 = 3 by omega), if_pos h]
theorem sB5 {f : Nat → Int} {c : Int} (h : f 0 = 5) : scB f c = scB5 c := by unfold scB; rw [if_neg (show ¬ f 0 = 0 by omega), if_neg (show ¬ f 0 = 1 by omega), if_neg (show ¬ f 0 = 2 by omega), if_neg (show ¬ f 0 = 3 by omega), if_neg (show ¬ f 0 = 4 by omega)]
theorem sF5 {f : Nat → Int} {c : Int} (h : f 0 = 5) : scF f c = scF5 f c := by unfold scF; rw [if_neg (show ¬ f 0 = 0 by omega), if_neg (show ¬ f 0 = 1 by omega), if_neg (show ¬ f 0 = 2 by omega), if_neg (show ¬ f 0 = 3 by omega), if_neg (show ¬ f 0 = 4 by omega)]
def pth (t : Nat → Int) : Nat → (Nat → Int) → Nat → (Nat → Int) → Prop
  | 0, f, _, f' => f' = f
  | n + 1, f, a, f' => scB f (t a) = true ∧ t a ≠ 59 ∧ pth t n (scF f (t a)) (a + 1) f'
theorem pth_tr {t : Nat → Int} : ∀ {n m : Nat} {f f' f'' : Nat → Int} {a : Nat}, pth t n f a f' → pth t m f' (a + n) f'' → pth t (n + m) f a f''
  | 0, m, f, f', f'', a, h1, h2 => by
    have e : f' = f := h1
    rw [e] at h2
    rw [Nat.zero_add]
    exact h2
  | n + 1, m, f, f', f'', a, h1, h2 => by
    rw [show n + 1 + m = (n + m) + 1 by omega]
    refine ⟨h1.1, h1.2.1, pth_tr h1.2.2 ?_⟩
    rw [show a + 1 + n = a + (n + 1) by omega]
    exact h2
theorem pth_1 {t f : Nat → Int} {a : Nat} (h1 : scB f (t a) = true) (h2 : t a ≠ 59) : pth t 1 f a (scF f (t a)) := ⟨h1, h2, rfl⟩
theorem pth_0 {t f : Nat → Int} {a : Nat} : pth t (a - a) f a f := by rw [Nat.sub_self]; rfl
/-- a part has ended -/
def fnS (t : Nat → Int) (T : Nat) (f : Nat → Int) (e : Nat) : Prop := f 0 = 5 ∨ (f 0 = 4 ∧ (e < T → ¬ (48 ≤ t e ∧ t e ≤ 57 ∧ f 3 * 10 + t e - 48 ≤ f 5)))
theorem nuL_0 {t : Nat → Int} {T : Nat} {most : Int} : ∀ {n a : Nat}, nuL t T most n 0 a = (0, a)
  | 0, _ => rfl
  | n + 1, a => by simp only [nuL]; rw [if_neg (by omega)]
theorem nuL_5 {t : Nat → Int} {T : Nat} {v : Int} (hv : 0 ≤ v) : ∀ {n a : Nat}, nuL t T 5 n v a = (v, a)
  | 0, _ => rfl
  | n + 1, a => by
    simp only [nuL]
    rw [if_neg (fun w => by have g := iA_t w.2.1; omega)]
theorem pth_num {t : Nat → Int} {T : Nat} {most : Int} : ∀ (n : Nat) (v : Int) (a : Nat) (f : Nat → Int), a + n = T → f 0 = 4 → f 3 = v → f 5 = most → 0 < v → ∃ f', pth t ((nuL t T most n v a).2 - a) f a f' ∧ f' 3 = (nuL t T most n v a).1 ∧ 0 ≤ (nuL t T most n v a).1 ∧ v ≤ (nuL t T most n v a).1 ∧ f' 1 = f 1 ∧ f' 2 = f 2 ∧ a ≤ (nuL t T most n v a).2 ∧ (nuL t T most n v a).2 ≤ T ∧ fnS t T f' (nuL t T most n v a).2
  | 0, v, a, f, e, h0, h3, h5, hv => ⟨f, pth_0, h3, by show 0 ≤ v; omega, Int.le_refl v, rfl, rfl, Nat.le_refl _, by show a ≤ T; omega, .inr ⟨h0, fun q => by have : a < T := q; omega⟩⟩
  | n + 1, v, a, f, e, h0, h3, h5, hv => by
    by_cases g : 0 < v ∧ iA t T 48 57 a = true ∧ 10 * v + t a - 48 ≤ most
    · have e2 : nuL t T most (n + 1) v a = nuL t T most n (10 * v + t a - 48) (a + 1) := by simp only [nuL]; rw [if_pos g]
      rw [e2]
      have g2 := iA_t g.2.1
      have gd : 48 ≤ t a ∧ t a ≤ 57 ∧ f 3 * 10 + t a - 48 ≤ f 5 := ⟨g2.2.1, g2.2.2, by rw [h3, h5]; omega⟩
      have hB : scB4 f (t a) = true := decide_eq_true gd
      have sB : scB f (t a) = true := by rw [sB4 h0, hB]; rfl
      have sF : scF f (t a) = us f 3 (v * 10 + t a - 48) := by rw [sF4 h0, if_pos hB]; unfold scF4; rw [if_pos gd, h3]
      obtain ⟨f', p1, p3, p4, p4', p5, p6, p7, p8, p9⟩ := pth_num (t := t) (T := T) (most := most) n (10 * v + t a - 48) (a + 1) (us f 3 (v * 10 + t a - 48)) (by omega) (by rw [us_ne _ _ (by decide)]; exact h0) (by rw [us_at]; omega) (by rw [us_ne _ _ (by decide)]; exact h5) (by omega)
      refine ⟨f', ?_, p3, p4, by omega, p5.trans (us_ne _ _ (by decide)), p6.trans (us_ne _ _ (by decide)), by omega, p8, p9⟩
      rw [show (nuL t T most n (10 * v + t a - 48) (a + 1)).2 - a = ((nuL t T most n (10 * v + t a - 48) (a + 1)).2 - (a + 1)) + 1 by omega]
      exact ⟨sB, by omega, by rw [sF]; exact p1⟩
    · have e2 : nuL t T most (n + 1) v a = (v, a) := by simp only [nuL]; rw [if_neg g]
      rw [e2]
      refine ⟨f, pth_0, h3, by show 0 ≤ v; omega, Int.le_refl v, rfl, rfl, Nat.le_refl _, by show a ≤ T; omega, .inr ⟨h0, fun q w => ?_⟩⟩
      rw [h3, h5] at w
      exact g ⟨hv, iA_T ⟨q, w.1, w.2.1⟩, by have h9 : v * 10 + t a - 48 ≤ most := w.2.2; omega⟩
theorem pth_nu {t : Nat → Int} {T : Nat} {least most : Int} {a : Nat} {f : Nat → Int} (ha : a ≤ T) (h0 : f 0 = 3) (h4 : f 4 = least) (h5 : f 5 = most) (hl : 0 ≤ least ∧ least ≤ 1) (hm : 9 ≤ most) :
    ((nu t T least most a).1 = -1 ∧ (nu t T least most a).2 = a ∧ (a < T → scB f (t a) = false)) ∨
    ∃ f', pth t ((nu t T least most a).2 - a) f a f' ∧ f' 3 = (nu t T least most a).1 ∧ least ≤ (nu t T least most a).1 ∧ f' 1 = f 1 ∧ f' 2 = f 2 ∧ a + 1 ≤ (nu t T least most a).2 ∧ (nu t T least most a).2 ≤ T ∧ fnS t T f' (nu t T least most a).2 := by
  by_cases g : iA t T (48 + least) (48 + (if most < 9 then most else 9)) a = true
  · right
    have e : nu t T least most a = nuL t T most (T - (a + 1)) (t a - 48) (a + 1) := by unfold nu; rw [if_pos g]
    rw [e]
    have g2 := iA_t g
    rw [if_neg (show ¬ most < 9 by omega)] at g2
    have gd : 48 ≤ t a ∧ t a ≤ 57 ∧ f 4 ≤ t a - 48 := ⟨by omega, by omega, by omega⟩
    have hB : scB3 f (t a) = true := decide_eq_true gd
    have sB : scB f (t a) = true := by rw [sB3 h0, hB]
    by_cases c : t a = 48
    · have sF : scF f (t a) = us (us f 3 0) 0 5 := by rw [sF3 h0]; unfold scF3; rw [if_pos gd, if_pos c, show t a - 48 = 0 by omega]
      rw [show t a - 48 = 0 by omega, nuL_0]
      refine ⟨us (us f 3 0) 0 5, ?_, rfl, by show least ≤ 0; omega, rfl, rfl, Nat.le_refl _, by show a + 1 ≤ T; omega, .inl rfl⟩
      show pth t (a + 1 - a) f a _
      rw [show a + 1 - a = 1 by omega, ← sF]
      exact pth_1 sB (by omega)
    · have sF : scF f (t a) = us (us f 3 (t a - 48)) 0 4 := by rw [sF3 h0]; unfold scF3; rw [if_pos gd, if_neg c]
      obtain ⟨f', p1, p3, p4, p4', p5, p6, p7, p8, p9⟩ := pth_num (t := t) (T := T) (most := most) (T - (a + 1)) (t a - 48) (a + 1) (us (us f 3 (t a - 48)) 0 4) (by omega) rfl rfl h5 (by omega)
      refine ⟨f', ?_, p3, by omega, p5, p6, p7, p8, p9⟩
      have p0 : pth t 1 f a (us (us f 3 (t a - 48)) 0 4) := by rw [← sF]; exact pth_1 sB (by omega)
      have := pth_tr p0 p1
      rwa [show 1 + ((nuL t T most (T - (a + 1)) (t a - 48) (a + 1)).2 - (a + 1)) = (nuL t T most (T - (a + 1)) (t a - 48) (a + 1)).2 - a by omega] at this
  · left
    have e : nu t T least most a = (-1, a) := by unfold nu; rw [if_neg g]
    rw [e]
    refine ⟨rfl, rfl, fun q => ?_⟩
    rw [sB3 h0]
    refine decide_eq_false (fun w => g (iA_T ⟨q, by omega, ?_⟩))
    rw [if_neg (show ¬ most < 9 by omega)]; omega
theorem pth_ot {t : Nat → Int} {T : Nat} {a : Nat} {f : Nat → Int} (h0 : f 0 = 2) :
    ((nu t T 0 5 a).1 = -1 ∧ (nu t T 0 5 a).2 = a ∧ (a < T → scB f (t a) = false)) ∨
    ∃ f', pth t 1 f a f' ∧ (nu t T 0 5 a).2 = a + 1 ∧ a + 1 ≤ T ∧ f' 0 = 5 ∧ f' 3 = (nu t T 0 5 a).1 ∧ 0 ≤ (nu t T 0 5 a).1 ∧ f' 1 = f 1 ∧ f' 2 = f 2 := by
  by_cases g : iA t T (48 + 0) (48 + (if (5 : Int) < 9 then 5 else 9)) a = true
  · right
    have e : nu t T 0 5 a = nuL t T 5 (T - (a + 1)) (t a - 48) (a + 1) := by unfold nu; rw [if_pos g]
    have g2 := iA_t g
    rw [if_pos (by decide)] at g2
    rw [e, nuL_5 (by omega)]
    have gd : 48 ≤ t a ∧ t a ≤ 53 := ⟨by omega, by omega⟩
    have sB : scB f (t a) = true := by rw [sB2 h0]; exact decide_eq_true gd
    have sF : scF f (t a) = us (us f 3 (t a - 48)) 0 5 := by rw [sF2 h0]; unfold scF2; rw [if_pos gd]
    refine ⟨us (us f 3 (t a - 48)) 0 5, ?_, rfl, by omega, rfl, rfl, by show 0 ≤ t a - 48; omega, rfl, rfl⟩
    rw [← sF]
    exact pth_1 sB (by omega)
  · left
    have e : nu t T 0 5 a = (-1, a) := by unfold nu; rw [if_neg g]
    rw [e]
    refine ⟨rfl, rfl, fun q => ?_⟩
    rw [sB2 h0]
    refine decide_eq_false (fun w => g (iA_T ⟨q, by omega, ?_⟩))
    rw [if_pos (by decide)]; omega
def ptQ (t : Nat → Int) (T a : Nat) (f : Nat → Int) : Prop :=
  ((pt t T a).1 = 32 ∧ ∃ f', pth t ((pt t T a).2.2.2 - a) f a f' ∧ ((pt t T a).2.2.2 < T → scB f' (t (pt t T a).2.2.2) = false) ∧ ((pt t T a).2.2.2 = T → f' 0 ≠ 4 ∧ f' 0 ≠ 5)) ∨
  ((pt t T a).1 ≠ 32 ∧ ∃ f', pth t ((pt t T a).2.2.2 - a) f a f' ∧ a < (pt t T a).2.2.2 ∧ (pt t T a).2.2.2 ≤ T ∧ fnS t T f' (pt t T a).2.2.2 ∧ f' 1 = (pt t T a).1 ∧ ((pt t T a).1 ≠ 115 → (pt t T a).1 ≠ 102 → f' 2 = (pt t T a).2.1 ∧ ((pt t T a).1 ≠ 94 → f' 3 = (pt t T a).2.2.1)) ∧ ((pt t T a).1 = 115 ∨ (pt t T a).1 = 102 → f' 3 = (pt t T a).2.1))
theorem pth_pt {t : Nat → Int} {T a : Nat} {f : Nat → Int} (ha : a ≤ T) (h0 : f 0 = 0) : ptQ t T a f := by
  unfold ptQ
  by_cases c1 : iA t T 115 115 a = true
  · have e : pt t T a = (if 0 < (nu t T 1 6764 (a + 1)).1 then 115 else 32, (nu t T 1 6764 (a + 1)).1, 0, (nu t T 1 6764 (a + 1)).2) := by unfold pt; rw [if_pos c1]
    have g2 := iA_t c1
    have ta : t a = 115 := by omega
    have hB : scB f (t a) = true := by rw [sB0 h0]; exact decide_eq_true (.inl ta)
    have hF : scF f (t a) = xpN f (t a) 1 6764 := by rw [sF0 h0]; unfold scF0; rw [if_pos ta]
    have p0 : pth t 1 f a (xpN f (t a) 1 6764) := by rw [← hF]; exact pth_1 hB (by omega)
    rw [e]
    dsimp only
    rcases pth_nu (t := t) (T := T) (least := 1) (most := 6764) (a := a + 1) (f := xpN f (t a) 1 6764) (by omega) rfl rfl rfl (by decide) (by decide) with ⟨n1, n2, n3⟩ | ⟨f', n1, n2, n3, n5, n6, n7, n8, n9⟩
    · left
      rw [n1, n2, show a + 1 - a = 1 by omega]
      exact ⟨rfl, _, p0, n3, fun _ => ⟨by rw [xpN_0]; decide, by rw [xpN_0]; decide⟩⟩
    · right
      rw [if_pos (show 0 < (nu t T 1 6764 (a + 1)).1 by omega)]
      refine ⟨by decide, f', ?_, by omega, n8, n9, n5.trans ta, fun q => absurd rfl q, fun _ => n2⟩
      have := pth_tr p0 n1
      rwa [show 1 + ((nu t T 1 6764 (a + 1)).2 - (a + 1)) = (nu t T 1 6764 (a + 1)).2 - a by omega] at this
  by_cases c2 : iA t T 102 102 a = true
  · have e : pt t T a = (if 0 ≤ (nu t T 0 63 (a + 1)).1 then 102 else 32, (nu t T 0 63 (a + 1)).1, 0, (nu t T 0 63 (a + 1)).2) := by unfold pt; rw [if_neg c1, if_pos c2]
    have g2 := iA_t c2
    have ta : t a = 102 := by omega
    have hB : scB f (t a) = true := by rw [sB0 h0]; exact decide_eq_true (.inr (.inl ta))
    have hF : scF f (t a) = xpN f (t a) 0 63 := by rw [sF0 h0]; unfold scF0; rw [if_neg (by omega), if_pos ta]
    have p0 : pth t 1 f a (xpN f (t a) 0 63) := by rw [← hF]; exact pth_1 hB (by omega)
    rw [e]
    dsimp only
    rcases pth_nu (t := t) (T := T) (least := 0) (most := 63) (a := a + 1) (f := xpN f (t a) 0 63) (by omega) rfl rfl rfl (by decide) (by decide) with ⟨n1, n2, n3⟩ | ⟨f', n1, n2, n3, n5, n6, n7, n8, n9⟩
    · left
      rw [n1, n2, show a + 1 - a = 1 by omega]
      exact ⟨rfl, _, p0, n3, fun _ => ⟨by rw [xpN_0]; decide, by rw [xpN_0]; decide⟩⟩
    · right
      rw [if_pos (show 0 ≤ (nu t T 0 63 (a + 1)).1 by omega)]
      refine ⟨by decide, f', ?_, by omega, n8, n9, n5.trans ta, fun _ q => absurd rfl q, fun _ => n2⟩
      have := pth_tr p0 n1
      rwa [show 1 + ((nu t T 0 63 (a + 1)).2 - (a + 1)) = (nu t T 0 63 (a + 1)).2 - a by omega] at this
  by_cases c3 : iA t T 48 53 a = true
  · have g2 := iA_t c3
    have hB : scB f (t a) = true := by rw [sB0 h0]; exact decide_eq_true (.inr (.inr g2.2))
    have hF : scF f (t a) = us (us f 2 (t a - 48)) 0 1 := by rw [sF0 h0]; unfold scF0; rw [if_neg (by omega), if_neg (by omega), if_pos g2.2]
    obtain ⟨f1, hf1⟩ : ∃ f1, f1 = us (us f 2 (t a - 48)) 0 1 := ⟨_, rfl⟩
    have f10 : f1 0 = 1 := by rw [hf1]; rfl
    have f12 : f1 2 = t a - 48 := by rw [hf1]; rfl
    have p0 : pth t 1 f a f1 := by rw [hf1, ← hF]; exact pth_1 hB (by omega)
    by_cases c4 : a + 1 < T ∧ (t (a + 1) = 61 ∨ t (a + 1) = 43 ∨ t (a + 1) = 45 ∨ t (a + 1) = 94)
    · have hB1 : scB f1 (t (a + 1)) = true := by rw [sB1 f10]; exact decide_eq_true c4.2
      by_cases c5 : t (a + 1) = 94
      · have e : pt t T a = (94, t a - 48, 0, a + 2) := by unfold pt; rw [if_neg c1, if_neg c2, if_pos c3, if_pos c4, if_pos c5]
        have hF1 : scF f1 (t (a + 1)) = us (us f1 1 (t (a + 1))) 0 5 := by rw [sF1 f10]; unfold scF1; rw [if_neg (by omega), if_pos c5]
        have p1 : pth t 1 f1 (a + 1) (us (us f1 1 (t (a + 1))) 0 5) := by rw [← hF1]; exact pth_1 hB1 (by omega)
        rw [e]
        dsimp only
        right
        refine ⟨by decide, us (us f1 1 (t (a + 1))) 0 5, ?_, by omega, by omega, .inl rfl, c5, fun _ _ => ⟨f12, fun q => absurd rfl q⟩, fun q => absurd q (by decide)⟩
        have := pth_tr p0 p1
        rwa [show 1 + 1 = a + 2 - a by omega] at this
      · by_cases c6 : t (a + 1) = 61
        · have e : pt t T a = (if 0 ≤ (nu t T 0 6764 (a + 2)).1 then t (a + 1) else 32, t a - 48, (nu t T 0 6764 (a + 2)).1, (nu t T 0 6764 (a + 2)).2) := by unfold pt; rw [if_neg c1, if_neg c2, if_pos c3, if_pos c4, if_neg c5, if_pos c6]
          have hF1 : scF f1 (t (a + 1)) = xpN f1 (t (a + 1)) 0 6764 := by rw [sF1 f10]; unfold scF1; rw [if_pos c6]
          have p1 : pth t 1 f1 (a + 1) (xpN f1 (t (a + 1)) 0 6764) := by rw [← hF1]; exact pth_1 hB1 (by omega)
          have p2 : pth t 2 f a (xpN f1 (t (a + 1)) 0 6764) := pth_tr p0 p1
          rw [e]
          dsimp only
          rcases pth_nu (t := t) (T := T) (least := 0) (most := 6764) (a := a + 2) (f := xpN f1 (t (a + 1)) 0 6764) (by omega) rfl rfl rfl (by decide) (by decide) with ⟨n1, n2, n3⟩ | ⟨f', n1, n2, n3, n5, n6, n7, n8, n9⟩
          · left
            rw [n1, n2, show a + 2 - a = 2 by omega]
            exact ⟨rfl, _, p2, n3, fun _ => ⟨by rw [xpN_0]; decide, by rw [xpN_0]; decide⟩⟩
          · right
            rw [if_pos (show 0 ≤ (nu t T 0 6764 (a + 2)).1 by omega)]
            refine ⟨by omega, f', ?_, by omega, n8, n9, n5, fun _ _ => ⟨n6.trans f12, fun _ => n2⟩, fun q => by omega⟩
            have := pth_tr p2 n1
            rwa [show 2 + ((nu t T 0 6764 (a + 2)).2 - (a + 2)) = (nu t T 0 6764 (a + 2)).2 - a by omega] at this
        · have e : pt t T a = (if 0 ≤ (nu t T 0 5 (a + 2)).1 then t (a + 1) else 32, t a - 48, (nu t T 0 5 (a + 2)).1, (nu t T 0 5 (a + 2)).2) := by unfold pt; rw [if_neg c1, if_neg c2, if_pos c3, if_pos c4, if_neg c5, if_neg c6]
          have hF1 : scF f1 (t (a + 1)) = us (us f1 1 (t (a + 1))) 0 2 := by rw [sF1 f10]; unfold scF1; rw [if_neg c6, if_neg c5, if_pos (by omega)]
          have p1 : pth t 1 f1 (a + 1) (us (us f1 1 (t (a + 1))) 0 2) := by rw [← hF1]; exact pth_1 hB1 (by omega)
          have p2 : pth t 2 f a (us (us f1 1 (t (a + 1))) 0 2) := pth_tr p0 p1
          rw [e]
          dsimp only
          rcases pth_ot (t := t) (T := T) (a := a + 2) (f := us (us f1 1 (t (a + 1))) 0 2) rfl with ⟨n1, n2, n3⟩ | ⟨f', n1, n2, n2', n3, n4, n5, n6, n7⟩
          · left
            rw [n1, n2, show a + 2 - a = 2 by omega]
            exact ⟨rfl, _, p2, n3, fun _ => ⟨by rw [us_at]; decide, by rw [us_at]; decide⟩⟩
          · right
            rw [if_pos n5, n2]
            refine ⟨by omega, f', ?_, by omega, n2', .inl n3, n6, fun _ _ => ⟨n7.trans f12, fun _ => n4⟩, fun q => by omega⟩
            have := pth_tr p2 n1
            rwa [show 2 + 1 = a + 2 + 1 - a by omega] at this
    · have e : pt t T a = (32, t a - 48, -1, a + 1) := by unfold pt; rw [if_neg c1, if_neg c2, if_pos c3, if_neg c4]
      rw [e]
      dsimp only
      left
      rw [show a + 1 - a = 1 by omega]
      refine ⟨rfl, f1, p0, fun q => ?_, fun _ => ⟨by rw [f10]; decide, by rw [f10]; decide⟩⟩
      rw [sB1 f10]
      exact decide_eq_false (fun w => c4 ⟨q, w⟩)
  · have e : pt t T a = (32, -1, -1, a) := by unfold pt; rw [if_neg c1, if_neg c2, if_neg c3]
    rw [e]
    dsimp only
    left
    refine ⟨rfl, f, pth_0, fun q => ?_, fun _ => ⟨by rw [h0]; decide, by rw [h0]; decide⟩⟩
    rw [sB0 h0]
    refine decide_eq_false (fun w => ?_)
    rcases w with w | w | w
    · exact c1 (iA_T ⟨q, by omega, by omega⟩)
    · exact c2 (iA_T ⟨q, by omega, by omega⟩)
    · exact c3 (iA_T ⟨q, w.1, w.2⟩)
/-- the scan from a on, over n characters: the fields, and where it stops -/
def scR (t : Nat → Int) : Nat → (Nat → Int) → Nat → (Nat → Int) × Nat
  | 0, f, a => (f, a)
  | n + 1, f, a => if scB f (t a) = true then scR t n (scF f (t a)) (a + 1) else (f, a)
theorem scR_pth {t : Nat → Int} : ∀ {n m : Nat} {f f' : Nat → Int} {a : Nat}, pth t n f a f' → scR t (n + m) f a = scR t m f' (a + n)
  | 0, m, f, f', a, h => by
    have e : f' = f := h
    rw [e, Nat.zero_add]; rfl
  | n + 1, m, f, f', a, h => by
    rw [show n + 1 + m = (n + m) + 1 by omega]
    simp only [scR]
    rw [if_pos h.1, scR_pth h.2.2, show a + 1 + n = a + (n + 1) by omega]
theorem scR_congr {t t' : Nat → Int} : ∀ {n : Nat} {f : Nat → Int} {a : Nat}, (∀ j, a ≤ j → j < a + n → t j = t' j) → scR t n f a = scR t' n f a
  | 0, _, _, _ => rfl
  | n + 1, f, a, h => by
    simp only [scR]
    rw [h a (by omega) (by omega), scR_congr (fun j h1 h2 => h j (by omega) (by omega))]
theorem scR_le (t : Nat → Int) : ∀ (n : Nat) (f : Nat → Int) (a : Nat), a ≤ (scR t n f a).2 ∧ (scR t n f a).2 ≤ a + n
  | 0, f, a => ⟨Nat.le_refl _, Nat.le_refl _⟩
  | n + 1, f, a => by
    simp only [scR]
    split
    · have := scR_le t n (scF f (t a)) (a + 1); omega
    · exact ⟨Nat.le_refl _, by show a ≤ a + (n + 1); omega⟩
theorem scR_I {t : Nat → Int} : ∀ {n : Nat} {f : Nat → Int} {a : Nat}, scI f → (∀ j, a ≤ j → j < a + n → 0 ≤ t j ∧ t j ≤ 200) → scI (scR t n f a).1
  | 0, f, a, h, _ => h
  | n + 1, f, a, h, ht => by
    simp only [scR]
    split
    · exact scR_I (scI_F h (ht a (by omega) (by omega))) (fun j h1 h2 => ht j (by omega) (by omega))
    · exact h
theorem fnS_B {t : Nat → Int} {T e : Nat} {f : Nat → Int} (h : fnS t T f e) (he : e < T) : scB f (t e) = decide (t e = 59) := by
  rcases h with h | h
  · rw [sB5 h]; rfl
  · rw [sB4 h.1, show scB4 f (t e) = false from decide_eq_false (h.2 he)]; rfl
theorem fnS_F {t : Nat → Int} {T e : Nat} {f : Nat → Int} (h : fnS t T f e) (hc : t e = 59) : scF f (t e) = us f 0 0 := by
  rcases h with h | h
  · rw [sF5 h]; unfold scF5; rw [if_pos hc]
  · rw [sF4 h.1, if_neg (fun w => by have := of_decide_eq_true (show decide (48 ≤ t e ∧ t e ≤ 57 ∧ f 3 * 10 + t e - 48 ≤ f 5) = true from w); omega)]; unfold scF5; rw [if_pos hc]
theorem fnS_45 {t : Nat → Int} {T e : Nat} {f : Nat → Int} (h : fnS t T f e) : f 0 = 4 ∨ f 0 = 5 := by rcases h with h | h <;> omega
theorem scR_wh {t : Nat → Int} {T : Nat} : ∀ (F a : Nat) (f : Nat → Int), a ≤ T → T < a + F → f 0 = 0 → (scR t (T - a) f a).2 = (wh t T F a).2 ∧ ((wh t T F a).1 = true ↔ (scR t (T - a) f a).2 = T ∧ ((scR t (T - a) f a).1 0 = 4 ∨ (scR t (T - a) f a).1 0 = 5))
  | 0, a, f, h1, h2, _ => absurd h2 (by omega)
  | F + 1, a, f, h1, h2, h0 => by
    have hb := pt_b (t := t) h1
    rcases pth_pt (t := t) h1 h0 with ⟨hw, f', p1, p2, p3⟩ | ⟨hw, f', p1, p2, p3, p4, p5, p6, p7⟩
    · have e : wh t T (F + 1) a = (false, (pt t T a).2.2.2) := by simp only [wh]; rw [if_pos hw]
      rw [e, show T - a = ((pt t T a).2.2.2 - a) + (T - (pt t T a).2.2.2) by omega, scR_pth p1, show a + ((pt t T a).2.2.2 - a) = (pt t T a).2.2.2 by omega]
      by_cases c : (pt t T a).2.2.2 < T
      · have e2 : scR t (T - (pt t T a).2.2.2) f' (pt t T a).2.2.2 = (f', (pt t T a).2.2.2) := by
          rw [show T - (pt t T a).2.2.2 = (T - (pt t T a).2.2.2 - 1) + 1 by omega]
          simp only [scR]
          rw [if_neg (by rw [p2 c]; decide)]
        rw [e2]
        refine ⟨rfl, ⟨fun w => absurd (show false = true from w) (by decide), fun w => ?_⟩⟩
        have := w.1
        dsimp only at this
        omega
      · have ce : (pt t T a).2.2.2 = T := by omega
        have e2 : scR t (T - (pt t T a).2.2.2) f' (pt t T a).2.2.2 = (f', (pt t T a).2.2.2) := by
          rw [show T - (pt t T a).2.2.2 = 0 by omega]; rfl
        rw [e2]
        refine ⟨rfl, ⟨fun w => absurd (show false = true from w) (by decide), fun w => ?_⟩⟩
        have h3 := p3 ce
        rcases w.2 with w2 | w2
        · exact absurd w2 h3.1
        · exact absurd w2 h3.2
    · rw [show T - a = ((pt t T a).2.2.2 - a) + (T - (pt t T a).2.2.2) by omega, scR_pth p1, show a + ((pt t T a).2.2.2 - a) = (pt t T a).2.2.2 by omega]
      by_cases c : iA t T 59 59 (pt t T a).2.2.2 = true
      · have e : wh t T (F + 1) a = wh t T F ((pt t T a).2.2.2 + 1) := by simp only [wh]; rw [if_neg hw, if_pos c]
        have g := iA_t c
        have c9 : t (pt t T a).2.2.2 = 59 := by omega
        have hB := fnS_B p4 g.1
        rw [e, show T - (pt t T a).2.2.2 = (T - ((pt t T a).2.2.2 + 1)) + 1 by omega]
        have e2 : scR t (T - ((pt t T a).2.2.2 + 1) + 1) f' (pt t T a).2.2.2 = scR t (T - ((pt t T a).2.2.2 + 1)) (us f' 0 0) ((pt t T a).2.2.2 + 1) := by
          simp only [scR]
          rw [if_pos (by rw [hB]; exact decide_eq_true c9), fnS_F p4 c9]
        rw [e2]
        exact scR_wh F ((pt t T a).2.2.2 + 1) (us f' 0 0) (by omega) (by omega) rfl
      · have e : wh t T (F + 1) a = (decide ((pt t T a).2.2.2 = T), (pt t T a).2.2.2) := by simp only [wh]; rw [if_neg hw, if_neg c]
        rw [e]
        have e2 : scR t (T - (pt t T a).2.2.2) f' (pt t T a).2.2.2 = (f', (pt t T a).2.2.2) := by
          by_cases c2 : (pt t T a).2.2.2 < T
          · rw [show T - (pt t T a).2.2.2 = (T - (pt t T a).2.2.2 - 1) + 1 by omega]
            simp only [scR]
            rw [if_neg (fun w => ?_)]
            rw [fnS_B p4 c2] at w
            have := of_decide_eq_true w
            exact c (iA_T ⟨c2, by omega, by omega⟩)
          · rw [show T - (pt t T a).2.2.2 = 0 by omega]; rfl
        rw [e2]
        refine ⟨rfl, ⟨fun w => ⟨of_decide_eq_true w, fnS_45 p4⟩, fun w => decide_eq_true w.1⟩⟩
/-- a whole text's part: it is read, and what follows is whole -/
theorem wh_part {t : Nat → Int} {T F a : Nat} {f : Nat → Int} (ha : a ≤ T) (hF : T < a + F) (h0 : f 0 = 0) (hw : (wh t T F a).1 = true) :
    a < T ∧ (pt t T a).1 ≠ 32 ∧ ∃ f', pth t ((pt t T a).2.2.2 - a) f a f' ∧ a < (pt t T a).2.2.2 ∧ (pt t T a).2.2.2 ≤ T ∧ fnS t T f' (pt t T a).2.2.2 ∧ f' 1 = (pt t T a).1 ∧ ((pt t T a).1 ≠ 115 → (pt t T a).1 ≠ 102 → f' 2 = (pt t T a).2.1 ∧ ((pt t T a).1 ≠ 94 → f' 3 = (pt t T a).2.2.1)) ∧ ((pt t T a).1 = 115 ∨ (pt t T a).1 = 102 → f' 3 = (pt t T a).2.1) ∧
    ((pt t T a).2.2.2 = T ∨ ((pt t T a).2.2.2 < T ∧ t (pt t T a).2.2.2 = 59 ∧ ∃ F', F = F' + 1 ∧ (wh t T F' ((pt t T a).2.2.2 + 1)).1 = true)) := by
  match F, hF, hw with
  | 0, hF, hw => cases hw
  | F + 1, hF, hw =>
    rcases pth_pt (t := t) ha h0 with ⟨hq, -⟩ | ⟨hq, f', p1, p2, p3, p4, p5, p6, p7⟩
    · simp only [wh] at hw; rw [if_pos hq] at hw; cases hw
    · refine ⟨by omega, hq, f', p1, p2, p3, p4, p5, p6, p7, ?_⟩
      simp only [wh] at hw
      rw [if_neg hq] at hw
      by_cases c : iA t T 59 59 (pt t T a).2.2.2 = true
      · rw [if_pos c] at hw
        have g := iA_t c
        exact .inr ⟨g.1, by omega, F, rfl, hw⟩
      · rw [if_neg c] at hw
        exact .inl (of_decide_eq_true hw)
