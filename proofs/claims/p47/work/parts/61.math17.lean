/-! what the class's changes of a state stand for -/
theorem RT_71 {K K' : Nat → Nat → Int} {a : Nat} {z z' : Nat → Int} (h3 : K' a 3 = K a 3) (h4 : K' a 4 = K a 4) (e1 : z' 71 = z 71) (e2 : z' 72 = z 72) (e3 : z' 73 = z 73) (h : RT K a z) : RT K' a z' := by
  unfold RT at *
  rw [h3, h4, e1, e2, e3]
  exact h
theorem RQ_give {K : Nat → Nat → Int} {z : Nat → Int} {p v : Int} (h : RQ K 1 z) (hp : 0 ≤ p ∧ p ≤ 5) : RQ (us K 2 (us (K 2) p.toNat v)) 1 (us z p.toNat v) := by
  refine ⟨fun k hk => ?_, ?_, ?_⟩
  · rw [us_at]
    by_cases e : k = p.toNat
    · rw [e, us_at, us_at]
    · rw [us_ne _ _ e, us_ne _ _ e]; exact h.1 k hk
  · rw [us_ne _ _ (show (1 : Nat) ≠ 2 by decide), h.2.1, us_ne _ _ (show 6 ≠ p.toNat by omega)]
    exact congrArg (fun n : Nat => (n : Int)) (dN_congr (fun j hj => (us_ne z v (show 7 + j ≠ p.toNat by omega)).symm))
  · rw [us_ne _ _ (show (1 : Nat) ≠ 2 by decide), us_ne _ _ (show 6 ≠ p.toNat by omega)]; exact h.2.2
theorem RS_give {K : Nat → Nat → Int} {z : Nat → Int} {p v : Int} (h : RS K 1 z) (hp : 0 ≤ p ∧ p ≤ 5) : RS (us K 2 (us (K 2) p.toNat v)) 1 (us z p.toNat v) :=
  ⟨RQ_give h.1 hp, RT_71 (by rw [us_ne _ _ (show (1 : Nat) ≠ 2 by decide)]) (by rw [us_ne _ _ (show (1 : Nat) ≠ 2 by decide)]) (us_ne _ _ (by omega)) (us_ne _ _ (by omega)) (us_ne _ _ (by omega)) h.2⟩
theorem RQ_turn {K : Nat → Nat → Int} {z : Nat → Int} {p : Nat} (h : RQ K 1 z) (hz : GZ z) (hp : (p : Int) < z 6) : RQ (us K 1 (us (K 1) 1 ((dN (fun j => z (7 + j)) (z 6).toNat ^^^ 1 <<< p : Nat) : Int))) 1 (us z (7 + p) (1 - z (7 + p))) := by
  have g6 := hz.2.1
  have g7 := hz.2.2.1 (7 + p) (by omega) (by omega)
  refine ⟨fun k hk => ?_, ?_, ?_⟩
  · rw [us_ne _ _ (show 1 + 1 ≠ 1 by decide), us_ne _ _ (show k ≠ 7 + p by omega)]; exact h.1 k hk
  · rw [us_at, us_at, us_ne z _ (show 6 ≠ 7 + p by omega), ← dN_turn (z := z) (n := (z 6).toNat) (p := p) (by omega) g7]
    rfl
  · rw [us_at, us_ne _ _ (show (2 : Nat) ≠ 1 by decide), us_ne z _ (show 6 ≠ 7 + p by omega)]; exact h.2.2
theorem RQ_send {K : Nat → Nat → Int} {z : Nat → Int} {m : Nat} (h : RQ K 1 z) (hz : GZ z) (hm : m < 262144) (hr : (z 6).toNat + (hl 18 m + 1) ≤ 64) : RQ (us K 1 (us (us (K 1) 1 ((dN (fun j => z (7 + j)) (z 6).toNat ||| (m ||| 1 <<< hl 18 m) <<< (z 6).toNat : Nat) : Int)) 2 (((z 6).toNat + (hl 18 m + 1) : Nat) : Int))) 1 (sdF z (z 6).toNat m (hl 18 m + 1) (hl 18 m + 1)) := by
  have g6 := hz.2.1
  refine ⟨fun k hk => ?_, ?_, ?_⟩
  · rw [us_ne _ _ (show 1 + 1 ≠ 1 by decide), sdF_ne (by omega) (by omega)]; exact h.1 k hk
  · rw [us_at, us_ne _ _ (show (1 : Nat) ≠ 2 by decide), us_at, sdF_6, ← dN_send (z := z) (L := (z 6).toNat) (m := m) (k := hl 18 m + 1) hm rfl, show (((z 6).toNat : Int) + ((hl 18 m + 1 : Nat) : Int)).toNat = (z 6).toNat + (hl 18 m + 1) by omega]
  · rw [us_at, us_at, sdF_6]; omega
theorem RQ_cut {K : Nat → Nat → Int} {z : Nat → Int} {n : Nat} (h : RQ K 1 z) (hz : GZ z) (hn : n ≤ (z 6).toNat) : RQ (us K 1 (us (us (K 1) 1 ((dN (fun j => z (7 + j)) (z 6).toNat >>> n : Nat) : Int)) 2 (K 1 2 - (n : Int)))) 1 (ctF z n ((z 6).toNat - n) ((z 6).toNat - n)) := by
  have g6 := hz.2.1
  refine ⟨fun k hk => ?_, ?_, ?_⟩
  · rw [us_ne _ _ (show 1 + 1 ≠ 1 by decide)]
    simp only [ctF]
    rw [if_neg (by omega), if_neg (by omega)]
    exact h.1 k hk
  · rw [us_at, us_ne _ _ (show (1 : Nat) ≠ 2 by decide), us_at, ctF_6, ← dN_cut (z := z) hn]
    rfl
  · rw [us_at, us_at, ctF_6, h.2.2]; omega
theorem fn59 {f : Nat → Int} (h : f 0 = 4 ∨ f 0 = 5) : scF f 59 = us f 0 0 := by
  rcases h with h | h
  · rw [sF4 h, if_neg (fun w => by have := of_decide_eq_true (show decide (48 ≤ (59 : Int) ∧ (59 : Int) ≤ 57 ∧ f 3 * 10 + 59 - 48 ≤ f 5) = true from w); omega)]; unfold scF5; rw [if_pos rfl]
  · rw [sF5 h]; unfold scF5; rw [if_pos rfl]
theorem scF_no {f : Nat → Int} {c : Int} (h : scB f c = false) : scF f c = f := by
  unfold scF
  unfold scB at h
  by_cases e0 : f 0 = 0
  · rw [if_pos e0] at h ⊢
    have g : ¬ (c = 115 ∨ c = 102 ∨ (48 ≤ c ∧ c ≤ 53)) := of_decide_eq_false h
    unfold scF0; rw [if_neg (by omega), if_neg (by omega), if_neg (by omega)]
  rw [if_neg e0] at h ⊢
  by_cases e1 : f 0 = 1
  · rw [if_pos e1] at h ⊢
    have g : ¬ (c = 61 ∨ c = 43 ∨ c = 45 ∨ c = 94) := of_decide_eq_false h
    unfold scF1; rw [if_neg (by omega), if_neg (by omega), if_neg (by omega)]
  rw [if_neg e1] at h ⊢
  by_cases e2 : f 0 = 2
  · rw [if_pos e2] at h ⊢
    have g : ¬ (48 ≤ c ∧ c ≤ 53) := of_decide_eq_false h
    unfold scF2; rw [if_neg g]
  rw [if_neg e2] at h ⊢
  by_cases e3 : f 0 = 3
  · rw [if_pos e3] at h ⊢
    have g : ¬ (48 ≤ c ∧ c ≤ 57 ∧ f 4 ≤ c - 48) := of_decide_eq_false h
    unfold scF3; rw [if_neg g]
  rw [if_neg e3] at h ⊢
  by_cases e4 : f 0 = 4
  · rw [if_pos e4] at h ⊢
    obtain ⟨h1, h2⟩ := Bool.or_eq_false_iff.mp h
    have g : ¬ c = 59 := of_decide_eq_false h2
    rw [h1, if_neg (by decide)]
    unfold scF5; rw [if_neg g]
  rw [if_neg e4] at h ⊢
  have g : ¬ c = 59 := of_decide_eq_false h
  unfold scF5; rw [if_neg g]
theorem pth_I {t : Nat → Int} {T : Nat} (ht : ∀ j, j < T → 33 ≤ t j ∧ t j ≤ 126) : ∀ {n : Nat} {f f' : Nat → Int} {a : Nat}, a + n ≤ T → scI f → pth t n f a f' → scI f'
  | 0, f, f', a, _, h, p => by
    have e : f' = f := p
    rw [e]; exact h
  | n + 1, f, f', a, hn, h, p => pth_I ht (by omega) (scI_F h (by have := ht a (by omega); omega)) p.2.2
/-- what a part changes lies in the state of now -/
theorem dos_hi {z : Nat → Int} {w p q : Int} (hz : GZ z) (hok : pOK w p q) (h0 : rsn z w p q = 0) {j : Nat} (hj : 71 ≤ j) : dos z w p q j = z j := by
  have g6 := hz.2.1
  rcases hok with g | g | g | g | g | g
  · obtain ⟨e, g1, g2⟩ := g
    subst e
    unfold dos; rw [if_pos rfl, us_ne _ _ (by omega)]
  · obtain ⟨e, g1, g2⟩ := g
    subst e
    unfold dos; rw [if_neg (by decide), if_pos rfl, us_ne _ _ (by omega)]
  · obtain ⟨e, g1, g2⟩ := g
    subst e
    unfold dos; rw [if_neg (by decide), if_neg (by decide), if_pos rfl, us_ne _ _ (by omega)]
  · obtain ⟨e, g1⟩ := g
    subst e
    unfold dos; rw [if_neg (by decide), if_neg (by decide), if_neg (by decide), if_pos rfl, us_ne _ _ (by omega)]
  · obtain ⟨e, g1⟩ := g
    subst e
    have eR : rsn z 115 p q = if z 6 + (cl p : Nat) ≤ 64 then 0 else 3 := by unfold rsn; rw [if_neg (by decide), if_neg (by decide), if_neg (by decide), if_pos rfl]
    rw [eR] at h0
    by_cases c : z 6 + (cl p : Nat) ≤ 64
    · unfold dos; rw [if_neg (by decide), if_neg (by decide), if_neg (by decide), if_neg (by decide), if_pos rfl, sdF_ne (by omega) (by omega)]
    · rw [if_neg c] at h0; exact absurd h0 (by decide)
  · obtain ⟨e, g1⟩ := g
    subst e
    have eR : rsn z 102 p q = if p ≤ z 6 - 1 then 0 else 4 := by unfold rsn; rw [if_neg (by decide), if_neg (by decide), if_neg (by decide), if_neg (by decide), if_pos rfl]
    rw [eR] at h0
    by_cases c : p ≤ z 6 - 1
    · unfold dos; rw [if_neg (by decide), if_neg (by decide), if_neg (by decide), if_neg (by decide), if_neg (by decide), us_ne _ _ (by omega)]
    · rw [if_neg c] at h0; exact absurd h0 (by decide)
theorem wk_e {t : Nat → Int} {T : Nat} {F : Nat} {z : Nat → Int} {p q : Int} {a m : Nat} (h : ¬ a < T) : wk t T F z p q a m = (z, m, 0, a, p, q) := by
  match F with
  | 0 => rfl
  | F + 1 => simp only [wk]; rw [if_neg h]
theorem wk_s {t : Nat → Int} {T : Nat} {F : Nat} {z : Nat → Int} {p q : Int} {a m : Nat} (h : a < T) (h0 : rsn z (pt t T a).1 (pt t T a).2.1 (pz t T q a) = 0) : wk t T (F + 1) z p q a m = wk t T F (dos z (pt t T a).1 (pt t T a).2.1 (pz t T q a)) (pt t T a).2.1 (pz t T q a) ((pt t T a).2.2.2 + 1) (m + 1) := by
  simp only [wk]; rw [if_pos h, if_pos h0]
theorem wk_n {t : Nat → Int} {T : Nat} {F : Nat} {z : Nat → Int} {p q : Int} {a m : Nat} (h : a < T) (h0 : ¬ rsn z (pt t T a).1 (pt t T a).2.1 (pz t T q a) = 0) : wk t T (F + 1) z p q a m = (z, m, rsn z (pt t T a).1 (pt t T a).2.1 (pz t T q a), (pt t T a).2.2.2 + 1, (pt t T a).2.1, pz t T q a) := by
  simp only [wk]; rw [if_pos h, if_neg h0]
theorem wk_ok {t : Nat → Int} {T : Nat} : ∀ (F : Nat) (z : Nat → Int) (p q : Int) (a m : Nat), a ≤ T → T < a + F → (wh t T F a).1 = true → GZ z → GZ (wk t T F z p q a m).1 ∧ (∀ j, 71 ≤ j → (wk t T F z p q a m).1 j = z j) ∧ (wk t T F z p q a m).2.1 ≤ m + F ∧ 0 ≤ (wk t T F z p q a m).2.2.1 ∧ (wk t T F z p q a m).2.2.1 ≤ 4
  | 0, z, p, q, a, m, ha, hF, _, _ => absurd hF (by omega)
  | F + 1, z, p, q, a, m, ha, hF, hw, hz => by
    obtain ⟨h1, h2, f', -, h4, h5, -, -, -, -, h9⟩ := wh_part (f := fun _ => 0) ha hF rfl hw
    have hok := pt_pOK ha h2 q
    by_cases h0 : rsn z (pt t T a).1 (pt t T a).2.1 (pz t T q a) = 0
    · rw [wk_s h1 h0]
      have g := dos_GZ hz hok h0
      rcases h9 with h9 | ⟨h9, -, F', hF', hw'⟩
      · rw [wk_e (by omega)]
        exact ⟨g, fun j hj => dos_hi hz hok h0 hj, by show m + 1 ≤ m + (F + 1); omega, by show (0 : Int) ≤ 0; decide, by show (0 : Int) ≤ 4; decide⟩
      · have eF : F = F' := by omega
        subst eF
        obtain ⟨i1, i2, i3, i4⟩ := wk_ok F (dos z (pt t T a).1 (pt t T a).2.1 (pz t T q a)) (pt t T a).2.1 (pz t T q a) ((pt t T a).2.2.2 + 1) (m + 1) (by omega) (by omega) hw' g
        exact ⟨i1, fun j hj => (i2 j hj).trans (dos_hi hz hok h0 hj), by omega, i4⟩
    · rw [wk_n h1 h0]
      exact ⟨hz, fun _ _ => rfl, by show m ≤ m + (F + 1); omega, rsn_r _ _ _ _⟩
theorem woS_v {m k : Nat} : (woS m k).2.2 ≤ k := by
  induction k with
  | zero => exact Nat.le_refl _
  | succ k ih =>
    simp only [woS]
    split
    · split
      · exact Nat.le_refl _
      · exact Nat.le_refl _
    · omega
