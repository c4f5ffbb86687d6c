/-! a part keeps a state a state -/
theorem GZ_num {z : Nat → Int} (h : GZ z) {j : Nat} (hj : j < 6) {v : Int} (hv : 0 ≤ v ∧ v ≤ 6764) : GZ (us z j v) := by
  refine ⟨fun k hk => ?_, ?_, fun k h1 h2 => ?_, ?_, ?_, ?_⟩
  · by_cases e : k = j
    · subst e; rw [us_at]; exact hv
    · rw [us_ne _ _ e]; exact h.1 k hk
  · rw [us_ne _ _ (by omega)]; exact h.2.1
  · rw [us_ne _ _ (by omega)]; exact h.2.2.1 k h1 h2
  · rw [us_ne _ _ (by omega)]; exact h.2.2.2.1
  · rw [us_ne _ _ (by omega)]; exact h.2.2.2.2.1
  · rw [us_ne _ _ (by omega)]; exact h.2.2.2.2.2
theorem GZ_turn {z : Nat → Int} (h : GZ z) {j : Nat} (hj : j < 64) : GZ (us z (7 + j) (1 - z (7 + j))) := by
  have g := h.2.2.1 (7 + j) (by omega) (by omega)
  refine ⟨fun k hk => ?_, ?_, fun k h1 h2 => ?_, ?_, ?_, ?_⟩
  · rw [us_ne _ _ (by omega)]; exact h.1 k hk
  · rw [us_ne _ _ (by omega)]; exact h.2.1
  · by_cases e : k = 7 + j
    · subst e; rw [us_at]; omega
    · rw [us_ne _ _ e]; exact h.2.2.1 k h1 h2
  · rw [us_ne _ _ (by omega)]; exact h.2.2.2.1
  · rw [us_ne _ _ (by omega)]; exact h.2.2.2.2.1
  · rw [us_ne _ _ (by omega)]; exact h.2.2.2.2.2
theorem sdF_ne {z : Nat → Int} {L m len k j : Nat} (h6 : j ≠ 6) (h : ¬ (7 + L ≤ j ∧ j < 7 + L + k)) : sdF z L m len k j = z j := by
  simp only [sdF]; rw [if_neg h6, if_neg h]
theorem sdF_6 {z : Nat → Int} {L m len k : Nat} : sdF z L m len k 6 = (L : Int) + k := rfl
theorem sdF_01 {z : Nat → Int} {L m len k j : Nat} (h6 : j ≠ 6) (h : 7 + L ≤ j ∧ j < 7 + L + k) : 0 ≤ sdF z L m len k j ∧ sdF z L m len k j ≤ 1 := by
  simp only [sdF]; rw [if_neg h6, if_pos h]
  have := b1_le m (j - 7 - L)
  split <;> omega
theorem GZ_send {z : Nat → Int} (h : GZ z) {L m k : Nat} (hk : L + k ≤ 64) : GZ (sdF z L m k k) := by
  refine ⟨fun j hj => ?_, ?_, fun j h1 h2 => ?_, ?_, ?_, ?_⟩
  · rw [sdF_ne (by omega) (by omega)]; exact h.1 j hj
  · rw [sdF_6]; omega
  · by_cases e : 7 + L ≤ j ∧ j < 7 + L + k
    · exact sdF_01 (by omega) e
    · rw [sdF_ne (by omega) e]; exact h.2.2.1 j h1 h2
  · rw [sdF_ne (by omega) (by omega)]; exact h.2.2.2.1
  · rw [sdF_ne (by omega) (by omega)]; exact h.2.2.2.2.1
  · rw [sdF_ne (by omega) (by omega)]; exact h.2.2.2.2.2
theorem dos_GZ {z : Nat → Int} (h : GZ z) {w p q : Int} (hok : pOK w p q) (h0 : rsn z w p q = 0) : GZ (dos z w p q) := by
  rcases hok with g | g | g | g | g | g
  · obtain ⟨e, g1, g2⟩ := g
    subst e
    have eD : dos z 61 p q = us z p.toNat q := by unfold dos; rw [if_pos rfl]
    rw [eD]
    exact GZ_num h (by omega) g2
  · obtain ⟨e, g1, g2⟩ := g
    subst e
    have eD : dos z 43 p q = us z p.toNat (z p.toNat + z q.toNat) := by unfold dos; rw [if_neg (by decide), if_pos rfl]
    have eR : rsn z 43 p q = if 6764 < z p.toNat + z q.toNat then 1 else 0 := by unfold rsn; rw [if_pos rfl]
    rw [eD]
    have a1 := h.1 p.toNat (by omega)
    have a2 := h.1 q.toNat (by omega)
    rw [eR] at h0
    by_cases c : 6764 < z p.toNat + z q.toNat
    · rw [if_pos c] at h0; exact absurd h0 (by decide)
    · exact GZ_num h (by omega) ⟨by omega, by omega⟩
  · obtain ⟨e, g1, g2⟩ := g
    subst e
    have eD : dos z 45 p q = us z p.toNat (z p.toNat - z q.toNat) := by unfold dos; rw [if_neg (by decide), if_neg (by decide), if_pos rfl]
    have eR : rsn z 45 p q = if z p.toNat < z q.toNat then 2 else 0 := by unfold rsn; rw [if_neg (by decide), if_pos rfl]
    rw [eD]
    have a1 := h.1 p.toNat (by omega)
    have a2 := h.1 q.toNat (by omega)
    rw [eR] at h0
    by_cases c : z p.toNat < z q.toNat
    · rw [if_pos c] at h0; exact absurd h0 (by decide)
    · exact GZ_num h (by omega) ⟨by omega, by omega⟩
  · obtain ⟨e, g1⟩ := g
    subst e
    have eD : dos z 94 p q = us z p.toNat ((wo 22 (gm 18 (z p.toNat).toNat <<< 1) : Nat) : Int) := by unfold dos; rw [if_neg (by decide), if_neg (by decide), if_neg (by decide), if_pos rfl]
    have eR : rsn z 94 p q = if gm 18 (z p.toNat).toNat < 131072 then 0 else 1 := by unfold rsn; rw [if_neg (by decide), if_neg (by decide), if_pos rfl]
    rw [eD]
    have a1 := h.1 p.toNat (by omega)
    rw [eR] at h0
    by_cases c : gm 18 (z p.toNat).toNat < 131072
    · have w := wo_up (n := (z p.toNat).toNat) (by omega) c
      exact GZ_num h (by omega) ⟨by omega, by omega⟩
    · rw [if_neg c] at h0; exact absurd h0 (by decide)
  · obtain ⟨e, g1⟩ := g
    subst e
    have eD : dos z 115 p q = sdF z (z 6).toNat (gm 18 p.toNat) (cl p) (cl p) := by unfold dos; rw [if_neg (by decide), if_neg (by decide), if_neg (by decide), if_neg (by decide), if_pos rfl]
    have eR : rsn z 115 p q = if z 6 + (cl p : Nat) ≤ 64 then 0 else 3 := by unfold rsn; rw [if_neg (by decide), if_neg (by decide), if_neg (by decide), if_pos rfl]
    rw [eD]
    have a1 := h.2.1
    rw [eR] at h0
    by_cases c : z 6 + (cl p : Nat) ≤ 64
    · exact GZ_send h (by omega)
    · rw [if_neg c] at h0; exact absurd h0 (by decide)
  · obtain ⟨e, g1⟩ := g
    subst e
    have eD : dos z 102 p q = us z (7 + p.toNat) (1 - z (7 + p.toNat)) := by unfold dos; rw [if_neg (by decide), if_neg (by decide), if_neg (by decide), if_neg (by decide), if_neg (by decide)]
    rw [eD]
    exact GZ_turn h (by omega)
theorem GZ_of {z z' : Nat → Int} (h : GZ z) (e : ∀ j, j < 74 → z' j = z j) : GZ z' := by
  refine ⟨fun j hj => ?_, ?_, fun j h1 h2 => ?_, ?_, ?_, ?_⟩
  · rw [e _ (by omega)]; exact h.1 j hj
  · rw [e _ (by omega)]; exact h.2.1
  · rw [e _ (by omega)]; exact h.2.2.1 j h1 h2
  · rw [e _ (by omega)]; exact h.2.2.2.1
  · rw [e _ (by omega)]; exact h.2.2.2.2.1
  · rw [e _ (by omega)]; exact h.2.2.2.2.2
theorem cpS_ne {s : Nat → Int} {fr to k j : Nat} (h : ¬ (74 * to ≤ j ∧ j < 74 * to + k)) : cpS s fr to k j = s j := by
  simp only [cpS]; rw [if_neg h]
theorem svS_0 {s : Nat → Int} {st j : Nat} (hj : j < 74) : svS s st j = s j := by
  unfold svS
  have h1 : ∀ (s' : Nat → Int) (fr to : Nat), 1 ≤ to → cpS s' fr to 74 j = s' j := fun s' fr to h => cpS_ne (by omega)
  by_cases e : st = 5
  · rw [if_pos e]
    simp only [shS]
    rw [h1 _ _ _ (by decide), h1 _ _ _ (by decide), h1 _ _ _ (by decide), h1 _ _ _ (by decide), h1 _ _ _ (by decide)]
  · rw [if_neg e, h1 _ _ _ (by omega)]
/-- the state after works -/
def stS (z : Nat → Int) (why : Int) (m : Nat) : Nat → Int := us (us (us z 71 (if 0 < why then 1 else 0)) 72 m) 73 why
theorem stS_GZ {z : Nat → Int} (h : GZ z) {why : Int} {m : Nat} (hw : 0 ≤ why ∧ why ≤ 4) (hm : m ≤ 100) : GZ (stS z why m) := by
  unfold stS
  refine ⟨fun k hk => ?_, ?_, fun k h1 h2 => ?_, ?_, ?_, ?_⟩
  · rw [us_ne _ _ (by omega), us_ne _ _ (by omega), us_ne _ _ (by omega)]; exact h.1 k hk
  · rw [us_ne _ _ (by omega), us_ne _ _ (by omega), us_ne _ _ (by omega)]; exact h.2.1
  · rw [us_ne _ _ (by omega), us_ne _ _ (by omega), us_ne _ _ (by omega)]; exact h.2.2.1 k h1 h2
  · rw [us_ne _ _ (by omega), us_ne _ _ (by omega), us_at]; split <;> decide
  · rw [us_ne _ _ (by omega), us_at]; omega
  · rw [us_at]; exact hw
/-- the reference's world after saving -/
def kS (K : Nat → Nat → Int) (st : Nat) : Nat → Nat → Int := us (us K 29 (svS (K 29) st)) 28 (us (K 28) 1 ((if st = 5 then 5 else st + 1 : Nat) : Int))
def wkE (K : Nat → Nat → Int) (R : (Nat → Int) × Nat × Int × Nat × Int × Int) : Nat → Nat → Int :=
  us (Wq (us K 29 (stS R.1 R.2.2.1 R.2.1)) R.2.2.2.1 R.2.2.2.2.1 R.2.2.2.2.2) 28 (us (Wq (us K 29 (stS R.1 R.2.2.1 R.2.1)) R.2.2.2.1 R.2.2.2.2.1 R.2.2.2.2.2 28) 5 0)
