/-! a world written otherwise: arrays are told by their places below their length -/
theorem arr_ext (cA : ClassId) {n : Nat} {f g : Nat → Value} (h : ∀ k, k < n → f k = g k) : arrV cA n f = arrV cA n g := by
  unfold arrV
  congr 2
  funext j
  exact h j.val j.isLt
theorem HW.ext {G : GT} {N : Nat} {gf : Bool} {h h' : Hp} {H : Heap} (hW : HW G N gf h H) (hq : ∀ q, q < N → ∀ H0 : Heap, va_at G.2.2.1 vwCl (G.2.1 + q, h q) H0 → va_at G.2.2.1 vwCl (G.2.1 + q, h' q) H0) : HW G N gf h' H := by
  refine ⟨fun k q e => ?_, hW.2⟩
  obtain ⟨hk, rfl⟩ := wsO_of e
  exact hq k hk H (hW.1 k _ (wsO_at hk))
section EXT
variable {G : GT} {me : MeT} {x : CxT} {pc : Nat} {loc : List (Option Value)} {st : List Value} {N : Nat} {gf : Bool} {h h' : Hp} {K : Nat → Nat → Int} {r : Nat → Option Nat} {kc ks : Nat}
theorem V_ext (hq : ∀ q, q < N → ∀ H0 : Heap, va_at G.2.2.1 vwCl (G.2.1 + q, h q) H0 → va_at G.2.2.1 vwCl (G.2.1 + q, h' q) H0) (k : V G me x pc loc st N gf h' kc ks) : V G me x pc loc st N gf h kc ks := by
  obtain ⟨p, e, R, s, m, args, below, meth, c, Z⟩ := x
  exact fun H locs cells slots ls hW hS hl h1 h2 => k H locs cells slots ls (hW.ext hq) hS hl h1 h2
theorem at_aI {D : va_G} {G : GT} {n a : Nat} {f g : Nat → Int} (h : ∀ k, k < n → f k = g k) {H0 : Heap} (q : va_at D vwCl (a, aI G n f) H0) : va_at D vwCl (a, aI G n g) H0 := by
  have e : vp_cell (G.2.2.2.1 0) (n, .inl (fun k => iI (f k))) = vp_cell (G.2.2.2.1 0) (n, .inl (fun k => iI (g k))) := by
    rw [vp_cell_i, vp_cell_i]
    exact arr_ext _ (fun k hk => by rw [h k hk])
  show H0[a]? = some (vp_cell (G.2.2.2.1 0) (n, .inl (fun k => iI (g k))))
  rw [← e]
  exact q
theorem at_aC {D : va_G} {G : GT} {n a : Nat} {f g : Nat → Int} (h : ∀ k, k < n → f k = g k) {H0 : Heap} (q : va_at D vwCl (a, aC G n f) H0) : va_at D vwCl (a, aC G n g) H0 := by
  have e : vp_cell (G.2.2.2.1 1) (n, .inl (fun k => iI (f k))) = vp_cell (G.2.2.2.1 1) (n, .inl (fun k => iI (g k))) := by
    rw [vp_cell_i, vp_cell_i]
    exact arr_ext _ (fun k hk => by rw [h k hk])
  show H0[a]? = some (vp_cell (G.2.2.2.1 1) (n, .inl (fun k => iI (g k))))
  rw [← e]
  exact q
theorem V_aext (i n : Nat) (v : Nat → Int) (hc : ∀ f, cO G r i f = aI G n f) (hf : ∀ k, k < n → K i k = v k) (k : V G me x pc loc st 28 gf (HP G (us K i v) r) kc ks) : V G me x pc loc st 28 gf (HP G K r) kc ks := by
  refine V_ext (fun q hq H0 ha => ?_) k
  by_cases e : q = i
  · subst e
    have ha2 : va_at G.2.2.1 vwCl (G.2.1 + q, cO G r q (K q)) H0 := ha
    show va_at G.2.2.1 vwCl (G.2.1 + q, cO G r q (us K q v q)) H0
    rw [us_at, hc]
    rw [hc] at ha2
    exact at_aI hf ha2
  · show va_at G.2.2.1 vwCl (G.2.1 + q, cO G r q (us K i v q)) H0
    rw [us_ne _ _ e]
    exact ha
end EXT
/-- sums of the six numbers; the first greatest; the steps of all -/
def su (f : Nat → Int) : Nat → Int
  | 0 => 0
  | k + 1 => su f k + f k
def ri (f : Nat → Int) : Nat → Nat
  | 0 => 0
  | k + 1 => if f (ri f k) < f (k + 1) then k + 1 else ri f k
theorem ri_le (f : Nat → Int) : ∀ k, ri f k ≤ k
  | 0 => Nat.le_refl _
  | k + 1 => by
    simp only [ri]
    split
    · exact Nat.le_refl _
    · exact Nat.le_succ_of_le (ri_le f k)
def alS (f : Nat → Int) (b : Bool) : Nat → Nat
  | 0 => 0
  | k + 1 => alS f b k + cn 22 (if b then fm 18 (f k).toNat else gm 18 (f k).toNat)
theorem alS_le (f : Nat → Int) (b : Bool) : ∀ k, alS f b k ≤ 22 * k
  | 0 => Nat.le_refl _
  | k + 1 => by
    have h := alS_le f b k
    have h2 := cn_le 22 (if b then fm 18 (f k).toNat else gm 18 (f k).toNat)
    simp only [alS]; omega
theorem su_r {f : Nat → Int} : ∀ {k : Nat}, (∀ j, j < k → 0 ≤ f j ∧ f j ≤ 6764) → 0 ≤ su f k ∧ su f k ≤ 6764 * k
  | 0, _ => by simp [su]
  | k + 1, h => by
    have h1 := su_r (k := k) (fun j hj => h j (by omega))
    have h2 := h k (by omega)
    simp only [su]; omega
/-- the counts of two marks together -/
def cI (m o : Nat) : Nat → Int := fun k => if k < 24 then ((m >>> k &&& 1 : Nat) : Int) + ((o >>> k &&& 1 : Nat) : Int) else 0
theorem cI_c0 (m o : Nat) : c0 (cI m o) := by
  intro k
  simp only [cI]
  split <;> omega
theorem cI_pot (m o : Nat) : sm wP (cI m o) 24 ≤ 2000 := by
  have h : ∀ n : Nat, n ≤ 24 → sm wP (cI m o) n ≤ 54 * n := by
    intro n
    induction n with
    | zero => intro _; simp [sm]
    | succ n ih =>
      intro hn
      have h1 := ih (by omega)
      have h2 : cI m o n ≤ 2 := by
        have := b1_le m n
        have := b1_le o n
        simp only [cI]; split <;> omega
      have h3 : wP n ≤ 27 := by simp only [wP]; split <;> omega
      have h4 := Int.mul_le_mul h3 h2 (cI_c0 m o n) (by decide : (0 : Int) ≤ 27)
      simp only [sm]; omega
  have := h 24 (by omega)
  omega
