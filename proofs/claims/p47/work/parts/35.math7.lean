/-! a part's work -/
theorem tnN (n : Nat) : ((n : Nat) : Int).toNat = n := rfl
def pOK (w p q : Int) : Prop := (w = 61 ∧ (0 ≤ p ∧ p ≤ 5) ∧ 0 ≤ q ∧ q ≤ 6764) ∨ (w = 43 ∧ (0 ≤ p ∧ p ≤ 5) ∧ 0 ≤ q ∧ q ≤ 5) ∨ (w = 45 ∧ (0 ≤ p ∧ p ≤ 5) ∧ 0 ≤ q ∧ q ≤ 5) ∨ (w = 94 ∧ 0 ≤ p ∧ p ≤ 5) ∨ (w = 115 ∧ 1 ≤ p ∧ p ≤ 6764) ∨ (w = 102 ∧ 0 ≤ p ∧ p ≤ 63)
theorem pt_pOK {t : Nat → Int} {T a : Nat} (h : a ≤ T) (hw : (pt t T a).1 ≠ 32) (q : Int) : pOK (pt t T a).1 (pt t T a).2.1 (pz t T q a) := by
  rcases pt_ok h hw with g | g | g | g | g | g
  · exact .inl ⟨g.1, ⟨g.2.1, g.2.2.1⟩, by rw [g.2.2.2.2.2 q]; exact ⟨g.2.2.2.1, g.2.2.2.2.1⟩⟩
  · exact .inr (.inl ⟨g.1, ⟨g.2.1, g.2.2.1⟩, by rw [g.2.2.2.2.2 q]; exact ⟨g.2.2.2.1, g.2.2.2.2.1⟩⟩)
  · exact .inr (.inr (.inl ⟨g.1, ⟨g.2.1, g.2.2.1⟩, by rw [g.2.2.2.2.2 q]; exact ⟨g.2.2.2.1, g.2.2.2.2.1⟩⟩))
  · exact .inr (.inr (.inr (.inl g)))
  · exact .inr (.inr (.inr (.inr (.inl g))))
  · exact .inr (.inr (.inr (.inr (.inr g))))
/-- the length of a number's code -/
def cl (z : Int) : Nat := hl 18 (gm 18 z.toNat) + 1
def rsn (z : Nat → Int) (w p q : Int) : Int :=
  if w = 43 then (if 6764 < z p.toNat + z q.toNat then 1 else 0)
  else if w = 45 then (if z p.toNat < z q.toNat then 2 else 0)
  else if w = 94 then (if gm 18 (z p.toNat).toNat < 131072 then 0 else 1)
  else if w = 115 then (if z 6 + (cl p : Nat) ≤ 64 then 0 else 3)
  else if w = 102 then (if p ≤ z 6 - 1 then 0 else 4)
  else 0
def dos (z : Nat → Int) (w p q : Int) : Nat → Int :=
  if w = 61 then us z p.toNat q
  else if w = 43 then us z p.toNat (z p.toNat + z q.toNat)
  else if w = 45 then us z p.toNat (z p.toNat - z q.toNat)
  else if w = 94 then us z p.toNat ((wo 22 (gm 18 (z p.toNat).toNat <<< 1) : Nat) : Int)
  else if w = 115 then sdF z (z 6).toNat (gm 18 p.toNat) (cl p) (cl p)
  else us z (7 + p.toNat) (1 - z (7 + p.toNat))
theorem rsn_r (z : Nat → Int) (w p q : Int) : 0 ≤ rsn z w p q ∧ rsn z w p q ≤ 4 := by
  unfold rsn
  (repeat' split) <;> decide
theorem Wq_us29 (K : Nat → Nat → Int) (a f s : Int) (F : Nat → Int) : us (Wq K a f s) 29 F = Wq (us K 29 F) a f s := by
  unfold Wq
  rw [us_comm _ _ F (by decide)]; rfl
/-- the works: the state, how many are done, why it stopped, the fields -/
def wk (t : Nat → Int) (T : Nat) : Nat → (Nat → Int) → Int → Int → Nat → Nat → (Nat → Int) × Nat × Int × Nat × Int × Int
  | 0, z, p, q, a, m => (z, m, 0, a, p, q)
  | f + 1, z, p, q, a, m =>
    if a < T then
      if rsn z (pt t T a).1 (pt t T a).2.1 (pz t T q a) = 0 then wk t T f (dos z (pt t T a).1 (pt t T a).2.1 (pz t T q a)) (pt t T a).2.1 (pz t T q a) ((pt t T a).2.2.2 + 1) (m + 1)
      else (z, m, rsn z (pt t T a).1 (pt t T a).2.1 (pz t T q a), (pt t T a).2.2.2 + 1, (pt t T a).2.1, pz t T q a)
    else (z, m, 0, a, p, q)
theorem b2y {P : Prop} {D : Decidable P} (h : P) : b2 (@decide P D) = 1 := (b2_t D h).symm
theorem b2n {P : Prop} {D : Decidable P} (h : ¬ P) : b2 (@decide P D) = 0 := (b2_f D h).symm
theorem Ct_v {G : GT} {y : MethodName} {me : MeT} {args : List Value} {K K' : Nat → Nat → Int} {r r' : Nat → Option Nat} {v v' : Int} (e : v = v') (h : CtO G y me args K r (some (.int (iI v))) K' r') : CtO G y me args K r (some (.int (iI v'))) K' r' := by rw [← e]; exact h
