/-! the world behind the constructors: 34 cells; what the cell q holds is K q; r: the row of saved states -/
def mOl (G : GT) (f : Nat → Int) : List Value := [rf G 29, .int (iI (f 1)), .int (iI (f 2)), .int (iI (f 3)), rf G 30, .int (iI (f 5)), .int (iI (f 6)), .int (iI (f 7)), .int (iI (f 8)), rf G 31, .int (iI (f 10)), rf G 32, .int (iI (f 12)), .int (iI (f 13))]
def clL (G : GT) (f : Nat → Int) : List Value := [rf G 1, rf G 3, .int (iI (f 2)), rf G 5, .int (iI (f 4)), rf G 6, .int (iI (f 6)), rf G 7, rf G 8, rf G 10, rf G 12, rf G 15]
def scL (f : Nat → Int) : List Value := [.int (iI (f 0)), .int (iI (f 1)), .int (iI (f 2)), .int (iI (f 3)), .int (iI (f 4)), .int (iI (f 5))]
def rdL (G : GT) (f : Nat → Int) : List Value := [rf G 9, .int (iI (f 1)), .int (iI (f 2)), .int (iI (f 3))]
def kyL (G : GT) (_ : Nat → Int) : List Value := [rf G 11]
def wyL (G : GT) (a : Nat) (f : Nat → Int) : List Value := [rf G (a + 1), rf G (a + 2), .int (iI (f 2))]
def stL (G : GT) (a : Nat) (f : Nat → Int) : List Value := [rf G (a + 1), .long (lL (f 1)), .int (iI (f 2)), .int (iI (f 3)), .int (iI (f 4))]
def isS (q : Nat) : Bool := q == 1 || q == 3 || q == 18 || q == 20 || q == 22 || q == 24 || q == 26
def cO (G : GT) (r : Nat → Option Nat) (q : Nat) (f : Nat → Int) : va_E :=
  if q = 0 then .inr (5, clL G f) else if q = 5 then aR G 5 r else if q = 6 then aC G 60 f else if q = 7 then .inr (3, scL f) else if q = 8 then .inr (1, rdL G f) else if q = 9 then aI G 32 f
  else if q = 10 then .inr (0, kyL G f) else if q = 11 then aI G 22 f else if q = 12 ∨ q = 15 then .inr (4, wyL G q f) else if q = 13 ∨ q = 14 ∨ q = 16 ∨ q = 17 then aI G 4 f
  else if q = 28 then .inr (6, mOl G f) else if q = 29 then aI G 518 f else if q = 30 then aI G 60 f else if q = 31 then aI G 24 f else if q = 32 then aI G 64 f else if q = 33 then aL G 1 f
  else if isS q then .inr (2, stL G q f) else aI G 6 f
def HP (G : GT) (K : Nat → Nat → Int) (r : Nat → Option Nat) : Hp := fun q => cO G r q (K q)
theorem isS_c {q : Nat} (h : isS q = true) : q = 1 ∨ q = 3 ∨ q = 18 ∨ q = 20 ∨ q = 22 ∨ q = 24 ∨ q = 26 := by
  simp only [isS, Bool.or_eq_true, beq_iff_eq] at h
  omega
theorem cO_st {G : GT} {r : Nat → Option Nat} {a : Nat} (h : isS a = true) (f : Nat → Int) : cO G r a f = .inr (2, stL G a f) := by
  rcases isS_c h with rfl | rfl | rfl | rfl | rfl | rfl | rfl <;> rfl
theorem cO_sn {G : GT} {r : Nat → Option Nat} {a : Nat} (h : isS a = true) (f : Nat → Int) : cO G r (a + 1) f = aI G 6 f := by
  rcases isS_c h with rfl | rfl | rfl | rfl | rfl | rfl | rfl <;> rfl
theorem isS_lt {a : Nat} (h : isS a = true) : a < 28 := by rcases isS_c h with rfl | rfl | rfl | rfl | rfl | rfl | rfl <;> decide
theorem isS_lt1 {a : Nat} (h : isS a = true) : a + 1 < 28 := by rcases isS_c h with rfl | rfl | rfl | rfl | rfl | rfl | rfl <;> decide
theorem HP_us {G : GT} {K : Nat → Nat → Int} {r : Nat → Option Nat} {i : Nat} {c : va_E} {v : Nat → Int} (hc : c = cO G r i v) : hs (HP G K r) i c = HP G (us K i v) r := by
  subst hc
  funext q
  by_cases e : q = i
  · subst e
    rw [hs_at]
    show cO G r q v = cO G r q (us K q v q)
    rw [us_at]
  · rw [hs_ne _ _ e]
    show cO G r q (K q) = cO G r q (us K i v q)
    rw [us_ne _ _ e]
theorem HP_r {G : GT} {K : Nat → Nat → Int} {r r' : Nat → Option Nat} : hs (HP G K r) 5 (aR G 5 r') = HP G K r' := by
  funext q
  by_cases e : q = 5
  · subst e; rfl
  · rw [hs_ne _ _ e]
    show cO G r q (K q) = cO G r' q (K q)
    simp only [cO, e, if_false]
section OBJ
variable {G : GT} {me : MeT} {x : CxT} {pc : Nat} {loc : List (Option Value)} {st : List Value} {K : Nat → Nat → Int} {r : Nat → Option Nat} {kc ks : Nat} {a b : Int}
theorem V_getH {idx ci k i : Nat} {L : (Nat → Int) → List Value} {v : Value} (C : Cx G me x) (d : decode me.2.1 pc = .ok (.getfield idx, 3)) (hf : FL me.1 idx ci k) (hi : i < 28) (hc : ∀ f, cO G r i f = .inr (ci, L f)) (hv : (L (K i))[k]? = some v) (kk : V G me x (pc + 3) loc (v :: st) 28 false (HP G K r) kc ks) : V G me x pc loc (rf G i :: st) 28 false (HP G K r) kc ks :=
  V_getf C d hf hi (hc (K i)) hv kk
theorem V_putH {idx ci k i : Nat} {L : (Nat → Int) → List Value} {z : Int} {v : Value} {ty : FieldType} (C : Cx G me x) (d : decode me.2.1 pc = .ok (.putfield idx, 3)) (hf : FL me.1 idx ci k) (hi : i < 28) (hc : ∀ f, cO G r i f = .inr (ci, L f)) (hfin : (cT ci k).2.2.2 = false) (hd : parseFieldDescriptor (cT ci k).2.2.1 = some ty) (hn : narrow ty v = v) (hfit : fits ty v = true) (hlen : k < (L (K i)).length) (hfs : (L (K i)).set k v = L (us (K i) k z)) (kk : V G me x (pc + 3) loc st 28 false (HP G (us K i (us (K i) k z)) r) kc ks) : V G me x pc loc (v :: rf G i :: st) 28 false (HP G K r) kc ks := by
  refine V_putf C d hf hi (hc (K i)) hfin hd hn hfit hlen hfs ?_
  rw [HP_us (hc _).symm]
  exact kk
theorem V_alenH {i n : Nat} (C : Cx G me x) (d : decode me.2.1 pc = .ok (.arraylength, 1)) (hi : i < 28) (hc : ∀ f, cO G r i f = aI G n f) (kk : V G me x (pc + 1) loc (.int (iI (n : Int)) :: st) 28 false (HP G K r) kc ks) : V G me x pc loc (rf G i :: st) 28 false (HP G K r) kc ks := V_alen C d hi (Or.inl (hc _)) kk
theorem V_alenHc {i n : Nat} (C : Cx G me x) (d : decode me.2.1 pc = .ok (.arraylength, 1)) (hi : i < 28) (hc : ∀ f, cO G r i f = aC G n f) (kk : V G me x (pc + 1) loc (.int (iI (n : Int)) :: st) 28 false (HP G K r) kc ks) : V G me x pc loc (rf G i :: st) 28 false (HP G K r) kc ks := V_alen C d hi (Or.inr (hc _)) kk
theorem V_alenHr (C : Cx G me x) (d : decode me.2.1 pc = .ok (.arraylength, 1)) (kk : V G me x (pc + 1) loc (.int (iI 5) :: st) 28 false (HP G K r) kc ks) : V G me x pc loc (rf G 5 :: st) 28 false (HP G K r) kc ks := V_alenR (n := 5) (f := r) C d (by decide) rfl kk
theorem V_ialdH {i n : Nat} (C : Cx G me x) (d : decode me.2.1 pc = .ok (.iaload, 1)) (hi : i < 28) (hc : ∀ f, cO G r i f = aI G n f) (ha : 0 ≤ a ∧ a < n) (hn : n < 1000) (kk : V G me x (pc + 1) loc (.int (iI (K i a.toNat)) :: st) 28 false (HP G K r) kc ks) : V G me x pc loc (.int (iI a) :: rf G i :: st) 28 false (HP G K r) kc ks := V_iald C d hi (hc _) ha (by omega) kk
theorem V_caldH {i n : Nat} (C : Cx G me x) (d : decode me.2.1 pc = .ok (.caload, 1)) (hi : i < 28) (hc : ∀ f, cO G r i f = aC G n f) (ha : 0 ≤ a ∧ a < n) (hn : n < 1000) (kk : V G me x (pc + 1) loc (.int (iI (K i a.toNat)) :: st) 28 false (HP G K r) kc ks) : V G me x pc loc (.int (iI a) :: rf G i :: st) 28 false (HP G K r) kc ks := V_cald C d hi (hc _) ha (by omega) kk
theorem V_aaldH {j : Nat} (C : Cx G me x) (d : decode me.2.1 pc = .ok (.aaload, 1)) (ha : 0 ≤ a ∧ a < 5) (hj : r a.toNat = some j) (kk : V G me x (pc + 1) loc (rf G j :: st) 28 false (HP G K r) kc ks) : V G me x pc loc (.int (iI a) :: rf G 5 :: st) 28 false (HP G K r) kc ks := V_aald (n := 5) (f := r) C d (by decide) rfl ha (by decide) hj kk
theorem V_iastH {i n : Nat} (C : Cx G me x) (d : decode me.2.1 pc = .ok (.iastore, 1)) (hi : i < 28) (hc : ∀ f, cO G r i f = aI G n f) (ha : 0 ≤ a ∧ a < n) (hn : n < 1000) (kk : V G me x (pc + 1) loc st 28 false (HP G (us K i (us (K i) a.toNat b)) r) kc ks) : V G me x pc loc (.int (iI b) :: .int (iI a) :: rf G i :: st) 28 false (HP G K r) kc ks := by
  refine V_iast C d hi (hc _) ha (by omega) ?_
  rw [HP_us (hc _).symm]
  exact kk
theorem V_castH {i n : Nat} (C : Cx G me x) (d : decode me.2.1 pc = .ok (.castore, 1)) (hi : i < 28) (hc : ∀ f, cO G r i f = aC G n f) (ha : 0 ≤ a ∧ a < n) (hn : n < 1000) (hb : 0 ≤ b ∧ b < 65536) (kk : V G me x (pc + 1) loc st 28 false (HP G (us K i (us (K i) a.toNat b)) r) kc ks) : V G me x pc loc (.int (iI b) :: .int (iI a) :: rf G i :: st) 28 false (HP G K r) kc ks := by
  refine V_cast C d hi (hc _) ha (by omega) hb ?_
  rw [HP_us (hc _).symm]
  exact kk
theorem V_aastH {j : Nat} (C : Cx G me x) (d : decode me.2.1 pc = .ok (.aastore, 1)) (hj : isS j = true) (ha : 0 ≤ a ∧ a < 5) (kk : V G me x (pc + 1) loc st 28 false (HP G K (us r a.toNat (some j))) kc ks) : V G me x pc loc (rf G j :: .int (iI a) :: rf G 5 :: st) 28 false (HP G K r) kc ks := by
  refine V_aast (n := 5) (f := r) C d (by decide) rfl (isS_lt hj) (cO_st hj _) ha (by decide) ?_
  rw [HP_r]
  exact kk
theorem i2c_small {z : Int} (h1 : 0 ≤ z) (h2 : z < 65536) : ((iI z).toUInt32 % 65536).toInt32 = iI z := lg_i2c_word (by rw [iI_toInt (by omega) (by omega)]; exact h1) (by rw [iI_toInt (by omega) (by omega)]; exact h2)
theorem V_i2c {N : Nat} {gf : Bool} {h : Hp} (C : Cx G me x) (d : decode me.2.1 pc = .ok (.i2c, 1)) (ha : 0 ≤ a ∧ a < 65536) (k : V G me x (pc + 1) loc (.int (iI a) :: st) N gf h kc ks) : V G me x pc loc (.int (iI a) :: st) N gf h kc ks := V_lift C (fun hx hb k => lv_i2c hx hb d (i2c_small ha.1 ha.2) k) k
/-- the world written otherwise -/
theorem V_hp {K' : Nat → Nat → Int} {r' : Nat → Option Nat} (e : HP G K r = HP G K' r') (k : V G me x pc loc st 28 false (HP G K' r') kc ks) : V G me x pc loc st 28 false (HP G K r) kc ks := by rw [e]; exact k
end OBJ
theorem us_us {α : Type} (f : Nat → α) (k : Nat) (v w : α) : us (us f k v) k w = us f k w := by
  funext j
  by_cases e : j = k
  · subst e; rw [us_at, us_at]
  · rw [us_ne _ _ e, us_ne _ _ e, us_ne _ _ e]
theorem us_same {α : Type} (f : Nat → α) (k : Nat) : us f k (f k) = f := by
  funext j
  by_cases e : j = k
  · subst e; rw [us_at]
  · rw [us_ne _ _ e]
theorem us_comm {α : Type} (f : Nat → α) {k j : Nat} (v w : α) (n : k ≠ j) : us (us f k v) j w = us (us f j w) k v := by
  funext q
  by_cases e : q = k
  · subst e; rw [us_at, us_ne _ _ n, us_at]
  · by_cases e2 : q = j
    · subst e2; rw [us_at, us_ne _ _ e, us_at]
    · rw [us_ne _ _ e, us_ne _ _ e2, us_ne _ _ e2, us_ne _ _ e]
theorem us_lit {α : Type} (f : Nat → α) (k j : Nat) (v : α) : us f k v j = if j = k then v else f j := rfl
abbrev CtO (G : GT) (y : MethodName) (me : MeT) (as : List Value) (K : Nat → Nat → Int) (r : Nat → Option Nat) (v : Option Value) (K' : Nat → Nat → Int) (r' : Nat → Option Nat) : Prop := Ct G y me as 28 false (HP G K r) 0 0 v 28 false (HP G K' r')
abbrev CtOX (G : GT) (y : MethodName) (me : MeT) (as : List Value) (K : Nat → Nat → Int) (r : Nat → Option Nat) (E : String) : Prop := CtX G y me as 28 false (HP G K r) 1 6 E (HP G K r)
