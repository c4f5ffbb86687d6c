/-! the objects: their fields by a row of integers -/
def mOl (G : GT) (f : Nat → Int) : List Value := [rf G 29, .int (iI (f 1)), .int (iI (f 2)), .int (iI (f 3)), rf G 30, .int (iI (f 5)), .int (iI (f 6)), .int (iI (f 7)), .int (iI (f 8)), rf G 31, .int (iI (f 10)), rf G 32, .int (iI (f 12)), .int (iI (f 13))]
def clL (G : GT) (f : Nat → Int) : List Value := [rf G 1, rf G 3, .int (iI (f 2)), rf G 5, .int (iI (f 4)), rf G 6, .int (iI (f 6)), rf G 7, rf G 8, rf G 10, rf G 12, rf G 15]
def scL (f : Nat → Int) : List Value := [.int (iI (f 0)), .int (iI (f 1)), .int (iI (f 2)), .int (iI (f 3)), .int (iI (f 4)), .int (iI (f 5))]
def rdL (G : GT) (f : Nat → Int) : List Value := [rf G 9, .int (iI (f 1)), .int (iI (f 2)), .int (iI (f 3))]
def wyL (G : GT) (a : Nat) (f : Nat → Int) : List Value := [rf G (a + 1), rf G (a + 2), .int (iI (f 2))]
def stL (G : GT) (a : Nat) (f : Nat → Int) : List Value := [rf G (a + 1), .long (lL (f 1)), .int (iI (f 2)), .int (iI (f 3)), .int (iI (f 4))]
section OBJ
variable {G : GT} {me : MeT} {x : CxT} {pc : Nat} {loc : List (Option Value)} {st : List Value} {N : Nat} {gf : Bool} {h : Hp} {kc ks : Nat} {a b : Int}
theorem V_putL {idx ci k i : Nat} {L : (Nat → Int) → List Value} {f : Nat → Int} {z : Int} {v : Value} {ty : FieldType} (C : Cx G me x) (d : decode me.2.1 pc = .ok (.putfield idx, 3)) (hf : FL me.1 idx ci k) (hi : i < N) (hc : h i = .inr (ci, L f)) (hfin : (cT ci k).2.2.2 = false) (hd : parseFieldDescriptor (cT ci k).2.2.1 = some ty) (hn : narrow ty v = v) (hfit : fits ty v = true) (hlen : k < (L f).length) (hfs : (L f).set k v = L (us f k z)) (kk : V G me x (pc + 3) loc st N gf (hs h i (.inr (ci, L (us f k z)))) kc ks) : V G me x pc loc (v :: rf G i :: st) N gf h kc ks :=
  V_putf C d hf hi hc hfin hd hn hfit hlen hfs kk
theorem i2c_small {z : Int} (h1 : 0 ≤ z) (h2 : z < 65536) : ((iI z).toUInt32 % 65536).toInt32 = iI z := lg_i2c_word (by rw [iI_toInt (by omega) (by omega)]; exact h1) (by rw [iI_toInt (by omega) (by omega)]; exact h2)
theorem V_i2c (C : Cx G me x) (d : decode me.2.1 pc = .ok (.i2c, 1)) (ha : 0 ≤ a ∧ a < 65536) (k : V G me x (pc + 1) loc (.int (iI a) :: st) N gf h kc ks) : V G me x pc loc (.int (iI a) :: st) N gf h kc ks := V_lift C (fun hx hb k => lv_i2c hx hb d (i2c_small ha.1 ha.2) k) k
end OBJ
/-- the reference's cells -/
def MH (G : GT) (h : Hp) (f s tx cs fo : Nat → Int) : Prop := h 28 = .inr (6, mOl G f) ∧ h 29 = aI G 518 s ∧ h 30 = aI G 60 tx ∧ h 31 = aI G 24 cs ∧ h 32 = aI G 64 fo
/-- only the reference's cells have changed -/
def MF (h h' : Hp) : Prop := ∀ q : Nat, q < 28 ∨ 32 < q → h' q = h q
theorem MF.rf (h : Hp) : MF h h := fun _ _ => rfl
theorem MF.tr {h1 h2 h3 : Hp} (a : MF h1 h2) (b : MF h2 h3) : MF h1 h3 := fun q hq => (b q hq).trans (a q hq)
theorem MF.st {h h1 : Hp} (a : MF h h1) {i : Nat} {c : va_E} (hi : 28 ≤ i ∧ i ≤ 32) : MF h (hs h1 i c) := fun q hq => (hs_ne _ _ (by omega)).trans (a q hq)
theorem MH.f {G : GT} {h : Hp} {f f' s tx cs fo : Nat → Int} (H : MH G h f s tx cs fo) : MH G (hs h 28 (.inr (6, mOl G f'))) f' s tx cs fo := ⟨hs_at _ _ _, (hs_ne _ _ (by decide)).trans H.2.1, (hs_ne _ _ (by decide)).trans H.2.2.1, (hs_ne _ _ (by decide)).trans H.2.2.2.1, (hs_ne _ _ (by decide)).trans H.2.2.2.2⟩
theorem MH.s {G : GT} {h : Hp} {f s s' tx cs fo : Nat → Int} (H : MH G h f s tx cs fo) : MH G (hs h 29 (aI G 518 s')) f s' tx cs fo := ⟨(hs_ne _ _ (by decide)).trans H.1, hs_at _ _ _, (hs_ne _ _ (by decide)).trans H.2.2.1, (hs_ne _ _ (by decide)).trans H.2.2.2.1, (hs_ne _ _ (by decide)).trans H.2.2.2.2⟩
theorem MH.t {G : GT} {h : Hp} {f s tx tx' cs fo : Nat → Int} (H : MH G h f s tx cs fo) : MH G (hs h 30 (aI G 60 tx')) f s tx' cs fo := ⟨(hs_ne _ _ (by decide)).trans H.1, (hs_ne _ _ (by decide)).trans H.2.1, hs_at _ _ _, (hs_ne _ _ (by decide)).trans H.2.2.2.1, (hs_ne _ _ (by decide)).trans H.2.2.2.2⟩
theorem MH.c {G : GT} {h : Hp} {f s tx cs cs' fo : Nat → Int} (H : MH G h f s tx cs fo) : MH G (hs h 31 (aI G 24 cs')) f s tx cs' fo := ⟨(hs_ne _ _ (by decide)).trans H.1, (hs_ne _ _ (by decide)).trans H.2.1, (hs_ne _ _ (by decide)).trans H.2.2.1, hs_at _ _ _, (hs_ne _ _ (by decide)).trans H.2.2.2.2⟩
theorem MH.o {G : GT} {h : Hp} {f s tx cs fo fo' : Nat → Int} (H : MH G h f s tx cs fo) : MH G (hs h 32 (aI G 64 fo')) f s tx cs fo' := ⟨(hs_ne _ _ (by decide)).trans H.1, (hs_ne _ _ (by decide)).trans H.2.1, (hs_ne _ _ (by decide)).trans H.2.2.1, (hs_ne _ _ (by decide)).trans H.2.2.2.1, hs_at _ _ _⟩
