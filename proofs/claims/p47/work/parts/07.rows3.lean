/-! fields, arrays, new cells -/
theorem cl_gd : ∀ (ci : Nat) (C : String) (T : u_T) (n : Nat), vwCl[ci]? = some (C, T, n) → ∀ w ∈ u_ws C T n, w ∈ lw_gd := by
  intro ci C T n hq
  match ci, hq with
  | 0, hq => cases hq; exact uX0
  | 1, hq => cases hq; exact uX1
  | 2, hq => cases hq; exact uX2
  | 3, hq => cases hq; exact uX3
  | 4, hq => cases hq; exact uX4
  | 5, hq => cases hq; exact uX5
  | k + 7, hq => simp [vwCl] at hq
theorem cl_ty : ∀ (ci : Nat) (C : String) (T : u_T) (n : Nat), vwCl[ci]? = some (C, T, n) → ∃ ty : Nat → FieldType, (∀ k, k < n → parseFieldDescriptor (T k).2.2.1 = some (ty k)) ∧ ∀ a, a < n → ∀ b, b < n → a ≠ b → (T a).2.1 ≠ (T b).2.1 := by
  intro ci C T n hq
  match ci, hq with
  | 0, hq => cases hq; exact ⟨_, tyX0_ok, nmX0⟩
  | 1, hq => cases hq; exact ⟨_, tyX1_ok, nmX1⟩
  | 2, hq => cases hq; exact ⟨_, tyX2_ok, nmX2⟩
  | 3, hq => cases hq; exact ⟨_, tyX3_ok, nmX3⟩
  | 4, hq => cases hq; exact ⟨_, tyX4_ok, nmX4⟩
  | 5, hq => cases hq; exact ⟨_, tyX5_ok, nmX5⟩
  | k + 7, hq => simp [vwCl] at hq
/-- the field k of the class ci -/
def cT (ci k : Nat) : String × String × String × Bool := match vwCl[ci]? with
  | some q => q.2.1 k
  | none => ("", "", "", false)
theorem cT_of {ci k n : Nat} {C : String} {T : u_T} (h : vwCl[ci]? = some (C, T, n)) : cT ci k = T k := by simp only [cT, h]
theorem HW.put {G : GT} {N i : Nat} {gf : Bool} {h : Hp} {H H1 : Heap} {c : va_E} (hW : HW G N gf h H) (hi : i < N) (z : H1.size = H.size) (hP : va_P G.2.2.1 vwCl ((wsO G N h).set i (G.2.1 + i, c)) H1) : HW G N gf (hs h i c) H1 := by
  rw [wsO_set hi] at hP
  exact ⟨hP, by rw [z]; exact hW.2.1, fun g => by rw [z]; exact hW.2.2 g⟩
theorem HW.putF {G : GT} {N i : Nat} {h : Hp} {H1 : Heap} {c : va_E} (hi : i < N) (hP : va_P G.2.2.1 vwCl ((wsO G N h).set i (G.2.1 + i, c)) H1) : HW G N false (hs h i c) H1 := by
  rw [wsO_set hi] at hP
  refine ⟨hP, ?_, fun g => by cases g⟩
  have h1 := (hP (N - 1) _ (wsO_at (by omega))).lt
  simp only at h1
  omega
section VR3
variable {G : GT} {me : MeT} {x : CxT} {pc : Nat} {loc : List (Option Value)} {st : List Value} {N : Nat} {gf : Bool} {h : Hp} {kc ks : Nat} {a b : Int}
theorem V_getf {idx ci k i : Nat} {fs : List Value} {v : Value} (C : Cx G me x) (d : decode me.2.1 pc = .ok (.getfield idx, 3)) (hf : FL me.1 idx ci k) (hi : i < N) (hc : h i = .inr (ci, fs)) (hv : fs[k]? = some v) (kk : V G me x (pc + 3) loc (v :: st) N gf h kc ks) : V G me x pc loc (rf G i :: st) N gf h kc ks := by
  obtain ⟨p, e, R, s, m, args, below, meth, c, Z⟩ := x
  obtain ⟨hx, hb, -, -, ho, hts, hK, -⟩ := C
  obtain ⟨Cn, T, n, hcl, hk, hl⟩ := hf
  intro H locs cells slots ls hW hS hl0 h1 h2
  exact va_get hx hb hts (cl_gd _ _ _ _ hcl) ho hK.2.1 hW.1 i (by rw [wsO_at hi, hc]) hcl k hk (hts _ hl) (fun _ q => q) hv d (kk H locs cells slots ls hW hS hl0 h1 h2)
theorem V_putf {idx ci k i : Nat} {fs fs' : List Value} {v : Value} {ty : FieldType} (C : Cx G me x) (d : decode me.2.1 pc = .ok (.putfield idx, 3)) (hf : FL me.1 idx ci k) (hi : i < N) (hc : h i = .inr (ci, fs)) (hfin : (cT ci k).2.2.2 = false) (hd : parseFieldDescriptor (cT ci k).2.2.1 = some ty) (hn : narrow ty v = v) (hfit : fits ty v = true) (hlen : k < fs.length) (hfs : fs.set k v = fs') (kk : V G me x (pc + 3) loc st N gf (hs h i (.inr (ci, fs'))) kc ks) : V G me x pc loc (v :: rf G i :: st) N gf h kc ks := by
  obtain ⟨p, e, R, s, m, args, below, meth, c, Z⟩ := x
  obtain ⟨hx, hb, -, -, ho, hts, hK, -⟩ := C
  obtain ⟨Cn, T, n, hcl, hk, hl⟩ := hf
  rw [cT_of hcl] at hfin hd
  subst hfs
  intro H locs cells slots ls hW hS hl0 h1 h2
  obtain ⟨ty0, hty, hnm⟩ := cl_ty _ _ _ _ hcl
  have hin := cl_gd _ _ _ _ hcl
  have he : (wsO G N h)[i]? = some (G.2.1 + i, .inr (ci, fs)) := by rw [wsO_at hi, hc]
  have hP := hW.1
  have hKc := hK.2.1
  have hap := va_apart (own := me.1) hts hin ty0 hty hnm hKc hcl
  obtain ⟨r, q0, cell, q1, q2, q3, q4⟩ := hP i _ he
  have hr : r = (Cn, T, n) := Option.some.inj (q0.symm.trans hcl)
  subst hr
  obtain ⟨hSl, hfc, kC, hkC, hkind⟩ := hKc.1 ci _ hcl
  obtain ⟨cf, kf, fi, f, hif, hsl⟩ := hSl k hk
  have hlay := hts _ (hin _ (u_in_lay hk))
  unfold u_lay at hlay
  rw [if_neg (by rw [hfin]; decide)] at hlay
  have hst := (u_facts hfc hkC (u_lays hts hin hk) hif).1
  have h6 := u_store hfc hkC hkind hlay hif hd hn hfit
  refine W.putK hx hb (f := f) ⟨ho, hts _ hl, ⟨_, _, _, hif⟩, hst⟩ (by rw [q2]; exact h6) q1 q3 (by rw [hsl]; exact k2_hasslot (q4 k hk)) rfl rfl d fun H' e1 e2 e3 => ?_
  rw [hsl] at e1 ⊢
  refine kk H' _ cells slots ls (hW.put hi e2 (hP.set (wsO_D G N h) he ⟨_, hcl, t_OB.to (V := updV (vp_V fs) k v) ⟨_, e1, q2, q3, t_set q4 hap hk v⟩ (fun j _ => vp_updV_set hlen v j)⟩ e3)) (hS.put e2 e3 (Nat.le_add_right _ _)) hl0 h1 h2
theorem V_putF {idx ci k i : Nat} {fs fs' : List Value} {v : Value} {ty : FieldType} (C : Cx G me x) (d : decode me.2.1 pc = .ok (.putfield idx, 3)) (hf : FL me.1 idx ci k) (hi : i < N) (hc : h i = .inr (ci, fs)) (hfin : (cT ci k).2.2.2 = true) (hini : me.2.2.2.2.2.2.2 = true) (hdecl : (cT ci k).1 = me.1) (hd : parseFieldDescriptor (cT ci k).2.2.1 = some ty) (hn : narrow ty v = v) (hfit : fits ty v = true) (hlen : k < fs.length) (hfs : fs.set k v = fs') (kk : V G me x (pc + 3) loc st N gf (hs h i (.inr (ci, fs'))) kc ks) : V G me x pc loc (v :: rf G i :: st) N gf h kc ks := by
  obtain ⟨p, e, R, s, m, args, below, meth, c, Z⟩ := x
  obtain ⟨hx, hb, -, -, ho, hts, hK, -, -, -, -, hin2⟩ := C
  obtain ⟨Cn, T, n, hcl, hk, hl⟩ := hf
  rw [cT_of hcl] at hfin hd hdecl
  subst hfs
  intro H locs cells slots ls hW hS hl0 h1 h2
  obtain ⟨ty0, hty, hnm⟩ := cl_ty _ _ _ _ hcl
  have hin := cl_gd _ _ _ _ hcl
  have he : (wsO G N h)[i]? = some (G.2.1 + i, .inr (ci, fs)) := by rw [wsO_at hi, hc]
  have hP := hW.1
  have hKc := hK.2.1
  have hap := va_apart (own := me.1) hts hin ty0 hty hnm hKc hcl
  obtain ⟨r, q0, cell, q1, q2, q3, q4⟩ := hP i _ he
  have hr : r = (Cn, T, n) := Option.some.inj (q0.symm.trans hcl)
  subst hr
  obtain ⟨hSl, hfc, kC, hkC, hkind⟩ := hKc.1 ci _ hcl
  obtain ⟨cf, kf, fi, f, hif, hsl⟩ := hSl k hk
  have hlay := hts _ (hin _ (u_in_lay hk))
  unfold u_lay at hlay
  rw [if_pos hfin] at hlay
  have hst := (u_facts hfc hkC (u_lays hts hin hk) hif).1
  have hcf : m.cls = cf := by
    obtain ⟨_, _, c', _, _, _, -, -, hf', -, -, -, hown2, -⟩ := Cond.laysFinal_spec hlay
    have e1 : c' = cf := by have := hif.symm.trans hf'; simp at this; exact this.1.symm
    rw [hdecl] at hown2
    rw [← e1]; exact Option.some.inj (ho.symm.trans hown2)
  have h6 := u_fits hfc hkC hkind (Or.inr hlay) hif hd hn hfit
  refine W.putFinK hx hb ho (hts _ hl) hif hst hcf (hin2 hini) (by rw [q2]; exact h6) q1 q3 (by rw [hsl]; exact k2_hasslot (q4 k hk)) rfl rfl d fun H' e1 e2 e3 => ?_
  rw [hsl] at e1 ⊢
  refine kk H' _ cells slots ls (hW.put hi e2 (hP.set (wsO_D G N h) he ⟨_, hcl, t_OB.to (V := updV (vp_V fs) k v) ⟨_, e1, q2, q3, t_set q4 hap hk v⟩ (fun j _ => vp_updV_set hlen v j)⟩ e3)) (hS.put e2 e3 (Nat.le_add_right _ _)) hl0 h1 h2
/-- an int array; a char array; a long array; a row of states -/
def aI (G : GT) (n : Nat) (f : Nat → Int) : va_E := .inl (G.2.2.2.1 0, n, .inl (fun k => iI (f k)))
def aC (G : GT) (n : Nat) (f : Nat → Int) : va_E := .inl (G.2.2.2.1 1, n, .inl (fun k => iI (f k)))
def aL (G : GT) (n : Nat) (f : Nat → Int) : va_E := .inl (G.2.2.2.1 2, n, .inr (.inl (fun k => lL (f k))))
def aR (G : GT) (n : Nat) (f : Nat → Option Nat) : va_E := .inl (G.2.2.2.1 2, n, .inr (.inr (.inr (.inr (fun k => (f k).map (fun i => G.2.1 + i))))))
def us {α : Type} (f : Nat → α) (k : Nat) (v : α) : Nat → α := fun j => if j = k then v else f j
theorem us_at {α : Type} (f : Nat → α) (k : Nat) (v : α) : us f k v k = v := if_pos rfl
theorem us_ne {α : Type} (f : Nat → α) {k j : Nat} (v : α) (n : j ≠ k) : us f k v j = f j := if_neg n
theorem V_alen {i n : Nat} {f : Nat → Int} (C : Cx G me x) (d : decode me.2.1 pc = .ok (.arraylength, 1)) (hi : i < N) (hc : h i = aI G n f ∨ h i = aC G n f) (kk : V G me x (pc + 1) loc (.int (iI (n : Int)) :: st) N gf h kc ks) : V G me x pc loc (rf G i :: st) N gf h kc ks := by
  obtain ⟨p, e, R, s, m, args, below, meth, c, Z⟩ := x
  obtain ⟨hx, hb, -, -, ho, hts, hK, -⟩ := C
  intro H locs cells slots ls hW hS hl0 h1 h2
  rcases hc with hc | hc
  · exact va_alen (x := (n, .inl (fun k => iI (f k)))) hx hb hK.2.1 hW.1 i 0 (by rw [wsO_at hi, hc]; rfl) rfl (iI_nat n).symm d (kk H locs cells slots ls hW hS hl0 h1 h2)
  · exact va_alen (x := (n, .inl (fun k => iI (f k)))) hx hb hK.2.1 hW.1 i 1 (by rw [wsO_at hi, hc]; rfl) rfl (iI_nat n).symm d (kk H locs cells slots ls hW hS hl0 h1 h2)
theorem V_alenR {i n : Nat} {f : Nat → Option Nat} (C : Cx G me x) (d : decode me.2.1 pc = .ok (.arraylength, 1)) (hi : i < N) (hc : h i = aR G n f) (kk : V G me x (pc + 1) loc (.int (iI (n : Int)) :: st) N gf h kc ks) : V G me x pc loc (rf G i :: st) N gf h kc ks := by
  obtain ⟨p, e, R, s, m, args, below, meth, c, Z⟩ := x
  obtain ⟨hx, hb, -, -, ho, hts, hK, -⟩ := C
  intro H locs cells slots ls hW hS hl0 h1 h2
  exact va_alen (x := (n, .inr (.inr (.inr (.inr (fun k => (f k).map (fun i => G.2.1 + i))))))) hx hb hK.2.1 hW.1 i 2 (by rw [wsO_at hi, hc]; rfl) rfl (iI_nat n).symm d (kk H locs cells slots ls hW hS hl0 h1 h2)
theorem V_iald {i n : Nat} {f : Nat → Int} (C : Cx G me x) (d : decode me.2.1 pc = .ok (.iaload, 1)) (hi : i < N) (hc : h i = aI G n f) (ha : 0 ≤ a ∧ a < n) (hn : n < 2147483648) (kk : V G me x (pc + 1) loc (.int (iI (f a.toNat)) :: st) N gf h kc ks) : V G me x pc loc (.int (iI a) :: rf G i :: st) N gf h kc ks := by
  obtain ⟨p, e, R, s, m, args, below, meth, c, Z⟩ := x
  obtain ⟨hx, hb, -, -, ho, hts, hK, -⟩ := C
  intro H locs cells slots ls hW hS hl0 h1 h2
  refine va_iald hx hb hK.2.1 hW.1 i 0 (by rw [wsO_at hi, hc]; rfl) rfl (iI_in ha.1 ha.2 hn) d ?_
  rw [iI_clamp ha.1 (by omega)]
  exact kk H locs cells slots ls hW hS hl0 h1 h2
theorem V_cald {i n : Nat} {f : Nat → Int} (C : Cx G me x) (d : decode me.2.1 pc = .ok (.caload, 1)) (hi : i < N) (hc : h i = aC G n f) (ha : 0 ≤ a ∧ a < n) (hn : n < 2147483648) (kk : V G me x (pc + 1) loc (.int (iI (f a.toNat)) :: st) N gf h kc ks) : V G me x pc loc (.int (iI a) :: rf G i :: st) N gf h kc ks := by
  obtain ⟨p, e, R, s, m, args, below, meth, c, Z⟩ := x
  obtain ⟨hx, hb, -, -, ho, hts, hK, -⟩ := C
  intro H locs cells slots ls hW hS hl0 h1 h2
  refine va_cald hx hb hK.2.1 hW.1 i 1 (by rw [wsO_at hi, hc]; rfl) rfl (iI_in ha.1 ha.2 hn) d ?_
  rw [iI_clamp ha.1 (by omega)]
  exact kk H locs cells slots ls hW hS hl0 h1 h2
theorem V_aald {i n j : Nat} {f : Nat → Option Nat} (C : Cx G me x) (d : decode me.2.1 pc = .ok (.aaload, 1)) (hi : i < N) (hc : h i = aR G n f) (ha : 0 ≤ a ∧ a < n) (hn : n < 2147483648) (hj : f a.toNat = some j) (kk : V G me x (pc + 1) loc (rf G j :: st) N gf h kc ks) : V G me x pc loc (.int (iI a) :: rf G i :: st) N gf h kc ks := by
  obtain ⟨p, e, R, s, m, args, below, meth, c, Z⟩ := x
  obtain ⟨hx, hb, -, -, ho, hts, hK, -⟩ := C
  intro H locs cells slots ls hW hS hl0 h1 h2
  have h3 := kk H locs cells slots ls hW hS hl0 h1 h2
  refine va_aldq hx hb hK.2.1 hW.1 i 2 (by rw [wsO_at hi, hc]; rfl) rfl (iI_in ha.1 ha.2 hn) d ?_
  rw [iI_clamp ha.1 (by omega), hj]
  exact h3
theorem us_upd (f : Nat → Int) (k : Nat) (z : Int) : upd (fun j => iI (f j)) k (iI z) = fun j => iI (us f k z j) := by
  funext j
  by_cases e : j = k
  · subst e; simp [upd, us]
  · simp [upd, us, e]
theorem us_updL (f : Nat → Int) (k : Nat) (z : Int) : vp_updL (fun j => lL (f j)) k (lL z) = fun j => lL (us f k z j) := by
  funext j
  by_cases e : j = k
  · subst e; simp [vp_updL, us]
  · simp [vp_updL, us, e]
theorem V_iast {i n : Nat} {f : Nat → Int} (C : Cx G me x) (d : decode me.2.1 pc = .ok (.iastore, 1)) (hi : i < N) (hc : h i = aI G n f) (ha : 0 ≤ a ∧ a < n) (hn : n < 2147483648) (kk : V G me x (pc + 1) loc st N false (hs h i (aI G n (us f a.toNat b))) kc ks) : V G me x pc loc (.int (iI b) :: .int (iI a) :: rf G i :: st) N false h kc ks := by
  obtain ⟨p, e, R, s, m, args, below, meth, c, Z⟩ := x
  obtain ⟨hx, hb, -, -, ho, hts, hK, -⟩ := C
  intro H locs cells slots ls hW hS hl0 h1 h2
  refine va_iast hx hb hK.2.1 hW.1 (wsO_D G N h) hS i 0 (by rw [wsO_at hi, hc]; rfl) rfl (iI_in ha.1 ha.2 hn) d (fun H1 locs1 hP1 _ hS1 => ?_)
  rw [iI_clamp ha.1 (by omega), us_upd] at hP1
  exact kk H1 locs1 cells slots ls (HW.putF hi hP1) hS1 hl0 h1 h2
theorem vp_narC {z : Int} (h1 : 0 ≤ z) (h2 : z < 65536) : vp_nar .char (iI z) = iI z := by
  obtain ⟨m, rfl⟩ := Int.eq_ofNat_of_zero_le h1
  have e : iI (m : Int) = nI m := iI_nat m
  show vp_nar .char (iI (m : Int)) = iI (m : Int)
  rw [e]
  have h3 := (pk_charN (q := m) (by omega)).1
  unfold vp_nar
  rw [h3]
theorem V_cast {i n : Nat} {f : Nat → Int} (C : Cx G me x) (d : decode me.2.1 pc = .ok (.castore, 1)) (hi : i < N) (hc : h i = aC G n f) (ha : 0 ≤ a ∧ a < n) (hn : n < 2147483648) (hb9 : 0 ≤ b ∧ b < 65536) (kk : V G me x (pc + 1) loc st N false (hs h i (aC G n (us f a.toNat b))) kc ks) : V G me x pc loc (.int (iI b) :: .int (iI a) :: rf G i :: st) N false h kc ks := by
  obtain ⟨p, e, R, s, m, args, below, meth, c, Z⟩ := x
  obtain ⟨hx, hb, -, -, ho, hts, hK, -⟩ := C
  intro H locs cells slots ls hW hS hl0 h1 h2
  refine va_cast hx hb hK.2.1 hW.1 (wsO_D G N h) hS i 1 (by rw [wsO_at hi, hc]; rfl) rfl (iI_in ha.1 ha.2 hn) d (fun H1 locs1 hP1 _ hS1 => ?_)
  rw [iI_clamp ha.1 (by omega), vp_narC hb9.1 hb9.2, us_upd] at hP1
  exact kk H1 locs1 cells slots ls (HW.putF hi hP1) hS1 hl0 h1 h2
theorem V_aast {i n j : Nat} {f : Nat → Option Nat} {fs : List Value} (C : Cx G me x) (d : decode me.2.1 pc = .ok (.aastore, 1)) (hi : i < N) (hc : h i = aR G n f) (hj : j < N) (hcj : h j = .inr (2, fs)) (ha : 0 ≤ a ∧ a < n) (hn : n < 2147483648) (kk : V G me x (pc + 1) loc st N gf (hs h i (aR G n (us f a.toNat (some j)))) kc ks) : V G me x pc loc (rf G j :: .int (iI a) :: rf G i :: st) N gf h kc ks := by
  obtain ⟨p, e, R, s, m, args, below, meth, c, Z⟩ := x
  obtain ⟨hx, hb, -, -, ho, hts, hK, -⟩ := C
  intro H locs cells slots ls hW hS hl0 h1 h2
  have hin := iI_in ha.1 ha.2 hn
  have hP := hW.1
  have hKc := hK.2.1
  have hlt : (iI a).toNatClampNeg < n := Nat.not_le.mp fun q => hin (Or.inr q)
  have h0 : ¬ iI a < 0 := fun q => hin (Or.inl q)
  have he : (wsO G N h)[i]? = some (G.2.1 + i, aR G n f) := by rw [wsO_at hi, hc]
  obtain ⟨r', hr', cellV, g1, g2, g3, -⟩ := hP j _ (show (wsO G N h)[j]? = some (G.2.1 + j, .inr (2, fs)) by rw [wsO_at hj, hcj])
  have hcl : vwCl[2]? = some (RX2, TX2, 5) := rfl
  have hcls := (hKc.1 2 _ hcl).2
  obtain ⟨kA, comp, k1, k2, k3, -⟩ := (hKc.2 2 _ (show (tysO G)[2]? = some (G.2.2.2.1 2, .object "ApartSteps$State") from rfl)).2
  have hcomp : comp = G.2.2.1.1 2 := Option.some.inj (k3.symm.trans hcls.1)
  subst hcomp
  obtain ⟨kC, hkC, -⟩ := hcls.2
  refine W.aast hx hb (hP i _ he) (fun q h => by cases h) (fun h => by cases h) k1 k2 rfl hkC ⟨h0, by show _ < (arrV _ _ _).slots.size; rw [arrV_size]; exact hlt⟩ g1 (fun q h => by rw [g3] at h; cases h) (by rw [g2]; exact hkC) (by rw [g2]; exact va_assign hcls) rfl rfl d fun H1 e1 z oq => ?_
  refine kk H1 _ cells slots ls (hW.put hi z (hP.set (wsO_D G N h) he ?_ oq)) (hS.put z oq (Nat.le_add_right _ _)) hl0 h1 h2
  show H1[G.2.1 + i]? = some (vp_cell _ _)
  rw [e1]
  rw [vp_cell_q, vp_cell_q, arrV_store]
  congr 2
  funext q
  rw [iI_clamp ha.1 (by omega)]
  by_cases hq : q = a.toNat
  · subst hq
    simp [updV, us, va_rf]
  · simp [updV, us, hq]
theorem V_gets {idx : Nat} (C : Cx G me x) (d : decode me.2.1 pc = .ok (.getstatic idx, 3)) (hl : Cond.fieldLink me.1 idx "ApartSteps" "WORTHS" "[I" ∈ lw_gd) (kk : V G me x (pc + 3) loc (.ref G.2.2.2.2.1 :: st) N gf h kc ks) : V G me x pc loc st N gf h kc ks := by
  obtain ⟨p, e, R, s, m, args, below, meth, c, Z⟩ := x
  obtain ⟨hx, hb, -, -, ho, hts, hK, -⟩ := C
  intro H locs cells slots ls hW hS hl0 h1 h2
  exact va_gets hx hb hK.2.2.2.1 hS ho (hts _ hl) (fun _ q => q) d (kk H locs cells slots ls hW hS hl0 h1 h2)
theorem V_wlen (C : Cx G me x) (d : decode me.2.1 pc = .ok (.arraylength, 1)) (kk : V G me x (pc + 1) loc (.int (iI 19) :: st) N gf h kc ks) : V G me x pc loc (.ref G.2.2.2.2.1 :: st) N gf h kc ks := by
  obtain ⟨p, e, R, s, m, args, below, meth, c, Z⟩ := x
  obtain ⟨hx, hb, -, -, ho, hts, hK, -⟩ := C
  intro H locs cells slots ls hW hS hl0 h1 h2
  exact va_tlen hx hb hK.2.2.2.2.1 hS rfl d (kk H locs cells slots ls hW hS hl0 h1 h2)
theorem V_wld (C : Cx G me x) (d : decode me.2.1 pc = .ok (.iaload, 1)) (ha : 0 ≤ a ∧ a < 19) (kk : V G me x (pc + 1) loc (.int (iI (wN a.toNat : Nat)) :: st) N gf h kc ks) : V G me x pc loc (.int (iI a) :: .ref G.2.2.2.2.1 :: st) N gf h kc ks := by
  obtain ⟨p, e, R, s, m, args, below, meth, c, Z⟩ := x
  obtain ⟨hx, hb, -, -, ho, hts, hK, -⟩ := C
  intro H locs cells slots ls hW hS hl0 h1 h2
  exact va_ti hx hb hK.2.2.2.2.1 hS (iI_in ha.1 ha.2 (by decide)) (by rw [iI_clamp ha.1 (by omega)]) d (kk H locs cells slots ls hW hS hl0 h1 h2)
/-- the script -/
theorem V_slen {q L : Nat} {xs : Nat → Int32} (C : Cx G me x) (d : decode me.2.1 pc = .ok (.arraylength, 1)) (hX : va_X q L xs x.2.2.2.1 x.2.2.2.1.heap) (hq : q < x.2.2.2.1.heap.size) (hA : ¬ gA G q) (kk : V G me x (pc + 1) loc (.int (iI (L : Int)) :: st) N gf h kc ks) : V G me x pc loc (.ref q :: st) N gf h kc ks := by
  obtain ⟨p, e, R, s, m, args, below, meth, c, Z⟩ := x
  obtain ⟨hx, hb, -, -, ho, hts, hK, -⟩ := C
  intro H locs cells slots ls hW hS hl0 h1 h2
  refine va_slen hx hb hX hq hA hS d ?_
  have h3 := kk H locs cells slots ls hW hS hl0 h1 h2
  rw [iI_nat] at h3
  exact h3
theorem V_sld {q L : Nat} {xs : Nat → Int32} (C : Cx G me x) (d : decode me.2.1 pc = .ok (.iaload, 1)) (hX : va_X q L xs x.2.2.2.1 x.2.2.2.1.heap) (hq : q < x.2.2.2.1.heap.size) (hA : ¬ gA G q) (ha : 0 ≤ a ∧ a < L) (hL : L < 2147483648) (kk : V G me x (pc + 1) loc (.int (xs a.toNat) :: st) N gf h kc ks) : V G me x pc loc (.int (iI a) :: .ref q :: st) N gf h kc ks := by
  obtain ⟨p, e, R, s, m, args, below, meth, c, Z⟩ := x
  obtain ⟨hx, hb, -, -, ho, hts, hK, -⟩ := C
  intro H locs cells slots ls hW hS hl0 h1 h2
  refine va_sld hx hb hX hq hA hS (iI_in ha.1 ha.2 hL) d ?_
  rw [iI_clamp ha.1 (by omega)]
  exact kk H locs cells slots ls hW hS hl0 h1 h2
end VR3
