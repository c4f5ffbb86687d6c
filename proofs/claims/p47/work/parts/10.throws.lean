/-! throws of the class's own, and their catching -/
def lw_bad : List Cond := (lw_cast.map fun q => Cond.castable q q) ++ lw_decl.map fun y => Cond.declares y
abbrev lw_ex : List String := ["java/lang/RuntimeException", "java/lang/Exception"]
theorem bad_ok {G : GT} {s : State} {args : Array Value} (hK : KK G s) : ∀ w ∈ lw_bad, w.before args s = true := by
  obtain ⟨-, -, -, -, -, -, -, -, -, h9, h10, -⟩ := hK
  intro w hw
  unfold lw_bad at hw
  rcases List.mem_append.mp hw with h | h
  · obtain ⟨q, hq, rfl⟩ := List.mem_map.mp h
    exact va_Nw.use rfl (h9 q hq)
  · obtain ⟨q, hq, rfl⟩ := List.mem_map.mp h
    exact va_Nw.use rfl (h10 q hq)
/-- 'throw new X(text)' can be made in this class -/
def TH (own : String) (ik ic : Nat) (X : String) : Prop := Bundle.fit X = true ∧ Cond.classLink own ik X ∈ lw_gd ∧ Cond.initialized X ∈ lw_gd ∧ (∀ w ∈ (vx_atS own ic X lw_ex).filter goodWord, w ∈ lw_gd) ∧ (∀ w ∈ (vx_atS own ic X lw_ex).filter (fun w => !goodWord w), w ∈ lw_bad) ∧ (∀ w ∈ Cond.classLink own ik X :: Cond.initialized X :: vx_atS own ic X lw_ex, vx_ot w = true)
theorem lw_tbl_in {ws : List Cond} (h1 : (ws.all fun w => decide (w ∈ lw_tbl)) = true) (h2 : ws.all goodWord = true) : ∀ w ∈ ws, w ∈ lw_gd := by
  intro w hw
  have h3 := List.all_eq_true.mp h1 w hw
  exact gd_mem (of_decide_eq_true h3) (List.all_eq_true.mp h2 w hw)
set_option maxRecDepth 100000 in
theorem TH_IOOBE : TH RX5 191 195 "java/lang/IndexOutOfBoundsException" := ⟨by decide +kernel, nX5_191, lw_tbl_in (ws := [Cond.initialized "java/lang/IndexOutOfBoundsException"]) (by decide +kernel) (by decide +kernel) _ List.mem_cons_self, lw_tbl_in (by decide +kernel) (by decide +kernel), by decide +kernel, by decide +kernel⟩
set_option maxRecDepth 100000 in
theorem TH_IAE : TH RX5 104 108 "java/lang/IllegalArgumentException" := ⟨by decide +kernel, nX5_104, lw_tbl_in (ws := [Cond.initialized "java/lang/IllegalArgumentException"]) (by decide +kernel) (by decide +kernel) _ List.mem_cons_self, lw_tbl_in (by decide +kernel) (by decide +kernel), by decide +kernel, by decide +kernel⟩
set_option maxRecDepth 100000 in
theorem TH_ISE : TH RX5 76 80 "java/lang/IllegalStateException" := ⟨by decide +kernel, nX5_76, lw_tbl_in (ws := [Cond.initialized "java/lang/IllegalStateException"]) (by decide +kernel) (by decide +kernel) _ List.mem_cons_self, lw_tbl_in (by decide +kernel) (by decide +kernel), by decide +kernel, by decide +kernel⟩
section THROW
variable {G : GT} {me : MeT} {x : CxT} {pc : Nat} {loc : List (Option Value)} {st : List Value} {N : Nat} {gf : Bool} {h h' : Hp} {kc ks : Nat}
theorem V_throw {ik is ic : Nat} {E text : String} (j : Nat) (C : Cx G me x) (hT : TH me.1 ik ic E) (hs : lw_strs[j]? = some (me.1, is, text)) (hh : me.2.2.2.2.2.2.1 = [])
    (d0 : decode me.2.1 pc = .ok (.new ik, 3)) (d3 : decode me.2.1 (pc + 3) = .ok (.dup, 1)) (d4 : decode me.2.1 (pc + 4) = .ok (.ldc is, 2)) (d6 : decode me.2.1 (pc + 6) = .ok (.invokespecial ic, 3)) (d9 : decode me.2.1 (pc + 9) = .ok (.athrow, 1))
    (hf : 6 ≤ me.2.2.2.2.1) (hlo : (st.map fun v => v.category).sum + 82 ≤ me.2.2.2.2.2.1) (hZ : ZX G x E N h') (e : h = h') (hkc : 1 ≤ kc) (hks : 6 ≤ ks) : V G me x pc loc st N gf h kc ks := by
  subst e
  obtain ⟨p, e, R, s, m, args, below, meth, c, Z⟩ := x
  obtain ⟨hx, hb, hml, -, ho, hts, hK, hlk, hfr, hlc, htb, -⟩ := C
  obtain ⟨t1, t2, t3, t4, t5, t6⟩ := hT
  intro H locs cells slots ls hW hS hl h1 h2
  have hZ : Z = vx_MQ below (fun _ _ _ _ => False) (XcM G E N h) args s R.cells R.slots (gA G) := hZ
  subst hZ
  have hb2 := bad_ok (args := args) hK
  obtain ⟨g0, g1, g2, g3, g4, g5, g6, g7, -⟩ := hK
  refine vx_throwS (names := lw_ex) (own := me.1) (text := text) (sa := G.2.2.2.2.2.1 j) hx hb g0 ho t1 (by decide +kernel) (hts _ t2) (hts _ t3) (g7 j _ hs) (vx_hat (fun w hw => hts _ (t4 w hw)) t5 hb2) t6 g5 g6 hS (hl.1.trans hml.symm) d0 d3 d4 d6 d9 (fun z hz => ?_) (by rw [hfr]; exact Nat.lt_of_lt_of_le (by decide) hf) (by rw [hlc]; exact Nat.le_trans (by show _ + (13 * (2 + 1) + 43) ≤ _; omega) hlo) (by omega) (by omega) hlk (fun t _ q1 q2 => ?_) hS.2.2 (by omega) (by omega)
  · rw [htb, hh] at hz
    cases hz
  · refine ⟨⟨rfl, hW.1.kept (fun k q e => q2 q.1 (hW.1 k q e).lt), Nat.le_trans hW.2.1 q1, fun g => by cases g⟩, Nat.le_trans hS.1 q1, fun q z1 z2 => ?_⟩
    rw [q2 q (Nat.lt_of_lt_of_le z1 hS.1)]
    exact hS.2.1 q z1 z2
theorem V_throwW {ik is ic : Nat} {E text : String} (j : Nat) (C : Cx G me x) (hT : TH me.1 ik ic E) (hs : lw_strs[j]? = some (me.1, is, text)) (hh : me.2.2.2.2.2.2.1 = [])
    (d0 : decode me.2.1 pc = .ok (.new ik, 3)) (d3 : decode me.2.1 (pc + 3) = .ok (.dup, 1)) (d4 : decode me.2.1 (pc + 4) = .ok (.ldc_w is, 3)) (d7 : decode me.2.1 (pc + 7) = .ok (.invokespecial ic, 3)) (d10 : decode me.2.1 (pc + 10) = .ok (.athrow, 1))
    (hf : 6 ≤ me.2.2.2.2.1) (hlo : (st.map fun v => v.category).sum + 82 ≤ me.2.2.2.2.2.1) (hZ : ZX G x E N h') (e : h = h') (hkc : 1 ≤ kc) (hks : 6 ≤ ks) : V G me x pc loc st N gf h kc ks := by
  subst e
  obtain ⟨p, e, R, s, m, args, below, meth, c, Z⟩ := x
  obtain ⟨hx, hb, hml, -, ho, hts, hK, hlk, hfr, hlc, htb, -⟩ := C
  obtain ⟨t1, t2, t3, t4, t5, t6⟩ := hT
  intro H locs cells slots ls hW hS hl h1 h2
  have hZ : Z = vx_MQ below (fun _ _ _ _ => False) (XcM G E N h) args s R.cells R.slots (gA G) := hZ
  subst hZ
  have hb2 := bad_ok (args := args) hK
  obtain ⟨g0, g1, g2, g3, g4, g5, g6, g7, -⟩ := hK
  refine vx_throwSW (names := lw_ex) (own := me.1) (text := text) (sa := G.2.2.2.2.2.1 j) hx hb g0 ho t1 (by decide +kernel) (hts _ t2) (hts _ t3) (g7 j _ hs) (vx_hat (fun w hw => hts _ (t4 w hw)) t5 hb2) t6 g5 g6 hS (hl.1.trans hml.symm) d0 d3 d4 d7 d10 (fun z hz => ?_) (by rw [hfr]; exact Nat.lt_of_lt_of_le (by decide) hf) (by rw [hlc]; exact Nat.le_trans (by show _ + (13 * (2 + 1) + 43) ≤ _; omega) hlo) (by omega) (by omega) hlk (fun t _ q1 q2 => ?_) hS.2.2 (by omega) (by omega)
  · rw [htb, hh] at hz
    cases hz
  · refine ⟨⟨rfl, hW.1.kept (fun k q e => q2 q.1 (hW.1 k q e).lt), Nat.le_trans hW.2.1 q1, fun g => by cases g⟩, Nat.le_trans hS.1 q1, fun q z1 z2 => ?_⟩
    rw [q2 q (Nat.lt_of_lt_of_le z1 hS.1)]
    exact hS.2.1 q z1 z2
/-- caught by the row j of the method's own table; the rows ahead name other classes -/
theorem VX_catch {E : String} (C : Cx G me x) (pre : List (Nat × Nat × Nat × Nat)) (q : Nat × Nat × Nat × Nat) (suf : List (Nat × Nat × Nat × Nat)) (hh : me.2.2.2.2.2.2.1 = pre ++ q :: suf)
    (hpre : ∀ z ∈ pre, ∃ nm : String, z.2.2.2 ≠ 0 ∧ Cond.classLink me.1 z.2.2.2 nm ∈ lw_gd ∧ (E, nm) ∈ lw_nc) (h1 : q.1 ≤ pc ∧ pc < q.2.1) (h0 : q.2.2.2 ≠ 0) (hl : Cond.classLink me.1 q.2.2.2 E ∈ lw_gd) (hE : E ∈ lw_cast)
    (k : ∀ a : Nat, V G me x q.2.2.1 loc [.ref a] N false h kc ks) : VX G me x E pc loc st N h kc ks := by
  obtain ⟨p, e, R, s, m, args, below, meth, c, Z⟩ := x
  obtain ⟨hx, hb, hml, hr, ho, hts, hK, hlk, -, -, htb, -⟩ := C
  intro H locs cells slots ls a ce hW hS hl0 g1 g2 hce hv hcl
  have hcast := hK.2.2.2.2.2.2.2.2.2.1 E hE
  have hnc := hK.2.2.2.2.2.2.2.2.2.2.2.1
  have hsp : c.exceptionTable.toList = tableOf pre ++ ⟨q.1, q.2.1, q.2.2.1, q.2.2.2⟩ :: tableOf suf := by
    rw [htb, hh]
    simp [tableOf]
  refine vx_catch (name := E) ho (tableOf pre) _ (tableOf suf) hsp (fun z hz => ?_) ?_ h0 (hts _ hl) (va_Nw.use rfl hcast) hce hv hcl (k a H locs cells slots ls hW hS hl0 g1 g2)
  · obtain ⟨z0, hz0, rfl⟩ := List.mem_map.mp hz
    obtain ⟨nm, n0, n1, n2⟩ := hpre z0 hz0
    exact Or.inr ⟨n0, nm, hts _ n1, hnc _ n2⟩
  · simp [covers, h1.1, h1.2]
end THROW
