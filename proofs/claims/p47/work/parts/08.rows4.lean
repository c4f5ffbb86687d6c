/-! new cells -/
theorem HW.push {G : GT} {N : Nat} {h : Hp} {H H1 : Heap} {c : va_E} (hW : HW G N true h H) (z : H1.size = H.size + 1) (hk : ∀ q : Nat, q < H.size → H1[q]? = H[q]?) (hc : va_at G.2.2.1 vwCl (H.size, c) H1) : HW G (N + 1) true (hs h N c) H1 := by
  obtain ⟨hP, h2, h3⟩ := hW
  have h4 := h3 rfl
  refine ⟨?_, by omega, fun _ => by omega⟩
  rw [← wsO_push]
  refine (hP.kept (fun k q e => hk q.1 (hP k q e).lt)).app (fun k q e => ?_)
  have hz : k < 1 := (List.getElem?_eq_some_iff.mp e).1
  rw [show k = 0 by omega] at e
  cases e
  rw [← h4]
  exact hc
section VR4
variable {G : GT} {me : MeT} {x : CxT} {pc : Nat} {loc : List (Option Value)} {st : List Value} {N : Nat} {gf : Bool} {h : Hp} {kc ks : Nat} {a b : Int}
theorem V_new {idx ci n : Nat} {Cn : String} {T : u_T} {fs : List Value} (C : Cx G me x) (d : decode me.2.1 pc = .ok (.new idx, 3)) (hl : Cond.classLink me.1 idx Cn ∈ lw_gd) (hin : Cond.instantiable Cn n ∈ lw_gd ∧ Cond.initialized Cn ∈ lw_gd) (hc : vwCl[ci]? = some (Cn, T, n)) (ty : Nat → FieldType) (hty : ∀ k, k < n → parseFieldDescriptor (T k).2.2.1 = some (ty k)) (hfs : ∀ j, j < n → defaultValue (ty j) = vp_V fs j) (kk : V G me x (pc + 3) loc (rf G N :: st) (N + 1) true (hs h N (.inr (ci, fs))) kc ks) : V G me x pc loc st N true h (kc + 1) (ks + n) := by
  obtain ⟨p, e, R, s, m, args, below, meth, c, Z⟩ := x
  obtain ⟨hx, hb, -, -, ho, hts, hK, -⟩ := C
  intro H locs cells slots ls hW hS hl0 h1 h2
  have hsz : H.size = G.2.1 + N := hW.2.2 rfl
  have hKn := hK.2.1.1 ci _ hc
  refine W.newcK hx hb ho (hts _ hl) (hts _ hin.1) (hts _ hin.2) rfl d (by omega) (by omega) hKn.2.1 rfl fun H1 kC hkC e1 z1 o1 => ?_
  have h3 := kk H1 locs (cells + 1) (slots + n) ls (hW.push z1 o1 ⟨_, hc, (u_born ty hts (cl_gd _ _ _ _ hc) hKn hkC e1 hty).to hfs⟩) ⟨Nat.le_trans hS.1 (by omega), fun q q1 q2 => (o1 q (Nat.lt_of_lt_of_le q1 hS.1)).trans (hS.2.1 q q1 q2), hS.2.2⟩ hl0 (by omega) (by omega)
  unfold rf at h3
  rw [← hsz] at h3
  exact h3
theorem V_newI {t : ArrayType} {ty : FieldType} {j n : Nat} {c0 : va_E} {x0 : vp_A} (C : Cx G me x) (d : decode me.2.1 pc = .ok (.newarray t, 2)) (ht : newarray.typeOf t = ty) (hl : Cond.arrayClass ty ∈ lw_gd) (hj : (tysO G)[j]? = some (G.2.2.2.1 j, ty)) (hobj : ∀ U cA, va_RA U cA ty → U.vm.findClass ("[" ++ ty.toString) = some cA) (hc0 : c0 = .inl (G.2.2.2.1 j, x0)) (hx0 : ∀ cA : ClassId, vp_cell cA x0 = arrV cA n (fun _ => defaultValue ty)) (ha : a = n) (hn : n < 1000000) (hcb : componentBytes ty ≤ 8) (kk : V G me x (pc + 2) loc (rf G N :: st) (N + 1) true (hs h N c0) kc ks) : V G me x pc loc (.int (iI a) :: st) N true h (kc + 1) (ks + n) := by
  subst ht; subst hc0; subst ha
  obtain ⟨p, e, R, s, m, args, below, meth, c, Z⟩ := x
  obtain ⟨hx, hb, -, -, ho, hts, hK, -⟩ := C
  intro H locs cells slots ls hW hS hl0 h1 h2
  have hsz : H.size = G.2.1 + N := hW.2.2 rfl
  have e9 : (iI (n : Int)).toNatClampNeg = n := by rw [iI_clamp (by omega) (by omega)]; omega
  refine va_newaK hx hb (hts _ hl) rfl d rfl (fun q => ?_) e9 ?_ (by omega) (by omega) rfl fun H1 cA e1 z1 o1 hAr hNm => ?_
  · have q2 : iI (n : Int) < iI 0 := q
    rw [iI_lt (by omega) (by omega)] at q2
    omega
  · exact Nat.le_trans (Nat.mul_le_mul (Nat.le_of_lt hn) hcb) (by decide)
  · have hRA := (hK.2.1.2 j _ hj).2
    have hcA : cA = G.2.2.2.1 j := Option.some.inj (hNm.symm.trans (hobj _ _ hRA))
    subst hcA
    have h3 := kk H1 locs (cells + 1) (slots + n) ls (hW.push z1 o1 (by show H1[H.size]? = some (vp_cell _ _); rw [hx0]; exact e1)) ⟨Nat.le_trans hS.1 (by omega), fun q q1 q2 => (o1 q (Nat.lt_of_lt_of_le q1 hS.1)).trans (hS.2.1 q q1 q2), hS.2.2⟩ hl0 (by omega) (by omega)
    unfold rf at h3
    rw [← hsz] at h3
    exact h3
theorem V_newint {n : Nat} (C : Cx G me x) (d : decode me.2.1 pc = .ok (.newarray .int, 2)) (ha : a = n) (hn : n < 1000000) (kk : V G me x (pc + 2) loc (rf G N :: st) (N + 1) true (hs h N (aI G n (fun _ => 0))) kc ks) : V G me x pc loc (.int (iI a) :: st) N true h (kc + 1) (ks + n) :=
  V_newI (x0 := (n, .inl (fun _ => 0))) C d rfl k_arr_int (show (tysO G)[0]? = _ from rfl) (fun U cA q => q) rfl (fun cA => rfl) ha hn (by decide) kk
theorem V_newchar {n : Nat} (C : Cx G me x) (d : decode me.2.1 pc = .ok (.newarray .char, 2)) (ha : a = n) (hn : n < 1000000) (kk : V G me x (pc + 2) loc (rf G N :: st) (N + 1) true (hs h N (aC G n (fun _ => 0))) kc ks) : V G me x pc loc (.int (iI a) :: st) N true h (kc + 1) (ks + n) :=
  V_newI (x0 := (n, .inl (fun _ => 0))) C d rfl k_arr_char (show (tysO G)[1]? = _ from rfl) (fun U cA q => q) rfl (fun cA => rfl) ha hn (by decide) kk
theorem V_anew {idx n : Nat} (C : Cx G me x) (d : decode me.2.1 pc = .ok (.anewarray idx, 3)) (hl : Cond.classLink me.1 idx "ApartSteps$State" ∈ lw_gd) (ha : a = n) (hn : n < 1000000) (kk : V G me x (pc + 3) loc (rf G N :: st) (N + 1) true (hs h N (aR G n (fun _ => none))) kc ks) : V G me x pc loc (.int (iI a) :: st) N true h (kc + 1) (ks + n) := by
  subst ha
  obtain ⟨p, e, R, s, m, args, below, meth, c, Z⟩ := x
  obtain ⟨hx, hb, -, -, ho, hts, hK, -⟩ := C
  intro H locs cells slots ls hW hS hl0 h1 h2
  have hsz : H.size = G.2.1 + N := hW.2.2 rfl
  have e9 : (iI (n : Int)).toNatClampNeg = n := by rw [iI_clamp (by omega) (by omega)]; omega
  have hAO := hK.2.2.2.2.2.2.2.2.2.2.2.2.1
  refine W.anew hx hb ho (hts _ hl) (va_AO.use hAO) rfl d rfl (fun q => ?_) (by rw [e9]; omega) (by omega) (by rw [e9]; omega) fun cA kA comp f1 f2 f3 f4 => ?_
  · have q2 : iI (n : Int) < iI 0 := q
    rw [iI_lt (by omega) (by omega)] at q2
    omega
  · rw [e9]
    generalize hH1 : H.push ({ cls := cA, slots := Array.replicate n .null, vm := .none } : Cell) = H1
    have z1 : H1.size = H.size + 1 := by rw [← hH1, Array.size_push]
    have e1 : H1[H.size]? = some (arrV cA n (fun _ => .null)) := by rw [← hH1, Array.getElem?_push_size, ← arrV_new]
    have o1 : ∀ q : Nat, q < H.size → H1[q]? = H[q]? := fun q hq => by rw [← hH1, Array.getElem?_push, if_neg (Nat.ne_of_lt hq)]
    obtain ⟨kA2, comp2, r1, r2, r3, r4⟩ := (hK.2.1.2 2 _ (show (tysO G)[2]? = some (G.2.2.2.1 2, .object "ApartSteps$State") from rfl)).2
    have hcA : cA = G.2.2.2.1 2 := Option.some.inj (f1.symm.trans r4)
    subst hcA
    have h3 := kk H1 locs (cells + 1) (slots + n) ls (hW.push z1 o1 (by show H1[H.size]? = some (vp_cell _ _); rw [vp_cell_q]; exact e1)) ⟨Nat.le_trans hS.1 (by omega), fun q q1 q2 => (o1 q (Nat.lt_of_lt_of_le q1 hS.1)).trans (hS.2.1 q q1 q2), hS.2.2⟩ hl0 (by omega) (by omega)
    unfold rf at h3
    rw [← hsz] at h3
    exact h3
/-- Object's constructor -/
theorem V_obj {idx i : Nat} (C : Cx G me x) (d : decode me.2.1 pc = .ok (.invokespecial idx, 3)) (hl : Cond.methodLink me.1 idx objectInit ∈ lw_gd) (hf : 1 ≤ me.2.2.2.2.1) (hlo : (st.map fun v => v.category).sum + 12 ≤ me.2.2.2.2.2.1) (kk : V G me x (pc + 3) loc st N gf h kc ks) : V G me x pc loc (rf G i :: st) N gf h kc ks := by
  obtain ⟨p, e, R, s, m, args, below, meth, c, Z⟩ := x
  obtain ⟨hx, hb, hml, -, ho, hts, hK, -, hfr, hlc, -⟩ := C
  intro H locs cells slots ls hW hS hl0 h1 h2
  refine W.objInit hx hb ho (hts _ hl) (hts _ k_objI) (hts _ k_objC) rfl (by rw [hml]; exact hl0.1) rfl d (by rw [hfr]; exact hf) ?_ (kk H locs cells slots ls hW hS hl0 h1 h2)
  rw [hlc]
  simpa using hlo
/-- fewer is known: other cells may have come -/
theorem V_gf (k : V G me x pc loc st N false h kc ks) : V G me x pc loc st N true h kc ks := by
  obtain ⟨p, e, R, s, m, args, below, meth, c, Z⟩ := x
  exact fun H locs cells slots ls hW hS hl h1 h2 => k H locs cells slots ls ⟨hW.1, hW.2.1, fun g => by cases g⟩ hS hl h1 h2
theorem V_less {kc' ks' : Nat} (h1 : kc' ≤ kc) (h2 : ks' ≤ ks) (k : V G me x pc loc st N gf h kc' ks') : V G me x pc loc st N gf h kc ks := by
  obtain ⟨p, e, R, s, m, args, below, meth, c, Z⟩ := x
  exact fun H locs cells slots ls hW hS hl g1 g2 => k H locs cells slots ls hW hS hl (by omega) (by omega)
end VR4
/-! ===== contracts ===== -/
def PcM (G : GT) (as : List Value) (N : Nat) (gf : Bool) (h : Hp) : Array Value → State → Prop := va_Pc as (fun U => KK G U ∧ HW G N gf h U.heap)
def QcM (G : GT) (v : Option Value) (N : Nat) (gf : Bool) (h : Hp) : Array Value → State → Outcome → State → Prop := fun _ st oc t => (oc = .returned v ∧ HW G N gf h t.heap) ∧ va_F (gA G) st t
def XcM (G : GT) (E : String) (N : Nat) (h : Hp) : String → State → State → Prop := fun E' st t => (E' = E ∧ HW G N false h t.heap) ∧ va_F (gA G) st t
def rmO (me : MeT) (kc ks : Nat) : Room := { frames := me.2.2.2.2.1, cells := kc, slots := ks, locals := me.2.2.2.2.2.1 }
abbrev wsY (y : MethodName) (me : MeT) : List Cond := Cond.code y me.2.1 me.2.2.1 me.2.2.2.1 :: lw_gd
abbrev wsH (y : MethodName) (me : MeT) : List Cond := Cond.codeWith y me.2.1 me.2.2.1 me.2.2.2.1 me.2.2.2.2.2.2.1 :: lw_gd
/-- called with these arguments in this world, with room for kc cells and ks slots, the method returns v and leaves that world -/
def Ct (G : GT) (y : MethodName) (me : MeT) (as : List Value) (N : Nat) (gf : Bool) (h : Hp) (kc ks : Nat) (v : Option Value) (N' : Nat) (gf' : Bool) (h' : Hp) : Prop :=
  Met G.1 y (wsY y me) (rmO me kc ks) (PcM G as N gf h) (QcM G v N' gf' h') kc ks (gA G)
/-- .. it throws an E -/
def CtX (G : GT) (y : MethodName) (me : MeT) (as : List Value) (N : Nat) (gf : Bool) (h : Hp) (kc ks : Nat) (E : String) (h' : Hp) : Prop :=
  vx_Met G.1 y (wsY y me) (rmO me kc ks) (PcM G as N gf h) (fun _ _ _ _ => False) (XcM G E N h') kc ks (gA G)
/-- .. a method with a table of its own, that returns -/
def CtH (G : GT) (y : MethodName) (me : MeT) (as : List Value) (N : Nat) (gf : Bool) (h : Hp) (kc ks : Nat) (v : Option Value) (N' : Nat) (gf' : Bool) (h' : Hp) : Prop :=
  vx_Met G.1 y (wsH y me) (rmO me kc ks) (PcM G as N gf h) (QcM G v N' gf' h') (fun _ _ _ => False) kc ks (gA G)
/-- what is owed at the end -/
def ZM (G : GT) (x : CxT) (v : Option Value) (N : Nat) (gf : Bool) (h : Hp) : Prop := match x with
  | (_, _, R, s, _, args, below, _, _, Z) => Z = MQ below (QcM G v N gf h) args s R.cells R.slots (gA G) ∨ Z = vx_MQ below (QcM G v N gf h) (fun _ _ _ => False) args s R.cells R.slots (gA G)
def ZX (G : GT) (x : CxT) (E : String) (N : Nat) (h : Hp) : Prop := match x with
  | (_, _, R, s, _, args, below, _, _, Z) => Z = vx_MQ below (fun _ _ _ _ => False) (XcM G E N h) args s R.cells R.slots (gA G)
def Rk (x : CxT) (kc ks : Nat) : Prop := x.2.2.1.cells = kc ∧ x.2.2.1.slots = ks
theorem FB (G : GT) (as : List Value) (N : Nat) (gf : Bool) (h : Hp) : FrameBlind (PcM G as N gf h) := fun _ _ _ _ q => ⟨q.1, q.2.1.calling, q.2.2⟩
theorem gd_GoodIn {y : MethodName} {me : MeT} {np : Nat} (k : YKx y me np) : GoodIn lw_gd (wsY y me) := by
  intro w hw
  have hm : w ∈ lw_gd := by
    rcases List.mem_cons.mp hw with e | e
    · rw [e]; exact k.1
    · exact e
  exact ⟨hm, good_of_word (gd_good hm)⟩
section BODY
variable {G : GT} {y : MethodName} {me : MeT} {np : Nat} {as : List Value} {N N' : Nat} {gf gf' : Bool} {h h' : Hp} {kc ks : Nat} {v : Option Value}
theorem Ct_of (k : YKx y me np) (hini : me.2.2.2.2.2.2.2 = true → y.name = "<init>") (loc : List (Option Value)) (hloc : lvl loc = lv_args 0 as) (hlen : (lg_sl as).length ≤ me.2.2.1)
    (body : ∀ x : CxT, Cx G me x → ZM G x v N' gf' h' → V G me x 0 loc [] N gf h kc ks) : Ct G y me as N gf h kc ks v N' gf' h' := by
  obtain ⟨k1, k2, k3, k4, k5, k6⟩ := k
  refine Met.ofW (cc := me.2.1) (maxL := me.2.2.1) (ret := me.2.2.2.1) k4 rfl ?_
  intro p e s m args below meth c s₁ B hml hv
  obtain ⟨rfl, hK, hW⟩ := hv
  have hts : ∀ w ∈ wsY y me, w.before as.toArray s = true := atoms_spec (ws := wsY y me) B.pre
  have hown : s.vm.findClass me.1 = some m.cls := by rw [k5]; exact findClass_of_methodNamed B.named
  have htb : c.exceptionTable.toList = tableOf me.2.2.2.2.2.2.1 := by
    obtain ⟨meth9, c9, q1, q2, -, -, -, -, q7, -⟩ := Cond.code_spec B.named (hts _ List.mem_cons_self)
    cases Option.some.inj (q1.symm.trans B.method)
    cases Option.some.inj (q2.symm.trans (Stand.of_body B).code)
    rw [k6, Array.isEmpty_iff.mp q7]
    rfl
  have hb := body (p, e, (headSpec (wsY y me) (rmO me kc ks)).room, s, m, as.toArray, below, meth, c, MQ below (QcM G v N' gf' h') as.toArray s kc ks (gA G))
    ⟨B.exec, B.bytes, hml, B.returns, hown, fun w hw => hts w (List.mem_cons_of_mem _ hw), hK, B.notSynchronized, rfl, rfl, htb, fun q => (name_of_methodNamed B.named B.method).1.trans (hini q)⟩ (Or.inl rfl)
  rw [lg_entry_eq]
  exact hb s.heap [] 0 0 _ hW va_S.rf (LH.of (lv_entry as hlen) (fun i w q => by rw [← hloc]; exact lvl_mem.mpr q)) (by show 0 + kc ≤ kc; omega) (by show 0 + ks ≤ ks; omega)
theorem CtX_of {E : String} (k : YKx y me np) (hini : me.2.2.2.2.2.2.2 = true → y.name = "<init>") (loc : List (Option Value)) (hloc : lvl loc = lv_args 0 as) (hlen : (lg_sl as).length ≤ me.2.2.1)
    (body : ∀ x : CxT, Cx G me x → ZX G x E N h' → V G me x 0 loc [] N gf h kc ks) : CtX G y me as N gf h kc ks E h' := by
  obtain ⟨k1, k2, k3, k4, k5, k6⟩ := k
  refine vx_ofW (cc := me.2.1) (maxL := me.2.2.1) (ret := me.2.2.2.1) k4 rfl ?_
  intro p e s m args below meth c s₁ B hml htb0 hv
  obtain ⟨rfl, hK, hW⟩ := hv
  have hts : ∀ w ∈ wsY y me, w.before as.toArray s = true := atoms_spec (ws := wsY y me) B.pre
  have hown : s.vm.findClass me.1 = some m.cls := by rw [k5]; exact findClass_of_methodNamed B.named
  have htb : c.exceptionTable.toList = tableOf me.2.2.2.2.2.2.1 := by
    rw [k6]
    cases hq : c.exceptionTable.toList with
    | nil => rfl
    | cons z zs => exact absurd (htb0 z (by rw [hq]; exact List.mem_cons_self)) id
  have hb := body (p, e, (headSpec (wsY y me) (rmO me kc ks)).room, s, m, as.toArray, below, meth, c, vx_MQ below (fun _ _ _ _ => False) (XcM G E N h') as.toArray s kc ks (gA G))
    ⟨B.exec, B.bytes, hml, B.returns, hown, fun w hw => hts w (List.mem_cons_of_mem _ hw), hK, B.notSynchronized, rfl, rfl, htb, fun q => (name_of_methodNamed B.named B.method).1.trans (hini q)⟩ rfl
  rw [lg_entry_eq]
  exact hb s.heap [] 0 0 _ hW va_S.rf (LH.of (lv_entry as hlen) (fun i w q => by rw [← hloc]; exact lvl_mem.mpr q)) (by show 0 + kc ≤ kc; omega) (by show 0 + ks ≤ ks; omega)
end BODY
section ENDS
variable {G : GT} {me : MeT} {x : CxT} {pc : Nat} {loc : List (Option Value)} {N : Nat} {gf : Bool} {h h' : Hp} {kc ks : Nat} {a r : Int}
theorem V_ret {v : Option Value} {st : List Value} (C : Cx G me x) (hZ : ZM G x v N gf h)
    (f : ∀ {p : Program} {e : Env} {R : Room} {s : State} {m : MethodId} {args : Array Value} {below : List Frame} {meth : Method} {c : Code} {H : Heap} {locs : List Loc} {cells slots : Nat} {ls : Array Slot}, p.tables.exec = Jvm.exec → c.code = me.2.1 → meth.sig.returnType = me.2.2.2.1 → meth.locks = false → (∀ t : State, t.heap = H → s.WarmedH t.vm → QcM G v N gf h args s (.returned v) t) → (∀ q ∈ locs, gA G q.base) → W p G.1 e R s m args below meth c H locs cells slots (MQ below (QcM G v N gf h) args s cells slots (gA G)) (F0 m pc ls st)) : V G me x pc loc st N gf h kc ks := by
  obtain ⟨p, e, R, s, m, args, below, meth, c, Z⟩ := x
  obtain ⟨hx, hb, hml, hr, ho, hts, hK, hlk, -⟩ := C
  intro H locs cells slots ls hW hS hl h1 h2
  have hq : ∀ t : State, t.heap = H → s.WarmedH t.vm → QcM G v N gf h args s (.returned v) t := fun t ht _ => ⟨⟨rfl, by rw [ht]; exact hW⟩, hS.F ht⟩
  rcases hZ with rfl | rfl
  · exact W.widen (by omega) (by omega) (f hx hb hr hlk hq hS.2.2)
  · exact vx_ret (W.widen (by omega) (by omega) (f hx hb hr hlk hq hS.2.2))
theorem V_iret (C : Cx G me x) (d : decode me.2.1 pc = .ok (.ireturn, 1)) (hr : me.2.2.2.1 = some .int) (hZ : ZM G x (some (.int (iI r))) N gf h') (e1 : a = r) (e2 : h = h') : V G me x pc loc [.int (iI a)] N gf h kc ks := by
  subst e1; subst e2
  exact V_ret C hZ (fun hx hb h3 hlk hq hf => W.iret hx hb (h3.trans hr) hq hf d hlk)
theorem V_zret (C : Cx G me x) (d : decode me.2.1 pc = .ok (.ireturn, 1)) (hr : me.2.2.2.1 = some .boolean) (hZ : ZM G x (some (.int (iI r))) N gf h') (e0 : r = 0 ∨ r = 1) (e1 : a = r) (e2 : h = h') : V G me x pc loc [.int (iI a)] N gf h kc ks := by
  subst e1; subst e2
  exact V_ret C hZ (fun hx hb h3 hlk hq hf => W.zret hx hb (h3.trans hr) (by rcases e0 with rfl | rfl <;> decide) hq hf d hlk)
theorem V_vret (C : Cx G me x) (d : decode me.2.1 pc = .ok (.return_, 1)) (hr : me.2.2.2.1 = none) (hZ : ZM G x none N gf h') (e2 : h = h') : V G me x pc loc [] N gf h kc ks := by
  subst e2
  exact V_ret C hZ (fun hx hb h3 hlk hq hf => W.vret hx hb (h3.trans hr) hq hf d hlk)
theorem V_lret (C : Cx G me x) (d : decode me.2.1 pc = .ok (.lreturn, 1)) (hr : me.2.2.2.1 = some .long) (hZ : ZM G x (some (.long (lL r))) N gf h') (e1 : a = r) (e2 : h = h') : V G me x pc loc [.long (lL a)] N gf h kc ks := by
  subst e1; subst e2
  exact V_ret C hZ (fun hx hb h3 hlk hq hf => W.lret hx hb (h3.trans hr) hq hf d hlk)
theorem V_dret {w z : UInt64} (C : Cx G me x) (d : decode me.2.1 pc = .ok (.dreturn, 1)) (hr : me.2.2.2.1 = some .double) (hZ : ZM G x (some (.double z)) N gf h') (e1 : w = z) (e2 : h = h') : V G me x pc loc [.double w] N gf h kc ks := by
  subst e1; subst e2
  exact V_ret C hZ (fun hx hb h3 hlk hq hf => W.dret hx hb (h3.trans hr) hq hf d hlk)
theorem VX_out {E : String} {st : List Value} (C : Cx G me x) (hh : me.2.2.2.2.2.2.1 = []) (hZ : ZX G x E N h) : VX G me x E pc loc st N h kc ks := by
  obtain ⟨p, e, R, s, m, args, below, meth, c, Z⟩ := x
  obtain ⟨hx, hb, hml, hr, ho, hts, hK, hlk, -, -, htb, -⟩ := C
  intro H locs cells slots ls q ce hW hS hl h1 h2 hce hv hcl
  have hZ : Z = vx_MQ below (fun _ _ _ _ => False) (XcM G E N h) args s R.cells R.slots (gA G) := hZ
  subst hZ
  refine vx_out (fun z hz => ?_) hlk hce hv hcl (fun t ht _ => ⟨⟨rfl, by rw [ht]; exact hW⟩, hS.F ht⟩) hS.2.2 (by omega) (by omega)
  rw [htb, hh] at hz
  cases hz
end ENDS
