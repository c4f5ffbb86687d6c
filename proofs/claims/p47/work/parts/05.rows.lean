/-! ===== the abstract walk: the world is a row of cells at base, base + 1, ..; a call takes and gives the whole world ===== -/
/-- launch, base, classes and slots, the array classes (0 int, 1 char, 2 long, 3 states), the static row, the strings -/
abbrev GT : Type := Launch × Nat × va_G × (Nat → ClassId) × Nat × (Nat → Nat) × Nat × Nat × (Nat → Int32)
abbrev Hp : Type := Nat → va_E
def gA (G : GT) : Nat → Prop := fun q => G.2.1 ≤ q
def rf (G : GT) (i : Nat) : Value := .ref (G.2.1 + i)
def tysO (G : GT) : List (ClassId × FieldType) := [(G.2.2.2.1 0, .int), (G.2.2.2.1 1, .char), (G.2.2.2.1 2, .object "ApartSteps$State")]
def wsO (G : GT) (N : Nat) (h : Hp) : va_W := (List.range N).map (fun i => (G.2.1 + i, h i))
def hs (h : Hp) (a : Nat) (c : va_E) : Hp := fun q => if q = a then c else h q
theorem hs_at (h : Hp) (a : Nat) (c : va_E) : hs h a c a = c := if_pos rfl
theorem hs_ne (h : Hp) {a b : Nat} (c : va_E) (n : b ≠ a) : hs h a c b = h b := if_neg n
def wN : Nat → Nat
  | 0 => 1
  | 1 => 2
  | n + 2 => wN n + wN (n + 1)
def lw_cast : List String := ["java/lang/IndexOutOfBoundsException", "java/lang/IllegalArgumentException", "java/lang/IllegalStateException"]
def lw_nc : List (String × String) := [("java/lang/IllegalArgumentException", "java/lang/IndexOutOfBoundsException"), ("java/lang/IllegalStateException", "java/lang/IndexOutOfBoundsException"), ("java/lang/IllegalStateException", "java/lang/IllegalArgumentException")]
def lw_decl : List MethodName := [⟨"java/lang/RuntimeException", "<init>", "()V"⟩, ⟨"java/lang/RuntimeException", "<init>", "(Ljava/lang/String;)V"⟩, ⟨"java/lang/Exception", "<init>", "()V"⟩, ⟨"java/lang/Exception", "<init>", "(Ljava/lang/String;)V"⟩, ⟨"java/lang/Throwable", "<init>", "()V"⟩, ⟨"java/lang/Throwable", "<init>", "(Ljava/lang/String;)V"⟩]
/-- what is known of the start of a method, at every level -/
def KK (G : GT) (s : State) : Prop :=
  G.1.stackTraces = false ∧ va_K G.2.2.1 vwCl (tysO G) s ∧ G.2.1 ≤ s.heap.size ∧
  va_Z "ApartSteps" "WORTHS" "[I" (.ref G.2.2.2.2.1) (gA G) s s.heap ∧ va_T .int G.2.2.2.2.1 19 (fun k => .int (iI (wN k : Nat))) (gA G) s s.heap ∧
  vx_Zq Bundle.tN "UNASSIGNED_STACK" Bundle.steD (gA G) s s.heap ∧ vx_Zq Bundle.tN "SUPPRESSED_SENTINEL" Bundle.listD (gA G) s s.heap ∧
  (∀ (j : Nat) (q : String × Nat × String), lw_strs[j]? = some q → vk_R q.1 q.2.1 q.2.2 (G.2.2.2.2.2.1 j) s) ∧
  (∀ q ∈ lw_nest, va_Nw (.methodLinkNest q.1 q.2.1 q.2.2.1 q.2.2.2) s) ∧ (∀ q ∈ lw_cast, va_Nw (.castable q q) s) ∧ (∀ y ∈ lw_decl, va_Nw (.declares y) s) ∧ (∀ q ∈ lw_nc, va_Nc q.1 q.2 s) ∧ va_AO "ApartSteps$State" s ∧ va_X G.2.2.2.2.2.2.1 G.2.2.2.2.2.2.2.1 G.2.2.2.2.2.2.2.2 s s.heap ∧ G.2.2.2.2.2.2.1 < s.heap.size ∧ ¬ gA G G.2.2.2.2.2.2.1
theorem KK.moved {G : GT} {s U : State} (h : KK G s) (hW : s.WarmedH U.vm) (hz : s.heap.size ≤ U.heap.size) (hq : ∀ q : Nat, q < s.heap.size → ¬ gA G q → U.heap[q]? = s.heap[q]?) : KK G U := by
  obtain ⟨h0, h1, h2, h3, h4, h5, h6, h7, h8, h9, h10, h11, h12, h13, h14, h15⟩ := h
  exact ⟨h0, va_K.moved hW.alike h1, Nat.le_trans h2 hz, (va_Z.moved hW.alike h3).kept hq, (va_T.moved hW.alike h4).kept hq, (vx_Zq.moved hW.alike h5).kept hq, (vx_Zq.moved hW.alike h6).kept hq,
    fun j q e => vk_R.warm hW (h7 j q e), fun q e => va_Nw.warmM hW (h8 q e), fun q e => va_Nw.warmC hW (h9 q e), fun y e => va_Nw.warmD hW (h10 y e), fun q e => va_Nc.moved hW.alike (h11 q e), va_AO.moved hW.alike h12, (va_X.moved hW.alike h13).kept (hq _ h14 h15), Nat.lt_of_lt_of_le h14 hz, h15⟩
theorem KK.calling {G : GT} {U : State} {g : JFrame} {mk : MethodId} {a : Array Value} (h : KK G U) : KK G (U.calling g mk a) :=
  h.moved (State.WarmedH.refl U) (Nat.le_refl _) (fun _ _ _ => rfl)
/-- the world: N cells at base and on; gf: nothing else has come since -/
def HW (G : GT) (N : Nat) (gf : Bool) (h : Hp) (H : Heap) : Prop := va_P G.2.2.1 vwCl (wsO G N h) H ∧ G.2.1 + N ≤ H.size ∧ (gf = true → H.size = G.2.1 + N)
theorem wsO_at {G : GT} {N i : Nat} {h : Hp} (hi : i < N) : (wsO G N h)[i]? = some (G.2.1 + i, h i) := by
  unfold wsO
  rw [List.getElem?_map, List.getElem?_range hi]
  rfl
theorem wsO_of {G : GT} {N k : Nat} {h : Hp} {q : Nat × va_E} (e : (wsO G N h)[k]? = some q) : k < N ∧ q = (G.2.1 + k, h k) := by
  have hl : k < (wsO G N h).length := (List.getElem?_eq_some_iff.mp e).1
  have hk : k < N := by unfold wsO at hl; simpa using hl
  rw [wsO_at hk] at e
  exact ⟨hk, (Option.some.inj e).symm⟩
theorem wsO_set {G : GT} {N i : Nat} {h : Hp} {c : va_E} (hi : i < N) : (wsO G N h).set i (G.2.1 + i, c) = wsO G N (hs h i c) := by
  apply List.ext_getElem?
  intro k
  by_cases hk : k < N
  · rw [wsO_at hk]
    by_cases e : k = i
    · subst e
      rw [List.getElem?_set_self (by unfold wsO; simpa using hk), hs_at]
    · rw [List.getElem?_set_ne (Ne.symm e), wsO_at hk, hs_ne h c e]
  · have l1 : ((wsO G N h).set i (G.2.1 + i, c)).length ≤ k := by unfold wsO; simp; omega
    have l2 : (wsO G N (hs h i c)).length ≤ k := by unfold wsO; simp; omega
    rw [List.getElem?_eq_none l1, List.getElem?_eq_none l2]
theorem wsO_push {G : GT} {N : Nat} {h : Hp} {c : va_E} : wsO G N h ++ [(G.2.1 + N, c)] = wsO G (N + 1) (hs h N c) := by
  have e : wsO G N h = wsO G N (hs h N c) := by
    unfold wsO
    apply List.map_congr_left
    intro i hi
    rw [hs_ne h c (Nat.ne_of_lt (List.mem_range.mp hi))]
  rw [e]
  unfold wsO
  rw [List.range_succ, List.map_append]
  simp [hs_at]
theorem wsO_D (G : GT) (N : Nat) (h : Hp) : va_D (gA G) (wsO G N h) := by
  refine ⟨fun i j p q hi hj e => ?_, fun k q hk => ?_⟩
  · obtain ⟨-, rfl⟩ := wsO_of hi
    obtain ⟨-, rfl⟩ := wsO_of hj
    have e2 : G.2.1 + i = G.2.1 + j := e
    omega
  · obtain ⟨-, rfl⟩ := wsO_of hk
    exact Nat.le_add_right _ _
/-- the locals, by their places -/
def LH (ls : Array Slot) (nL : Nat) (loc : List (Option Value)) : Prop := ls.size = nL ∧ lv_wf ls ∧ ∀ (i : Nat) (v : Value), loc[i]? = some (some v) → ls[i]? = some (.val v)
def lvl (loc : List (Option Value)) : List (Nat × Value) := loc.zipIdx.filterMap (fun q => q.1.map (fun v => (q.2, v)))
theorem lvl_mem {loc : List (Option Value)} {i : Nat} {v : Value} : (i, v) ∈ lvl loc ↔ loc[i]? = some (some v) := by
  unfold lvl
  rw [List.mem_filterMap]
  constructor
  · rintro ⟨⟨o, j⟩, h1, h2⟩
    have h3 := List.mem_zipIdx_iff_getElem?.mp h1
    cases o with
    | none => cases h2
    | some w =>
      have h4 : (j, w) = (i, v) := Option.some.inj h2
      cases h4
      exact h3
  · intro h
    exact ⟨(some v, i), List.mem_zipIdx_iff_getElem?.mpr h, rfl⟩
theorem LH.to {ls : Array Slot} {nL : Nat} {loc : List (Option Value)} (h : LH ls nL loc) : lv_has ls nL (lvl loc) := ⟨h.1, h.2.1, fun q hq => h.2.2 q.1 q.2 (lvl_mem.mp hq)⟩
theorem LH.of {ls : Array Slot} {nL : Nat} {lv : List (Nat × Value)} {loc : List (Option Value)} (h : lv_has ls nL lv) (hm : ∀ (i : Nat) (v : Value), loc[i]? = some (some v) → (i, v) ∈ lv) : LH ls nL loc := ⟨h.1, h.2.1, fun i v q => h.2.2 (i, v) (hm i v q)⟩
/-- no long or double ends at the place i -/
def nc2 (loc : List (Option Value)) (i : Nat) : Bool := match i with
  | 0 => true
  | j + 1 => match loc[j]? with
    | some (some w) => w.category == 1
    | _ => true
theorem nc2_ne {loc : List (Option Value)} {i j : Nat} {w : Value} (hz : nc2 loc i = true) (hj : loc[j]? = some (some w)) : ¬ (j + 1 = i ∧ w.category = 2) := by
  rintro ⟨rfl, h2⟩
  simp only [nc2, hj, beq_iff_eq] at hz
  omega
theorem set1_mem {loc : List (Option Value)} {i : Nat} {v : Value} (hz : nc2 loc i = true) (j : Nat) (w : Value) (hj : (loc.set i (some v))[j]? = some (some w)) : (j, w) ∈ (i, v) :: (lvl loc).filter (fun q => !(q.1 == i) && !(q.1 + 1 == i && q.2.category == 2)) := by
  by_cases e : j = i
  · subst e
    have hl : j < loc.length := by
      have := (List.getElem?_eq_some_iff.mp hj).1
      simpa using this
    rw [List.getElem?_set_self hl] at hj
    cases hj
    exact List.mem_cons_self
  · rw [List.getElem?_set_ne (Ne.symm e)] at hj
    refine List.mem_cons_of_mem _ (List.mem_filter.mpr ⟨lvl_mem.mpr hj, ?_⟩)
    have h2 := nc2_ne hz hj
    simp only [Bool.and_eq_true, Bool.not_eq_true', beq_eq_false_iff_ne, ne_eq]
    refine ⟨e, ?_⟩
    simp only [Bool.and_eq_false_iff, beq_eq_false_iff_ne, ne_eq]
    by_cases h3 : j + 1 = i
    · exact Or.inr (fun h4 => h2 ⟨h3, h4⟩)
    · exact Or.inl h3
theorem set2_mem {loc : List (Option Value)} {i : Nat} {v : Value} (hz : nc2 loc i = true) (j : Nat) (w : Value) (hj : ((loc.set i (some v)).set (i + 1) none)[j]? = some (some w)) : (j, w) ∈ (i, v) :: (lvl loc).filter (fun q => !(q.1 == i) && (!(q.1 == i + 1) && !(q.1 + 1 == i && q.2.category == 2))) := by
  have e1 : j ≠ i + 1 := by
    rintro rfl
    by_cases hl : i + 1 < (loc.set i (some v)).length
    · rw [List.getElem?_set_self hl] at hj
      cases hj
    · rw [List.getElem?_eq_none (by simp at hl ⊢; omega)] at hj
      cases hj
  rw [List.getElem?_set_ne (Ne.symm e1)] at hj
  by_cases e : j = i
  · subst e
    have hl : j < loc.length := by
      have := (List.getElem?_eq_some_iff.mp hj).1
      simpa using this
    rw [List.getElem?_set_self hl] at hj
    cases hj
    exact List.mem_cons_self
  · rw [List.getElem?_set_ne (Ne.symm e)] at hj
    refine List.mem_cons_of_mem _ (List.mem_filter.mpr ⟨lvl_mem.mpr hj, ?_⟩)
    have h2 := nc2_ne hz hj
    simp only [Bool.and_eq_true, Bool.not_eq_true', beq_eq_false_iff_ne, ne_eq]
    refine ⟨e, e1, ?_⟩
    simp only [Bool.and_eq_false_iff, beq_eq_false_iff_ne, ne_eq]
    by_cases h3 : j + 1 = i
    · exact Or.inr (fun h4 => h2 ⟨h3, h4⟩)
    · exact Or.inl h3
/-- where a walk stands: the program, the environment, the room, the start, the method, .., what is owed at the end -/
abbrev CxT : Type := Program × Env × Room × State × MethodId × Array Value × List Frame × Method × Code × (State → Prop)
def Cx (G : GT) (me : MeT) (x : CxT) : Prop := match x with
  | (p, _, R, s, m, args, _, meth, c, _) => p.tables.exec = Jvm.exec ∧ c.code = me.2.1 ∧ c.maxLocals = me.2.2.1 ∧ meth.sig.returnType = me.2.2.2.1 ∧ s.vm.findClass me.1 = some m.cls ∧ (∀ w ∈ lw_gd, w.before args s = true) ∧ KK G s ∧ meth.locks = false ∧ R.frames = me.2.2.2.2.1 ∧ R.locals = me.2.2.2.2.2.1 ∧ c.exceptionTable.toList = tableOf me.2.2.2.2.2.2.1 ∧ (me.2.2.2.2.2.2.2 = true → meth.name = "<init>")
def V (G : GT) (me : MeT) (x : CxT) (pc : Nat) (loc : List (Option Value)) (st : List Value) (N : Nat) (gf : Bool) (h : Hp) (kc ks : Nat) : Prop := match x with
  | (p, e, R, s, m, args, below, meth, c, Z) => ∀ (H : Heap) (locs : List Loc) (cells slots : Nat) (ls : Array Slot), HW G N gf h H → va_S (gA G) s.heap H locs → LH ls me.2.2.1 loc → cells + kc ≤ R.cells → slots + ks ≤ R.slots → W p G.1 e R s m args below meth c H locs cells slots Z (F0 m pc ls st)
/-- the method has thrown, or been thrown at: an exception of the class E stands over its frame -/
def VX (G : GT) (me : MeT) (x : CxT) (E : String) (pc : Nat) (loc : List (Option Value)) (rest : List Value) (N : Nat) (h : Hp) (kc ks : Nat) : Prop := match x with
  | (p, e, R, s, m, args, below, meth, c, Z) => ∀ (H : Heap) (locs : List Loc) (cells slots : Nat) (ls : Array Slot) (q : Addr) (ce : Cell), HW G N false h H → va_S (gA G) s.heap H locs → LH ls me.2.2.1 loc → cells + kc ≤ R.cells → slots + ks ≤ R.slots → H[q]? = some ce → ce.vm = .none → s.vm.findClass E = some ce.cls → vx_W p G.1 e R s m args below meth c H locs cells slots Z (F0 m pc ls rest) q
theorem V_lift {G : GT} {me : MeT} {x : CxT} {pc pc' : Nat} {loc : List (Option Value)} {st st' : List Value} {N : Nat} {gf : Bool} {h : Hp} {kc ks : Nat} (C : Cx G me x)
    (f : ∀ {p : Program} {e : Env} {R : Room} {s : State} {m : MethodId} {args : Array Value} {below : List Frame} {meth : Method} {c : Code} {Z : State → Prop} {H : Heap} {locs : List Loc} {cells slots : Nat} {ls : Array Slot}, p.tables.exec = Jvm.exec → c.code = me.2.1 → W p G.1 e R s m args below meth c H locs cells slots Z (F0 m pc' ls st') → W p G.1 e R s m args below meth c H locs cells slots Z (F0 m pc ls st))
    (k : V G me x pc' loc st' N gf h kc ks) : V G me x pc loc st N gf h kc ks := by
  obtain ⟨p, e, R, s, m, args, below, meth, c, Z⟩ := x
  obtain ⟨hx, hb, -⟩ := C
  exact fun H locs cells slots ls hW hS hl h1 h2 => f hx hb (k H locs cells slots ls hW hS hl h1 h2)
section VR
variable {G : GT} {me : MeT} {x : CxT} {pc : Nat} {loc : List (Option Value)} {st : List Value} {N : Nat} {gf : Bool} {h : Hp} {kc ks : Nat} {a b : Int}
theorem V_iconst {n : Int} (C : Cx G me x) (d : decode me.2.1 pc = .ok (.iconst n, 1)) (k : V G me x (pc + 1) loc (.int (iI n) :: st) N gf h kc ks) : V G me x pc loc st N gf h kc ks := V_lift C (fun hx hb k => lv_iconst hx hb d rfl k) k
theorem V_bipush {n : Int} (C : Cx G me x) (d : decode me.2.1 pc = .ok (.bipush n, 2)) (hn : (Int8.ofInt n).toInt32 = iI n) (k : V G me x (pc + 2) loc (.int (iI n) :: st) N gf h kc ks) : V G me x pc loc st N gf h kc ks := V_lift C (fun hx hb k => lv_bipush hx hb d hn k) k
theorem V_sipush {n : Int} (C : Cx G me x) (d : decode me.2.1 pc = .ok (.sipush n, 3)) (hn : (Int16.ofInt n).toInt32 = iI n) (k : V G me x (pc + 3) loc (.int (iI n) :: st) N gf h kc ks) : V G me x pc loc st N gf h kc ks := V_lift C (fun hx hb k => lv_sipush hx hb d hn k) k
theorem V_lconst {n : Fin 2} {z : Int} (C : Cx G me x) (d : decode me.2.1 pc = .ok (.lconst n, 1)) (hn : Int64.ofNat (n : Nat) = lL z) (k : V G me x (pc + 1) loc (.long (lL z) :: st) N gf h kc ks) : V G me x pc loc st N gf h kc ks := V_lift C (fun hx hb k => lv_lconst hx hb d hn k) k
theorem V_dconst1 (C : Cx G me x) (d : decode me.2.1 pc = .ok (.dconst 1, 1)) (k : V G me x (pc + 1) loc (.double 0x3ff0000000000000 :: st) N gf h kc ks) : V G me x pc loc st N gf h kc ks := V_lift C (fun hx hb k => lv_dconst1 hx hb d k) k
theorem V_ldc {idx : Nat} {n : Int} {v : Int32} (C : Cx G me x) (d : decode me.2.1 pc = .ok (.ldc idx, 2)) (hk : Cond.constant me.1 idx v ∈ lw_gd) (hn : v = iI n) (k : V G me x (pc + 2) loc (.int (iI n) :: st) N gf h kc ks) : V G me x pc loc st N gf h kc ks := by
  obtain ⟨p, e, R, s, m, args, below, meth, c, Z⟩ := x
  obtain ⟨hx, hb, -, -, ho, hts, -⟩ := C
  subst hn
  exact fun H locs cells slots ls hW hS hl h1 h2 => lv_ldc hx hb ho (hts _ hk) d (k H locs cells slots ls hW hS hl h1 h2)
theorem V_ldc2 {idx : Nat} {n : Int} {v : Int64} (C : Cx G me x) (d : decode me.2.1 pc = .ok (.ldc2_w idx, 3)) (hk : Cond.constantLong me.1 idx v ∈ lw_gd) (hn : v = lL n) (k : V G me x (pc + 3) loc (.long (lL n) :: st) N gf h kc ks) : V G me x pc loc st N gf h kc ks := by
  obtain ⟨p, e, R, s, m, args, below, meth, c, Z⟩ := x
  obtain ⟨hx, hb, -, -, ho, hts, -⟩ := C
  subst hn
  exact fun H locs cells slots ls hW hS hl h1 h2 => lv_ldc2 hx hb ho (hts _ hk) d (k H locs cells slots ls hW hS hl h1 h2)
theorem V_ldc2d {idx : Nat} {v : UInt64} (C : Cx G me x) (d : decode me.2.1 pc = .ok (.ldc2_w idx, 3)) (hk : Cond.constantDouble me.1 idx v ∈ lw_gd) (k : V G me x (pc + 3) loc (.double v :: st) N gf h kc ks) : V G me x pc loc st N gf h kc ks := by
  obtain ⟨p, e, R, s, m, args, below, meth, c, Z⟩ := x
  obtain ⟨hx, hb, -, -, ho, hts, -⟩ := C
  exact fun H locs cells slots ls hW hS hl h1 h2 => lv_ldc2d hx hb ho (hts _ hk) d (k H locs cells slots ls hW hS hl h1 h2)
theorem V_iadd (C : Cx G me x) (d : decode me.2.1 pc = .ok (.iadd, 1)) (k : V G me x (pc + 1) loc (.int (iI (a + b)) :: st) N gf h kc ks) : V G me x pc loc (.int (iI b) :: .int (iI a) :: st) N gf h kc ks := V_lift C (fun hx hb k => lv_iadd hx hb d (by rw [iI_add]; exact k)) k
theorem V_isub (C : Cx G me x) (d : decode me.2.1 pc = .ok (.isub, 1)) (k : V G me x (pc + 1) loc (.int (iI (a - b)) :: st) N gf h kc ks) : V G me x pc loc (.int (iI b) :: .int (iI a) :: st) N gf h kc ks := V_lift C (fun hx hb k => lv_isub hx hb d (by rw [iI_sub]; exact k)) k
theorem V_imul (C : Cx G me x) (d : decode me.2.1 pc = .ok (.imul, 1)) (k : V G me x (pc + 1) loc (.int (iI (a * b)) :: st) N gf h kc ks) : V G me x pc loc (.int (iI b) :: .int (iI a) :: st) N gf h kc ks := V_lift C (fun hx hb k => lv_imul hx hb d (by rw [iI_mul]; exact k)) k
theorem V_idiv (C : Cx G me x) (d : decode me.2.1 pc = .ok (.idiv, 1)) (ha : 0 ≤ a ∧ a < 2147483648) (hb0 : 0 < b ∧ b < 2147483648) (k : V G me x (pc + 1) loc (.int (iI (a / b)) :: st) N gf h kc ks) : V G me x pc loc (.int (iI b) :: .int (iI a) :: st) N gf h kc ks :=
  V_lift C (fun hx hb k => lv_idiv hx hb d (fun e => by have := congrArg Int32.toInt e; rw [iI_toInt (by omega) (by omega)] at this; have z : (0 : Int32).toInt = 0 := rfl; omega) (by rw [iI_div ha hb0]; exact k)) k
theorem V_irem (C : Cx G me x) (d : decode me.2.1 pc = .ok (.irem, 1)) (ha : 0 ≤ a ∧ a < 2147483648) (hb0 : 0 < b ∧ b < 2147483648) (k : V G me x (pc + 1) loc (.int (iI (a % b)) :: st) N gf h kc ks) : V G me x pc loc (.int (iI b) :: .int (iI a) :: st) N gf h kc ks :=
  V_lift C (fun hx hb k => lv_irem hx hb d (fun e => by have := congrArg Int32.toInt e; rw [iI_toInt (by omega) (by omega)] at this; have z : (0 : Int32).toInt = 0 := rfl; omega) (by rw [iI_rem ha hb0]; exact k)) k
theorem V_ishr (C : Cx G me x) (d : decode me.2.1 pc = .ok (.ishr, 1)) (m s : Nat) (ha : a = m) (hb0 : b = s) (hm : m < 2147483648) (hs : s < 32) (k : V G me x (pc + 1) loc (.int (iI ((m >>> s : Nat) : Int)) :: st) N gf h kc ks) : V G me x pc loc (.int (iI b) :: .int (iI a) :: st) N gf h kc ks := by
  subst ha; subst hb0
  exact V_lift C (fun hx hb k => lv_ishr hx hb d (by rw [iI_shr hm hs]; exact k)) k
theorem V_iushr (C : Cx G me x) (d : decode me.2.1 pc = .ok (.iushr, 1)) (m s : Nat) (ha : a = m) (hb0 : b = s) (hm : m < 2147483648) (hs : s < 32) (k : V G me x (pc + 1) loc (.int (iI ((m >>> s : Nat) : Int)) :: st) N gf h kc ks) : V G me x pc loc (.int (iI b) :: .int (iI a) :: st) N gf h kc ks := by
  subst ha; subst hb0
  exact V_lift C (fun hx hb k => lv_iushr hx hb d (iI_ushr hm hs) k) k
theorem V_ishl (C : Cx G me x) (d : decode me.2.1 pc = .ok (.ishl, 1)) (m s : Nat) (ha : a = m) (hb0 : b = s) (hm : m <<< s < 4294967296) (hs : s < 32) (k : V G me x (pc + 1) loc (.int (iI ((m <<< s : Nat) : Int)) :: st) N gf h kc ks) : V G me x pc loc (.int (iI b) :: .int (iI a) :: st) N gf h kc ks := by
  subst ha; subst hb0
  exact V_lift C (fun hx hb k => lv_ishl hx hb d (by rw [iI_shl hm hs]; exact k)) k
theorem V_iand (C : Cx G me x) (d : decode me.2.1 pc = .ok (.iand, 1)) (m s : Nat) (ha : a = m) (hb0 : b = s) (k : V G me x (pc + 1) loc (.int (iI ((m &&& s : Nat) : Int)) :: st) N gf h kc ks) : V G me x pc loc (.int (iI b) :: .int (iI a) :: st) N gf h kc ks := by
  subst ha; subst hb0
  exact V_lift C (fun hx hb k => lv_iand hx hb d (by rw [iI_and]; exact k)) k
theorem V_ior (C : Cx G me x) (d : decode me.2.1 pc = .ok (.ior, 1)) (m s : Nat) (ha : a = m) (hb0 : b = s) (k : V G me x (pc + 1) loc (.int (iI ((m ||| s : Nat) : Int)) :: st) N gf h kc ks) : V G me x pc loc (.int (iI b) :: .int (iI a) :: st) N gf h kc ks := by
  subst ha; subst hb0
  exact V_lift C (fun hx hb k => lv_ior hx hb d (by rw [iI_or]; exact k)) k
theorem V_ladd (C : Cx G me x) (d : decode me.2.1 pc = .ok (.ladd, 1)) (k : V G me x (pc + 1) loc (.long (lL (a + b)) :: st) N gf h kc ks) : V G me x pc loc (.long (lL b) :: .long (lL a) :: st) N gf h kc ks := V_lift C (fun hx hb k => lv_ladd hx hb d (by rw [lL_add]; exact k)) k
theorem V_lsub (C : Cx G me x) (d : decode me.2.1 pc = .ok (.lsub, 1)) (k : V G me x (pc + 1) loc (.long (lL (a - b)) :: st) N gf h kc ks) : V G me x pc loc (.long (lL b) :: .long (lL a) :: st) N gf h kc ks := V_lift C (fun hx hb k => lv_lsub hx hb d (by rw [lL_sub]; exact k)) k
theorem V_lmul (C : Cx G me x) (d : decode me.2.1 pc = .ok (.lmul, 1)) (k : V G me x (pc + 1) loc (.long (lL (a * b)) :: st) N gf h kc ks) : V G me x pc loc (.long (lL b) :: .long (lL a) :: st) N gf h kc ks := V_lift C (fun hx hb k => lv_lmul hx hb d (by rw [lL_mul]; exact k)) k
theorem V_i2l (C : Cx G me x) (d : decode me.2.1 pc = .ok (.i2l, 1)) (ha : -2147483648 ≤ a ∧ a < 2147483648) (k : V G me x (pc + 1) loc (.long (lL a) :: st) N gf h kc ks) : V G me x pc loc (.int (iI a) :: st) N gf h kc ks := V_lift C (fun hx hb k => lv_i2l hx hb d (iI_i2l ha) k) k
theorem V_i2d (C : Cx G me x) (d : decode me.2.1 pc = .ok (.i2d, 1)) {w : Int32} (k : V G me x (pc + 1) loc (.double (FP.i2d w) :: st) N gf h kc ks) : V G me x pc loc (.int w :: st) N gf h kc ks := V_lift C (fun hx hb k => lv_i2d hx hb d k) k
theorem V_d2l (C : Cx G me x) (d : decode me.2.1 pc = .ok (.d2l, 1)) {w : UInt64} (k : V G me x (pc + 1) loc (.long (FP.d2l w) :: st) N gf h kc ks) : V G me x pc loc (.double w :: st) N gf h kc ks := V_lift C (fun hx hb k => lv_d2l hx hb d k) k
theorem V_ddiv (C : Cx G me x) (d : decode me.2.1 pc = .ok (.ddiv, 1)) {w z : UInt64} (hn : vf_n64 (FP.ddiv w z)) (k : V G me x (pc + 1) loc (.double (FP.ddiv w z) :: st) N gf h kc ks) : V G me x pc loc (.double z :: .double w :: st) N gf h kc ks := V_lift C (fun hx hb k => lv_ddiv hx hb d hn k) k
theorem V_dmul (C : Cx G me x) (d : decode me.2.1 pc = .ok (.dmul, 1)) {w z : UInt64} (hn : vf_n64 (FP.dmul w z)) (k : V G me x (pc + 1) loc (.double (FP.dmul w z) :: st) N gf h kc ks) : V G me x pc loc (.double z :: .double w :: st) N gf h kc ks := V_lift C (fun hx hb k => lv_dmul hx hb d hn k) k
theorem V_dsub (C : Cx G me x) (d : decode me.2.1 pc = .ok (.dsub, 1)) {w z : UInt64} (hn : vf_n64 (FP.dsub w z)) (k : V G me x (pc + 1) loc (.double (FP.dsub w z) :: st) N gf h kc ks) : V G me x pc loc (.double z :: .double w :: st) N gf h kc ks := V_lift C (fun hx hb k => lv_dsub hx hb d hn k) k
theorem V_dcmp (C : Cx G me x) {op : CmpOp} (d : decode me.2.1 pc = .ok (.dcmp op, 1)) {w z : UInt64} (k : V G me x (pc + 1) loc (.int (Op.cmpValue (FP.dcmp w z) op) :: st) N gf h kc ks) : V G me x pc loc (.double z :: .double w :: st) N gf h kc ks := V_lift C (fun hx hb k => lv_dcmp hx hb d k) k
theorem V_lcmp (C : Cx G me x) (d : decode me.2.1 pc = .ok (.lcmp, 1)) {w z : Int64} (k : V G me x (pc + 1) loc (.int (lg_cmp w z) :: st) N gf h kc ks) : V G me x pc loc (.long z :: .long w :: st) N gf h kc ks := V_lift C (fun hx hb k => W.lcmp hx hb d k) k
theorem V_dup (C : Cx G me x) (d : decode me.2.1 pc = .ok (.dup, 1)) {v : Value} (hv : v.category = 1) (k : V G me x (pc + 1) loc (v :: v :: st) N gf h kc ks) : V G me x pc loc (v :: st) N gf h kc ks := V_lift C (fun hx hb k => lv_dup hx hb d hv k) k
theorem V_dup2 (C : Cx G me x) (d : decode me.2.1 pc = .ok (.dup2, 1)) {v w : Value} (hv : v.category = 1) (hw : w.category = 1) (k : V G me x (pc + 1) loc (v :: w :: v :: w :: st) N gf h kc ks) : V G me x pc loc (v :: w :: st) N gf h kc ks := V_lift C (fun hx hb k => lv_dup2_11 hx hb d hv hw k) k
theorem V_pop (C : Cx G me x) (d : decode me.2.1 pc = .ok (.pop, 1)) {v : Value} (hv : v.category = 1) (k : V G me x (pc + 1) loc st N gf h kc ks) : V G me x pc loc (v :: st) N gf h kc ks := V_lift C (fun hx hb k => lv_pop hx hb d hv k) k
theorem V_goto (C : Cx G me x) {off : Int} {tgt : Nat} (d : decode me.2.1 pc = .ok (.goto off, 3)) (ht : (pc : Int) + off = (tgt : Int)) (k : V G me x tgt loc st N gf h kc ks) : V G me x pc loc st N gf h kc ks := V_lift C (fun hx hb k => lv_goto hx hb d ht k) k
end VR
