/-! locals -/
section VR2
variable {G : GT} {me : MeT} {x : CxT} {pc : Nat} {loc : List (Option Value)} {st : List Value} {N : Nat} {gf : Bool} {h : Hp} {kc ks : Nat} {a b : Int}
theorem V_loc {loc' : List (Option Value)} (hl : ∀ (i : Nat) (v : Value), loc'[i]? = some (some v) → loc[i]? = some (some v)) (k : V G me x pc loc' st N gf h kc ks) : V G me x pc loc st N gf h kc ks := by
  obtain ⟨p, e, R, s, m, args, below, meth, c, Z⟩ := x
  exact fun H locs cells slots ls hW hS hl0 h1 h2 => k H locs cells slots ls hW hS ⟨hl0.1, hl0.2.1, fun i v q => hl0.2.2 i v (hl i v q)⟩ h1 h2
/-- the locals written otherwise -/
theorem V_eq {pc' : Nat} {loc' : List (Option Value)} {st' : List Value} {h' : Hp} (e1 : pc = pc') (e2 : loc = loc') (e3 : st = st') (e4 : h = h') (k : V G me x pc' loc' st' N gf h' kc ks) : V G me x pc loc st N gf h kc ks := by
  subst e1; subst e2; subst e3; subst e4; exact k
/-- fewer locals are known: by a row of marks -/
def locP : List (Option Value) → List Bool → List (Option Value)
  | o :: l, b :: m => (if b then o else none) :: locP l m
  | l, _ => l
theorem locP_at : ∀ (l : List (Option Value)) (m : List Bool) (i : Nat) (v : Value), (locP l m)[i]? = some (some v) → l[i]? = some (some v)
  | [], [], i, v, h => h
  | [], _ :: _, i, v, h => h
  | o :: l, [], i, v, h => h
  | o :: l, b :: m, 0, v, h => by
    simp only [locP, List.getElem?_cons_zero] at h ⊢
    cases b
    · simp at h
    · simpa using h
  | o :: l, b :: m, i + 1, v, h => by
    simp only [locP, List.getElem?_cons_succ] at h ⊢
    exact locP_at l m i v h
theorem V_drop (marks : List Bool) (k : V G me x pc (locP loc marks) st N gf h kc ks) : V G me x pc loc st N gf h kc ks := V_loc (locP_at loc marks) k
theorem V_ld (C : Cx G me x) {i : Nat} {v : Value} (hl : loc[i]? = some (some v)) {pc' : Nat}
    (f : ∀ {p : Program} {e : Env} {R : Room} {s : State} {m : MethodId} {args : Array Value} {below : List Frame} {meth : Method} {c : Code} {Z : State → Prop} {H : Heap} {locs : List Loc} {cells slots : Nat} {ls : Array Slot}, p.tables.exec = Jvm.exec → c.code = me.2.1 → ls[i]? = some (.val v) → W p G.1 e R s m args below meth c H locs cells slots Z (F0 m pc' ls (v :: st)) → W p G.1 e R s m args below meth c H locs cells slots Z (F0 m pc ls st))
    (k : V G me x pc' loc (v :: st) N gf h kc ks) : V G me x pc loc st N gf h kc ks := by
  obtain ⟨p, e, R, s, m, args, below, meth, c, Z⟩ := x
  obtain ⟨hx, hb, -⟩ := C
  exact fun H locs cells slots ls hW hS hl0 h1 h2 => f hx hb (hl0.2.2 i v hl) (k H locs cells slots ls hW hS hl0 h1 h2)
theorem V_iload_n {k : Fin 4} {i : Nat} {w : Int32} (C : Cx G me x) (d : decode me.2.1 pc = .ok (.iload_n k, 1)) (hi : (k : Nat) = i) (hl : loc[i]? = some (some (.int w))) (kk : V G me x (pc + 1) loc (.int w :: st) N gf h kc ks) : V G me x pc loc st N gf h kc ks := V_ld C hl (fun hx hb q kk => lv_iload_n hx hb d hi q kk) kk
theorem V_iload {i : Nat} {w : Int32} (C : Cx G me x) (d : decode me.2.1 pc = .ok (.iload i, 2)) (hl : loc[i]? = some (some (.int w))) (kk : V G me x (pc + 2) loc (.int w :: st) N gf h kc ks) : V G me x pc loc st N gf h kc ks := V_ld C hl (fun hx hb q kk => lv_iload hx hb d q kk) kk
theorem V_lload_n {k : Fin 4} {i : Nat} {w : Int64} (C : Cx G me x) (d : decode me.2.1 pc = .ok (.lload_n k, 1)) (hi : (k : Nat) = i) (hl : loc[i]? = some (some (.long w))) (kk : V G me x (pc + 1) loc (.long w :: st) N gf h kc ks) : V G me x pc loc st N gf h kc ks := V_ld C hl (fun hx hb q kk => lv_lload_n hx hb d hi q kk) kk
theorem V_lload {i : Nat} {w : Int64} (C : Cx G me x) (d : decode me.2.1 pc = .ok (.lload i, 2)) (hl : loc[i]? = some (some (.long w))) (kk : V G me x (pc + 2) loc (.long w :: st) N gf h kc ks) : V G me x pc loc st N gf h kc ks := V_ld C hl (fun hx hb q kk => lv_lload hx hb d q kk) kk
theorem V_dload_n {k : Fin 4} {i : Nat} {w : UInt64} (C : Cx G me x) (d : decode me.2.1 pc = .ok (.dload_n k, 1)) (hi : (k : Nat) = i) (hl : loc[i]? = some (some (.double w))) (kk : V G me x (pc + 1) loc (.double w :: st) N gf h kc ks) : V G me x pc loc st N gf h kc ks := V_ld C hl (fun hx hb q kk => lv_dload_n hx hb d hi q kk) kk
theorem V_dload {i : Nat} {w : UInt64} (C : Cx G me x) (d : decode me.2.1 pc = .ok (.dload i, 2)) (hl : loc[i]? = some (some (.double w))) (kk : V G me x (pc + 2) loc (.double w :: st) N gf h kc ks) : V G me x pc loc st N gf h kc ks := V_ld C hl (fun hx hb q kk => lv_dload hx hb d q kk) kk
theorem V_aload_n {k : Fin 4} {i j : Nat} (C : Cx G me x) (d : decode me.2.1 pc = .ok (.aload_n k, 1)) (hi : (k : Nat) = i) (hl : loc[i]? = some (some (rf G j))) (kk : V G me x (pc + 1) loc (rf G j :: st) N gf h kc ks) : V G me x pc loc st N gf h kc ks := V_ld C hl (fun hx hb q kk => lv_aload_n hx hb d hi q kk) kk
theorem V_aload {i j : Nat} (C : Cx G me x) (d : decode me.2.1 pc = .ok (.aload i, 2)) (hl : loc[i]? = some (some (rf G j))) (kk : V G me x (pc + 2) loc (rf G j :: st) N gf h kc ks) : V G me x pc loc st N gf h kc ks := V_ld C hl (fun hx hb q kk => lv_aload hx hb d q kk) kk
/-- the script, or what else is no cell of the world -/
theorem V_aload_nq {k : Fin 4} {i q : Nat} (C : Cx G me x) (d : decode me.2.1 pc = .ok (.aload_n k, 1)) (hi : (k : Nat) = i) (hl : loc[i]? = some (some (.ref q))) (kk : V G me x (pc + 1) loc (.ref q :: st) N gf h kc ks) : V G me x pc loc st N gf h kc ks := V_ld C hl (fun hx hb q kk => lv_aload_n hx hb d hi q kk) kk
theorem V_st1 (C : Cx G me x) {i pc' : Nat} {v : Value} (hi : i < me.2.2.1) (hz : nc2 loc i = true)
    (f : ∀ {p : Program} {e : Env} {R : Room} {s : State} {m : MethodId} {args : Array Value} {below : List Frame} {meth : Method} {c : Code} {Z : State → Prop} {H : Heap} {locs : List Loc} {cells slots : Nat} {ls : Array Slot} {lv : List (Nat × Value)}, p.tables.exec = Jvm.exec → c.code = me.2.1 → lv_has ls me.2.2.1 lv → (∀ ls' : Array Slot, lv_has ls' me.2.2.1 ((i, v) :: lv.filter (fun q => !(q.1 == i) && !(q.1 + 1 == i && q.2.category == 2))) → W p G.1 e R s m args below meth c H locs cells slots Z (F0 m pc' ls' st)) → W p G.1 e R s m args below meth c H locs cells slots Z (F0 m pc ls (v :: st)))
    (k : V G me x pc' (loc.set i (some v)) st N gf h kc ks) : V G me x pc loc (v :: st) N gf h kc ks := by
  obtain ⟨p, e, R, s, m, args, below, meth, c, Z⟩ := x
  obtain ⟨hx, hb, -⟩ := C
  exact fun H locs cells slots ls hW hS hl0 h1 h2 => f hx hb hl0.to (fun ls' hl' => k H locs cells slots ls' hW hS (LH.of hl' (set1_mem hz)) h1 h2)
theorem V_st2 (C : Cx G me x) {i pc' : Nat} {v : Value} (hz : nc2 loc i = true)
    (f : ∀ {p : Program} {e : Env} {R : Room} {s : State} {m : MethodId} {args : Array Value} {below : List Frame} {meth : Method} {c : Code} {Z : State → Prop} {H : Heap} {locs : List Loc} {cells slots : Nat} {ls : Array Slot} {lv : List (Nat × Value)}, p.tables.exec = Jvm.exec → c.code = me.2.1 → lv_has ls me.2.2.1 lv → (∀ ls' : Array Slot, lv_has ls' me.2.2.1 ((i, v) :: lv.filter (fun q => !(q.1 == i) && (!(q.1 == i + 1) && !(q.1 + 1 == i && q.2.category == 2)))) → W p G.1 e R s m args below meth c H locs cells slots Z (F0 m pc' ls' st)) → W p G.1 e R s m args below meth c H locs cells slots Z (F0 m pc ls (v :: st)))
    (k : V G me x pc' ((loc.set i (some v)).set (i + 1) none) st N gf h kc ks) : V G me x pc loc (v :: st) N gf h kc ks := by
  obtain ⟨p, e, R, s, m, args, below, meth, c, Z⟩ := x
  obtain ⟨hx, hb, -⟩ := C
  exact fun H locs cells slots ls hW hS hl0 h1 h2 => f hx hb hl0.to (fun ls' hl' => k H locs cells slots ls' hW hS (LH.of hl' (set2_mem hz)) h1 h2)
theorem V_istore_n {k : Fin 4} {i : Nat} {w : Int32} (C : Cx G me x) (d : decode me.2.1 pc = .ok (.istore_n k, 1)) (hk : (k : Nat) = i) (hi : i < me.2.2.1) (hz : nc2 loc i = true) (kk : V G me x (pc + 1) (loc.set i (some (.int w))) st N gf h kc ks) : V G me x pc loc (.int w :: st) N gf h kc ks := V_st1 C hi hz (fun hx hb hl kk => lv_istore_n hx hb d hk hl hi rfl kk) kk
theorem V_istore {i : Nat} {w : Int32} (C : Cx G me x) (d : decode me.2.1 pc = .ok (.istore i, 2)) (hi : i < me.2.2.1) (hz : nc2 loc i = true) (kk : V G me x (pc + 2) (loc.set i (some (.int w))) st N gf h kc ks) : V G me x pc loc (.int w :: st) N gf h kc ks := V_st1 C hi hz (fun hx hb hl kk => lv_istore hx hb d hl hi rfl kk) kk
theorem V_astore_n {k : Fin 4} {i q : Nat} (C : Cx G me x) (d : decode me.2.1 pc = .ok (.astore_n k, 1)) (hk : (k : Nat) = i) (hi : i < me.2.2.1) (hz : nc2 loc i = true) (kk : V G me x (pc + 1) (loc.set i (some (.ref q))) st N gf h kc ks) : V G me x pc loc (.ref q :: st) N gf h kc ks := V_st1 C hi hz (fun hx hb hl kk => lv_astore_n hx hb d hk hl hi rfl kk) kk
theorem V_astore {i q : Nat} (C : Cx G me x) (d : decode me.2.1 pc = .ok (.astore i, 2)) (hi : i < me.2.2.1) (hz : nc2 loc i = true) (kk : V G me x (pc + 2) (loc.set i (some (.ref q))) st N gf h kc ks) : V G me x pc loc (.ref q :: st) N gf h kc ks := V_st1 C hi hz (fun hx hb hl kk => lv_astore hx hb d hl hi rfl kk) kk
theorem V_astore_nr {k : Fin 4} {i j : Nat} (C : Cx G me x) (d : decode me.2.1 pc = .ok (.astore_n k, 1)) (hk : (k : Nat) = i) (hi : i < me.2.2.1) (hz : nc2 loc i = true) (kk : V G me x (pc + 1) (loc.set i (some (rf G j))) st N gf h kc ks) : V G me x pc loc (rf G j :: st) N gf h kc ks := V_astore_n (q := G.2.1 + j) C d hk hi hz kk
theorem V_astorer {i j : Nat} (C : Cx G me x) (d : decode me.2.1 pc = .ok (.astore i, 2)) (hi : i < me.2.2.1) (hz : nc2 loc i = true) (kk : V G me x (pc + 2) (loc.set i (some (rf G j))) st N gf h kc ks) : V G me x pc loc (rf G j :: st) N gf h kc ks := V_astore (q := G.2.1 + j) C d hi hz kk
theorem V_lstore_n {k : Fin 4} {i : Nat} {w : Int64} (C : Cx G me x) (d : decode me.2.1 pc = .ok (.lstore_n k, 1)) (hk : (k : Nat) = i) (hi : i + 1 < me.2.2.1) (hz : nc2 loc i = true) (kk : V G me x (pc + 1) ((loc.set i (some (.long w))).set (i + 1) none) st N gf h kc ks) : V G me x pc loc (.long w :: st) N gf h kc ks := V_st2 C hz (fun hx hb hl kk => lv_lstore_n hx hb d hk hl hi rfl kk) kk
theorem V_lstore {i : Nat} {w : Int64} (C : Cx G me x) (d : decode me.2.1 pc = .ok (.lstore i, 2)) (hi : i + 1 < me.2.2.1) (hz : nc2 loc i = true) (kk : V G me x (pc + 2) ((loc.set i (some (.long w))).set (i + 1) none) st N gf h kc ks) : V G me x pc loc (.long w :: st) N gf h kc ks := V_st2 C hz (fun hx hb hl kk => lv_lstore hx hb d hl hi rfl kk) kk
theorem V_dstore_n {k : Fin 4} {i : Nat} {w : UInt64} (C : Cx G me x) (d : decode me.2.1 pc = .ok (.dstore_n k, 1)) (hk : (k : Nat) = i) (hi : i + 1 < me.2.2.1) (hz : nc2 loc i = true) (kk : V G me x (pc + 1) ((loc.set i (some (.double w))).set (i + 1) none) st N gf h kc ks) : V G me x pc loc (.double w :: st) N gf h kc ks := V_st2 C hz (fun hx hb hl kk => lv_dstore_n hx hb d hk hl hi rfl kk) kk
theorem V_dstore {i : Nat} {w : UInt64} (C : Cx G me x) (d : decode me.2.1 pc = .ok (.dstore i, 2)) (hi : i + 1 < me.2.2.1) (hz : nc2 loc i = true) (kk : V G me x (pc + 2) ((loc.set i (some (.double w))).set (i + 1) none) st N gf h kc ks) : V G me x pc loc (.double w :: st) N gf h kc ks := V_st2 C hz (fun hx hb hl kk => lv_dstore hx hb d hl hi rfl kk) kk
theorem V_iinc {i : Nat} {n : Int} (C : Cx G me x) (d : decode me.2.1 pc = .ok (.iinc i n, 3)) (hl : loc[i]? = some (some (.int (iI a)))) (hi : i < me.2.2.1) (hz : nc2 loc i = true) (kk : V G me x (pc + 3) (loc.set i (some (.int (iI (a + n))))) st N gf h kc ks) : V G me x pc loc st N gf h kc ks := by
  obtain ⟨p, e, R, s, m, args, below, meth, c, Z⟩ := x
  obtain ⟨hx, hb, -⟩ := C
  intro H locs cells slots ls hW hS hl0 h1 h2
  obtain ⟨k, hk⟩ := List.getElem?_of_mem (lvl_mem.mpr hl)
  exact lv_iinc hx hb d hl0.to hk (iI_add a n) hi rfl (fun ls' hl' => kk H locs cells slots ls' hW hS (LH.of hl' (set1_mem hz)) h1 h2)
/-! branches -/
theorem V_if (C : Cx G me x) {st' : List Value} {pt pf : Nat} {P : Prop}
    (f : ∀ {p : Program} {e : Env} {R : Room} {s : State} {m : MethodId} {args : Array Value} {below : List Frame} {meth : Method} {c : Code} {Z : State → Prop} {H : Heap} {locs : List Loc} {cells slots : Nat} {ls : Array Slot}, p.tables.exec = Jvm.exec → c.code = me.2.1 → (P → W p G.1 e R s m args below meth c H locs cells slots Z (F0 m pt ls st')) → (¬ P → W p G.1 e R s m args below meth c H locs cells slots Z (F0 m pf ls st')) → W p G.1 e R s m args below meth c H locs cells slots Z (F0 m pc ls st))
    (kt : P → V G me x pt loc st' N gf h kc ks) (kf : ¬ P → V G me x pf loc st' N gf h kc ks) : V G me x pc loc st N gf h kc ks := by
  obtain ⟨p, e, R, s, m, args, below, meth, c, Z⟩ := x
  obtain ⟨hx, hb, -⟩ := C
  exact fun H locs cells slots ls hW hS hl0 h1 h2 => f hx hb (fun q => kt q H locs cells slots ls hW hS hl0 h1 h2) (fun q => kf q H locs cells slots ls hW hS hl0 h1 h2)
theorem z0 : (0 : Int32) = iI 0 := rfl
theorem V_icmp_eq (C : Cx G me x) {off : Int} {tgt : Nat} (d : decode me.2.1 pc = .ok (.if_icmp .eq off, 3)) (ht : (pc : Int) + off = (tgt : Int)) (ha : -2147483648 ≤ a ∧ a < 2147483648) (hb9 : -2147483648 ≤ b ∧ b < 2147483648) (kt : a = b → V G me x tgt loc st N gf h kc ks) (kf : ¬ a = b → V G me x (pc + 3) loc st N gf h kc ks) : V G me x pc loc (.int (iI b) :: .int (iI a) :: st) N gf h kc ks :=
  V_if (P := a = b) C (fun hx hb kt kf => lv_icmp_eq hx hb d ht (fun q => kt ((iI_eq ha hb9).mp q)) (fun q => kf (fun z => q ((iI_eq ha hb9).mpr z)))) kt kf
theorem V_icmp_ne (C : Cx G me x) {off : Int} {tgt : Nat} (d : decode me.2.1 pc = .ok (.if_icmp .ne off, 3)) (ht : (pc : Int) + off = (tgt : Int)) (ha : -2147483648 ≤ a ∧ a < 2147483648) (hb9 : -2147483648 ≤ b ∧ b < 2147483648) (kt : ¬ a = b → V G me x tgt loc st N gf h kc ks) (kf : a = b → V G me x (pc + 3) loc st N gf h kc ks) : V G me x pc loc (.int (iI b) :: .int (iI a) :: st) N gf h kc ks :=
  V_if (P := ¬ a = b) C (fun hx hb kt kf => lv_icmp_ne hx hb d ht (fun q => kt (fun z => q ((iI_eq ha hb9).mpr z))) (fun q => kf (fun z => z ((iI_eq ha hb9).mp q)))) kt (fun q => kf (Decidable.not_not.mp q))
theorem V_icmp_lt (C : Cx G me x) {off : Int} {tgt : Nat} (d : decode me.2.1 pc = .ok (.if_icmp .lt off, 3)) (ht : (pc : Int) + off = (tgt : Int)) (ha : -2147483648 ≤ a ∧ a < 2147483648) (hb9 : -2147483648 ≤ b ∧ b < 2147483648) (kt : a < b → V G me x tgt loc st N gf h kc ks) (kf : ¬ a < b → V G me x (pc + 3) loc st N gf h kc ks) : V G me x pc loc (.int (iI b) :: .int (iI a) :: st) N gf h kc ks :=
  V_if (P := a < b) C (fun hx hb kt kf => lv_icmp_lt hx hb d ht (fun q => kt ((iI_lt ha hb9).mp q)) (fun q => kf (fun z => q ((iI_lt ha hb9).mpr z)))) kt kf
theorem V_icmp_ge (C : Cx G me x) {off : Int} {tgt : Nat} (d : decode me.2.1 pc = .ok (.if_icmp .ge off, 3)) (ht : (pc : Int) + off = (tgt : Int)) (ha : -2147483648 ≤ a ∧ a < 2147483648) (hb9 : -2147483648 ≤ b ∧ b < 2147483648) (kt : b ≤ a → V G me x tgt loc st N gf h kc ks) (kf : ¬ b ≤ a → V G me x (pc + 3) loc st N gf h kc ks) : V G me x pc loc (.int (iI b) :: .int (iI a) :: st) N gf h kc ks :=
  V_if (P := b ≤ a) C (fun hx hb kt kf => lv_icmp_ge hx hb d ht (fun q => kt ((iI_le hb9 ha).mp q)) (fun q => kf (fun z => q ((iI_le hb9 ha).mpr z)))) kt kf
theorem V_icmp_gt (C : Cx G me x) {off : Int} {tgt : Nat} (d : decode me.2.1 pc = .ok (.if_icmp .gt off, 3)) (ht : (pc : Int) + off = (tgt : Int)) (ha : -2147483648 ≤ a ∧ a < 2147483648) (hb9 : -2147483648 ≤ b ∧ b < 2147483648) (kt : b < a → V G me x tgt loc st N gf h kc ks) (kf : ¬ b < a → V G me x (pc + 3) loc st N gf h kc ks) : V G me x pc loc (.int (iI b) :: .int (iI a) :: st) N gf h kc ks :=
  V_if (P := b < a) C (fun hx hb kt kf => lv_icmp_gt hx hb d ht (fun q => kt ((iI_lt hb9 ha).mp q)) (fun q => kf (fun z => q ((iI_lt hb9 ha).mpr z)))) kt kf
theorem V_icmp_le (C : Cx G me x) {off : Int} {tgt : Nat} (d : decode me.2.1 pc = .ok (.if_icmp .le off, 3)) (ht : (pc : Int) + off = (tgt : Int)) (ha : -2147483648 ≤ a ∧ a < 2147483648) (hb9 : -2147483648 ≤ b ∧ b < 2147483648) (kt : a ≤ b → V G me x tgt loc st N gf h kc ks) (kf : ¬ a ≤ b → V G me x (pc + 3) loc st N gf h kc ks) : V G me x pc loc (.int (iI b) :: .int (iI a) :: st) N gf h kc ks :=
  V_if (P := a ≤ b) C (fun hx hb kt kf => lv_icmp_le hx hb d ht (fun q => kt ((iI_le ha hb9).mp q)) (fun q => kf (fun z => q ((iI_le ha hb9).mpr z)))) kt kf
theorem V_if_eq (C : Cx G me x) {off : Int} {tgt : Nat} (d : decode me.2.1 pc = .ok (.ifCond .eq off, 3)) (ht : (pc : Int) + off = (tgt : Int)) (ha : -2147483648 ≤ a ∧ a < 2147483648) (kt : a = 0 → V G me x tgt loc st N gf h kc ks) (kf : ¬ a = 0 → V G me x (pc + 3) loc st N gf h kc ks) : V G me x pc loc (.int (iI a) :: st) N gf h kc ks :=
  V_if (P := a = 0) C (fun hx hb kt kf => lv_if_eq hx hb d ht (fun q => kt ((iI_eq ha (b := 0) (by omega)).mp q)) (fun q => kf (fun z => q ((iI_eq ha (b := 0) (by omega)).mpr z)))) kt kf
theorem V_if_ne (C : Cx G me x) {off : Int} {tgt : Nat} (d : decode me.2.1 pc = .ok (.ifCond .ne off, 3)) (ht : (pc : Int) + off = (tgt : Int)) (ha : -2147483648 ≤ a ∧ a < 2147483648) (kt : ¬ a = 0 → V G me x tgt loc st N gf h kc ks) (kf : a = 0 → V G me x (pc + 3) loc st N gf h kc ks) : V G me x pc loc (.int (iI a) :: st) N gf h kc ks :=
  V_if (P := ¬ a = 0) C (fun hx hb kt kf => lv_if_ne hx hb d ht (fun q => kt (fun z => q ((iI_eq ha (b := 0) (by omega)).mpr z))) (fun q => kf (fun z => z ((iI_eq ha (b := 0) (by omega)).mp q)))) kt (fun q => kf (Decidable.not_not.mp q))
theorem V_if_lt (C : Cx G me x) {off : Int} {tgt : Nat} (d : decode me.2.1 pc = .ok (.ifCond .lt off, 3)) (ht : (pc : Int) + off = (tgt : Int)) (ha : -2147483648 ≤ a ∧ a < 2147483648) (kt : a < 0 → V G me x tgt loc st N gf h kc ks) (kf : ¬ a < 0 → V G me x (pc + 3) loc st N gf h kc ks) : V G me x pc loc (.int (iI a) :: st) N gf h kc ks :=
  V_if (P := a < 0) C (fun hx hb kt kf => lv_if_lt hx hb d ht (fun q => kt ((iI_lt ha (b := 0) (by omega)).mp q)) (fun q => kf (fun z => q ((iI_lt ha (b := 0) (by omega)).mpr z)))) kt kf
theorem V_if_ge (C : Cx G me x) {off : Int} {tgt : Nat} (d : decode me.2.1 pc = .ok (.ifCond .ge off, 3)) (ht : (pc : Int) + off = (tgt : Int)) (ha : -2147483648 ≤ a ∧ a < 2147483648) (kt : 0 ≤ a → V G me x tgt loc st N gf h kc ks) (kf : ¬ 0 ≤ a → V G me x (pc + 3) loc st N gf h kc ks) : V G me x pc loc (.int (iI a) :: st) N gf h kc ks :=
  V_if (P := 0 ≤ a) C (fun hx hb kt kf => lv_if_ge hx hb d ht (fun q => kt ((iI_le (a := 0) (by omega) ha).mp q)) (fun q => kf (fun z => q ((iI_le (a := 0) (by omega) ha).mpr z)))) kt kf
theorem V_if_gt (C : Cx G me x) {off : Int} {tgt : Nat} (d : decode me.2.1 pc = .ok (.ifCond .gt off, 3)) (ht : (pc : Int) + off = (tgt : Int)) (ha : -2147483648 ≤ a ∧ a < 2147483648) (kt : 0 < a → V G me x tgt loc st N gf h kc ks) (kf : ¬ 0 < a → V G me x (pc + 3) loc st N gf h kc ks) : V G me x pc loc (.int (iI a) :: st) N gf h kc ks :=
  V_if (P := 0 < a) C (fun hx hb kt kf => lv_if_gt hx hb d ht (fun q => kt ((iI_lt (a := 0) (by omega) ha).mp q)) (fun q => kf (fun z => q ((iI_lt (a := 0) (by omega) ha).mpr z)))) kt kf
theorem V_if_le (C : Cx G me x) {off : Int} {tgt : Nat} (d : decode me.2.1 pc = .ok (.ifCond .le off, 3)) (ht : (pc : Int) + off = (tgt : Int)) (ha : -2147483648 ≤ a ∧ a < 2147483648) (kt : a ≤ 0 → V G me x tgt loc st N gf h kc ks) (kf : ¬ a ≤ 0 → V G me x (pc + 3) loc st N gf h kc ks) : V G me x pc loc (.int (iI a) :: st) N gf h kc ks :=
  V_if (P := a ≤ 0) C (fun hx hb kt kf => lv_if_le hx hb d ht (fun q => kt ((iI_le ha (b := 0) (by omega)).mp q)) (fun q => kf (fun z => q ((iI_le ha (b := 0) (by omega)).mpr z)))) kt kf
theorem V_ifnull (C : Cx G me x) {j : Nat} {off : Int} (d : decode me.2.1 pc = .ok (.ifnull off, 3)) (k : V G me x (pc + 3) loc st N gf h kc ks) : V G me x pc loc (rf G j :: st) N gf h kc ks := V_lift C (fun hx hb k => lv_ifnull hx hb d k) k
theorem V_tableIn (C : Cx G me x) {dflt lo hi : Int} {offs : Array Int} {len : Nat} {off : Int} {tgt : Nat} (d : decode me.2.1 pc = .ok (.tableswitch dflt lo hi offs, len)) (ha : -2147483648 ≤ a ∧ a < 2147483648) (h1 : ¬ a < lo) (h2 : ¬ hi < a) (ho : offs[(a - lo).toNat]? = some off) (ht : (pc : Int) + off = (tgt : Int)) (k : V G me x tgt loc st N gf h kc ks) : V G me x pc loc (.int (iI a) :: st) N gf h kc ks := by
  have e := iI_toInt ha.1 ha.2
  exact V_lift C (fun hx hb k => lv_tableIn hx hb d (by rw [e]; exact h1) (by rw [e]; exact h2) (by rw [e]; exact ho) ht k) k
theorem V_tableOut (C : Cx G me x) {dflt lo hi : Int} {offs : Array Int} {len : Nat} {tgt : Nat} (d : decode me.2.1 pc = .ok (.tableswitch dflt lo hi offs, len)) (ha : -2147483648 ≤ a ∧ a < 2147483648) (h1 : a < lo ∨ hi < a) (ht : (pc : Int) + dflt = (tgt : Int)) (k : V G me x tgt loc st N gf h kc ks) : V G me x pc loc (.int (iI a) :: st) N gf h kc ks := by
  have e := iI_toInt ha.1 ha.2
  exact V_lift C (fun hx hb k => lv_tableOut hx hb d (by rw [e]; exact h1) ht k) k
theorem V_lookup (C : Cx G me x) {dflt : Int} {ps : Array (Int × Int)} {len : Nat} {off : Int} {tgt : Nat} (d : decode me.2.1 pc = .ok (.lookupswitch dflt ps, len)) (hp : (ps.toList.zip (ps.toList.drop 1)).all (fun (a, next) => a.1 < next.1) = true) (ha : -2147483648 ≤ a ∧ a < 2147483648) (ho : Op.lookupswitch.offset ps.toList dflt a = off) (ht : (pc : Int) + off = (tgt : Int)) (k : V G me x tgt loc st N gf h kc ks) : V G me x pc loc (.int (iI a) :: st) N gf h kc ks := by
  have e := iI_toInt ha.1 ha.2
  exact V_lift C (fun hx hb k => lv_lookup hx hb d hp (by rw [e]; exact ho) ht k) k
end VR2
