/-! calls: the callee takes the whole world -/
theorem k_in {y : MethodName} {me : MeT} {np : Nat} (k : YKx y me np) : ∀ w ∈ wsY y me, w ∈ lw_gd := by
  intro w hw
  rcases List.mem_cons.mp hw with e | e
  · rw [e]; exact k.1
  · exact e
theorem Pc_at {G : GT} {as : List Value} {N : Nat} {gf : Bool} {h : Hp} {s : State} {H : Heap} {locs : List Loc} (hK : KK G s) (hW : HW G N gf h H) (hS : va_S (gA G) s.heap H locs) : ∀ U : State, U.heap = H → s.WarmedH U.vm → PcM G as N gf h as.toArray U := by
  intro U hU hWm
  exact ⟨rfl, hK.moved hWm (by rw [hU]; exact hS.1) (fun q h1 h2 => by rw [hU]; exact hS.2.1 q h1 h2), by rw [hU]; exact hW⟩
section CALLS
variable {G : GT} {me me' : MeT} {x : CxT} {pc idx np : Nat} {loc : List (Option Value)} {st rest as : List Value} {N N' : Nat} {gf gf' : Bool} {h h' : Hp} {kc ks kc' ks' k2 s2 : Nat} {v : Option Value} {y : MethodName}
/-- what a walk knows where it stands -/
def CxF (G : GT) (me : MeT) (p : Program) (R : Room) (s : State) (m : MethodId) (args : Array Value) (c : Code) : Prop := CallFix p m c me.2.1 me.2.2.1 s args lw_gd me.1 ∧ KK G s ∧ R.frames = me.2.2.2.2.1 ∧ R.locals = me.2.2.2.2.2.1
theorem V_run {st2 : List Value} {arr : Array Value} (C : Cx G me x) (hkc : k2 + kc' ≤ kc) (hks : s2 + ks' ≤ ks)
    (f : ∀ {p : Program} {e : Env} {R : Room} {s : State} {m : MethodId} {args : Array Value} {below : List Frame} {meth : Method} {c : Code} {H : Heap} {locs : List Loc} {cells slots : Nat} {ls : Array Slot}, CxF G me p R s m args c → HW G N gf h H → va_S (gA G) s.heap H locs → cells + kc' ≤ R.cells ∧ slots + ks' ≤ R.slots → ls.size = me.2.2.1 → va_Run p G.1 e R s m args below meth c H locs cells slots kc' ks' (F0 m pc ls st) rest (QcM G v N' gf' h' arr) (gA G))
    (hst : v.toList ++ rest = st2) (k : V G me x (pc + 3) loc st2 N' gf' h' k2 s2) : V G me x pc loc st N gf h kc ks := by
  obtain ⟨p, e, R, s, m, args, below, meth, c, Z⟩ := x
  obtain ⟨hx, hb, hml, hr, ho, hts, hK, hlk, hfr, hlc, htb, -⟩ := C
  subst hst
  intro H locs cells slots ls hW hS hl h1 h2 T hT X
  obtain ⟨w, st₀, t, T', L, h0, X', hL, e1, e2, ⟨⟨hw, hW'⟩, hF⟩, sg⟩ := f (e := e) (below := below) (meth := meth) ⟨⟨hx, hb, hml, ho, hts⟩, hK, hfr, hlc⟩ hW hS ⟨by omega, by omega⟩ hl.1 T hT X
  cases hw
  obtain ⟨k1, k3, k4⟩ := vx_keep h0 e1 hS (fun _ _ q => q) (fun _ q => q) hL hF
  obtain ⟨t2, a1, b1⟩ := k T'.heap (locs ++ L) (cells + kc') (slots + ks') ls (by rw [e1]; exact hW') k4 hl (by omega) (by omega) T' rfl X'
  exact ⟨t2, sg t2 a1, b1⟩
theorem V_S {st2 : List Value} (C : Cx G me x) (d : decode me.2.1 pc = .ok (.invokestatic idx, 3)) (hl : Cond.methodLink me.1 idx y ∈ lw_gd) (hk : YKs y me' np) (hc : Ct G y me' as N gf h kc' ks' v N' gf' h') (hs : st = as.reverse ++ rest) (hn : as.length = np) (hR : me'.2.2.2.2.1 + 1 ≤ me.2.2.2.2.1 ∧ 8 + (me'.2.2.1 + 11) + me'.2.2.2.2.2.1 ≤ me.2.2.2.2.2.1) (hW8 : (rest.map fun v => v.category).sum ≤ 8) (hkc : k2 + kc' ≤ kc) (hks : s2 + ks' ≤ ks) (hst : v.toList ++ rest = st2) (k : V G me x (pc + 3) loc st2 N' gf' h' k2 s2) : V G me x pc loc st N gf h kc ks := by
  subst hs
  refine V_run (arr := as.toArray) C hkc hks (fun {p e R s m args below meth c H locs cells slots ls} F hW hS hf hsz => ?_) hst k
  obtain ⟨F1, hK, hfr, hlc⟩ := F
  exact va_runS (As := as) F1 hc ⟨callB_of np F1.2.2.2.2 (gd_GoodIn hk.1) rfl rfl rfl (F1.2.2.2.2 _ hk.1.2.1) (F1.2.2.2.2 _ hl) hk.1.2.2.1 (by rw [hfr, hlc]; exact hR), F1.2.2.2.2 _ hk.2⟩ ⟨FB _ _ _ _ _, Pc_at hK hW hS⟩ rfl hn hsz rfl (lv_room hW8) d hf
theorem V_SN {host : String} {st2 : List Value} (C : Cx G me x) (d : decode me.2.1 pc = .ok (.invokestatic idx, 3)) (hl : (me.1, idx, y, host) ∈ lw_nest) (hk : YKs y me' np) (hc : Ct G y me' as N gf h kc' ks' v N' gf' h') (hs : st = as.reverse ++ rest) (hn : as.length = np) (hR : me'.2.2.2.2.1 + 1 ≤ me.2.2.2.2.1 ∧ 8 + (me'.2.2.1 + 11) + me'.2.2.2.2.2.1 ≤ me.2.2.2.2.2.1) (hW8 : (rest.map fun v => v.category).sum ≤ 8) (hkc : k2 + kc' ≤ kc) (hks : s2 + ks' ≤ ks) (hst : v.toList ++ rest = st2) (k : V G me x (pc + 3) loc st2 N' gf' h' k2 s2) : V G me x pc loc st N gf h kc ks := by
  subst hs
  refine V_run (arr := as.toArray) C hkc hks (fun {p e R s m args below meth c H locs cells slots ls} F hW hS hf hsz => ?_) hst k
  obtain ⟨F1, hK, hfr, hlc⟩ := F
  have hNw : va_Nw (.methodLinkNest me.1 idx y host) s := hK.2.2.2.2.2.2.2.2.1 _ hl
  exact va_runSN (As := as) F1 hc ⟨va_cnB np F1.2.2.2.2 (gd_GoodIn hk.1) rfl rfl rfl hNw (F1.2.2.2.2 _ hk.1.2.1) hk.1.2.2.1 (by rw [hfr, hlc]; exact hR), F1.2.2.2.2 _ hk.2, trivial⟩ ⟨FB _ _ _ _ _, Pc_at hK hW hS⟩ rfl hn hsz rfl (lv_room hW8) d hf
theorem V_V {st2 : List Value} {i ci n : Nat} {fs : List Value} {T : u_T} (C : Cx G me x) (d : decode me.2.1 pc = .ok (.invokevirtual idx, 3)) (hl : Cond.methodLink me.1 idx y ∈ lw_gd) (hk : YKv y me' np) (hc : Ct G y me' (rf G i :: as) N gf h kc' ks' v N' gf' h') (hi : i < N) (hci : h i = .inr (ci, fs)) (hcl : vwCl[ci]? = some (y.cls, T, n)) (hs : st = as.reverse ++ rf G i :: rest) (hn : as.length = np) (hR : me'.2.2.2.2.1 + 1 ≤ me.2.2.2.2.1 ∧ 8 + (me'.2.2.1 + 11) + me'.2.2.2.2.2.1 ≤ me.2.2.2.2.2.1) (hW8 : (rest.map fun v => v.category).sum ≤ 8) (hkc : k2 + kc' ≤ kc) (hks : s2 + ks' ≤ ks) (hst : v.toList ++ rest = st2) (k : V G me x (pc + 3) loc st2 N' gf' h' k2 s2) : V G me x pc loc st N gf h kc ks := by
  subst hs
  refine V_run (arr := (rf G i :: as).toArray) C hkc hks (fun {p e R s m args below meth c H locs cells slots ls} F hW hS hf hsz => ?_) hst k
  obtain ⟨F1, hK, hfr, hlc⟩ := F
  have hts := F1.2.2.2.2
  exact va_runV (As := as) (C := y.cls) F1 hc ⟨callB_of np hts (gd_GoodIn hk.1.1) rfl rfl rfl (hts _ hk.1.1.2.1) (hts _ hl) hk.1.1.2.2.1 (by rw [hfr, hlc]; exact hR), hts _ hk.1.2, hts _ hk.2⟩ ⟨FB _ _ _ _ _, va_recv hK.2.1 hW.1 hcl (by rw [wsO_at hi, hci]), Pc_at hK hW hS⟩ rfl hn hsz rfl (lv_room hW8) d hf
theorem V_IN {host : String} {st2 : List Value} {i : Nat} (C : Cx G me x) (d : decode me.2.1 pc = .ok (.invokespecial idx, 3)) (hl : (me.1, idx, y, host) ∈ lw_nest) (hk : YKi y me' np) (hr : me'.2.2.2.1 = none) (hy : y.name = "<init>") (hc : Ct G y me' (rf G i :: as) N gf h kc' ks' v N' gf' h') (hs : st = as.reverse ++ rf G i :: rest) (hn : as.length = np) (hR : me'.2.2.2.2.1 + 1 ≤ me.2.2.2.2.1 ∧ 8 + (me'.2.2.1 + 11) + me'.2.2.2.2.2.1 ≤ me.2.2.2.2.2.1) (hW8 : (rest.map fun v => v.category).sum ≤ 8) (hkc : k2 + kc' ≤ kc) (hks : s2 + ks' ≤ ks) (hst : v.toList ++ rest = st2) (k : V G me x (pc + 3) loc st2 N' gf' h' k2 s2) : V G me x pc loc st N gf h kc ks := by
  subst hs
  refine V_run (arr := (rf G i :: as).toArray) C hkc hks (fun {p e R s m args below meth c H locs cells slots ls} F hW hS hf hsz => ?_) hst k
  obtain ⟨F1, hK, hfr, hlc⟩ := F
  have hts := F1.2.2.2.2
  have hNw : va_Nw (.methodLinkNest me.1 idx y host) s := hK.2.2.2.2.2.2.2.2.1 _ hl
  have hg := gd_GoodIn hk.1
  unfold wsY at hg
  rw [hr] at hg
  unfold Ct wsY at hc
  rw [hr] at hc
  exact va_runIN (As := as) F1 hc ⟨va_cnB np hts hg rfl rfl rfl hNw (hts _ hk.1.2.1) hk.1.2.2.1 (by rw [hfr, hlc]; exact hR), hy, hts _ hk.2⟩ ⟨FB _ _ _ _ _, Pc_at hK hW hS⟩ rfl hn hsz rfl (lv_room hW8) d hf
theorem V_I {st2 : List Value} {i : Nat} (C : Cx G me x) (d : decode me.2.1 pc = .ok (.invokespecial idx, 3)) (hl : Cond.methodLink me.1 idx y ∈ lw_gd) (hk : YKi y me' np) (hr : me'.2.2.2.1 = none) (hy : y.name = "<init>") (hc : Ct G y me' (rf G i :: as) N gf h kc' ks' v N' gf' h') (hs : st = as.reverse ++ rf G i :: rest) (hn : as.length = np) (hR : me'.2.2.2.2.1 + 1 ≤ me.2.2.2.2.1 ∧ 8 + (me'.2.2.1 + 11) + me'.2.2.2.2.2.1 ≤ me.2.2.2.2.2.1) (hW8 : (rest.map fun v => v.category).sum ≤ 8) (hkc : k2 + kc' ≤ kc) (hks : s2 + ks' ≤ ks) (hst : v.toList ++ rest = st2) (k : V G me x (pc + 3) loc st2 N' gf' h' k2 s2) : V G me x pc loc st N gf h kc ks := by
  subst hs
  refine V_run (arr := (rf G i :: as).toArray) C hkc hks (fun {p e R s m args below meth c H locs cells slots ls} F hW hS hf hsz => ?_) hst k
  obtain ⟨F1, hK, hfr, hlc⟩ := F
  have hts := F1.2.2.2.2
  have hg := gd_GoodIn hk.1
  unfold wsY at hg
  rw [hr] at hg
  unfold Ct wsY at hc
  rw [hr] at hc
  exact va_runI (As := as) F1 hc ⟨callB_of np hts hg rfl rfl rfl (hts _ hk.1.2.1) (hts _ hl) hk.1.2.2.1 (by rw [hfr, hlc]; exact hR), hy, hts _ hk.2⟩ ⟨FB _ _ _ _ _, Pc_at hK hW hS⟩ rfl hn hsz rfl (lv_room hW8) d hf
/-- a callee that throws -/
theorem V_runX {E : String} {arr : Array Value} (C : Cx G me x) (hkc : k2 + kc' ≤ kc) (hks : s2 + ks' ≤ ks)
    (f : ∀ {p : Program} {e : Env} {R : Room} {s : State} {m : MethodId} {args : Array Value} {below : List Frame} {meth : Method} {c : Code} {H : Heap} {locs : List Loc} {cells slots : Nat} {ls : Array Slot}, CxF G me p R s m args c → HW G N gf h H → va_S (gA G) s.heap H locs → cells + kc' ≤ R.cells ∧ slots + ks' ≤ R.slots → ls.size = me.2.2.1 → vx_Run p G.1 e R s m args below meth c H locs cells slots kc' ks' (F0 m pc ls st) rest ((fun _ _ _ _ => False : Array Value → State → Outcome → State → Prop) arr) (XcM G E N' h') (gA G))
    (k : VX G me x E pc loc rest N' h' k2 s2) : V G me x pc loc st N gf h kc ks := by
  obtain ⟨p, e, R, s, m, args, below, meth, c, Z⟩ := x
  obtain ⟨hx, hb, hml, hr, ho, hts, hK, hlk, hfr, hlc, htb, -⟩ := C
  intro H locs cells slots ls hW hS hl h1 h2 T hT X
  rcases f (e := e) (below := below) (meth := meth) ⟨⟨hx, hb, hml, ho, hts⟩, hK, hfr, hlc⟩ hW hS ⟨by omega, by omega⟩ hl.1 T hT X with ⟨w, st₀, t, T', L, h0, X', hL, e1, e2, hw, sg⟩ | ⟨q, st₀, t, T', L, E', ce, h0, X', hL, e1, e2, ⟨⟨hE, hW'⟩, hF⟩, hce, hcv, hcl, sg⟩
  · exact hw.elim
  · subst hE
    obtain ⟨k1, k3, k4⟩ := vx_keep h0 e1 hS (fun _ _ q => q) (fun _ q => q) hL hF
    obtain ⟨t2, a1, b1⟩ := k T'.heap (locs ++ L) (cells + kc') (slots + ks') ls q ce (by rw [e1]; exact hW') k4 hl (by omega) (by omega) (by rw [e1]; exact hce) hcv hcl T' rfl X'
    exact ⟨t2, sg.trans a1, b1⟩
theorem V_SX {E : String} (C : Cx G me x) (d : decode me.2.1 pc = .ok (.invokestatic idx, 3)) (hl : Cond.methodLink me.1 idx y ∈ lw_gd) (hk : YKs y me' np) (hc : CtX G y me' as N gf h kc' ks' E h') (hs : st = as.reverse ++ rest) (hn : as.length = np) (hR : me'.2.2.2.2.1 + 1 ≤ me.2.2.2.2.1 ∧ 8 + (me'.2.2.1 + 11) + me'.2.2.2.2.2.1 ≤ me.2.2.2.2.2.1) (hW8 : (rest.map fun v => v.category).sum ≤ 8) (hkc : k2 + kc' ≤ kc) (hks : s2 + ks' ≤ ks) (k : VX G me x E pc loc rest N h' k2 s2) : V G me x pc loc st N gf h kc ks := by
  subst hs
  refine V_runX (arr := as.toArray) C hkc hks (fun {p e R s m args below meth c H locs cells slots ls} F hW hS hf hsz => ?_) k
  obtain ⟨F1, hK, hfr, hlc⟩ := F
  exact vx_runS (As := as) F1 hc ⟨callB_of np F1.2.2.2.2 (gd_GoodIn hk.1) rfl rfl rfl (F1.2.2.2.2 _ hk.1.2.1) (F1.2.2.2.2 _ hl) hk.1.2.2.1 (by rw [hfr, hlc]; exact hR), F1.2.2.2.2 _ hk.2⟩ ⟨FB _ _ _ _ _, Pc_at hK hW hS⟩ rfl hn hsz rfl (lv_room hW8) d hf
theorem V_VX {E : String} {i ci n : Nat} {fs : List Value} {T : u_T} (C : Cx G me x) (d : decode me.2.1 pc = .ok (.invokevirtual idx, 3)) (hl : Cond.methodLink me.1 idx y ∈ lw_gd) (hk : YKv y me' np) (hc : CtX G y me' (rf G i :: as) N gf h kc' ks' E h') (hi : i < N) (hci : h i = .inr (ci, fs)) (hcl : vwCl[ci]? = some (y.cls, T, n)) (hs : st = as.reverse ++ rf G i :: rest) (hn : as.length = np) (hR : me'.2.2.2.2.1 + 1 ≤ me.2.2.2.2.1 ∧ 8 + (me'.2.2.1 + 11) + me'.2.2.2.2.2.1 ≤ me.2.2.2.2.2.1) (hW8 : (rest.map fun v => v.category).sum ≤ 8) (hkc : k2 + kc' ≤ kc) (hks : s2 + ks' ≤ ks) (k : VX G me x E pc loc rest N h' k2 s2) : V G me x pc loc st N gf h kc ks := by
  subst hs
  refine V_runX (arr := (rf G i :: as).toArray) C hkc hks (fun {p e R s m args below meth c H locs cells slots ls} F hW hS hf hsz => ?_) k
  obtain ⟨F1, hK, hfr, hlc⟩ := F
  have hts := F1.2.2.2.2
  exact vx_runV (As := as) (C := y.cls) F1 hc ⟨callB_of np hts (gd_GoodIn hk.1.1) rfl rfl rfl (hts _ hk.1.1.2.1) (hts _ hl) hk.1.1.2.2.1 (by rw [hfr, hlc]; exact hR), hts _ hk.1.2, hts _ hk.2⟩ ⟨FB _ _ _ _ _, va_recv hK.2.1 hW.1 hcl (by rw [wsO_at hi, hci]), Pc_at hK hW hS⟩ rfl hn hsz rfl (lv_room hW8) d hf
/-- a static callee with a table, that returns -/
theorem V_SH {st2 : List Value} (C : Cx G me x) (d : decode me.2.1 pc = .ok (.invokestatic idx, 3)) (hl : Cond.methodLink me.1 idx y ∈ lw_gd) (hk : YKh y me' np) (hc : CtH G y me' as N gf h kc' ks' v N' gf' h') (hs : st = as.reverse ++ rest) (hn : as.length = np) (hR : me'.2.2.2.2.1 + 1 ≤ me.2.2.2.2.1 ∧ 8 + (me'.2.2.1 + 11) + me'.2.2.2.2.2.1 ≤ me.2.2.2.2.2.1) (hW8 : (rest.map fun v => v.category).sum ≤ 8) (hkc : k2 + kc' ≤ kc) (hks : s2 + ks' ≤ ks) (hst : v.toList ++ rest = st2) (k : V G me x (pc + 3) loc st2 N' gf' h' k2 s2) : V G me x pc loc st N gf h kc ks := by
  subst hs
  refine V_run (arr := as.toArray) C hkc hks (fun {p e R s m args below meth c H locs cells slots ls} F hW hS hf hsz => ?_) hst k
  obtain ⟨F1, hK, hfr, hlc⟩ := F
  have hts := F1.2.2.2.2
  have hg : GoodIn lw_gd (va_wsS me.1 idx y (wsH y me')) := by
    intro w hw
    have hm : w ∈ lw_gd := by
      unfold va_wsS at hw
      rcases List.mem_append.mp hw with e1 | e1
      · simp only [List.mem_cons, List.not_mem_nil, or_false] at e1
        rcases e1 with rfl | rfl | rfl
        · exact hl
        · exact hk.2.2.2.2.2
        · exact hk.2.1
      · rcases List.mem_cons.mp e1 with e2 | e2
        · rw [e2]; exact hk.1
        · exact e2
    exact ⟨hm, good_of_word (gd_good hm)⟩
  intro T hT X
  rcases vx_runSX (As := as) F1 hc (vx_cwSW np hts hg rfl rfl rfl hk.2.2.1 (by rw [hfr, hlc]; exact hR)) ⟨FB _ _ _ _ _, Pc_at hK hW hS⟩ rfl hn hsz rfl (lv_room hW8) d hf T hT X with ⟨w, st₀, t, T', L, q1⟩ | ⟨q, st₀, t, T', L, E', ce, h0, X', hL, e1, e2, hx9, -⟩
  · exact ⟨w, st₀, t, T', L, q1⟩
  · exact hx9.elim
end CALLS
