/-! the class's world against the reference's -/
def slot (s : Nat → Int) (i : Nat) : Nat → Int := fun k => s (74 * i + k)
def RQ (K : Nat → Nat → Int) (a : Nat) (z : Nat → Int) : Prop := (∀ k, k < 6 → K (a + 1) k = z k) ∧ K a 1 = (dN (fun j => z (7 + j)) (z 6).toNat : Nat) ∧ K a 2 = z 6
def RT (K : Nat → Nat → Int) (a : Nat) (z : Nat → Int) : Prop := K a 3 = (if z 71 = 1 then z 72 else -1) ∧ K a 4 = (if z 71 = 1 then z 73 else 0)
def RS (K : Nat → Nat → Int) (a : Nat) (z : Nat → Int) : Prop := RQ K a z ∧ RT K a z
def PR (r : Nat → Option Nat) : Prop := (∀ i, i < 5 → ∃ a, r i = some a ∧ isS a = true ∧ 18 ≤ a) ∧ ∀ i j, i < 5 → j < 5 → r i = r j → i = j
def IC (K : Nat → Nat → Int) (r : Nat → Option Nat) (s : Nat → Int) (st : Nat) (kp : Int) (t : Nat → Int) (T : Nat) : Prop :=
  st ≤ 5 ∧ RS K 1 s ∧ (K 0 2 = kp ∧ K 0 4 = st ∧ K 0 6 = T) ∧ K 6 = t ∧ (kp = 1 → RS K 3 (slot s 6)) ∧ PR r ∧ (∀ i, i < st → ∃ a, r i = some a ∧ RS K a (slot s (i + 1)))
def GI (s : Nat → Int) (st : Nat) (kp : Int) (t : Nat → Int) (T : Nat) : Prop := GZ s ∧ st ≤ 5 ∧ (kp = 0 ∨ kp = 1) ∧ T ≤ 60 ∧ (∀ j, j < T → 33 ≤ t j ∧ t j ≤ 126) ∧ (kp = 1 → GZ (slot s 6)) ∧ (∀ i, i < st → GZ (slot s (i + 1)))
/-- nothing but the scratch of the class differs -/
def EqC (K K' : Nat → Nat → Int) : Prop := ∀ q, q < 7 ∨ 17 < q → K' q = K q
/-- the reference's cells are as they were -/
def FR (K K' : Nat → Nat → Int) : Prop := ∀ q, 28 ≤ q → K' q = K q
theorem FR.tr {K K' K'' : Nat → Nat → Int} (h1 : FR K K') (h2 : FR K' K'') : FR K K'' := fun q hq => (h2 q hq).trans (h1 q hq)
theorem FR_us {K : Nat → Nat → Int} {a : Nat} {v : Nat → Int} (h : a < 28) : FR K (us K a v) := fun q hq => us_ne _ _ (by omega)
theorem EqC.FR {K K' : Nat → Nat → Int} (h : EqC K K') : FR K K' := fun q hq => h q (.inr (by omega))
theorem EqC.rf (K : Nat → Nat → Int) : EqC K K := fun _ _ => rfl
theorem EqC.tr {K K' K'' : Nat → Nat → Int} (h1 : EqC K K') (h2 : EqC K' K'') : EqC K K'' := fun q hq => (h2 q hq).trans (h1 q hq)
theorem EqC_us {K : Nat → Nat → Int} {a : Nat} {v : Nat → Int} (h : 7 ≤ a ∧ a ≤ 17) : EqC K (us K a v) := fun q hq => us_ne _ _ (by omega)
theorem RS_congr {K K' : Nat → Nat → Int} {a : Nat} {z : Nat → Int} (h0 : K' a = K a) (h1 : K' (a + 1) = K (a + 1)) (h : RS K a z) : RS K' a z := by
  unfold RS RQ RT at *
  rw [h0, h1]
  exact h
theorem RQ_congr {K K' : Nat → Nat → Int} {a : Nat} {z : Nat → Int} (h1 : K' (a + 1) = K (a + 1)) (h2 : K' a 1 = K a 1) (h3 : K' a 2 = K a 2) (h : RQ K a z) : RQ K' a z := by
  unfold RQ at *
  rw [h1, h2, h3]
  exact h
theorem RQ_z {K : Nat → Nat → Int} {a : Nat} {z z' : Nat → Int} (h6 : z 6 ≤ 64) (e : ∀ j, j < 71 → z' j = z j) (h : RQ K a z) : RQ K a z' := by
  refine ⟨fun k hk => by rw [h.1 k hk, e k (by omega)], ?_, by rw [h.2.2, e 6 (by omega)]⟩
  rw [h.2.1, e 6 (by omega)]
  exact congrArg (fun n : Nat => (n : Int)) (dN_congr (fun j hj => (e (7 + j) (by omega)).symm))
theorem RS_z {K : Nat → Nat → Int} {a : Nat} {z z' : Nat → Int} (h6 : z 6 ≤ 64) (e : ∀ j, j < 74 → z' j = z j) (h : RS K a z) : RS K a z' := by
  refine ⟨RQ_z h6 (fun j hj => e j (by omega)) h.1, ?_⟩
  unfold RT
  rw [e 71 (by omega), e 72 (by omega), e 73 (by omega)]
  exact h.2
theorem cpK_ne {K : Nat → Nat → Int} {a b q : Nat} (h0 : q ≠ a) (h1 : q ≠ a + 1) : cpK K a b q = K q := by
  unfold cpK; rw [us_ne _ _ h0, us_ne _ _ h1]
theorem RS_cp {K : Nat → Nat → Int} {a b : Nat} {z : Nat → Int} (h : RS K b z) : RS (cpK K a b) a z := by
  have e0 : cpK K a b a = us (us (us (us (K a) 1 (K b 1)) 2 (K b 2)) 3 (K b 3)) 4 (K b 4) := us_at _ _ _
  have e1 : cpK K a b (a + 1) = cpN (K (a + 1)) (K (b + 1)) 6 := by unfold cpK; rw [us_ne _ _ (by omega), us_at]
  refine ⟨⟨fun k hk => ?_, ?_, ?_⟩, ?_, ?_⟩
  · rw [e1]; simp only [cpN]; rw [if_pos hk]; exact h.1.1 k hk
  · rw [e0]; exact h.1.2.1
  · rw [e0]; exact h.1.2.2
  · rw [e0]; exact h.2.1
  · rw [e0]; exact h.2.2
theorem FR_cp {K : Nat → Nat → Int} {a b : Nat} (h : a + 1 < 28) : FR K (cpK K a b) := fun q hq => cpK_ne (by omega) (by omega)
theorem isS_28 {a : Nat} (h : isS a = true) : a + 1 < 28 := by rcases isS_c h with rfl | rfl | rfl | rfl | rfl | rfl | rfl <;> decide
theorem isS_ev {a : Nat} (h : isS a = true) (h18 : 18 ≤ a) : a % 2 = 0 := by rcases isS_c h with rfl | rfl | rfl | rfl | rfl | rfl | rfl <;> first | rfl | (exact absurd h18 (by decide))
theorem IC_ext {K K' : Nat → Nat → Int} {r : Nat → Option Nat} {s : Nat → Int} {st : Nat} {kp : Int} {t : Nat → Int} {T : Nat} (e : ∀ q, q < 28 → q < 7 ∨ 17 < q → K' q = K q) (h : IC K r s st kp t T) : IC K' r s st kp t T := by
  obtain ⟨h0, h1, h2, h3, h4, h5, h6⟩ := h
  refine ⟨h0, RS_congr (e 1 (by decide) (by decide)) (e 2 (by decide) (by decide)) h1, by rw [e 0 (by decide) (by decide)]; exact h2, by rw [e 6 (by decide) (by decide)]; exact h3, fun w => RS_congr (e 3 (by decide) (by decide)) (e 4 (by decide) (by decide)) (h4 w), h5, fun i hi => ?_⟩
  obtain ⟨a, q1, q2⟩ := h6 i hi
  obtain ⟨b, p1, p2, p3⟩ := h5.1 i (by omega)
  cases Option.some.inj (q1.symm.trans p1)
  have := isS_28 p2
  exact ⟨a, q1, RS_congr (e a (by omega) (by omega)) (e (a + 1) (by omega) (by omega)) q2⟩
theorem IC_C {K K' : Nat → Nat → Int} {r : Nat → Option Nat} {s : Nat → Int} {st : Nat} {kp : Int} {t : Nat → Int} {T : Nat} (e : EqC K K') (h : IC K r s st kp t T) : IC K' r s st kp t T := IC_ext (fun q _ w => e q w) h
/-- the state of now becomes another one -/
theorem IC_now {K K' : Nat → Nat → Int} {r : Nat → Option Nat} {s s' : Nat → Int} {st : Nat} {kp : Int} {t : Nat → Int} {T : Nat} (h : IC K r s st kp t T) (e : ∀ q, q ≠ 1 → q ≠ 2 → q < 7 ∨ 17 < q → K' q = K q) (hs : RS K' 1 s') (es : ∀ j, 74 ≤ j → s' j = s j) : IC K' r s' st kp t T := by
  obtain ⟨h0, h1, h2, h3, h4, h5, h6⟩ := h
  have sl : ∀ i, slot s' (i + 1) = slot s (i + 1) := fun i => by
    funext k
    exact es _ (by omega)
  refine ⟨h0, hs, by rw [e 0 (by decide) (by decide) (by decide)]; exact h2, by rw [e 6 (by decide) (by decide) (by decide)]; exact h3, fun w => by rw [sl 5]; exact RS_congr (e 3 (by decide) (by decide) (by decide)) (e 4 (by decide) (by decide) (by decide)) (h4 w), h5, fun i hi => ?_⟩
  obtain ⟨a, q1, q2⟩ := h6 i hi
  obtain ⟨b, p1, p2, p3⟩ := h5.1 i (by omega)
  cases Option.some.inj (q1.symm.trans p1)
  rw [sl i]
  exact ⟨a, q1, RS_congr (e a (by omega) (by omega) (by omega)) (e (a + 1) (by omega) (by omega) (by omega)) q2⟩
theorem GI_now {s s' : Nat → Int} {st : Nat} {kp : Int} {t : Nat → Int} {T : Nat} (h : GI s st kp t T) (hs : GZ s') (es : ∀ j, 74 ≤ j → s' j = s j) : GI s' st kp t T := by
  obtain ⟨h0, h1, h2, h3, h4, h5, h6⟩ := h
  have sl : ∀ i, slot s' (i + 1) = slot s (i + 1) := fun i => by
    funext k
    exact es _ (by omega)
  exact ⟨hs, h1, h2, h3, h4, fun w => by rw [sl 5]; exact h5 w, fun i hi => by rw [sl i]; exact h6 i hi⟩
/-! saving -/
theorem cp_slot {s : Nat → Int} {fr to i k : Nat} (hk : k < 74) : slot (cpS s fr to 74) i k = if i = to then slot s fr k else slot s i k := cpS_at s fr to hk
theorem slot_0 (s : Nat → Int) (k : Nat) : slot s 0 k = s k := by unfold slot; rw [Nat.mul_zero, Nat.zero_add]
theorem IC_put {K : Nat → Nat → Int} {r : Nat → Option Nat} {s : Nat → Int} {st : Nat} {kp : Int} {t : Nat → Int} {T : Nat} {a : Nat} (h : IC K r s st kp t T) (hg : GI s st kp t T) (hst : st < 5) (ha : r st = some a) :
    IC (us (cpK K a 1) 0 (us ((cpK K a 1) 0) 4 ((st : Int) + 1))) r (cpS s 0 (st + 1) 74) (st + 1) kp t T := by
  obtain ⟨h0, h1, h2, h3, h4, h5, h6⟩ := h
  obtain ⟨b, p1, p2, p3⟩ := h5.1 st hst
  cases Option.some.inj (ha.symm.trans p1)
  have hc0 : ∀ q, q ≠ 0 → q ≠ a → q ≠ a + 1 → us (cpK K a 1) 0 (us ((cpK K a 1) 0) 4 ((st : Int) + 1)) q = K q := fun q n0 n1 n2 => by rw [us_ne _ _ n0, cpK_ne n1 n2]
  have e0 : cpK K a 1 0 = K 0 := cpK_ne (by omega) (by omega)
  have h60 : s 6 ≤ 64 := hg.1.2.1.2
  refine ⟨by omega, ?_, ?_, ?_, fun w => ?_, h5, fun i hi => ?_⟩
  · refine RS_z h60 (fun j hj => ?_) (RS_congr (hc0 1 (by decide) (by omega) (by omega)) (hc0 2 (by decide) (by omega) (by omega)) h1)
    exact cpS_ne (by omega)
  · rw [us_at, e0, us_ne _ _ (by decide), us_at, us_ne _ _ (by decide)]
    exact ⟨h2.1, by omega, h2.2.2⟩
  · rw [hc0 6 (by decide) (by omega) (by omega)]; exact h3
  · refine RS_z (hg.2.2.2.2.2.1 w).2.1.2 (fun j hj => ?_) (RS_congr (hc0 3 (by decide) (by omega) (by omega)) (hc0 4 (by decide) (by omega) (by omega)) (h4 w))
    rw [cp_slot hj, if_neg (by omega)]
  · by_cases e : i = st
    · subst e
      refine ⟨a, ha, ?_⟩
      have g1 := RS_congr (K' := us (cpK K a 1) 0 (us ((cpK K a 1) 0) 4 ((i : Int) + 1))) (us_ne _ _ (by omega)) (us_ne _ _ (by omega)) (RS_cp (a := a) h1)
      exact RS_z h60 (fun j hj => by rw [cp_slot hj, if_pos rfl, slot_0]) g1
    · obtain ⟨c, q1, q2⟩ := h6 i (by omega)
      obtain ⟨d, w1, w2, w3⟩ := h5.1 i (by omega)
      cases Option.some.inj (q1.symm.trans w1)
      have hne : c ≠ a := fun w => e (h5.2 i st (by omega) hst (by rw [q1, ha, w]))
      have g1 := isS_ne1 w2 p2
      have g2 := isS_ne1 p2 w2
      refine ⟨c, q1, ?_⟩
      refine RS_z (hg.2.2.2.2.2.2 i (by omega)).2.1.2 (fun j hj => ?_) (RS_congr (hc0 c (by omega) hne (by omega)) (hc0 (c + 1) (by omega) (by omega) (by omega)) q2)
      rw [cp_slot hj, if_neg (by omega)]
def rotR (r : Nat → Option Nat) : Nat → Option Nat := fun i => if i < 4 then r (i + 1) else if i = 4 then r 0 else r i
theorem PR_rot {r : Nat → Option Nat} (h : PR r) : PR (rotR r) := by
  refine ⟨fun i hi => ?_, fun i j hi hj e => ?_⟩
  · simp only [rotR]
    by_cases c : i < 4
    · rw [if_pos c]; exact h.1 (i + 1) (by omega)
    · rw [if_neg c, if_pos (by omega)]; exact h.1 0 (by omega)
  · simp only [rotR] at e
    by_cases c : i < 4 <;> by_cases d : j < 4
    · rw [if_pos c, if_pos d] at e; have := h.2 _ _ (by omega) (by omega) e; omega
    · rw [if_pos c, if_neg d, if_pos (by omega)] at e; have := h.2 _ _ (by omega) (by omega) e; omega
    · rw [if_neg c, if_pos (by omega), if_pos d] at e; have := h.2 _ _ (by omega) (by omega) e; omega
    · omega
theorem sh_slot {s : Nat → Int} {i k : Nat} (hk : k < 74) (hi : i ≤ 6) : slot (shS s 4) i k = if 1 ≤ i ∧ i ≤ 4 then slot s (i + 1) k else slot s i k := by
  simp only [shS]
  exact match i, hi with
  | 0, _ => by simp [cp_slot hk]
  | 1, _ => by simp [cp_slot hk]
  | 2, _ => by simp [cp_slot hk]
  | 3, _ => by simp [cp_slot hk]
  | 4, _ => by simp [cp_slot hk]
  | 5, _ => by simp [cp_slot hk]
  | 6, _ => by simp [cp_slot hk]
  | n + 7, hi => absurd hi (by omega)
theorem IC_drop {K : Nat → Nat → Int} {r : Nat → Option Nat} {s : Nat → Int} {kp : Int} {t : Nat → Int} {T : Nat} (h : IC K r s 5 kp t T) (hg : GI s 5 kp t T) : IC (us K 0 (us (K 0) 4 4)) (rotR r) (shS s 4) 4 kp t T := by
  obtain ⟨h0, h1, h2, h3, h4, h5, h6⟩ := h
  have hc : ∀ q, q ≠ 0 → us K 0 (us (K 0) 4 4) q = K q := fun q n => us_ne _ _ n
  refine ⟨by decide, ?_, ?_, ?_, fun w => ?_, PR_rot h5, fun i hi => ?_⟩
  · refine RS_z hg.1.2.1.2 (fun j hj => ?_) (RS_congr (hc 1 (by decide)) (hc 2 (by decide)) h1)
    rw [← slot_0 (shS s 4), sh_slot hj (by decide), if_neg (by decide), slot_0]
  · rw [us_at, us_ne _ _ (by decide), us_at, us_ne _ _ (by decide)]
    exact ⟨h2.1, rfl, h2.2.2⟩
  · rw [hc 6 (by decide)]; exact h3
  · refine RS_z (hg.2.2.2.2.2.1 w).2.1.2 (fun j hj => ?_) (RS_congr (hc 3 (by decide)) (hc 4 (by decide)) (h4 w))
    rw [sh_slot hj (by decide), if_neg (by decide)]
  · obtain ⟨a, q1, q2⟩ := h6 (i + 1) (by omega)
    obtain ⟨d, w1, w2, w3⟩ := h5.1 (i + 1) (by omega)
    cases Option.some.inj (q1.symm.trans w1)
    refine ⟨a, by simp only [rotR]; rw [if_pos hi]; exact q1, ?_⟩
    refine RS_z (hg.2.2.2.2.2.2 (i + 1) (by omega)).2.1.2 (fun j hj => ?_) (RS_congr (hc a (by omega)) (hc (a + 1) (by omega)) q2)
    rw [sh_slot hj (by omega), if_pos (by omega)]
theorem GI_put {s : Nat → Int} {st : Nat} {kp : Int} {t : Nat → Int} {T : Nat} (h : GI s st kp t T) (hst : st < 5) : GI (cpS s 0 (st + 1) 74) (st + 1) kp t T := by
  obtain ⟨h0, h1, h2, h3, h4, h5, h6⟩ := h
  refine ⟨GZ_of h0 (fun j hj => cpS_ne (by omega)), by omega, h2, h3, h4, fun w => GZ_of (h5 w) (fun j hj => by rw [cp_slot hj, if_neg (by omega)]), fun i hi => ?_⟩
  by_cases e : i = st
  · subst e
    exact GZ_of h0 (fun j hj => by rw [cp_slot hj, if_pos rfl, slot_0])
  · exact GZ_of (h6 i (by omega)) (fun j hj => by rw [cp_slot hj, if_neg (by omega)])
theorem GI_drop {s : Nat → Int} {kp : Int} {t : Nat → Int} {T : Nat} (h : GI s 5 kp t T) : GI (shS s 4) 4 kp t T := by
  obtain ⟨h0, h1, h2, h3, h4, h5, h6⟩ := h
  refine ⟨GZ_of h0 (fun j hj => ?_), by decide, h2, h3, h4, fun w => GZ_of (h5 w) (fun j hj => by rw [sh_slot hj (by decide), if_neg (by decide)]), fun i hi => GZ_of (h6 (i + 1) (by omega)) (fun j hj => by rw [sh_slot hj (by omega), if_pos (by omega)])⟩
  rw [← slot_0 (shS s 4), sh_slot hj (by decide), if_neg (by decide), slot_0]
/-- how many are saved then -/
def st1 (st : Nat) : Nat := if st = 5 then 5 else st + 1
theorem svS_5 (s : Nat → Int) : svS s 5 = cpS (shS s 4) 0 (4 + 1) 74 := by unfold svS; rw [if_pos rfl]
theorem svS_n {s : Nat → Int} {st : Nat} (h : st ≠ 5) : svS s st = cpS s 0 (st + 1) 74 := by unfold svS; rw [if_neg h]
theorem GI_save {s : Nat → Int} {st : Nat} {kp : Int} {t : Nat → Int} {T : Nat} (h : GI s st kp t T) : GI (svS s st) (st1 st) kp t T := by
  unfold st1
  by_cases e : st = 5
  · subst e
    rw [if_pos rfl, svS_5]
    exact GI_put (GI_drop h) (by decide)
  · rw [if_neg e, svS_n e]
    exact GI_put h (by have := h.2.1; omega)
theorem svS_z {s : Nat → Int} {st : Nat} {k : Nat} (h : k < 74) : svS s st k = s k := svS_0 h
