/-! what changes, and what stays within its bounds -/
theorem GZ_cut {z : Nat → Int} (h : GZ z) {n L k : Nat} (hL : L ≤ 64) (hn : k + n ≤ 64) : GZ (ctF z n L k) := by
  refine ⟨fun j hj => ?_, ?_, fun j h1 h2 => ?_, ?_, ?_, ?_⟩
  · simp only [ctF]; rw [if_neg (by omega), if_neg (by omega)]; exact h.1 j hj
  · rw [ctF_6]; omega
  · simp only [ctF]
    rw [if_neg (by omega)]
    split
    · exact h.2.2.1 _ (by omega) (by omega)
    · exact h.2.2.1 j h1 h2
  · rw [ctF_up (by omega)]; exact h.2.2.2.1
  · rw [ctF_up (by omega)]; exact h.2.2.2.2.1
  · rw [ctF_up (by omega)]; exact h.2.2.2.2.2
theorem IC_dec {K : Nat → Nat → Int} {r : Nat → Option Nat} {s : Nat → Int} {st : Nat} {kp : Int} {t : Nat → Int} {T : Nat} (h : IC K r s st kp t T) (hst : 0 < st) : IC (us K 0 (us (K 0) 4 ((st : Int) - 1))) r s (st - 1) kp t T := by
  obtain ⟨h0, h1, h2, h3, h4, h5, h6⟩ := h
  have hc : ∀ q, q ≠ 0 → us K 0 (us (K 0) 4 ((st : Int) - 1)) q = K q := fun q n => us_ne _ _ n
  refine ⟨by omega, RS_congr (hc 1 (by decide)) (hc 2 (by decide)) h1, ?_, by rw [hc 6 (by decide)]; exact h3, fun w => RS_congr (hc 3 (by decide)) (hc 4 (by decide)) (h4 w), h5, fun i hi => ?_⟩
  · rw [us_at, us_ne _ _ (by decide), us_at, us_ne _ _ (by decide)]
    exact ⟨h2.1, by omega, h2.2.2⟩
  · obtain ⟨a, q1, q2⟩ := h6 i (by omega)
    obtain ⟨b, p1, p2, p3⟩ := h5.1 i (by omega)
    cases Option.some.inj (q1.symm.trans p1)
    exact ⟨a, q1, RS_congr (hc a (by omega)) (hc (a + 1) (by omega)) q2⟩
theorem IC_len {K : Nat → Nat → Int} {r : Nat → Option Nat} {s : Nat → Int} {st : Nat} {kp : Int} {t : Nat → Int} {T T' : Nat} (h : IC K r s st kp t T) : IC (us K 0 (us (K 0) 6 (T' : Int))) r s st kp t T' := by
  obtain ⟨h0, h1, h2, h3, h4, h5, h6⟩ := h
  have hc : ∀ q, q ≠ 0 → us K 0 (us (K 0) 6 (T' : Int)) q = K q := fun q n => us_ne _ _ n
  refine ⟨h0, RS_congr (hc 1 (by decide)) (hc 2 (by decide)) h1, ?_, by rw [hc 6 (by decide)]; exact h3, fun w => RS_congr (hc 3 (by decide)) (hc 4 (by decide)) (h4 w), h5, fun i hi => ?_⟩
  · rw [us_at, us_ne _ _ (by decide), us_ne _ _ (by decide), us_at]
    exact ⟨h2.1, h2.2.1, rfl⟩
  · obtain ⟨a, q1, q2⟩ := h6 i hi
    obtain ⟨b, p1, p2, p3⟩ := h5.1 i (by omega)
    cases Option.some.inj (q1.symm.trans p1)
    exact ⟨a, q1, RS_congr (hc a (by omega)) (hc (a + 1) (by omega)) q2⟩
theorem IC_txt {K : Nat → Nat → Int} {r : Nat → Option Nat} {s : Nat → Int} {st : Nat} {kp : Int} {t : Nat → Int} {T : Nat} {v : Nat → Int} (h : IC K r s st kp t T) : IC (us K 6 v) r s st kp v T := by
  obtain ⟨h0, h1, h2, h3, h4, h5, h6⟩ := h
  have hc : ∀ q, q ≠ 6 → us K 6 v q = K q := fun q n => us_ne _ _ n
  refine ⟨h0, RS_congr (hc 1 (by decide)) (hc 2 (by decide)) h1, by rw [hc 0 (by decide)]; exact h2, us_at _ _ _, fun w => RS_congr (hc 3 (by decide)) (hc 4 (by decide)) (h4 w), h5, fun i hi => ?_⟩
  obtain ⟨a, q1, q2⟩ := h6 i hi
  obtain ⟨b, p1, p2, p3⟩ := h5.1 i (by omega)
  cases Option.some.inj (q1.symm.trans p1)
  exact ⟨a, q1, RS_congr (hc a (by omega)) (hc (a + 1) (by omega)) q2⟩
theorem IC_keep {K : Nat → Nat → Int} {r : Nat → Option Nat} {s : Nat → Int} {st : Nat} {kp : Int} {t : Nat → Int} {T : Nat} (h : IC K r s st kp t T) (hg : GI s st kp t T) : IC (us (cpK K 3 1) 0 (us ((cpK K 3 1) 0) 2 1)) r (cpS s 0 6 74) st 1 t T := by
  obtain ⟨h0, h1, h2, h3, h4, h5, h6⟩ := h
  have hc : ∀ q, q ≠ 0 → q ≠ 3 → q ≠ 4 → us (cpK K 3 1) 0 (us ((cpK K 3 1) 0) 2 1) q = K q := fun q n0 n1 n2 => by rw [us_ne _ _ n0, cpK_ne n1 n2]
  have e0 : cpK K 3 1 0 = K 0 := cpK_ne (by decide) (by decide)
  have h60 : s 6 ≤ 64 := hg.1.2.1.2
  refine ⟨h0, ?_, ?_, by rw [hc 6 (by decide) (by decide) (by decide)]; exact h3, fun _ => ?_, h5, fun i hi => ?_⟩
  · exact RS_z h60 (fun j hj => cpS_ne (by omega)) (RS_congr (hc 1 (by decide) (by decide) (by decide)) (hc 2 (by decide) (by decide) (by decide)) h1)
  · rw [us_at, e0, us_at, us_ne _ _ (by decide), us_ne _ _ (by decide)]
    exact ⟨rfl, h2.2.1, h2.2.2⟩
  · have g1 := RS_congr (K' := us (cpK K 3 1) 0 (us ((cpK K 3 1) 0) 2 1)) (us_ne _ _ (by decide)) (us_ne _ _ (by decide)) (RS_cp (a := 3) h1)
    exact RS_z h60 (fun j hj => by rw [cp_slot hj, if_pos rfl, slot_0]) g1
  · obtain ⟨a, q1, q2⟩ := h6 i hi
    obtain ⟨b, p1, p2, p3⟩ := h5.1 i (by omega)
    cases Option.some.inj (q1.symm.trans p1)
    refine ⟨a, q1, RS_z (hg.2.2.2.2.2.2 i hi).2.1.2 (fun j hj => ?_) (RS_congr (hc a (by omega) (by omega) (by omega)) (hc (a + 1) (by omega) (by omega) (by omega)) q2)⟩
    rw [cp_slot hj, if_neg (by omega)]
theorem GI_keep {s : Nat → Int} {st : Nat} {kp : Int} {t : Nat → Int} {T : Nat} (hg : GI s st kp t T) : GI (cpS s 0 6 74) st 1 t T := by
  obtain ⟨h0, h1, h2, h3, h4, h5, h6⟩ := hg
  exact ⟨GZ_of h0 (fun j hj => cpS_ne (by omega)), h1, .inr rfl, h3, h4, fun _ => GZ_of h0 (fun j hj => by rw [cp_slot hj, if_pos rfl, slot_0]), fun i hi => GZ_of (h6 i hi) (fun j hj => by rw [cp_slot hj, if_neg (by omega)])⟩
/-- the state of now is another slot's -/
theorem IC_back {K : Nat → Nat → Int} {r : Nat → Option Nat} {s : Nat → Int} {st : Nat} {kp : Int} {t : Nat → Int} {T a n : Nat} (h : IC K r s st kp t T) (hr : RS K a (slot s n)) (hz : GZ (slot s n)) (hn : n ≠ 0) : IC (cpK K 1 a) r (cpS s n 0 74) st kp t T := by
  refine IC_now h (fun q n1 n2 _ => cpK_ne n1 n2) (RS_z hz.2.1.2 (fun j hj => ?_) (RS_cp hr)) (fun j hj => cpS_ne (by omega))
  rw [← slot_0 (cpS s n 0 74), cp_slot hj, if_pos rfl]
theorem GI_back {s : Nat → Int} {st : Nat} {kp : Int} {t : Nat → Int} {T n : Nat} (h : GI s st kp t T) (hz : GZ (slot s n)) : GI (cpS s n 0 74) st kp t T :=
  GI_now h (GZ_of hz (fun j hj => by rw [← slot_0 (cpS s n 0 74), cp_slot hj, if_pos rfl])) (fun j hj => cpS_ne (by omega))
theorem GI_dec {s : Nat → Int} {st : Nat} {kp : Int} {t : Nat → Int} {T : Nat} (h : GI s st kp t T) : GI s (st - 1) kp t T := ⟨h.1, by have := h.2.1; omega, h.2.2.1, h.2.2.2.1, h.2.2.2.2.1, h.2.2.2.2.2.1, fun i hi => h.2.2.2.2.2.2 i (by omega)⟩
theorem GI_clear {s : Nat → Int} {st : Nat} {kp : Int} {t : Nat → Int} {T : Nat} (h : GI s st kp t T) : GI s st kp t 0 := ⟨h.1, h.2.1, h.2.2.1, by decide, fun j hj => absurd hj (Nat.not_lt_zero j), h.2.2.2.2.2.1, h.2.2.2.2.2.2⟩
theorem GI_app {s : Nat → Int} {st : Nat} {kp : Int} {t : Nat → Int} {T : Nat} {p : Int} (h : GI s st kp t T) (hp : 33 ≤ p ∧ p ≤ 126) (hT : T < 60) : GI s st kp (us t T p) (T + 1) := by
  refine ⟨h.1, h.2.1, h.2.2.1, by omega, fun j hj => ?_, h.2.2.2.2.2.1, h.2.2.2.2.2.2⟩
  by_cases e : j = T
  · subst e; rw [us_at]; exact hp
  · rw [us_ne _ _ e]; exact h.2.2.2.2.1 j (by omega)
/-- the text scanned -/
theorem sc_wh {t : Nat → Int} {T : Nat} (f : Nat → Int) : (scR t T (us f 0 0) 0).2 = (wh t T (T + 1) 0).2 ∧ ((wh t T (T + 1) 0).1 = true ↔ (scR t T (us f 0 0) 0).2 = T ∧ ((scR t T (us f 0 0) 0).1 0 = 4 ∨ (scR t T (us f 0 0) 0).1 0 = 5)) := by
  have h := scR_wh (t := t) (T := T) (T + 1) 0 (us f 0 0) (Nat.zero_le _) (by omega) rfl
  rwa [Nat.sub_zero] at h
theorem sc_I {t : Nat → Int} {T : Nat} (f : Nat → Int) (ht : ∀ j, j < T → 33 ≤ t j ∧ t j ≤ 126) : scI (scR t T (us f 0 0) 0).1 := scR_I (us_I (.inl rfl)) (fun j h1 h2 => by have := ht j (by omega); omega)
theorem RT_st {K : Nat → Nat → Int} {z : Nat → Int} {why : Int} {m : Nat} (hw : 0 ≤ why) (h3 : K 1 3 = if 0 < why then (m : Int) else -1) (h4 : K 1 4 = why) : RT K 1 (stS z why m) := by
  have e1 : stS z why m 71 = if 0 < why then 1 else 0 := by unfold stS; rw [us_ne _ _ (by decide), us_ne _ _ (by decide), us_at]
  have e2 : stS z why m 72 = m := by unfold stS; rw [us_ne _ _ (by decide), us_at]
  have e3 : stS z why m 73 = why := by unfold stS; rw [us_at]
  unfold RT
  rw [e1, e2, e3, h3, h4]
  by_cases c : 0 < why
  · rw [if_pos c, if_pos c, if_pos rfl, if_pos rfl]; exact ⟨rfl, rfl⟩
  · rw [if_neg c, if_neg c, if_neg (by decide), if_neg (by decide)]; exact ⟨rfl, by omega⟩
theorem stS_lo {z : Nat → Int} {why : Int} {m j : Nat} (h : j < 71) : stS z why m j = z j := by unfold stS; rw [us_ne _ _ (by omega), us_ne _ _ (by omega), us_ne _ _ (by omega)]
theorem stS_hi {z : Nat → Int} {why : Int} {m j : Nat} (h : 74 ≤ j) : stS z why m j = z j := by unfold stS; rw [us_ne _ _ (by omega), us_ne _ _ (by omega), us_ne _ _ (by omega)]
