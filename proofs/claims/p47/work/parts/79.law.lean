/-! the law -/
theorem sv_now {s : Nat → Int} {st j : Nat} (h5 : st ≤ 5) (hj : j < 74) : svS s st (74 * st1 st + j) = s j := by
  by_cases e : st = 5
  · subst e
    rw [svS_5, show st1 5 = 5 from rfl]
    have h := cpS_at (shS s 4) 0 (4 + 1) (i := 5) hj
    rw [if_pos rfl] at h
    refine h.trans ?_
    have g := sh_slot (s := s) (i := 0) hj (by decide)
    rw [if_neg (by decide)] at g
    show slot (shS s 4) 0 j = s j
    rw [g, slot_0]
  · rw [svS_n e, show st1 st = st + 1 by unfold st1; rw [if_neg e]]
    have h := cpS_at s 0 (st + 1) (i := st + 1) hj
    rw [if_pos rfl, Nat.mul_zero, Nat.zero_add] at h
    exact h
theorem sv_six {s : Nat → Int} {st j : Nat} (h5 : st ≤ 5) (hj : j < 74) : svS s st (74 * 6 + j) = s (74 * 6 + j) := by
  by_cases e : st = 5
  · subst e
    rw [svS_5]
    have h := cpS_at (shS s 4) 0 (4 + 1) (i := 6) hj
    rw [if_neg (by decide)] at h
    refine h.trans ?_
    have g := sh_slot (s := s) (i := 6) hj (by decide)
    rw [if_neg (by decide)] at g
    exact g
  · rw [svS_n e]
    have h := cpS_at s 0 (st + 1) (i := 6) hj
    rw [if_neg (by omega)] at h
    exact h
theorem st1_r {st : Nat} (h : st ≤ 5) : 1 ≤ st1 st ∧ st1 st ≤ 5 := by unfold st1; split <;> omega
theorem back_un {s s1 : Nat → Int} {st : Nat} (h5 : st ≤ 5) (hi : ∀ j, 74 ≤ j → s1 j = svS s st j) {j : Nat} (hj : j < 74) : cpS (cpS s1 0 6 74) (st1 st) 0 74 j = s j := by
  have h := st1_r h5
  have e1 := cpS_at (cpS s1 0 6 74) (st1 st) 0 (i := 0) hj
  rw [if_pos rfl, Nat.mul_zero, Nat.zero_add] at e1
  have e2 := cpS_at s1 0 6 (i := st1 st) hj
  rw [if_neg (by omega)] at e2
  rw [e1, e2, hi _ (by omega), sv_now h5 hj]
theorem back_re {s1 : Nat → Int} {a st : Nat} (h5 : st ≤ 5) (ha : a ≠ 6) {j : Nat} (hj : j < 74) : cpS (svS (cpS (cpS s1 0 6 74) a 0 74) st) 6 0 74 j = s1 j := by
  have e1 := cpS_at (svS (cpS (cpS s1 0 6 74) a 0 74) st) 6 0 (i := 0) hj
  rw [if_pos rfl, Nat.mul_zero, Nat.zero_add] at e1
  have e2 := cpS_at (cpS s1 0 6 74) a 0 (i := 6) hj
  rw [if_neg (by decide)] at e2
  have e3 := cpS_at s1 0 6 (i := 6) hj
  rw [if_pos rfl, Nat.mul_zero, Nat.zero_add] at e3
  rw [e1, sv_six h5 hj, e2, e3]
theorem cp6_lo {s1 : Nat → Int} {j : Nat} (hj : j < 74) : cpS s1 0 6 74 j = s1 j := cpS_ne (by omega)
set_option maxRecDepth 100000 in
set_option maxHeartbeats 4000000 in
theorem law_3 {G : GT} {x : CxT} (C : Cx G mL_law x) {n : Nat} (i : Nat) (nx : ∀ (K : Nat → Nat → Int) (r : Nat → Option Nat) (s : Nat → Int) (st : Nat) (kp : Int) (t : Nat → Int), IC K r s st kp t 0 → GI s st kp t 0 → ∀ (o4 o5 o6 o7 o8 o9 o10 o11 : Option Value), V G mL_law x 359 [some (.ref G.2.2.2.2.2.2.1), some (rf G 0), some (.int (iI 1)), some (.int (iI (i : Int))), o4, o5, o6, o7, o8, o9, o10, o11] [] 28 false (HP G K r) (n) (6 * n)) (y : Nat) (hy : y < 2147483648) (s s1 : Nat → Int) (st : Nat) (kp : Int) (t : Nat → Int) (hv5 : st ≤ 5) (h60 : s 6 ≤ 64) (hi : ∀ j, 74 ≤ j → s1 j = svS s st j) (K : Nat → Nat → Int) (r : Nat → Option Nat) (h : IC K r s1 (st1 st) kp t 0) (hg : GI s1 (st1 st) kp t 0) (o7 o8 o9 o11 : Option Value) (z10 : Int) : V G mL_law x 274 [some (.ref G.2.2.2.2.2.2.1), some (rf G 0), some (.int (iI 1)), some (.int (iI (i : Int))), some (.int (iI (y : Int))), some (.int (iI (SN s))), some (.int (iI (st : Int))), o7, o8, o9, some (.int (iI z10)), o11] [] 28 false (HP G K r) (n) (6 * n) := by
  by_cases c0 : (y : Int) / 7 % 4 = 0
  · have h1r := st1_r hv5
    obtain ⟨K1, r1, c1, h1⟩ := c_sums G s1 (st1 st) kp t 0 hg K r h
    obtain ⟨K2, r2, c2, h2, -⟩ := o_X5_keep G K1 r1 s1 (st1 st) kp t 0 h1 hg
    have g2 := GI_keep hg
    obtain ⟨K3, r3, c3, h3, -⟩ := o_X5_total G K2 r2 (cpS s1 0 6 74) (st1 st) 1 t 0 h2 g2
    obtain ⟨K4, r4, c4, h4⟩ := g_undo G K3 r3 (cpS s1 0 6 74) (st1 st) 1 t 0 h3 g2 (by omega)
    have g4 := gi_undo (cpS s1 0 6 74) (st1 st) 1 t 0 g2 (by omega)
    obtain ⟨K5, r5, c5, h5'⟩ := c_sums G _ (st1 st - 1) 1 t 0 g4 K4 r4 h4
    obtain ⟨K6, r6, c6, h6⟩ := g_restore G K5 r5 _ (st1 st - 1) 1 t 0 h5' g4 rfl
    have g6 := gi_restore _ (st1 st - 1) 1 t 0 g4 rfl
    obtain ⟨K7, r7, c7, h7, -⟩ := o_X5_total G K6 r6 _ _ 1 t 0 h6 g6
    obtain ⟨K8, r8, c8, h8⟩ := c_sums G _ _ 1 t 0 g6 K7 r7 h7
    have e1 : su (cpS s1 0 6 74) 6 = su s1 6 := su_of (fun k hk => cp6_lo (by omega))
    have e2 : SN (cpS (cpS s1 0 6 74) (st1 st) 0 74) = SN s := SN_cg (fun j hj => back_un hv5 hi hj) h60
    have e3 : SN (cpS (svS (cpS (cpS s1 0 6 74) (st1 st) 0 74) (st1 st - 1)) 6 0 74) = SN s1 := SN_cg (fun j hj => back_re (by omega) (by omega) hj) hg.1.2.1.2
    have hsu := su_r (k := 6) hg.1.1
    have hsu2 := su_r (k := 6) g6.1.1
    have hr1 := SN_r s
    have hr2 := SN_r s1
    have hst : (st = 5 ∧ st1 st = 5) ∨ (st ≠ 5 ∧ st1 st = st + 1) := by
      unfold st1
      by_cases e : st = 5
      · exact .inl ⟨e, if_pos e⟩
      · exact .inr ⟨e, if_neg e⟩
    by_cases e5 : st = 5
    · refine V_iload_n C dL_law_274 rfl rfl ?_
      refine V_if_eq (tgt := 359) C dL_law_275 (by decide) (by omega) (fun q275 => by exfalso; omega) (fun q275 => ?_)
      refine V_iload C dL_law_278 rfl ?_
      refine V_bipush C dL_law_280 (by decide +kernel) ?_
      refine V_idiv C dL_law_282 (by omega) (by omega) ?_
      refine V_iconst C dL_law_283 ?_
      refine V_irem C dL_law_284 (by omega) (by omega) ?_
      refine V_if_ne (tgt := 359) C dL_law_285 (by decide) (by omega) (fun q285 => by exfalso; omega) (fun q285 => ?_)
      refine V_aload_n C dL_law_288 rfl rfl ?_
      refine V_S1 (k2 := n) (s2 := 6 * n) C dL_law_289 lL_228 kL_sums (c1) rfl rfl ⟨Nat.le_of_ble_eq_true rfl, Nat.le_of_ble_eq_true rfl⟩ (Nat.le_of_ble_eq_true rfl) (Nat.le_refl _) (Nat.le_refl _) ?_
      refine V_istore C dL_law_292 (Nat.le_of_ble_eq_true rfl) rfl ?_
      refine V_aload_n C dL_law_294 rfl rfl ?_
      refine V_V1 (k2 := n) (s2 := 6 * n) C dL_law_295 lL_240 kX5_keep (c2) (by decide) (rfl) rfl rfl rfl ⟨Nat.le_of_ble_eq_true rfl, Nat.le_of_ble_eq_true rfl⟩ (Nat.le_of_ble_eq_true rfl) (Nat.le_refl _) (Nat.le_refl _) ?_
      refine V_aload_n C dL_law_298 rfl rfl ?_
      refine V_V1 (k2 := n) (s2 := 6 * n) C dL_law_299 lL_205 kX5_total (c3) (by decide) (rfl) rfl rfl rfl ⟨Nat.le_of_ble_eq_true rfl, Nat.le_of_ble_eq_true rfl⟩ (Nat.le_of_ble_eq_true rfl) (Nat.le_refl _) (Nat.le_refl _) ?_
      rw [e1]
      refine V_icmp_ne (tgt := 357) C dL_law_302 (by decide) (by omega) (by omega) (fun q302 => by exfalso; omega) (fun q302 => ?_)
      refine V_aload_n C dL_law_305 rfl rfl ?_
      refine V_SH1 (k2 := n) (s2 := 6 * n) C dL_law_306 lL_216 kL_undo (c4) rfl rfl ⟨Nat.le_of_ble_eq_true rfl, Nat.le_of_ble_eq_true rfl⟩ (Nat.le_of_ble_eq_true rfl) (Nat.le_refl _) (Nat.le_refl _) ?_
      refine V_iload C dL_law_309 rfl ?_
      refine V_iconst C dL_law_311 ?_
      refine V_icmp_ne (tgt := 319) C dL_law_312 (by decide) (by omega) (by omega) (fun q312 => by exfalso; omega) (fun q312 => ?_)
      refine V_iconst C dL_law_315 ?_
      refine V_goto (tgt := 321) C dL_law_316 (by decide) ?_
      refine V_icmp_ne (tgt := 357) C dL_law_321 (by decide) (by omega) (by omega) (fun q321 => by exfalso; omega) (fun q321 => ?_)
      refine V_aload_n C dL_law_324 rfl rfl ?_
      refine V_S1 (k2 := n) (s2 := 6 * n) C dL_law_325 lL_228 kL_sums (c5) rfl rfl ⟨Nat.le_of_ble_eq_true rfl, Nat.le_of_ble_eq_true rfl⟩ (Nat.le_of_ble_eq_true rfl) (Nat.le_refl _) (Nat.le_refl _) ?_
      rw [e2]
      refine V_iload C dL_law_328 rfl ?_
      refine V_icmp_ne (tgt := 357) C dL_law_330 (by decide) (by omega) (by omega) (fun q330 => by exfalso; omega) (fun q330 => ?_)
      refine V_aload_n C dL_law_333 rfl rfl ?_
      refine V_SH1 (k2 := n) (s2 := 6 * n) C dL_law_334 lL_218 kL_restore (c6) rfl rfl ⟨Nat.le_of_ble_eq_true rfl, Nat.le_of_ble_eq_true rfl⟩ (Nat.le_of_ble_eq_true rfl) (Nat.le_refl _) (Nat.le_refl _) ?_
      refine V_aload_n C dL_law_337 rfl rfl ?_
      refine V_V1 (k2 := n) (s2 := 6 * n) C dL_law_338 lL_205 kX5_total (c7) (by decide) (rfl) rfl rfl rfl ⟨Nat.le_of_ble_eq_true rfl, Nat.le_of_ble_eq_true rfl⟩ (Nat.le_of_ble_eq_true rfl) (Nat.le_refl _) (Nat.le_refl _) ?_
      refine V_icmp_ne (tgt := 357) C dL_law_341 (by decide) (by omega) (by omega) (fun q341 => by exfalso; omega) (fun q341 => ?_)
      refine V_aload_n C dL_law_344 rfl rfl ?_
      refine V_S1 (k2 := n) (s2 := 6 * n) C dL_law_345 lL_228 kL_sums (c8) rfl rfl ⟨Nat.le_of_ble_eq_true rfl, Nat.le_of_ble_eq_true rfl⟩ (Nat.le_of_ble_eq_true rfl) (Nat.le_refl _) (Nat.le_refl _) ?_
      rw [e3]
      refine V_iload C dL_law_348 rfl ?_
      refine V_icmp_ne (tgt := 357) C dL_law_350 (by decide) (by omega) (by omega) (fun q350 => by exfalso; omega) (fun q350 => ?_)
      refine V_iconst C dL_law_353 ?_
      refine V_goto (tgt := 358) C dL_law_354 (by decide) ?_
      refine V_istore_n C dL_law_358 rfl (Nat.le_of_ble_eq_true rfl) rfl ?_
      exact nx _ _ _ _ _ _ h8 g6 _ _ _ _ _ _ _ _
    · refine V_iload_n C dL_law_274 rfl rfl ?_
      refine V_if_eq (tgt := 359) C dL_law_275 (by decide) (by omega) (fun q275 => by exfalso; omega) (fun q275 => ?_)
      refine V_iload C dL_law_278 rfl ?_
      refine V_bipush C dL_law_280 (by decide +kernel) ?_
      refine V_idiv C dL_law_282 (by omega) (by omega) ?_
      refine V_iconst C dL_law_283 ?_
      refine V_irem C dL_law_284 (by omega) (by omega) ?_
      refine V_if_ne (tgt := 359) C dL_law_285 (by decide) (by omega) (fun q285 => by exfalso; omega) (fun q285 => ?_)
      refine V_aload_n C dL_law_288 rfl rfl ?_
      refine V_S1 (k2 := n) (s2 := 6 * n) C dL_law_289 lL_228 kL_sums (c1) rfl rfl ⟨Nat.le_of_ble_eq_true rfl, Nat.le_of_ble_eq_true rfl⟩ (Nat.le_of_ble_eq_true rfl) (Nat.le_refl _) (Nat.le_refl _) ?_
      refine V_istore C dL_law_292 (Nat.le_of_ble_eq_true rfl) rfl ?_
      refine V_aload_n C dL_law_294 rfl rfl ?_
      refine V_V1 (k2 := n) (s2 := 6 * n) C dL_law_295 lL_240 kX5_keep (c2) (by decide) (rfl) rfl rfl rfl ⟨Nat.le_of_ble_eq_true rfl, Nat.le_of_ble_eq_true rfl⟩ (Nat.le_of_ble_eq_true rfl) (Nat.le_refl _) (Nat.le_refl _) ?_
      refine V_aload_n C dL_law_298 rfl rfl ?_
      refine V_V1 (k2 := n) (s2 := 6 * n) C dL_law_299 lL_205 kX5_total (c3) (by decide) (rfl) rfl rfl rfl ⟨Nat.le_of_ble_eq_true rfl, Nat.le_of_ble_eq_true rfl⟩ (Nat.le_of_ble_eq_true rfl) (Nat.le_refl _) (Nat.le_refl _) ?_
      rw [e1]
      refine V_icmp_ne (tgt := 357) C dL_law_302 (by decide) (by omega) (by omega) (fun q302 => by exfalso; omega) (fun q302 => ?_)
      refine V_aload_n C dL_law_305 rfl rfl ?_
      refine V_SH1 (k2 := n) (s2 := 6 * n) C dL_law_306 lL_216 kL_undo (c4) rfl rfl ⟨Nat.le_of_ble_eq_true rfl, Nat.le_of_ble_eq_true rfl⟩ (Nat.le_of_ble_eq_true rfl) (Nat.le_refl _) (Nat.le_refl _) ?_
      refine V_iload C dL_law_309 rfl ?_
      refine V_iconst C dL_law_311 ?_
      refine V_icmp_ne (tgt := 319) C dL_law_312 (by decide) (by omega) (by omega) (fun q312 => ?_) (fun q312 => by exfalso; omega)
      refine V_iload C dL_law_319 rfl ?_
      refine V_icmp_ne (tgt := 357) C dL_law_321 (by decide) (by omega) (by omega) (fun q321 => by exfalso; omega) (fun q321 => ?_)
      refine V_aload_n C dL_law_324 rfl rfl ?_
      refine V_S1 (k2 := n) (s2 := 6 * n) C dL_law_325 lL_228 kL_sums (c5) rfl rfl ⟨Nat.le_of_ble_eq_true rfl, Nat.le_of_ble_eq_true rfl⟩ (Nat.le_of_ble_eq_true rfl) (Nat.le_refl _) (Nat.le_refl _) ?_
      rw [e2]
      refine V_iload C dL_law_328 rfl ?_
      refine V_icmp_ne (tgt := 357) C dL_law_330 (by decide) (by omega) (by omega) (fun q330 => by exfalso; omega) (fun q330 => ?_)
      refine V_aload_n C dL_law_333 rfl rfl ?_
      refine V_SH1 (k2 := n) (s2 := 6 * n) C dL_law_334 lL_218 kL_restore (c6) rfl rfl ⟨Nat.le_of_ble_eq_true rfl, Nat.le_of_ble_eq_true rfl⟩ (Nat.le_of_ble_eq_true rfl) (Nat.le_refl _) (Nat.le_refl _) ?_
      refine V_aload_n C dL_law_337 rfl rfl ?_
      refine V_V1 (k2 := n) (s2 := 6 * n) C dL_law_338 lL_205 kX5_total (c7) (by decide) (rfl) rfl rfl rfl ⟨Nat.le_of_ble_eq_true rfl, Nat.le_of_ble_eq_true rfl⟩ (Nat.le_of_ble_eq_true rfl) (Nat.le_refl _) (Nat.le_refl _) ?_
      refine V_icmp_ne (tgt := 357) C dL_law_341 (by decide) (by omega) (by omega) (fun q341 => by exfalso; omega) (fun q341 => ?_)
      refine V_aload_n C dL_law_344 rfl rfl ?_
      refine V_S1 (k2 := n) (s2 := 6 * n) C dL_law_345 lL_228 kL_sums (c8) rfl rfl ⟨Nat.le_of_ble_eq_true rfl, Nat.le_of_ble_eq_true rfl⟩ (Nat.le_of_ble_eq_true rfl) (Nat.le_refl _) (Nat.le_refl _) ?_
      rw [e3]
      refine V_iload C dL_law_348 rfl ?_
      refine V_icmp_ne (tgt := 357) C dL_law_350 (by decide) (by omega) (by omega) (fun q350 => by exfalso; omega) (fun q350 => ?_)
      refine V_iconst C dL_law_353 ?_
      refine V_goto (tgt := 358) C dL_law_354 (by decide) ?_
      refine V_istore_n C dL_law_358 rfl (Nat.le_of_ble_eq_true rfl) rfl ?_
      exact nx _ _ _ _ _ _ h8 g6 _ _ _ _ _ _ _ _
  · refine V_iload_n C dL_law_274 rfl rfl ?_
    refine V_if_eq (tgt := 359) C dL_law_275 (by decide) (by omega) (fun q275 => by exfalso; omega) (fun q275 => ?_)
    refine V_iload C dL_law_278 rfl ?_
    refine V_bipush C dL_law_280 (by decide +kernel) ?_
    refine V_idiv C dL_law_282 (by omega) (by omega) ?_
    refine V_iconst C dL_law_283 ?_
    refine V_irem C dL_law_284 (by omega) (by omega) ?_
    refine V_if_ne (tgt := 359) C dL_law_285 (by decide) (by omega) (fun q285 => ?_) (fun q285 => by exfalso; omega)
    exact nx _ _ _ _ _ _ h hg _ _ _ _ _ _ _ _
set_option maxRecDepth 100000 in
set_option maxHeartbeats 4000000 in
theorem law_2 {G : GT} {x : CxT} (C : Cx G mL_law x) {n : Nat} (i : Nat) (nx : ∀ (K : Nat → Nat → Int) (r : Nat → Option Nat) (s : Nat → Int) (st : Nat) (kp : Int) (t : Nat → Int), IC K r s st kp t 0 → GI s st kp t 0 → ∀ (o4 o5 o6 o7 o8 o9 o10 o11 : Option Value), V G mL_law x 359 [some (.ref G.2.2.2.2.2.2.1), some (rf G 0), some (.int (iI 1)), some (.int (iI (i : Int))), o4, o5, o6, o7, o8, o9, o10, o11] [] 28 false (HP G K r) (n) (6 * n)) (y : Nat) (hy : y < 2147483648) (s s1 : Nat → Int) (st : Nat) (kp : Int) (t : Nat → Int) (hv5 : st ≤ 5) (h60 : s 6 ≤ 64) (hi : ∀ j, 74 ≤ j → s1 j = svS s st j) (K : Nat → Nat → Int) (r : Nat → Option Nat) (h : IC K r s1 (st1 st) kp t 0) (hg : GI s1 (st1 st) kp t 0) (l9 : Int) (hl9 : (0 < (rdZ s).2.1 ∧ l9 = 1) ∨ ((rdZ s).2.1 = 0 ∧ l9 = 0)) (hz6 : 0 ≤ s 6) (hac : 8 ≤ y % 16 ∧ y % 16 ≤ 10 → ∃ p : Nat, (1 ≤ p ∧ p ≤ 6764) ∧ (s 6).toNat + cl (p : Int) ≤ 64 ∧ s1 = sdF (svS s st) (s 6).toNat (gm 18 p) (cl (p : Int)) (cl (p : Int))) (o11 : Option Value) (z10 : Int) : V G mL_law x 201 [some (.ref G.2.2.2.2.2.2.1), some (rf G 0), some (.int (iI 1)), some (.int (iI (i : Int))), some (.int (iI (y : Int))), some (.int (iI (SN s))), some (.int (iI (st : Int))), some (.int (iI (s 6))), some (.int (iI ((rdZ s).2.2.2.length : Nat))), some (.int (iI l9)), some (.int (iI z10)), o11] [] 28 false (HP G K r) (n) (6 * n) := by
  obtain ⟨m, em, hm⟩ : ∃ m : Nat, (y : Int) % 16 = (m : Int) ∧ m = y % 16 := ⟨y % 16, by omega, rfl⟩
  by_cases d1 : m ≤ 7
  · refine V_iload_n C dL_law_201 rfl rfl ?_
    refine V_if_eq (tgt := 274) C dL_law_202 (by decide) (by omega) (fun q202 => by exfalso; omega) (fun q202 => ?_)
    refine V_iload C dL_law_205 rfl ?_
    refine V_bipush C dL_law_207 (by decide +kernel) ?_
    refine V_irem C dL_law_209 (by omega) (by omega) ?_
    rw [em]
    refine V_bipush C dL_law_210 (by decide +kernel) ?_
    refine V_icmp_le (tgt := 274) C dL_law_212 (by decide) (by omega) (by omega) (fun q212 => ?_) (fun q212 => by exfalso; omega)
    exact law_3 C i nx y hy s s1 st kp t hv5 h60 hi K r h hg _ _ _ _ _
  · by_cases d2 : 11 ≤ m
    · refine V_iload_n C dL_law_201 rfl rfl ?_
      refine V_if_eq (tgt := 274) C dL_law_202 (by decide) (by omega) (fun q202 => by exfalso; omega) (fun q202 => ?_)
      refine V_iload C dL_law_205 rfl ?_
      refine V_bipush C dL_law_207 (by decide +kernel) ?_
      refine V_irem C dL_law_209 (by omega) (by omega) ?_
      rw [em]
      refine V_bipush C dL_law_210 (by decide +kernel) ?_
      refine V_icmp_le (tgt := 274) C dL_law_212 (by decide) (by omega) (by omega) (fun q212 => by exfalso; omega) (fun q212 => ?_)
      refine V_iload C dL_law_215 rfl ?_
      refine V_bipush C dL_law_217 (by decide +kernel) ?_
      refine V_irem C dL_law_219 (by omega) (by omega) ?_
      rw [em]
      refine V_bipush C dL_law_220 (by decide +kernel) ?_
      refine V_icmp_ge (tgt := 274) C dL_law_222 (by decide) (by omega) (by omega) (fun q222 => ?_) (fun q222 => by exfalso; omega)
      exact law_3 C i nx y hy s s1 st kp t hv5 h60 hi K r h hg _ _ _ _ _
    · rcases hl9 with ⟨w1, w2⟩ | ⟨w1, w2⟩
      · subst w2
        refine V_iload_n C dL_law_201 rfl rfl ?_
        refine V_if_eq (tgt := 274) C dL_law_202 (by decide) (by omega) (fun q202 => by exfalso; omega) (fun q202 => ?_)
        refine V_iload C dL_law_205 rfl ?_
        refine V_bipush C dL_law_207 (by decide +kernel) ?_
        refine V_irem C dL_law_209 (by omega) (by omega) ?_
        rw [em]
        refine V_bipush C dL_law_210 (by decide +kernel) ?_
        refine V_icmp_le (tgt := 274) C dL_law_212 (by decide) (by omega) (by omega) (fun q212 => by exfalso; omega) (fun q212 => ?_)
        refine V_iload C dL_law_215 rfl ?_
        refine V_bipush C dL_law_217 (by decide +kernel) ?_
        refine V_irem C dL_law_219 (by omega) (by omega) ?_
        rw [em]
        refine V_bipush C dL_law_220 (by decide +kernel) ?_
        refine V_icmp_ge (tgt := 274) C dL_law_222 (by decide) (by omega) (by omega) (fun q222 => by exfalso; omega) (fun q222 => ?_)
        refine V_iload C dL_law_225 rfl ?_
        refine V_if_ne (tgt := 274) C dL_law_227 (by decide) (by omega) (fun q227 => ?_) (fun q227 => by exfalso; omega)
        exact law_3 C i nx y hy s s1 st kp t hv5 h60 hi K r h hg _ _ _ _ _
      · subst w2
        obtain ⟨p, hp, hL, es⟩ := hac (by omega)
        have hrd := rd_send (z := s) (w := svS s st) hp.1 hp.2 (fun j hj => svS_0 hj) w1 hL
        rw [← es] at hrd
        have z0 : (rdZ s1).2.1 = 0 := congrArg (fun q => q.1) hrd
        have z2 : (rdZ s1).2.2.2 = (rdZ s).2.2.2 ++ [p] := congrArg (fun q => q.2.2) hrd
        have z3 : (rdZ s1).2.2.2.length = (rdZ s).2.2.2.length + 1 := by rw [z2]; simp
        have z4 : (rdZ s1).2.2.2.getD (rdZ s).2.2.2.length 0 = p := by rw [z2]; simp
        have z5 : s1 6 = s 6 + (cl (p : Int) : Nat) := by rw [es]; simp only [sdF]; rw [if_pos trivial]; omega
        have hl := rdZ_len hg.1
        have hc19 := cl_19 (p : Int)
        obtain ⟨K1, r1, c1, h1, -⟩ := o_X5_readNumbers G K r s1 (st1 st) kp t 0 h hg
        obtain ⟨K2, r2, c2, h2, -⟩ := o_X5_streamLength G K1 r1 s1 (st1 st) kp t 0 h1 hg
        obtain ⟨K3, r3, c3, h3⟩ := g_readAt G K2 r2 s1 (st1 st) kp t 0 h2 hg (rdZ s).2.2.2.length (by omega)
        obtain ⟨K4, r4, c4, h4⟩ := g_code G K3 r3 s1 (st1 st) kp t 0 h3 hg p hp
        obtain ⟨K5, r5, c5, h5, -⟩ := o_X5_looseDigits G K4 r4 s1 (st1 st) kp t 0 h4 hg
        refine V_iload_n C dL_law_201 rfl rfl ?_
        refine V_if_eq (tgt := 274) C dL_law_202 (by decide) (by omega) (fun q202 => by exfalso; omega) (fun q202 => ?_)
        refine V_iload C dL_law_205 rfl ?_
        refine V_bipush C dL_law_207 (by decide +kernel) ?_
        refine V_irem C dL_law_209 (by omega) (by omega) ?_
        rw [em]
        refine V_bipush C dL_law_210 (by decide +kernel) ?_
        refine V_icmp_le (tgt := 274) C dL_law_212 (by decide) (by omega) (by omega) (fun q212 => by exfalso; omega) (fun q212 => ?_)
        refine V_iload C dL_law_215 rfl ?_
        refine V_bipush C dL_law_217 (by decide +kernel) ?_
        refine V_irem C dL_law_219 (by omega) (by omega) ?_
        rw [em]
        refine V_bipush C dL_law_220 (by decide +kernel) ?_
        refine V_icmp_ge (tgt := 274) C dL_law_222 (by decide) (by omega) (by omega) (fun q222 => by exfalso; omega) (fun q222 => ?_)
        refine V_iload C dL_law_225 rfl ?_
        refine V_if_ne (tgt := 274) C dL_law_227 (by decide) (by omega) (fun q227 => by exfalso; omega) (fun q227 => ?_)
        refine V_aload_n C dL_law_230 rfl rfl ?_
        refine V_V1 (k2 := n) (s2 := 6 * n) C dL_law_231 lL_153 kX5_readNumbers (c1) (by decide) (rfl) rfl rfl rfl ⟨Nat.le_of_ble_eq_true rfl, Nat.le_of_ble_eq_true rfl⟩ (Nat.le_of_ble_eq_true rfl) (Nat.le_refl _) (Nat.le_refl _) ?_
        refine V_iload C dL_law_234 rfl ?_
        refine V_iconst C dL_law_236 ?_
        refine V_iadd C dL_law_237 ?_
        refine V_icmp_ne (tgt := 272) C dL_law_238 (by decide) (by omega) (by omega) (fun q238 => by exfalso; omega) (fun q238 => ?_)
        refine V_aload_n C dL_law_241 rfl rfl ?_
        refine V_V1 (k2 := n) (s2 := 6 * n) C dL_law_242 lL_147 kX5_streamLength (c2) (by decide) (rfl) rfl rfl rfl ⟨Nat.le_of_ble_eq_true rfl, Nat.le_of_ble_eq_true rfl⟩ (Nat.le_of_ble_eq_true rfl) (Nat.le_refl _) (Nat.le_refl _) ?_
        refine V_iload C dL_law_245 rfl ?_
        refine V_aload_n C dL_law_247 rfl rfl ?_
        refine V_aload_n C dL_law_248 rfl rfl ?_
        refine V_iload C dL_law_249 rfl ?_
        refine V_SH1 (k2 := n) (s2 := 6 * n) C dL_law_251 lL_200 kL_readAt (c3) rfl rfl ⟨Nat.le_of_ble_eq_true rfl, Nat.le_of_ble_eq_true rfl⟩ (Nat.le_of_ble_eq_true rfl) (Nat.le_refl _) (Nat.le_refl _) ?_
        rw [z4]
        refine V_SH1 (k2 := n) (s2 := 6 * n) C dL_law_254 lL_202 kL_code (c4) rfl rfl ⟨Nat.le_of_ble_eq_true rfl, Nat.le_of_ble_eq_true rfl⟩ (Nat.le_of_ble_eq_true rfl) (Nat.le_refl _) (Nat.le_refl _) ?_
        refine V_iadd C dL_law_257 ?_
        refine V_icmp_ne (tgt := 272) C dL_law_258 (by decide) (by omega) (by omega) (fun q258 => by exfalso; omega) (fun q258 => ?_)
        refine V_aload_n C dL_law_261 rfl rfl ?_
        refine V_V1 (k2 := n) (s2 := 6 * n) C dL_law_262 lL_208 kX5_looseDigits (c5) (by decide) (rfl) rfl rfl rfl ⟨Nat.le_of_ble_eq_true rfl, Nat.le_of_ble_eq_true rfl⟩ (Nat.le_of_ble_eq_true rfl) (Nat.le_refl _) (Nat.le_refl _) ?_
        rw [z0]
        refine V_if_ne (tgt := 272) C dL_law_265 (by decide) (by omega) (fun q265 => by exfalso; omega) (fun q265 => ?_)
        refine V_iconst C dL_law_268 ?_
        refine V_goto (tgt := 273) C dL_law_269 (by decide) ?_
        refine V_istore_n C dL_law_273 rfl (Nat.le_of_ble_eq_true rfl) rfl ?_
        exact law_3 C i nx y hy s s1 st kp t hv5 h60 hi K5 r5 h5 hg _ _ _ _ _
set_option maxRecDepth 100000 in
set_option maxHeartbeats 4000000 in
theorem law_1 {G : GT} {x : CxT} (C : Cx G mL_law x) {n : Nat} (i : Nat) (nx : ∀ (K : Nat → Nat → Int) (r : Nat → Option Nat) (s : Nat → Int) (st : Nat) (kp : Int) (t : Nat → Int), IC K r s st kp t 0 → GI s st kp t 0 → ∀ (o4 o5 o6 o7 o8 o9 o10 o11 : Option Value), V G mL_law x 359 [some (.ref G.2.2.2.2.2.2.1), some (rf G 0), some (.int (iI 1)), some (.int (iI (i : Int))), o4, o5, o6, o7, o8, o9, o10, o11] [] 28 false (HP G K r) (n) (6 * n)) (y : Nat) (hy : y < 2147483648) (K : Nat → Nat → Int) (r : Nat → Option Nat) (s : Nat → Int) (st : Nat) (kp : Int) (t : Nat → Int) (h : IC K r s st kp t 0) (hg : GI s st kp t 0) (o4 o5 o6 o7 o8 o9 o10 o11 : Option Value) : V G mL_law x 75 [some (.ref G.2.2.2.2.2.2.1), some (rf G 0), some (.int (iI 1)), some (.int (iI (i : Int))), o4, o5, o6, o7, o8, o9, o10, o11] [.int (iI (y : Int))] 28 false (HP G K r) (n + 1) (6 * (n + 1)) := by
  have h5 := hg.2.1
  have h60 := hg.1.2.1.2
  have hl := rdZ_len hg.1
  have hlo := rdS_le (fun j => s (7 + j)) (s 6).toNat
  have eR : rdS (fun j => s (7 + j)) (s 6).toNat = rdZ s := rfl
  rw [eR] at hlo
  have g6 := hg.1.2.1
  have hr1 := SN_r s
  obtain ⟨K1, r1, c1, h1⟩ := c_sums G s st kp t 0 hg K r h
  obtain ⟨K2, r2, c2, h2, -⟩ := o_X5_savedStates G K1 r1 s st kp t 0 h1 hg
  obtain ⟨K3, r3, c3, h3, -⟩ := o_X5_streamLength G K2 r2 s st kp t 0 h2 hg
  obtain ⟨K4, r4, c4, h4, -⟩ := o_X5_readNumbers G K3 r3 s st kp t 0 h3 hg
  obtain ⟨K5, r5, c5, h5', -⟩ := o_X5_looseDigits G K4 r4 s st kp t 0 h4 hg
  obtain ⟨told, s1, st2, t1, T1, K6, r6, c6, h6, hg6, ht, hA⟩ := c_acts G K5 r5 s st kp t h5' hg y hy
  obtain ⟨K7, r7, c7, h7, -⟩ := o_X5_clearBuffer G K6 r6 s1 st2 kp t1 T1 h6 hg6
  have hg7 := GI_clear hg6
  have hT1 := hg6.2.2.2.1
  rcases hA with ⟨a1, a2, a3⟩ | ⟨a1, a2, hi, hac0⟩
  · subst a2
    subst a3
    obtain ⟨K8, r8, c8, h8⟩ := c_sums G s1 st2 kp t1 0 hg7 K7 r7 h7
    obtain ⟨K9, r9, c9', h9, -⟩ := o_X5_savedStates G K8 r8 s1 st2 kp t1 0 h8 hg7
    by_cases c9 : 0 < (rdZ s1).2.1
    · refine V_istore C dL_law_75 (Nat.le_of_ble_eq_true rfl) rfl ?_
      refine V_aload_n C dL_law_77 rfl rfl ?_
      refine V_S1 (k2 := n + 1) (s2 := 6 * (n + 1)) C dL_law_78 lL_228 kL_sums (c1) rfl rfl ⟨Nat.le_of_ble_eq_true rfl, Nat.le_of_ble_eq_true rfl⟩ (Nat.le_of_ble_eq_true rfl) (Nat.le_refl _) (Nat.le_refl _) ?_
      refine V_istore C dL_law_81 (Nat.le_of_ble_eq_true rfl) rfl ?_
      refine V_aload_n C dL_law_83 rfl rfl ?_
      refine V_V1 (k2 := n + 1) (s2 := 6 * (n + 1)) C dL_law_84 lL_231 kX5_savedStates (c2) (by decide) (rfl) rfl rfl rfl ⟨Nat.le_of_ble_eq_true rfl, Nat.le_of_ble_eq_true rfl⟩ (Nat.le_of_ble_eq_true rfl) (Nat.le_refl _) (Nat.le_refl _) ?_
      refine V_istore C dL_law_87 (Nat.le_of_ble_eq_true rfl) rfl ?_
      refine V_aload_n C dL_law_89 rfl rfl ?_
      refine V_V1 (k2 := n + 1) (s2 := 6 * (n + 1)) C dL_law_90 lL_147 kX5_streamLength (c3) (by decide) (rfl) rfl rfl rfl ⟨Nat.le_of_ble_eq_true rfl, Nat.le_of_ble_eq_true rfl⟩ (Nat.le_of_ble_eq_true rfl) (Nat.le_refl _) (Nat.le_refl _) ?_
      refine V_istore C dL_law_93 (Nat.le_of_ble_eq_true rfl) rfl ?_
      refine V_aload_n C dL_law_95 rfl rfl ?_
      refine V_V1 (k2 := n + 1) (s2 := 6 * (n + 1)) C dL_law_96 lL_153 kX5_readNumbers (c4) (by decide) (rfl) rfl rfl rfl ⟨Nat.le_of_ble_eq_true rfl, Nat.le_of_ble_eq_true rfl⟩ (Nat.le_of_ble_eq_true rfl) (Nat.le_refl _) (Nat.le_refl _) ?_
      refine V_istore C dL_law_99 (Nat.le_of_ble_eq_true rfl) rfl ?_
      refine V_aload_n C dL_law_101 rfl rfl ?_
      refine V_V1 (k2 := n + 1) (s2 := 6 * (n + 1)) C dL_law_102 lL_208 kX5_looseDigits (c5) (by decide) (rfl) rfl rfl rfl ⟨Nat.le_of_ble_eq_true rfl, Nat.le_of_ble_eq_true rfl⟩ (Nat.le_of_ble_eq_true rfl) (Nat.le_refl _) (Nat.le_refl _) ?_
      refine V_if_le (tgt := 112) C dL_law_105 (by decide) (by omega) (fun q105 => by exfalso; omega) (fun q105 => ?_)
      refine V_iconst C dL_law_108 ?_
      refine V_goto (tgt := 113) C dL_law_109 (by decide) ?_
      refine V_istore C dL_law_113 (Nat.le_of_ble_eq_true rfl) rfl ?_
      refine V_aload_n C dL_law_115 rfl rfl ?_
      refine V_iload C dL_law_116 rfl ?_
      refine V_S1 (k2 := n) (s2 := 6 * n) C dL_law_118 lL_234 kL_acts (c6) rfl rfl ⟨Nat.le_of_ble_eq_true rfl, Nat.le_of_ble_eq_true rfl⟩ (Nat.le_of_ble_eq_true rfl) (by omega) (by omega) ?_
      refine V_istore C dL_law_121 (Nat.le_of_ble_eq_true rfl) rfl ?_
      refine V_aload_n C dL_law_123 rfl rfl ?_
      refine V_V1 (k2 := n) (s2 := 6 * n) C dL_law_124 lL_237 kX5_clearBuffer (c7) (by decide) (rfl) rfl rfl rfl ⟨Nat.le_of_ble_eq_true rfl, Nat.le_of_ble_eq_true rfl⟩ (Nat.le_of_ble_eq_true rfl) (Nat.le_refl _) (Nat.le_refl _) ?_
      refine V_pop C dL_law_127 rfl ?_
      refine V_iload C dL_law_128 rfl ?_
      refine V_if_ge (tgt := 160) C dL_law_130 (by decide) (by omega) (fun q130 => by exfalso; omega) (fun q130 => ?_)
      refine V_aload_n C dL_law_133 rfl rfl ?_
      refine V_S1 (k2 := n) (s2 := 6 * n) C dL_law_134 lL_228 kL_sums (c8) rfl rfl ⟨Nat.le_of_ble_eq_true rfl, Nat.le_of_ble_eq_true rfl⟩ (Nat.le_of_ble_eq_true rfl) (Nat.le_refl _) (Nat.le_refl _) ?_
      refine V_iload C dL_law_137 rfl ?_
      refine V_icmp_ne (tgt := 155) C dL_law_139 (by decide) (by omega) (by omega) (fun q139 => by exfalso; omega) (fun q139 => ?_)
      refine V_aload_n C dL_law_142 rfl rfl ?_
      refine V_V1 (k2 := n) (s2 := 6 * n) C dL_law_143 lL_231 kX5_savedStates (c9') (by decide) (rfl) rfl rfl rfl ⟨Nat.le_of_ble_eq_true rfl, Nat.le_of_ble_eq_true rfl⟩ (Nat.le_of_ble_eq_true rfl) (Nat.le_refl _) (Nat.le_refl _) ?_
      refine V_iload C dL_law_146 rfl ?_
      refine V_icmp_ne (tgt := 155) C dL_law_148 (by decide) (by omega) (by omega) (fun q148 => by exfalso; omega) (fun q148 => ?_)
      refine V_iconst C dL_law_151 ?_
      refine V_goto (tgt := 156) C dL_law_152 (by decide) ?_
      refine V_istore_n C dL_law_156 rfl (Nat.le_of_ble_eq_true rfl) rfl ?_
      refine V_goto (tgt := 359) C dL_law_157 (by decide) ?_
      exact nx _ _ _ _ _ _ h9 hg7 _ _ _ _ _ _ _ _
    · refine V_istore C dL_law_75 (Nat.le_of_ble_eq_true rfl) rfl ?_
      refine V_aload_n C dL_law_77 rfl rfl ?_
      refine V_S1 (k2 := n + 1) (s2 := 6 * (n + 1)) C dL_law_78 lL_228 kL_sums (c1) rfl rfl ⟨Nat.le_of_ble_eq_true rfl, Nat.le_of_ble_eq_true rfl⟩ (Nat.le_of_ble_eq_true rfl) (Nat.le_refl _) (Nat.le_refl _) ?_
      refine V_istore C dL_law_81 (Nat.le_of_ble_eq_true rfl) rfl ?_
      refine V_aload_n C dL_law_83 rfl rfl ?_
      refine V_V1 (k2 := n + 1) (s2 := 6 * (n + 1)) C dL_law_84 lL_231 kX5_savedStates (c2) (by decide) (rfl) rfl rfl rfl ⟨Nat.le_of_ble_eq_true rfl, Nat.le_of_ble_eq_true rfl⟩ (Nat.le_of_ble_eq_true rfl) (Nat.le_refl _) (Nat.le_refl _) ?_
      refine V_istore C dL_law_87 (Nat.le_of_ble_eq_true rfl) rfl ?_
      refine V_aload_n C dL_law_89 rfl rfl ?_
      refine V_V1 (k2 := n + 1) (s2 := 6 * (n + 1)) C dL_law_90 lL_147 kX5_streamLength (c3) (by decide) (rfl) rfl rfl rfl ⟨Nat.le_of_ble_eq_true rfl, Nat.le_of_ble_eq_true rfl⟩ (Nat.le_of_ble_eq_true rfl) (Nat.le_refl _) (Nat.le_refl _) ?_
      refine V_istore C dL_law_93 (Nat.le_of_ble_eq_true rfl) rfl ?_
      refine V_aload_n C dL_law_95 rfl rfl ?_
      refine V_V1 (k2 := n + 1) (s2 := 6 * (n + 1)) C dL_law_96 lL_153 kX5_readNumbers (c4) (by decide) (rfl) rfl rfl rfl ⟨Nat.le_of_ble_eq_true rfl, Nat.le_of_ble_eq_true rfl⟩ (Nat.le_of_ble_eq_true rfl) (Nat.le_refl _) (Nat.le_refl _) ?_
      refine V_istore C dL_law_99 (Nat.le_of_ble_eq_true rfl) rfl ?_
      refine V_aload_n C dL_law_101 rfl rfl ?_
      refine V_V1 (k2 := n + 1) (s2 := 6 * (n + 1)) C dL_law_102 lL_208 kX5_looseDigits (c5) (by decide) (rfl) rfl rfl rfl ⟨Nat.le_of_ble_eq_true rfl, Nat.le_of_ble_eq_true rfl⟩ (Nat.le_of_ble_eq_true rfl) (Nat.le_refl _) (Nat.le_refl _) ?_
      refine V_if_le (tgt := 112) C dL_law_105 (by decide) (by omega) (fun q105 => ?_) (fun q105 => by exfalso; omega)
      refine V_iconst C dL_law_112 ?_
      refine V_istore C dL_law_113 (Nat.le_of_ble_eq_true rfl) rfl ?_
      refine V_aload_n C dL_law_115 rfl rfl ?_
      refine V_iload C dL_law_116 rfl ?_
      refine V_S1 (k2 := n) (s2 := 6 * n) C dL_law_118 lL_234 kL_acts (c6) rfl rfl ⟨Nat.le_of_ble_eq_true rfl, Nat.le_of_ble_eq_true rfl⟩ (Nat.le_of_ble_eq_true rfl) (by omega) (by omega) ?_
      refine V_istore C dL_law_121 (Nat.le_of_ble_eq_true rfl) rfl ?_
      refine V_aload_n C dL_law_123 rfl rfl ?_
      refine V_V1 (k2 := n) (s2 := 6 * n) C dL_law_124 lL_237 kX5_clearBuffer (c7) (by decide) (rfl) rfl rfl rfl ⟨Nat.le_of_ble_eq_true rfl, Nat.le_of_ble_eq_true rfl⟩ (Nat.le_of_ble_eq_true rfl) (Nat.le_refl _) (Nat.le_refl _) ?_
      refine V_pop C dL_law_127 rfl ?_
      refine V_iload C dL_law_128 rfl ?_
      refine V_if_ge (tgt := 160) C dL_law_130 (by decide) (by omega) (fun q130 => by exfalso; omega) (fun q130 => ?_)
      refine V_aload_n C dL_law_133 rfl rfl ?_
      refine V_S1 (k2 := n) (s2 := 6 * n) C dL_law_134 lL_228 kL_sums (c8) rfl rfl ⟨Nat.le_of_ble_eq_true rfl, Nat.le_of_ble_eq_true rfl⟩ (Nat.le_of_ble_eq_true rfl) (Nat.le_refl _) (Nat.le_refl _) ?_
      refine V_iload C dL_law_137 rfl ?_
      refine V_icmp_ne (tgt := 155) C dL_law_139 (by decide) (by omega) (by omega) (fun q139 => by exfalso; omega) (fun q139 => ?_)
      refine V_aload_n C dL_law_142 rfl rfl ?_
      refine V_V1 (k2 := n) (s2 := 6 * n) C dL_law_143 lL_231 kX5_savedStates (c9') (by decide) (rfl) rfl rfl rfl ⟨Nat.le_of_ble_eq_true rfl, Nat.le_of_ble_eq_true rfl⟩ (Nat.le_of_ble_eq_true rfl) (Nat.le_refl _) (Nat.le_refl _) ?_
      refine V_iload C dL_law_146 rfl ?_
      refine V_icmp_ne (tgt := 155) C dL_law_148 (by decide) (by omega) (by omega) (fun q148 => by exfalso; omega) (fun q148 => ?_)
      refine V_iconst C dL_law_151 ?_
      refine V_goto (tgt := 156) C dL_law_152 (by decide) ?_
      refine V_istore_n C dL_law_156 rfl (Nat.le_of_ble_eq_true rfl) rfl ?_
      refine V_goto (tgt := 359) C dL_law_157 (by decide) ?_
      exact nx _ _ _ _ _ _ h9 hg7 _ _ _ _ _ _ _ _
  · subst a2
    have hac : 8 ≤ y % 16 ∧ y % 16 ≤ 10 → ∃ p : Nat, (1 ≤ p ∧ p ≤ 6764) ∧ (s 6).toNat + cl (p : Int) ≤ 64 ∧ s1 = sdF (svS s st) (s 6).toNat (gm 18 p) (cl (p : Int)) (cl (p : Int)) := fun w => hac0 (decide_eq_true w)
    clear hac0
    have hst : (st = 5 ∧ st1 st = 5) ∨ (st ≠ 5 ∧ st1 st = st + 1) := by
      unfold st1
      by_cases e : st = 5
      · exact .inl ⟨e, if_pos e⟩
      · exact .inr ⟨e, if_neg e⟩
    have nn : ∀ (l9 : Int), (0 < (rdZ s).2.1 ∧ l9 = 1) ∨ ((rdZ s).2.1 = 0 ∧ l9 = 0) → V G mL_law x 160 [some (.ref G.2.2.2.2.2.2.1), some (rf G 0), some (.int (iI 1)), some (.int (iI (i : Int))), some (.int (iI (y : Int))), some (.int (iI (SN s))), some (.int (iI (st : Int))), some (.int (iI (s 6))), some (.int (iI ((rdZ s).2.2.2.length : Nat))), some (.int (iI l9)), some (.int (iI told)), o11] [] 28 false (HP G K7 r7) (n) (6 * n) := by
      intro l9 hl9
      by_cases e5 : st = 5
      · by_cases cy : 0 < (y : Int) % 3
        · obtain ⟨K1, r1, c1, h1, -⟩ := o_X5_savedStates G K7 r7 s1 (st1 st) kp t1 0 h7 hg7
          refine V_aload_n C dL_law_160 rfl rfl ?_
          refine V_V1 (k2 := n) (s2 := 6 * n) C dL_law_161 lL_231 kX5_savedStates (c1) (by decide) (rfl) rfl rfl rfl ⟨Nat.le_of_ble_eq_true rfl, Nat.le_of_ble_eq_true rfl⟩ (Nat.le_of_ble_eq_true rfl) (Nat.le_refl _) (Nat.le_refl _) ?_
          refine V_iload C dL_law_164 rfl ?_
          refine V_iconst C dL_law_166 ?_
          refine V_icmp_ne (tgt := 174) C dL_law_167 (by decide) (by omega) (by omega) (fun q167 => by exfalso; omega) (fun q167 => ?_)
          refine V_iconst C dL_law_170 ?_
          refine V_goto (tgt := 178) C dL_law_171 (by decide) ?_
          refine V_icmp_ne (tgt := 199) C dL_law_178 (by decide) (by omega) (by omega) (fun q178 => by exfalso; omega) (fun q178 => ?_)
          refine V_iload C dL_law_181 rfl ?_
          refine V_iconst C dL_law_183 ?_
          refine V_irem C dL_law_184 (by omega) (by omega) ?_
          refine V_if_gt (tgt := 195) C dL_law_185 (by decide) (by omega) (fun q185 => ?_) (fun q185 => by exfalso; omega)
          refine V_iconst C dL_law_195 ?_
          refine V_goto (tgt := 200) C dL_law_196 (by decide) ?_
          refine V_istore_n C dL_law_200 rfl (Nat.le_of_ble_eq_true rfl) rfl ?_
          exact law_2 C i nx y hy s s1 st kp t1 h5 h60 hi K1 r1 h1 hg7 l9 hl9 g6.1 hac _ _
        · obtain ⟨K1, r1, c1, h1, -⟩ := o_X5_savedStates G K7 r7 s1 (st1 st) kp t1 0 h7 hg7
          obtain ⟨K2, r2, c2, h2⟩ := c_hangs G s1 (st1 st) kp t1 0 hg7 K1 r1 h1
          refine V_aload_n C dL_law_160 rfl rfl ?_
          refine V_V1 (k2 := n) (s2 := 6 * n) C dL_law_161 lL_231 kX5_savedStates (c1) (by decide) (rfl) rfl rfl rfl ⟨Nat.le_of_ble_eq_true rfl, Nat.le_of_ble_eq_true rfl⟩ (Nat.le_of_ble_eq_true rfl) (Nat.le_refl _) (Nat.le_refl _) ?_
          refine V_iload C dL_law_164 rfl ?_
          refine V_iconst C dL_law_166 ?_
          refine V_icmp_ne (tgt := 174) C dL_law_167 (by decide) (by omega) (by omega) (fun q167 => by exfalso; omega) (fun q167 => ?_)
          refine V_iconst C dL_law_170 ?_
          refine V_goto (tgt := 178) C dL_law_171 (by decide) ?_
          refine V_icmp_ne (tgt := 199) C dL_law_178 (by decide) (by omega) (by omega) (fun q178 => by exfalso; omega) (fun q178 => ?_)
          refine V_iload C dL_law_181 rfl ?_
          refine V_iconst C dL_law_183 ?_
          refine V_irem C dL_law_184 (by omega) (by omega) ?_
          refine V_if_gt (tgt := 195) C dL_law_185 (by decide) (by omega) (fun q185 => by exfalso; omega) (fun q185 => ?_)
          refine V_aload_n C dL_law_188 rfl rfl ?_
          refine V_S1 (k2 := n) (s2 := 6 * n) C dL_law_189 lL_220 kL_hangs (c2) rfl rfl ⟨Nat.le_of_ble_eq_true rfl, Nat.le_of_ble_eq_true rfl⟩ (Nat.le_of_ble_eq_true rfl) (Nat.le_refl _) (Nat.le_refl _) ?_
          refine V_if_eq (tgt := 199) C dL_law_192 (by decide) (by omega) (fun q192 => by exfalso; omega) (fun q192 => ?_)
          refine V_iconst C dL_law_195 ?_
          refine V_goto (tgt := 200) C dL_law_196 (by decide) ?_
          refine V_istore_n C dL_law_200 rfl (Nat.le_of_ble_eq_true rfl) rfl ?_
          exact law_2 C i nx y hy s s1 st kp t1 h5 h60 hi K2 r2 h2 hg7 l9 hl9 g6.1 hac _ _
      · by_cases cy : 0 < (y : Int) % 3
        · obtain ⟨K1, r1, c1, h1, -⟩ := o_X5_savedStates G K7 r7 s1 (st1 st) kp t1 0 h7 hg7
          refine V_aload_n C dL_law_160 rfl rfl ?_
          refine V_V1 (k2 := n) (s2 := 6 * n) C dL_law_161 lL_231 kX5_savedStates (c1) (by decide) (rfl) rfl rfl rfl ⟨Nat.le_of_ble_eq_true rfl, Nat.le_of_ble_eq_true rfl⟩ (Nat.le_of_ble_eq_true rfl) (Nat.le_refl _) (Nat.le_refl _) ?_
          refine V_iload C dL_law_164 rfl ?_
          refine V_iconst C dL_law_166 ?_
          refine V_icmp_ne (tgt := 174) C dL_law_167 (by decide) (by omega) (by omega) (fun q167 => ?_) (fun q167 => by exfalso; omega)
          refine V_iload C dL_law_174 rfl ?_
          refine V_iconst C dL_law_176 ?_
          refine V_iadd C dL_law_177 ?_
          refine V_icmp_ne (tgt := 199) C dL_law_178 (by decide) (by omega) (by omega) (fun q178 => by exfalso; omega) (fun q178 => ?_)
          refine V_iload C dL_law_181 rfl ?_
          refine V_iconst C dL_law_183 ?_
          refine V_irem C dL_law_184 (by omega) (by omega) ?_
          refine V_if_gt (tgt := 195) C dL_law_185 (by decide) (by omega) (fun q185 => ?_) (fun q185 => by exfalso; omega)
          refine V_iconst C dL_law_195 ?_
          refine V_goto (tgt := 200) C dL_law_196 (by decide) ?_
          refine V_istore_n C dL_law_200 rfl (Nat.le_of_ble_eq_true rfl) rfl ?_
          exact law_2 C i nx y hy s s1 st kp t1 h5 h60 hi K1 r1 h1 hg7 l9 hl9 g6.1 hac _ _
        · obtain ⟨K1, r1, c1, h1, -⟩ := o_X5_savedStates G K7 r7 s1 (st1 st) kp t1 0 h7 hg7
          obtain ⟨K2, r2, c2, h2⟩ := c_hangs G s1 (st1 st) kp t1 0 hg7 K1 r1 h1
          refine V_aload_n C dL_law_160 rfl rfl ?_
          refine V_V1 (k2 := n) (s2 := 6 * n) C dL_law_161 lL_231 kX5_savedStates (c1) (by decide) (rfl) rfl rfl rfl ⟨Nat.le_of_ble_eq_true rfl, Nat.le_of_ble_eq_true rfl⟩ (Nat.le_of_ble_eq_true rfl) (Nat.le_refl _) (Nat.le_refl _) ?_
          refine V_iload C dL_law_164 rfl ?_
          refine V_iconst C dL_law_166 ?_
          refine V_icmp_ne (tgt := 174) C dL_law_167 (by decide) (by omega) (by omega) (fun q167 => ?_) (fun q167 => by exfalso; omega)
          refine V_iload C dL_law_174 rfl ?_
          refine V_iconst C dL_law_176 ?_
          refine V_iadd C dL_law_177 ?_
          refine V_icmp_ne (tgt := 199) C dL_law_178 (by decide) (by omega) (by omega) (fun q178 => by exfalso; omega) (fun q178 => ?_)
          refine V_iload C dL_law_181 rfl ?_
          refine V_iconst C dL_law_183 ?_
          refine V_irem C dL_law_184 (by omega) (by omega) ?_
          refine V_if_gt (tgt := 195) C dL_law_185 (by decide) (by omega) (fun q185 => by exfalso; omega) (fun q185 => ?_)
          refine V_aload_n C dL_law_188 rfl rfl ?_
          refine V_S1 (k2 := n) (s2 := 6 * n) C dL_law_189 lL_220 kL_hangs (c2) rfl rfl ⟨Nat.le_of_ble_eq_true rfl, Nat.le_of_ble_eq_true rfl⟩ (Nat.le_of_ble_eq_true rfl) (Nat.le_refl _) (Nat.le_refl _) ?_
          refine V_if_eq (tgt := 199) C dL_law_192 (by decide) (by omega) (fun q192 => by exfalso; omega) (fun q192 => ?_)
          refine V_iconst C dL_law_195 ?_
          refine V_goto (tgt := 200) C dL_law_196 (by decide) ?_
          refine V_istore_n C dL_law_200 rfl (Nat.le_of_ble_eq_true rfl) rfl ?_
          exact law_2 C i nx y hy s s1 st kp t1 h5 h60 hi K2 r2 h2 hg7 l9 hl9 g6.1 hac _ _
    clear hac
    by_cases c9 : 0 < (rdZ s).2.1
    · refine V_istore C dL_law_75 (Nat.le_of_ble_eq_true rfl) rfl ?_
      refine V_aload_n C dL_law_77 rfl rfl ?_
      refine V_S1 (k2 := n + 1) (s2 := 6 * (n + 1)) C dL_law_78 lL_228 kL_sums (c1) rfl rfl ⟨Nat.le_of_ble_eq_true rfl, Nat.le_of_ble_eq_true rfl⟩ (Nat.le_of_ble_eq_true rfl) (Nat.le_refl _) (Nat.le_refl _) ?_
      refine V_istore C dL_law_81 (Nat.le_of_ble_eq_true rfl) rfl ?_
      refine V_aload_n C dL_law_83 rfl rfl ?_
      refine V_V1 (k2 := n + 1) (s2 := 6 * (n + 1)) C dL_law_84 lL_231 kX5_savedStates (c2) (by decide) (rfl) rfl rfl rfl ⟨Nat.le_of_ble_eq_true rfl, Nat.le_of_ble_eq_true rfl⟩ (Nat.le_of_ble_eq_true rfl) (Nat.le_refl _) (Nat.le_refl _) ?_
      refine V_istore C dL_law_87 (Nat.le_of_ble_eq_true rfl) rfl ?_
      refine V_aload_n C dL_law_89 rfl rfl ?_
      refine V_V1 (k2 := n + 1) (s2 := 6 * (n + 1)) C dL_law_90 lL_147 kX5_streamLength (c3) (by decide) (rfl) rfl rfl rfl ⟨Nat.le_of_ble_eq_true rfl, Nat.le_of_ble_eq_true rfl⟩ (Nat.le_of_ble_eq_true rfl) (Nat.le_refl _) (Nat.le_refl _) ?_
      refine V_istore C dL_law_93 (Nat.le_of_ble_eq_true rfl) rfl ?_
      refine V_aload_n C dL_law_95 rfl rfl ?_
      refine V_V1 (k2 := n + 1) (s2 := 6 * (n + 1)) C dL_law_96 lL_153 kX5_readNumbers (c4) (by decide) (rfl) rfl rfl rfl ⟨Nat.le_of_ble_eq_true rfl, Nat.le_of_ble_eq_true rfl⟩ (Nat.le_of_ble_eq_true rfl) (Nat.le_refl _) (Nat.le_refl _) ?_
      refine V_istore C dL_law_99 (Nat.le_of_ble_eq_true rfl) rfl ?_
      refine V_aload_n C dL_law_101 rfl rfl ?_
      refine V_V1 (k2 := n + 1) (s2 := 6 * (n + 1)) C dL_law_102 lL_208 kX5_looseDigits (c5) (by decide) (rfl) rfl rfl rfl ⟨Nat.le_of_ble_eq_true rfl, Nat.le_of_ble_eq_true rfl⟩ (Nat.le_of_ble_eq_true rfl) (Nat.le_refl _) (Nat.le_refl _) ?_
      refine V_if_le (tgt := 112) C dL_law_105 (by decide) (by omega) (fun q105 => by exfalso; omega) (fun q105 => ?_)
      refine V_iconst C dL_law_108 ?_
      refine V_goto (tgt := 113) C dL_law_109 (by decide) ?_
      refine V_istore C dL_law_113 (Nat.le_of_ble_eq_true rfl) rfl ?_
      refine V_aload_n C dL_law_115 rfl rfl ?_
      refine V_iload C dL_law_116 rfl ?_
      refine V_S1 (k2 := n) (s2 := 6 * n) C dL_law_118 lL_234 kL_acts (c6) rfl rfl ⟨Nat.le_of_ble_eq_true rfl, Nat.le_of_ble_eq_true rfl⟩ (Nat.le_of_ble_eq_true rfl) (by omega) (by omega) ?_
      refine V_istore C dL_law_121 (Nat.le_of_ble_eq_true rfl) rfl ?_
      refine V_aload_n C dL_law_123 rfl rfl ?_
      refine V_V1 (k2 := n) (s2 := 6 * n) C dL_law_124 lL_237 kX5_clearBuffer (c7) (by decide) (rfl) rfl rfl rfl ⟨Nat.le_of_ble_eq_true rfl, Nat.le_of_ble_eq_true rfl⟩ (Nat.le_of_ble_eq_true rfl) (Nat.le_refl _) (Nat.le_refl _) ?_
      refine V_pop C dL_law_127 rfl ?_
      refine V_iload C dL_law_128 rfl ?_
      refine V_if_ge (tgt := 160) C dL_law_130 (by decide) (by omega) (fun q130 => ?_) (fun q130 => by exfalso; omega)
      exact nn _ (.inl ⟨c9, rfl⟩)
    · refine V_istore C dL_law_75 (Nat.le_of_ble_eq_true rfl) rfl ?_
      refine V_aload_n C dL_law_77 rfl rfl ?_
      refine V_S1 (k2 := n + 1) (s2 := 6 * (n + 1)) C dL_law_78 lL_228 kL_sums (c1) rfl rfl ⟨Nat.le_of_ble_eq_true rfl, Nat.le_of_ble_eq_true rfl⟩ (Nat.le_of_ble_eq_true rfl) (Nat.le_refl _) (Nat.le_refl _) ?_
      refine V_istore C dL_law_81 (Nat.le_of_ble_eq_true rfl) rfl ?_
      refine V_aload_n C dL_law_83 rfl rfl ?_
      refine V_V1 (k2 := n + 1) (s2 := 6 * (n + 1)) C dL_law_84 lL_231 kX5_savedStates (c2) (by decide) (rfl) rfl rfl rfl ⟨Nat.le_of_ble_eq_true rfl, Nat.le_of_ble_eq_true rfl⟩ (Nat.le_of_ble_eq_true rfl) (Nat.le_refl _) (Nat.le_refl _) ?_
      refine V_istore C dL_law_87 (Nat.le_of_ble_eq_true rfl) rfl ?_
      refine V_aload_n C dL_law_89 rfl rfl ?_
      refine V_V1 (k2 := n + 1) (s2 := 6 * (n + 1)) C dL_law_90 lL_147 kX5_streamLength (c3) (by decide) (rfl) rfl rfl rfl ⟨Nat.le_of_ble_eq_true rfl, Nat.le_of_ble_eq_true rfl⟩ (Nat.le_of_ble_eq_true rfl) (Nat.le_refl _) (Nat.le_refl _) ?_
      refine V_istore C dL_law_93 (Nat.le_of_ble_eq_true rfl) rfl ?_
      refine V_aload_n C dL_law_95 rfl rfl ?_
      refine V_V1 (k2 := n + 1) (s2 := 6 * (n + 1)) C dL_law_96 lL_153 kX5_readNumbers (c4) (by decide) (rfl) rfl rfl rfl ⟨Nat.le_of_ble_eq_true rfl, Nat.le_of_ble_eq_true rfl⟩ (Nat.le_of_ble_eq_true rfl) (Nat.le_refl _) (Nat.le_refl _) ?_
      refine V_istore C dL_law_99 (Nat.le_of_ble_eq_true rfl) rfl ?_
      refine V_aload_n C dL_law_101 rfl rfl ?_
      refine V_V1 (k2 := n + 1) (s2 := 6 * (n + 1)) C dL_law_102 lL_208 kX5_looseDigits (c5) (by decide) (rfl) rfl rfl rfl ⟨Nat.le_of_ble_eq_true rfl, Nat.le_of_ble_eq_true rfl⟩ (Nat.le_of_ble_eq_true rfl) (Nat.le_refl _) (Nat.le_refl _) ?_
      refine V_if_le (tgt := 112) C dL_law_105 (by decide) (by omega) (fun q105 => ?_) (fun q105 => by exfalso; omega)
      refine V_iconst C dL_law_112 ?_
      refine V_istore C dL_law_113 (Nat.le_of_ble_eq_true rfl) rfl ?_
      refine V_aload_n C dL_law_115 rfl rfl ?_
      refine V_iload C dL_law_116 rfl ?_
      refine V_S1 (k2 := n) (s2 := 6 * n) C dL_law_118 lL_234 kL_acts (c6) rfl rfl ⟨Nat.le_of_ble_eq_true rfl, Nat.le_of_ble_eq_true rfl⟩ (Nat.le_of_ble_eq_true rfl) (by omega) (by omega) ?_
      refine V_istore C dL_law_121 (Nat.le_of_ble_eq_true rfl) rfl ?_
      refine V_aload_n C dL_law_123 rfl rfl ?_
      refine V_V1 (k2 := n) (s2 := 6 * n) C dL_law_124 lL_237 kX5_clearBuffer (c7) (by decide) (rfl) rfl rfl rfl ⟨Nat.le_of_ble_eq_true rfl, Nat.le_of_ble_eq_true rfl⟩ (Nat.le_of_ble_eq_true rfl) (Nat.le_refl _) (Nat.le_refl _) ?_
      refine V_pop C dL_law_127 rfl ?_
      refine V_iload C dL_law_128 rfl ?_
      refine V_if_ge (tgt := 160) C dL_law_130 (by decide) (by omega) (fun q130 => ?_) (fun q130 => by exfalso; omega)
      exact nn _ (.inr ⟨by omega, rfl⟩)
set_option maxRecDepth 100000 in
set_option maxHeartbeats 4000000 in
theorem law_loop {G : GT} {x : CxT} (C : Cx G mL_law x) (hL : G.2.2.2.2.2.2.2.1 ≤ 100000) (fin : ∀ (K : Nat → Nat → Int) (r : Nat → Option Nat) (o2 o3 o4 o5 o6 o7 o8 o9 o10 o11 : Option Value), V G mL_law x 376 [some (.ref G.2.2.2.2.2.2.1), some (rf G 0), o2, o3, o4, o5, o6, o7, o8, o9, o10, o11] [] 28 false (HP G K r) 0 0) : ∀ (n i : Nat), i + n = 60 → ∀ (K : Nat → Nat → Int) (r : Nat → Option Nat) (s : Nat → Int) (st : Nat) (kp : Int) (t : Nat → Int), IC K r s st kp t 0 → GI s st kp t 0 → ∀ (o4 o5 o6 o7 o8 o9 o10 o11 : Option Value), V G mL_law x 41 [some (.ref G.2.2.2.2.2.2.1), some (rf G 0), some (.int (iI 1)), some (.int (iI (i : Int))), o4, o5, o6, o7, o8, o9, o10, o11] [] 28 false (HP G K r) (n) (6 * n) := by
  intro n
  induction n with
  | zero =>
    intro i e K r s st kp t h hg o4 o5 o6 o7 o8 o9 o10 o11
    obtain rfl : i = 60 := by omega
    obtain ⟨K1, r1, c1, h1⟩ := c_hangs G s st kp t 0 hg K r h
    refine V_iload_n C dL_law_41 rfl rfl ?_
    refine V_bipush C dL_law_42 (by decide +kernel) ?_
    refine V_icmp_ge (tgt := 365) C dL_law_44 (by decide) (by omega) (by omega) (fun q44 => ?_) (fun q44 => by exfalso; omega)
    refine V_iload_n C dL_law_365 rfl rfl ?_
    refine V_if_eq (tgt := 380) C dL_law_366 (by decide) (by omega) (fun q366 => by exfalso; omega) (fun q366 => ?_)
    refine V_aload_n C dL_law_369 rfl rfl ?_
    refine V_S1 (k2 := 0) (s2 := 6 * 0) C dL_law_370 lL_220 kL_hangs (c1) rfl rfl ⟨Nat.le_of_ble_eq_true rfl, Nat.le_of_ble_eq_true rfl⟩ (Nat.le_of_ble_eq_true rfl) (Nat.le_refl _) (Nat.le_refl _) ?_
    refine V_if_eq (tgt := 380) C dL_law_373 (by decide) (by omega) (fun q373 => by exfalso; omega) (fun q373 => ?_)
    exact fin _ _ _ _ _ _ _ _ _ _ _ _
  | succ n ih =>
    intro i e K r s st kp t h hg o4 o5 o6 o7 o8 o9 o10 o11
    obtain ⟨Y, hY, cY⟩ := c_cell G hL i (by omega)
    have cy := cY 28 false (HP G K r)
    by_cases c3 : i < 3
    · refine V_iload_n C dL_law_41 rfl rfl ?_
      refine V_bipush C dL_law_42 (by decide +kernel) ?_
      refine V_icmp_ge (tgt := 365) C dL_law_44 (by decide) (by omega) (by omega) (fun q44 => by exfalso; omega) (fun q44 => ?_)
      refine V_iload_n C dL_law_47 rfl rfl ?_
      refine V_if_eq (tgt := 365) C dL_law_48 (by decide) (by omega) (fun q48 => by exfalso; omega) (fun q48 => ?_)
      refine V_iload_n C dL_law_51 rfl rfl ?_
      refine V_iconst C dL_law_52 ?_
      refine V_icmp_ge (tgt := 70) C dL_law_53 (by decide) (by omega) (by omega) (fun q53 => by exfalso; omega) (fun q53 => ?_)
      refine V_aload_nq C dL_law_56 rfl rfl ?_
      refine V_iload_n C dL_law_57 rfl rfl ?_
      refine V_S1 (k2 := n + 1) (s2 := 6 * (n + 1)) C dL_law_58 lL_224 kL_cell (cy) rfl rfl ⟨Nat.le_of_ble_eq_true rfl, Nat.le_of_ble_eq_true rfl⟩ (Nat.le_of_ble_eq_true rfl) (Nat.le_refl _) (Nat.le_refl _) ?_
      refine V_bipush C dL_law_61 (by decide +kernel) ?_
      refine V_idiv C dL_law_63 (by omega) (by omega) ?_
      refine V_bipush C dL_law_64 (by decide +kernel) ?_
      refine V_imul C dL_law_66 ?_
      rw [show (Y : Int) / 16 * 16 = ((Y / 16 * 16 : Nat) : Int) by omega]
      refine V_goto (tgt := 75) C dL_law_67 (by decide) ?_
      exact law_1 C i (fun K2 r2 s2 st2 kp2 t2 hI2 hG2 o4 o5 o6 o7 o8 o9 o10 o11 => V_iinc C dL_law_359 rfl (Nat.le_of_ble_eq_true rfl) rfl (V_goto (tgt := 41) C dL_law_362 (by decide) (ih (i + 1) (by omega) K2 r2 s2 st2 kp2 t2 hI2 hG2 o4 o5 o6 o7 o8 o9 o10 o11))) (Y / 16 * 16) (by omega) K r s st kp t h hg _ _ _ _ _ _ _ _
    · refine V_iload_n C dL_law_41 rfl rfl ?_
      refine V_bipush C dL_law_42 (by decide +kernel) ?_
      refine V_icmp_ge (tgt := 365) C dL_law_44 (by decide) (by omega) (by omega) (fun q44 => by exfalso; omega) (fun q44 => ?_)
      refine V_iload_n C dL_law_47 rfl rfl ?_
      refine V_if_eq (tgt := 365) C dL_law_48 (by decide) (by omega) (fun q48 => by exfalso; omega) (fun q48 => ?_)
      refine V_iload_n C dL_law_51 rfl rfl ?_
      refine V_iconst C dL_law_52 ?_
      refine V_icmp_ge (tgt := 70) C dL_law_53 (by decide) (by omega) (by omega) (fun q53 => ?_) (fun q53 => by exfalso; omega)
      refine V_aload_nq C dL_law_70 rfl rfl ?_
      refine V_iload_n C dL_law_71 rfl rfl ?_
      refine V_S1 (k2 := n + 1) (s2 := 6 * (n + 1)) C dL_law_72 lL_224 kL_cell (cy) rfl rfl ⟨Nat.le_of_ble_eq_true rfl, Nat.le_of_ble_eq_true rfl⟩ (Nat.le_of_ble_eq_true rfl) (Nat.le_refl _) (Nat.le_refl _) ?_
      exact law_1 C i (fun K2 r2 s2 st2 kp2 t2 hI2 hG2 o4 o5 o6 o7 o8 o9 o10 o11 => V_iinc C dL_law_359 rfl (Nat.le_of_ble_eq_true rfl) rfl (V_goto (tgt := 41) C dL_law_362 (by decide) (ih (i + 1) (by omega) K2 r2 s2 st2 kp2 t2 hI2 hG2 o4 o5 o6 o7 o8 o9 o10 o11))) (Y) (by omega) K r s st kp t h hg _ _ _ _ _ _ _ _
theorem isS_00 : ∀ i, i < 5 → r00 i = some (18 + 2 * i) ∧ isS (18 + 2 * i) = true := by decide +kernel
theorem RS_00 {a : Nat} (ha : isS a = true) (h1 : isS (a + 1) = false) : RS K00 a (fun _ => 0) := by
  have e0 : K00 a = fun j => if j = 3 then -1 else 0 := if_pos ha
  have e1 : K00 (a + 1) = fun _ => 0 := if_neg (by rw [h1]; decide)
  refine ⟨⟨fun k _ => by rw [e1], by rw [e0]; rfl, by rw [e0]; rfl⟩, by rw [e0]; rfl, by rw [e0]; rfl⟩
theorem GZ_00 : GZ (fun _ => 0) := ⟨fun _ _ => ⟨Int.le_refl 0, show (0 : Int) ≤ 6764 by decide⟩, by decide, fun _ _ _ => ⟨Int.le_refl 0, show (0 : Int) ≤ 1 by decide⟩, by decide, by decide, by decide⟩
theorem GG_00 : IC K00 r00 (fun _ => 0) 0 0 (fun _ => 0) 0 ∧ GI (fun _ => 0) 0 0 (fun _ => 0) 0 := by
  refine ⟨⟨Nat.zero_le _, RS_00 rfl rfl, ⟨rfl, rfl, rfl⟩, rfl, fun w => absurd w (by decide), ⟨fun i hi => ?_, fun i j hi hj e => ?_⟩, fun i hi => absurd hi (Nat.not_lt_zero i)⟩, ⟨GZ_00, by decide, .inl rfl, by decide, fun j hj => absurd hj (Nat.not_lt_zero j), fun _ => GZ_00, fun i hi => absurd hi (Nat.not_lt_zero i)⟩⟩
  · exact ⟨18 + 2 * i, (isS_00 i hi).1, (isS_00 i hi).2, by omega⟩
  · rw [(isS_00 i hi).1, (isS_00 j hj).1] at e
    have := Option.some.inj e
    omega
set_option maxRecDepth 100000 in
set_option maxHeartbeats 4000000 in
theorem law_first {G : GT} {x : CxT} (C : Cx G mL_law x) (hL : G.2.2.2.2.2.2.2.1 ≤ 100000) (fin : ∀ (K : Nat → Nat → Int) (r : Nat → Option Nat) (o2 o3 o4 o5 o6 o7 o8 o9 o10 o11 : Option Value), V G mL_law x 376 [some (.ref G.2.2.2.2.2.2.1), some (rf G 0), o2, o3, o4, o5, o6, o7, o8, o9, o10, o11] [] 28 false (HP G K r) 0 0) (hB : Hp) : V G mL_law x 0 [some (.ref G.2.2.2.2.2.2.1), none, none, none, none, none, none, none, none, none, none, none] [] 0 true hB 90 613 := by
  refine V_new (kc := 89) (ks := 601) (ci := 5) (fs := [.null, .null, .int (iI 0), .null, .int (iI 0), .null, .int (iI 0), .null, .null, .null, .null, .null]) C dL_law_0 nL_10 niX5 rfl tyX5 tyX5_ok (fun j hj => by rcases (show j = 0 ∨ j = 1 ∨ j = 2 ∨ j = 3 ∨ j = 4 ∨ j = 5 ∨ j = 6 ∨ j = 7 ∨ j = 8 ∨ j = 9 ∨ j = 10 ∨ j = 11 by omega) with rfl | rfl | rfl | rfl | rfl | rfl | rfl | rfl | rfl | rfl | rfl | rfl <;> rfl) ?_
  refine V_dup C dL_law_3 rfl ?_
  refine V_I0 (k2 := 62) (s2 := 372) C dL_law_4 lL_215 kX5_init rfl rfl (k_X5_init G _) rfl rfl ⟨Nat.le_of_ble_eq_true rfl, Nat.le_of_ble_eq_true rfl⟩ (Nat.le_of_ble_eq_true rfl) (by decide) (by decide) ?_
  refine V_gf ?_
  obtain ⟨K1, hc1, h1, -⟩ := x1_X5_undo G K00 r00 (fun _ => 0) 0 0 (fun _ => 0) 0 GG_00.1 GG_00.2 rfl
  have c1 := e1_L_undo G K00 r00 K1 hc1
  obtain ⟨K2, hc2, h2, -⟩ := x1_X5_restore G K1 r00 (fun _ => 0) 0 0 (fun _ => 0) 0 h1 GG_00.2 rfl
  have c2 := e1_L_restore G K1 r00 K2 hc2
  obtain ⟨K3, r3, c3, h3⟩ := c_hangs G (fun _ => 0) 0 0 (fun _ => 0) 0 GG_00.2 K2 r00 h2
  refine V_astore_nr C dL_law_7 rfl (Nat.le_of_ble_eq_true rfl) rfl ?_
  refine V_aload_n C dL_law_8 rfl rfl ?_
  refine V_SH1 (k2 := 61) (s2 := 366) C dL_law_9 lL_216 kL_undo (c1) rfl rfl ⟨Nat.le_of_ble_eq_true rfl, Nat.le_of_ble_eq_true rfl⟩ (Nat.le_of_ble_eq_true rfl) (by decide) (by decide) ?_
  refine V_ldc (n := -2000001) C dL_law_12 qL_17 (by decide) ?_
  refine V_icmp_ne (tgt := 37) C dL_law_14 (by decide) (by omega) (by omega) (fun q14 => by exfalso; omega) (fun q14 => ?_)
  refine V_aload_n C dL_law_17 rfl rfl ?_
  refine V_SH1 (k2 := 60) (s2 := 360) C dL_law_18 lL_218 kL_restore (c2) rfl rfl ⟨Nat.le_of_ble_eq_true rfl, Nat.le_of_ble_eq_true rfl⟩ (Nat.le_of_ble_eq_true rfl) (by decide) (by decide) ?_
  refine V_ldc (n := -2000001) C dL_law_21 qL_17 (by decide) ?_
  refine V_icmp_ne (tgt := 37) C dL_law_23 (by decide) (by omega) (by omega) (fun q23 => by exfalso; omega) (fun q23 => ?_)
  refine V_aload_n C dL_law_26 rfl rfl ?_
  refine V_S1 (k2 := 60) (s2 := 360) C dL_law_27 lL_220 kL_hangs (c3) rfl rfl ⟨Nat.le_of_ble_eq_true rfl, Nat.le_of_ble_eq_true rfl⟩ (Nat.le_of_ble_eq_true rfl) (Nat.le_refl _) (Nat.le_refl _) ?_
  refine V_if_eq (tgt := 37) C dL_law_30 (by decide) (by omega) (fun q30 => by exfalso; omega) (fun q30 => ?_)
  refine V_iconst C dL_law_33 ?_
  refine V_goto (tgt := 38) C dL_law_34 (by decide) ?_
  refine V_istore_n C dL_law_38 rfl (Nat.le_of_ble_eq_true rfl) rfl ?_
  refine V_iconst C dL_law_39 ?_
  refine V_istore_n C dL_law_40 rfl (Nat.le_of_ble_eq_true rfl) rfl ?_
  exact law_loop C hL fin 60 0 rfl K3 r3 (fun _ => 0) 0 0 (fun _ => 0) h3 GG_00.2 _ _ _ _ _ _ _ _
