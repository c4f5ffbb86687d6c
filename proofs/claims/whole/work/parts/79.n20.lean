theorem isS_00 : ∀ i, i < 5 → r00 i = some (18 + 2 * i) ∧ isS (18 + 2 * i) = true := by decide +kernel
theorem RS_00 {a : Nat} (ha : isS a = true) (h1 : isS (a + 1) = false) : RS K00 a (fun _ => 0) := by
  have e0 : K00 a = fun j => if j = 3 then -1 else 0 := if_pos ha
  have e1 : K00 (a + 1) = fun _ => 0 := if_neg (by rw [h1]; decide)
  refine ⟨⟨fun k _ => by rw [e1], by rw [e0]; rfl, by rw [e0]; rfl⟩, by rw [e0]; rfl, by rw [e0]; rfl⟩
theorem GZ_00 : GZ (fun _ => 0) := ⟨fun _ _ => ⟨Int.le_refl 0, show (0 : Int) ≤ 6764 by decide⟩, by decide, fun _ _ _ => ⟨Int.le_refl 0, show (0 : Int) ≤ 1 by decide⟩, by decide, by decide, by decide⟩
theorem GG_00 : GG K00 r00 := by
  refine ⟨fun _ => 0, 0, 0, fun _ => 0, 0, ⟨Nat.zero_le _, RS_00 rfl rfl, ⟨rfl, rfl, rfl⟩, rfl, fun w => absurd w (by decide), ⟨fun i hi => ?_, fun i j hi hj e => ?_⟩, fun i hi => absurd hi (Nat.not_lt_zero i)⟩, ⟨GZ_00, by decide, .inl rfl, by decide, fun j hj => absurd hj (Nat.not_lt_zero j), fun _ => GZ_00, fun i hi => absurd hi (Nat.not_lt_zero i)⟩, rfl, rfl, rfl, rfl, rfl⟩
  · exact ⟨18 + 2 * i, (isS_00 i hi).1, (isS_00 i hi).2, by omega⟩
  · rw [(isS_00 i hi).1, (isS_00 j hj).1] at e
    have := Option.some.inj e
    omega
set_option maxRecDepth 100000 in
set_option maxHeartbeats 4000000 in
theorem law_first {G : GT} {x : CxT} {sa L : Nat} {xs : Nat → Int32} (hW : LW G x sa L xs) (fin : ∀ (i : Int) (K : Nat → Nat → Int) (r : Nat → Option Nat) (o5 o6 o7 o8 : Option Value), V G mL_law x 2228 [some (.ref sa), some (rf G 0), some (rf G 28), some (rf G 33), some (.int (iI i)), o5, o6, o7, o8] [] 34 false (HP G K r) 0 0) (hB : Hp) : V G mL_law x 0 [some (.ref sa), none, none, none, none, none, none, none, none] [] 0 true hB 546 3994 := by
  have C := hW.1
  have hL := hW.2.2.2.2
  refine V_new (kc := 545) (ks := 3982) (ci := 5) (fs := [.null, .null, .int (iI 0), .null, .int (iI 0), .null, .int (iI 0), .null, .null, .null, .null, .null]) C dL_law_0 nL_8 niX5 rfl tyX5 tyX5_ok (fun j hj => by rcases (show j = 0 ∨ j = 1 ∨ j = 2 ∨ j = 3 ∨ j = 4 ∨ j = 5 ∨ j = 6 ∨ j = 7 ∨ j = 8 ∨ j = 9 ∨ j = 10 ∨ j = 11 by omega) with rfl | rfl | rfl | rfl | rfl | rfl | rfl | rfl | rfl | rfl | rfl | rfl <;> rfl) ?_
  refine V_dup C dL_law_3 rfl ?_
  refine V_I0 (k2 := 518) (s2 := 3753) C dL_law_4 lL_112 kX5_init rfl rfl (k_X5_init G _) rfl rfl ⟨Nat.le_of_ble_eq_true rfl, Nat.le_of_ble_eq_true rfl⟩ (Nat.le_of_ble_eq_true rfl) (by decide) (by decide) ?_
  refine V_astore_nr C dL_law_7 rfl (Nat.le_of_ble_eq_true rfl) rfl ?_
  refine V_new (kc := 517) (ks := 3739) (ci := 6) (fs := [.null, .int (iI 0), .int (iI 0), .int (iI 0), .null, .int (iI 0), .int (iI 0), .int (iI 0), .int (iI 0), .null, .int (iI 0), .null, .int (iI 0), .int (iI 0)]) C dL_law_8 nL_113 niX6 rfl tyX6 tyX6_ok (fun j hj => by rcases (show j = 0 ∨ j = 1 ∨ j = 2 ∨ j = 3 ∨ j = 4 ∨ j = 5 ∨ j = 6 ∨ j = 7 ∨ j = 8 ∨ j = 9 ∨ j = 10 ∨ j = 11 ∨ j = 12 ∨ j = 13 by omega) with rfl | rfl | rfl | rfl | rfl | rfl | rfl | rfl | rfl | rfl | rfl | rfl | rfl | rfl <;> rfl) ?_
  refine V_dup C dL_law_11 rfl ?_
  refine V_I0 (k2 := 513) (s2 := 3073) C dL_law_12 lL_115 kX6_init rfl rfl (k_X6_init G _ 28) rfl rfl ⟨Nat.le_of_ble_eq_true rfl, Nat.le_of_ble_eq_true rfl⟩ (Nat.le_of_ble_eq_true rfl) (by decide) (by decide) ?_
  refine V_astore_nr C dL_law_15 rfl (Nat.le_of_ble_eq_true rfl) rfl ?_
  refine V_iconst C dL_law_16 ?_
  refine V_newlong (kc := 512) (ks := 3072) (n := 1) C dL_law_17 rfl (by decide) ?_
  refine V_astore_nr C dL_law_19 rfl (Nat.le_of_ble_eq_true rfl) rfl ?_
  refine V_iconst C dL_law_20 ?_
  refine V_istore C dL_law_21 (Nat.le_of_ble_eq_true rfl) rfl ?_
  refine V_ext (h' := HP G K00 r00) (fun q hq H0 w => ?_) ?_
  · exact match q, hq, w with
    | 0, _, w => w
    | 1, _, w => w
    | 2, _, w => w
    | 3, _, w => w
    | 4, _, w => w
    | 5, _, w => w
    | 6, _, w => w
    | 7, _, w => w
    | 8, _, w => w
    | 9, _, w => w
    | 10, _, w => w
    | 11, _, w => w
    | 12, _, w => w
    | 13, _, w => w
    | 14, _, w => w
    | 15, _, w => w
    | 16, _, w => w
    | 17, _, w => w
    | 18, _, w => w
    | 19, _, w => w
    | 20, _, w => w
    | 21, _, w => w
    | 22, _, w => w
    | 23, _, w => w
    | 24, _, w => w
    | 25, _, w => w
    | 26, _, w => w
    | 27, _, w => w
    | 28, _, w => w
    | 29, _, w => w
    | 30, _, w => w
    | 31, _, w => w
    | 32, _, w => w
    | 33, _, w => w
    | n + 34, hq, _ => absurd hq (by omega)
  · refine V_gf ?_
    exact law_loop hW fin 512 0 K00 r00 (by decide) (by decide) (by omega) GG_00 none none none none
