set_option maxRecDepth 100000 in
set_option maxHeartbeats 4000000 in
theorem s_set {G : GT} {x : CxT} {sa L : Nat} {xs : Nat → Int32} (hW : LW G x sa L xs) {i : Int} (hi : 0 ≤ i ∧ i + 3 < L) {n : Nat} {K : Nat → Nat → Int} {r : Nat → Option Nat} (hG : GG K r) (cont : ∀ K2 r2, GG K2 r2 → LL G x sa 23 (i + 4) K2 r2 n) : LL G x sa 228 i K r (n + 1) := by
  obtain ⟨s, st, kp, t, T, h, hg, hR⟩ := hG
  obtain ⟨p, hp, ep⟩ := iI_ex (xs (i + 1).toNat)
  obtain ⟨q, hq, eq⟩ := iI_ex (xs (i + 2).toNat)
  by_cases hc : 0 ≤ p ∧ p ≤ 5
  · skip
    by_cases hd : 0 ≤ q ∧ q ≤ 6764
    · skip
      have zp := hg.1.1 p.toNat (by omega)
      obtain ⟨K1, r1, hc1, hi1, hf⟩ := o_X5_set G K r s st kp t T h hg p hp q hq hc hd
      have hv : (-2147483648 : Int) ≤ ((s p.toNat) : Int) ∧ ((s p.toNat) : Int) < 2147483648 := by omega
      obtain ⟨K2, hm, hR2, h3, hFM⟩ := m0_X6_set G (us K1 33 (us (K1 33) 0 (s p.toNat))) r1 s st kp t T (RH_33 (RH_FR hR hf)) hg p hp q hq hc hd
      exact w_set hW hi ep eq (by decide) hv (h_L_set G K r p hp q hq _ hv K1 r1 hc1) hm h3 (fun _ => by rw [hFM 33 (.inr rfl), us_at, us_at]) (cont _ _ ⟨_, _, _, _, _, IC_ext (fun q hq _ => (hFM q (.inl hq)).trans (us_ne _ _ (by omega))) hi1, gi_set s st kp t T hg p hp q hq hc hd, hR2⟩)
    · skip
      obtain ⟨K1, hx, hi1, hf⟩ := x2_X5_set G K r s st kp t T h hg p hp q hq hc hd
      obtain ⟨K2, hm, hR2, h3, hFM⟩ := m2_X6_set G K1 r s st kp t T (RH_FR hR hf) hg p hp q hq hc hd
      exact w_set hW hi ep eq (by decide) (by decide) (e2_L_set G K r p hp q hq K1 hx) hm h3 (fun w => absurd w (by decide)) (cont _ _ ⟨s, st, kp, t, T, IC_ext (fun q hq _ => hFM q (.inl hq)) hi1, hg, hR2⟩)
  · skip
    obtain ⟨K1, hx, hi1, hf⟩ := x1_X5_set G K r s st kp t T h hg p hp q hq hc
    obtain ⟨K2, hm, hR2, h3, hFM⟩ := m1_X6_set G K1 r s st kp t T (RH_FR hR hf) hg p hp q hq hc
    exact w_set hW hi ep eq (by decide) (by decide) (e1_L_set G K r p hp q hq K1 hx) hm h3 (fun w => absurd w (by decide)) (cont _ _ ⟨s, st, kp, t, T, IC_ext (fun q hq _ => hFM q (.inl hq)) hi1, hg, hR2⟩)
set_option maxRecDepth 100000 in
set_option maxHeartbeats 4000000 in
theorem s_add {G : GT} {x : CxT} {sa L : Nat} {xs : Nat → Int32} (hW : LW G x sa L xs) {i : Int} (hi : 0 ≤ i ∧ i + 3 < L) {n : Nat} {K : Nat → Nat → Int} {r : Nat → Option Nat} (hG : GG K r) (cont : ∀ K2 r2, GG K2 r2 → LL G x sa 23 (i + 4) K2 r2 n) : LL G x sa 296 i K r (n + 1) := by
  obtain ⟨s, st, kp, t, T, h, hg, hR⟩ := hG
  obtain ⟨p, hp, ep⟩ := iI_ex (xs (i + 1).toNat)
  obtain ⟨q, hq, eq⟩ := iI_ex (xs (i + 2).toNat)
  by_cases hc : (0 ≤ p ∧ p ≤ 5) ∧ 0 ≤ q ∧ q ≤ 5
  · skip
    by_cases hd : s p.toNat + s q.toNat ≤ 6764
    · skip
      have ac := adC_r (gm 18 (s p.toNat).toNat) (gm 18 (s q.toNat).toNat)
      obtain ⟨K1, r1, hc1, hi1, hf⟩ := o_X5_add G K r s st kp t T h hg p hp q hq hc hd
      have hv : (-2147483648 : Int) ≤ ((adC (gm 18 (s p.toNat).toNat) (gm 18 (s q.toNat).toNat) : Nat) : Int) ∧ ((adC (gm 18 (s p.toNat).toNat) (gm 18 (s q.toNat).toNat) : Nat) : Int) < 2147483648 := by omega
      obtain ⟨K2, hm, hR2, h3, hFM⟩ := m0_X6_add G (us K1 33 (us (K1 33) 0 (adC (gm 18 (s p.toNat).toNat) (gm 18 (s q.toNat).toNat) : Nat))) r1 s st kp t T (RH_33 (RH_FR hR hf)) hg p hp q hq hc hd
      exact w_add hW hi ep eq (by decide) hv (h_L_add G K r p hp q hq _ hv K1 r1 hc1) hm h3 (fun _ => by rw [hFM 33 (.inr rfl), us_at, us_at]) (cont _ _ ⟨_, _, _, _, _, IC_ext (fun q hq _ => (hFM q (.inl hq)).trans (us_ne _ _ (by omega))) hi1, gi_add s st kp t T hg p hp q hq hc hd, hR2⟩)
    · skip
      obtain ⟨K1, hx, hi1, hf⟩ := x2_X5_add G K r s st kp t T h hg p hp q hq hc hd
      obtain ⟨K2, hm, hR2, h3, hFM⟩ := m2_X6_add G K1 r s st kp t T (RH_FR hR hf) hg p hp q hq hc hd
      exact w_add hW hi ep eq (by decide) (by decide) (e2_L_add G K r p hp q hq K1 hx) hm h3 (fun w => absurd w (by decide)) (cont _ _ ⟨s, st, kp, t, T, IC_ext (fun q hq _ => hFM q (.inl hq)) hi1, hg, hR2⟩)
  · skip
    obtain ⟨K1, hx, hi1, hf⟩ := x1_X5_add G K r s st kp t T h hg p hp q hq hc
    obtain ⟨K2, hm, hR2, h3, hFM⟩ := m1_X6_add G K1 r s st kp t T (RH_FR hR hf) hg p hp q hq hc
    exact w_add hW hi ep eq (by decide) (by decide) (e1_L_add G K r p hp q hq K1 hx) hm h3 (fun w => absurd w (by decide)) (cont _ _ ⟨s, st, kp, t, T, IC_ext (fun q hq _ => hFM q (.inl hq)) hi1, hg, hR2⟩)
set_option maxRecDepth 100000 in
set_option maxHeartbeats 4000000 in
theorem s_takeAway {G : GT} {x : CxT} {sa L : Nat} {xs : Nat → Int32} (hW : LW G x sa L xs) {i : Int} (hi : 0 ≤ i ∧ i + 3 < L) {n : Nat} {K : Nat → Nat → Int} {r : Nat → Option Nat} (hG : GG K r) (cont : ∀ K2 r2, GG K2 r2 → LL G x sa 23 (i + 4) K2 r2 n) : LL G x sa 364 i K r (n + 1) := by
  obtain ⟨s, st, kp, t, T, h, hg, hR⟩ := hG
  obtain ⟨p, hp, ep⟩ := iI_ex (xs (i + 1).toNat)
  obtain ⟨q, hq, eq⟩ := iI_ex (xs (i + 2).toNat)
  by_cases hc : (0 ≤ p ∧ p ≤ 5) ∧ 0 ≤ q ∧ q ≤ 5
  · skip
    by_cases hd : s q.toNat ≤ s p.toNat
    · skip
      have zp := hg.1.1 p.toNat (by omega)
      have zq := hg.1.1 q.toNat (by omega)
      obtain ⟨K1, r1, hc1, hi1, hf⟩ := o_X5_takeAway G K r s st kp t T h hg p hp q hq hc hd
      have hv : (-2147483648 : Int) ≤ ((s p.toNat - s q.toNat) : Int) ∧ ((s p.toNat - s q.toNat) : Int) < 2147483648 := by omega
      obtain ⟨K2, hm, hR2, h3, hFM⟩ := m0_X6_takeAway G (us K1 33 (us (K1 33) 0 (s p.toNat - s q.toNat))) r1 s st kp t T (RH_33 (RH_FR hR hf)) hg p hp q hq hc hd
      exact w_takeAway hW hi ep eq (by decide) hv (h_L_takeAway G K r p hp q hq _ hv K1 r1 hc1) hm h3 (fun _ => by rw [hFM 33 (.inr rfl), us_at, us_at]) (cont _ _ ⟨_, _, _, _, _, IC_ext (fun q hq _ => (hFM q (.inl hq)).trans (us_ne _ _ (by omega))) hi1, gi_takeAway s st kp t T hg p hp q hq hc hd, hR2⟩)
    · skip
      obtain ⟨K1, hx, hi1, hf⟩ := x2_X5_takeAway G K r s st kp t T h hg p hp q hq hc hd
      obtain ⟨K2, hm, hR2, h3, hFM⟩ := m2_X6_takeAway G K1 r s st kp t T (RH_FR hR hf) hg p hp q hq hc hd
      exact w_takeAway hW hi ep eq (by decide) (by decide) (e2_L_takeAway G K r p hp q hq K1 hx) hm h3 (fun w => absurd w (by decide)) (cont _ _ ⟨s, st, kp, t, T, IC_ext (fun q hq _ => hFM q (.inl hq)) hi1, hg, hR2⟩)
  · skip
    obtain ⟨K1, hx, hi1, hf⟩ := x1_X5_takeAway G K r s st kp t T h hg p hp q hq hc
    obtain ⟨K2, hm, hR2, h3, hFM⟩ := m1_X6_takeAway G K1 r s st kp t T (RH_FR hR hf) hg p hp q hq hc
    exact w_takeAway hW hi ep eq (by decide) (by decide) (e1_L_takeAway G K r p hp q hq K1 hx) hm h3 (fun w => absurd w (by decide)) (cont _ _ ⟨s, st, kp, t, T, IC_ext (fun q hq _ => hFM q (.inl hq)) hi1, hg, hR2⟩)
set_option maxRecDepth 100000 in
set_option maxHeartbeats 4000000 in
theorem s_raise {G : GT} {x : CxT} {sa L : Nat} {xs : Nat → Int32} (hW : LW G x sa L xs) {i : Int} (hi : 0 ≤ i ∧ i + 3 < L) {n : Nat} {K : Nat → Nat → Int} {r : Nat → Option Nat} (hG : GG K r) (cont : ∀ K2 r2, GG K2 r2 → LL G x sa 23 (i + 4) K2 r2 n) : LL G x sa 432 i K r (n + 1) := by
  obtain ⟨s, st, kp, t, T, h, hg, hR⟩ := hG
  obtain ⟨p, hp, ep⟩ := iI_ex (xs (i + 1).toNat)
  by_cases hc : 0 ≤ p ∧ p ≤ 5
  · skip
    by_cases hd : gm 18 (s p.toNat).toNat < 131072
    · skip
      have zp := hg.1.1 p.toNat (by omega)
      have up := (wo_up (n := (s p.toNat).toNat) (by omega) hd).2
      obtain ⟨K1, r1, hc1, hi1, hf⟩ := o_X5_raise G K r s st kp t T h hg p hp hc hd
      have hv : (-2147483648 : Int) ≤ (((wo 22 (gm 18 (s p.toNat).toNat <<< 1) : Nat) : Int) : Int) ∧ (((wo 22 (gm 18 (s p.toNat).toNat <<< 1) : Nat) : Int) : Int) < 2147483648 := by omega
      obtain ⟨K2, hm, hR2, h3, hFM⟩ := m0_X6_raise G (us K1 33 (us (K1 33) 0 ((wo 22 (gm 18 (s p.toNat).toNat <<< 1) : Nat) : Int))) r1 s st kp t T (RH_33 (RH_FR hR hf)) hg p hp hc hd
      exact w_raise hW hi ep (by decide) hv (h_L_raise G K r p hp _ hv K1 r1 hc1) hm h3 (fun _ => by rw [hFM 33 (.inr rfl), us_at, us_at]) (cont _ _ ⟨_, _, _, _, _, IC_ext (fun q hq _ => (hFM q (.inl hq)).trans (us_ne _ _ (by omega))) hi1, gi_raise s st kp t T hg p hp hc hd, hR2⟩)
    · skip
      obtain ⟨K1, hx, hi1, hf⟩ := x2_X5_raise G K r s st kp t T h hg p hp hc hd
      obtain ⟨K2, hm, hR2, h3, hFM⟩ := m2_X6_raise G K1 r s st kp t T (RH_FR hR hf) hg p hp hc hd
      exact w_raise hW hi ep (by decide) (by decide) (e2_L_raise G K r p hp K1 hx) hm h3 (fun w => absurd w (by decide)) (cont _ _ ⟨s, st, kp, t, T, IC_ext (fun q hq _ => hFM q (.inl hq)) hi1, hg, hR2⟩)
  · skip
    obtain ⟨K1, hx, hi1, hf⟩ := x1_X5_raise G K r s st kp t T h hg p hp hc
    obtain ⟨K2, hm, hR2, h3, hFM⟩ := m1_X6_raise G K1 r s st kp t T (RH_FR hR hf) hg p hp hc
    exact w_raise hW hi ep (by decide) (by decide) (e1_L_raise G K r p hp K1 hx) hm h3 (fun w => absurd w (by decide)) (cont _ _ ⟨s, st, kp, t, T, IC_ext (fun q hq _ => hFM q (.inl hq)) hi1, hg, hR2⟩)
set_option maxRecDepth 100000 in
set_option maxHeartbeats 4000000 in
theorem s_pay {G : GT} {x : CxT} {sa L : Nat} {xs : Nat → Int32} (hW : LW G x sa L xs) {i : Int} (hi : 0 ≤ i ∧ i + 3 < L) {n : Nat} {K : Nat → Nat → Int} {r : Nat → Option Nat} (hG : GG K r) (cont : ∀ K2 r2, GG K2 r2 → LL G x sa 23 (i + 4) K2 r2 n) : LL G x sa 488 i K r (n + 1) := by
  obtain ⟨s, st, kp, t, T, h, hg, hR⟩ := hG
  obtain ⟨p, hp, ep⟩ := iI_ex (xs (i + 1).toNat)
  obtain ⟨q, hq, eq⟩ := iI_ex (xs (i + 2).toNat)
  obtain ⟨u, hu, eu⟩ := iI_ex (xs (i + 3).toNat)
  by_cases hc : (0 ≤ p ∧ p ≤ 5) ∧ 0 ≤ q ∧ q ≤ 5
  · skip
    by_cases hd : p ≠ q ∧ 1 ≤ u ∧ u ≤ 6764
    · skip
      by_cases he : u ≤ s p.toNat ∧ s q.toNat + u ≤ 6764
      · skip
        have zp := hg.1.1 p.toNat (by omega)
        obtain ⟨K1, r1, hc1, hi1, hf⟩ := o_X5_pay G K r s st kp t T h hg p hp q hq u hu hc hd he
        have hv : (-2147483648 : Int) ≤ ((s p.toNat - u) : Int) ∧ ((s p.toNat - u) : Int) < 2147483648 := by omega
        obtain ⟨K2, hm, hR2, h3, hFM⟩ := m0_X6_pay G (us K1 33 (us (K1 33) 0 (s p.toNat - u))) r1 s st kp t T (RH_33 (RH_FR hR hf)) hg p hp q hq u hu hc hd he
        exact w_pay hW hi ep eq eu (by decide) hv (h_L_pay G K r p hp q hq u hu _ hv K1 r1 hc1) hm h3 (fun _ => by rw [hFM 33 (.inr rfl), us_at, us_at]) (cont _ _ ⟨_, _, _, _, _, IC_ext (fun q hq _ => (hFM q (.inl hq)).trans (us_ne _ _ (by omega))) hi1, gi_pay s st kp t T hg p hp q hq u hu hc hd he, hR2⟩)
      · skip
        obtain ⟨K1, hx, hi1, hf⟩ := x3_X5_pay G K r s st kp t T h hg p hp q hq u hu hc hd he
        obtain ⟨K2, hm, hR2, h3, hFM⟩ := m3_X6_pay G K1 r s st kp t T (RH_FR hR hf) hg p hp q hq u hu hc hd he
        exact w_pay hW hi ep eq eu (by decide) (by decide) (e3_L_pay G K r p hp q hq u hu K1 hx) hm h3 (fun w => absurd w (by decide)) (cont _ _ ⟨s, st, kp, t, T, IC_ext (fun q hq _ => hFM q (.inl hq)) hi1, hg, hR2⟩)
    · skip
      obtain ⟨K1, hx, hi1, hf⟩ := x2_X5_pay G K r s st kp t T h hg p hp q hq u hu hc hd
      obtain ⟨K2, hm, hR2, h3, hFM⟩ := m2_X6_pay G K1 r s st kp t T (RH_FR hR hf) hg p hp q hq u hu hc hd
      exact w_pay hW hi ep eq eu (by decide) (by decide) (e2_L_pay G K r p hp q hq u hu K1 hx) hm h3 (fun w => absurd w (by decide)) (cont _ _ ⟨s, st, kp, t, T, IC_ext (fun q hq _ => hFM q (.inl hq)) hi1, hg, hR2⟩)
  · skip
    obtain ⟨K1, hx, hi1, hf⟩ := x1_X5_pay G K r s st kp t T h hg p hp q hq u hu hc
    obtain ⟨K2, hm, hR2, h3, hFM⟩ := m1_X6_pay G K1 r s st kp t T (RH_FR hR hf) hg p hp q hq u hu hc
    exact w_pay hW hi ep eq eu (by decide) (by decide) (e1_L_pay G K r p hp q hq u hu K1 hx) hm h3 (fun w => absurd w (by decide)) (cont _ _ ⟨s, st, kp, t, T, IC_ext (fun q hq _ => hFM q (.inl hq)) hi1, hg, hR2⟩)
set_option maxRecDepth 100000 in
set_option maxHeartbeats 4000000 in
theorem s_send {G : GT} {x : CxT} {sa L : Nat} {xs : Nat → Int32} (hW : LW G x sa L xs) {i : Int} (hi : 0 ≤ i ∧ i + 3 < L) {n : Nat} {K : Nat → Nat → Int} {r : Nat → Option Nat} (hG : GG K r) (cont : ∀ K2 r2, GG K2 r2 → LL G x sa 23 (i + 4) K2 r2 n) : LL G x sa 568 i K r (n + 1) := by
  obtain ⟨s, st, kp, t, T, h, hg, hR⟩ := hG
  obtain ⟨p, hp, ep⟩ := iI_ex (xs (i + 1).toNat)
  by_cases hc : 1 ≤ p ∧ p ≤ 6764
  · skip
    by_cases hd : s 6 + (cl p : Nat) ≤ 64
    · skip
      have g6 := hg.1.2.1
      obtain ⟨K1, r1, hc1, hi1, hf⟩ := o_X5_send G K r s st kp t T h hg p hp hc hd
      have hv : (-2147483648 : Int) ≤ ((((s 6).toNat + cl p : Nat) : Int) : Int) ∧ ((((s 6).toNat + cl p : Nat) : Int) : Int) < 2147483648 := by omega
      obtain ⟨K2, hm, hR2, h3, hFM⟩ := m0_X6_send G (us K1 33 (us (K1 33) 0 (((s 6).toNat + cl p : Nat) : Int))) r1 s st kp t T (RH_33 (RH_FR hR hf)) hg p hp hc hd
      exact w_send hW hi ep (by decide) hv (h_L_send G K r p hp _ hv K1 r1 hc1) hm h3 (fun _ => by rw [hFM 33 (.inr rfl), us_at, us_at]) (cont _ _ ⟨_, _, _, _, _, IC_ext (fun q hq _ => (hFM q (.inl hq)).trans (us_ne _ _ (by omega))) hi1, gi_send s st kp t T hg p hp hc hd, hR2⟩)
    · skip
      obtain ⟨K1, hx, hi1, hf⟩ := x2_X5_send G K r s st kp t T h hg p hp hc hd
      obtain ⟨K2, hm, hR2, h3, hFM⟩ := m2_X6_send G K1 r s st kp t T (RH_FR hR hf) hg p hp hc hd
      exact w_send hW hi ep (by decide) (by decide) (e2_L_send G K r p hp K1 hx) hm h3 (fun w => absurd w (by decide)) (cont _ _ ⟨s, st, kp, t, T, IC_ext (fun q hq _ => hFM q (.inl hq)) hi1, hg, hR2⟩)
  · skip
    obtain ⟨K1, hx, hi1, hf⟩ := x1_X5_send G K r s st kp t T h hg p hp hc
    obtain ⟨K2, hm, hR2, h3, hFM⟩ := m1_X6_send G K1 r s st kp t T (RH_FR hR hf) hg p hp hc
    exact w_send hW hi ep (by decide) (by decide) (e1_L_send G K r p hp K1 hx) hm h3 (fun w => absurd w (by decide)) (cont _ _ ⟨s, st, kp, t, T, IC_ext (fun q hq _ => hFM q (.inl hq)) hi1, hg, hR2⟩)
set_option maxRecDepth 100000 in
set_option maxHeartbeats 4000000 in
theorem s_turn {G : GT} {x : CxT} {sa L : Nat} {xs : Nat → Int32} (hW : LW G x sa L xs) {i : Int} (hi : 0 ≤ i ∧ i + 3 < L) {n : Nat} {K : Nat → Nat → Int} {r : Nat → Option Nat} (hG : GG K r) (cont : ∀ K2 r2, GG K2 r2 → LL G x sa 23 (i + 4) K2 r2 n) : LL G x sa 624 i K r (n + 1) := by
  obtain ⟨s, st, kp, t, T, h, hg, hR⟩ := hG
  obtain ⟨p, hp, ep⟩ := iI_ex (xs (i + 1).toNat)
  by_cases hc : 0 ≤ p ∧ p ≤ s 6 - 1
  · skip
    have g6 := hg.1.2.1
    have g7 := hg.1.2.2.1 (7 + p.toNat) (by omega) (by omega)
    obtain ⟨K1, r1, hc1, hi1, hf⟩ := o_X5_turn G K r s st kp t T h hg p hp hc
    have hv : (-2147483648 : Int) ≤ ((1 - s (7 + p.toNat)) : Int) ∧ ((1 - s (7 + p.toNat)) : Int) < 2147483648 := by omega
    obtain ⟨K2, hm, hR2, h3, hFM⟩ := m0_X6_turn G (us K1 33 (us (K1 33) 0 (1 - s (7 + p.toNat)))) r1 s st kp t T (RH_33 (RH_FR hR hf)) hg p hp hc
    exact w_turn hW hi ep (by decide) hv (h_L_turn G K r p hp _ hv K1 r1 hc1) hm h3 (fun _ => by rw [hFM 33 (.inr rfl), us_at, us_at]) (cont _ _ ⟨_, _, _, _, _, IC_ext (fun q hq _ => (hFM q (.inl hq)).trans (us_ne _ _ (by omega))) hi1, gi_turn s st kp t T hg p hp hc, hR2⟩)
  · skip
    obtain ⟨K1, hx, hi1, hf⟩ := x1_X5_turn G K r s st kp t T h hg p hp hc
    obtain ⟨K2, hm, hR2, h3, hFM⟩ := m1_X6_turn G K1 r s st kp t T (RH_FR hR hf) hg p hp hc
    exact w_turn hW hi ep (by decide) (by decide) (e1_L_turn G K r p hp K1 hx) hm h3 (fun w => absurd w (by decide)) (cont _ _ ⟨s, st, kp, t, T, IC_ext (fun q hq _ => hFM q (.inl hq)) hi1, hg, hR2⟩)
set_option maxRecDepth 100000 in
set_option maxHeartbeats 4000000 in
theorem s_cut {G : GT} {x : CxT} {sa L : Nat} {xs : Nat → Int32} (hW : LW G x sa L xs) {i : Int} (hi : 0 ≤ i ∧ i + 3 < L) {n : Nat} {K : Nat → Nat → Int} {r : Nat → Option Nat} (hG : GG K r) (cont : ∀ K2 r2, GG K2 r2 → LL G x sa 23 (i + 4) K2 r2 n) : LL G x sa 680 i K r (n + 1) := by
  obtain ⟨s, st, kp, t, T, h, hg, hR⟩ := hG
  obtain ⟨p, hp, ep⟩ := iI_ex (xs (i + 1).toNat)
  by_cases hc : 1 ≤ p ∧ p ≤ 64
  · skip
    by_cases hd : p ≤ s 6
    · skip
      have g6 := hg.1.2.1
      obtain ⟨K1, r1, hc1, hi1, hf⟩ := o_X5_cut G K r s st kp t T h hg p hp hc hd
      have hv : (-2147483648 : Int) ≤ ((s 6 - p) : Int) ∧ ((s 6 - p) : Int) < 2147483648 := by omega
      obtain ⟨K2, hm, hR2, h3, hFM⟩ := m0_X6_cut G (us K1 33 (us (K1 33) 0 (s 6 - p))) r1 s st kp t T (RH_33 (RH_FR hR hf)) hg p hp hc hd
      exact w_cut hW hi ep (by decide) hv (h_L_cut G K r p hp _ hv K1 r1 hc1) hm h3 (fun _ => by rw [hFM 33 (.inr rfl), us_at, us_at]) (cont _ _ ⟨_, _, _, _, _, IC_ext (fun q hq _ => (hFM q (.inl hq)).trans (us_ne _ _ (by omega))) hi1, gi_cut s st kp t T hg p hp hc hd, hR2⟩)
    · skip
      obtain ⟨K1, hx, hi1, hf⟩ := x2_X5_cut G K r s st kp t T h hg p hp hc hd
      obtain ⟨K2, hm, hR2, h3, hFM⟩ := m2_X6_cut G K1 r s st kp t T (RH_FR hR hf) hg p hp hc hd
      exact w_cut hW hi ep (by decide) (by decide) (e2_L_cut G K r p hp K1 hx) hm h3 (fun w => absurd w (by decide)) (cont _ _ ⟨s, st, kp, t, T, IC_ext (fun q hq _ => hFM q (.inl hq)) hi1, hg, hR2⟩)
  · skip
    obtain ⟨K1, hx, hi1, hf⟩ := x1_X5_cut G K r s st kp t T h hg p hp hc
    obtain ⟨K2, hm, hR2, h3, hFM⟩ := m1_X6_cut G K1 r s st kp t T (RH_FR hR hf) hg p hp hc
    exact w_cut hW hi ep (by decide) (by decide) (e1_L_cut G K r p hp K1 hx) hm h3 (fun w => absurd w (by decide)) (cont _ _ ⟨s, st, kp, t, T, IC_ext (fun q hq _ => hFM q (.inl hq)) hi1, hg, hR2⟩)
set_option maxRecDepth 100000 in
set_option maxHeartbeats 4000000 in
theorem s_append {G : GT} {x : CxT} {sa L : Nat} {xs : Nat → Int32} (hW : LW G x sa L xs) {i : Int} (hi : 0 ≤ i ∧ i + 3 < L) {n : Nat} {K : Nat → Nat → Int} {r : Nat → Option Nat} (hG : GG K r) (cont : ∀ K2 r2, GG K2 r2 → LL G x sa 23 (i + 4) K2 r2 n) : LL G x sa 736 i K r (n + 1) := by
  obtain ⟨s, st, kp, t, T, h, hg, hR⟩ := hG
  obtain ⟨p, hp, ep⟩ := iI_ex (xs (i + 1).toNat)
  by_cases hc : 33 ≤ p ∧ p ≤ 126
  · skip
    by_cases hd : T < 60
    · skip
      obtain ⟨K1, r1, hc1, hi1, hf⟩ := o_X5_append G K r s st kp t T h hg p hp hc hd
      have hv : (-2147483648 : Int) ≤ (((T : Int) + 1) : Int) ∧ (((T : Int) + 1) : Int) < 2147483648 := by omega
      obtain ⟨K2, hm, hR2, h3, hFM⟩ := m0_X6_append G (us K1 33 (us (K1 33) 0 ((T : Int) + 1))) r1 s st kp t T (RH_33 (RH_FR hR hf)) hg p hp hc hd
      exact w_append hW hi ep (by decide) hv (h_L_append G K r p hp _ hv K1 r1 hc1) hm h3 (fun _ => by rw [hFM 33 (.inr rfl), us_at, us_at]) (cont _ _ ⟨_, _, _, _, _, IC_ext (fun q hq _ => (hFM q (.inl hq)).trans (us_ne _ _ (by omega))) hi1, gi_append s st kp t T hg p hp hc hd, hR2⟩)
    · skip
      obtain ⟨K1, hx, hi1, hf⟩ := x2_X5_append G K r s st kp t T h hg p hp hc hd
      obtain ⟨K2, hm, hR2, h3, hFM⟩ := m2_X6_append G K1 r s st kp t T (RH_FR hR hf) hg p hp hc hd
      exact w_append hW hi ep (by decide) (by decide) (e2_L_append G K r p hp K1 hx) hm h3 (fun w => absurd w (by decide)) (cont _ _ ⟨s, st, kp, t, T, IC_ext (fun q hq _ => hFM q (.inl hq)) hi1, hg, hR2⟩)
  · skip
    obtain ⟨K1, hx, hi1, hf⟩ := x1_X5_append G K r s st kp t T h hg p hp hc
    obtain ⟨K2, hm, hR2, h3, hFM⟩ := m1_X6_append G K1 r s st kp t T (RH_FR hR hf) hg p hp hc
    exact w_append hW hi ep (by decide) (by decide) (e1_L_append G K r p hp K1 hx) hm h3 (fun w => absurd w (by decide)) (cont _ _ ⟨s, st, kp, t, T, IC_ext (fun q hq _ => hFM q (.inl hq)) hi1, hg, hR2⟩)
set_option maxRecDepth 100000 in
set_option maxHeartbeats 4000000 in
theorem s_clearBuffer {G : GT} {x : CxT} {sa L : Nat} {xs : Nat → Int32} (hW : LW G x sa L xs) {i : Int} (hi : 0 ≤ i ∧ i + 3 < L) {n : Nat} {K : Nat → Nat → Int} {r : Nat → Option Nat} (hG : GG K r) (cont : ∀ K2 r2, GG K2 r2 → LL G x sa 23 (i + 4) K2 r2 n) : LL G x sa 792 i K r (n + 1) := by
  obtain ⟨s, st, kp, t, T, h, hg, hR⟩ := hG
  have gT := hg.2.2.2.1
  obtain ⟨K1, r1, hc1, hi1, hf⟩ := o_X5_clearBuffer G K r s st kp t T h hg
  obtain ⟨K2, hm, hR2, h3, hFM⟩ := m0_X6_clearBuffer G K1 r1 s st kp t T (RH_FR hR hf) hg
  exact w_clearBuffer hW hi (by omega) hc1 hm (cont _ _ ⟨_, _, _, _, _, IC_ext (fun q hq _ => hFM q (.inl hq)) hi1, GI_clear hg, hR2⟩)
set_option maxRecDepth 100000 in
set_option maxHeartbeats 4000000 in
theorem s_firstError {G : GT} {x : CxT} {sa L : Nat} {xs : Nat → Int32} (hW : LW G x sa L xs) {i : Int} (hi : 0 ≤ i ∧ i + 3 < L) {n : Nat} {K : Nat → Nat → Int} {r : Nat → Option Nat} (hG : GG K r) (cont : ∀ K2 r2, GG K2 r2 → LL G x sa 23 (i + 4) K2 r2 n) : LL G x sa 805 i K r (n + 1) := by
  obtain ⟨s, st, kp, t, T, h, hg, hR⟩ := hG
  have gT := hg.2.2.2.1
  have w1 := (sc_wh (t := t) (T := T) (K 7)).1
  have ls := scR_le t T (us (K 7) 0 0) 0
  obtain ⟨K1, r1, hc1, hi1, hf⟩ := o_X5_firstError G K r s st kp t T h hg
  obtain ⟨K2, hm, hR2, h3, hFM⟩ := m0_X6_firstError G K1 r1 s st kp t T (RH_FR hR hf) hg
  exact w_firstError hW hi (by omega) hc1 hm (cont _ _ ⟨_, _, _, _, _, IC_ext (fun q hq _ => hFM q (.inl hq)) hi1, hg, hR2⟩)
set_option maxRecDepth 100000 in
set_option maxHeartbeats 4000000 in
theorem s_work {G : GT} {x : CxT} {sa L : Nat} {xs : Nat → Int32} (hW : LW G x sa L xs) {i : Int} (hi : 0 ≤ i ∧ i + 3 < L) {n : Nat} {K : Nat → Nat → Int} {r : Nat → Option Nat} (hG : GG K r) (cont : ∀ K2 r2, GG K2 r2 → LL G x sa 23 (i + 4) K2 r2 n) : LL G x sa 818 i K r (n + 1) := by
  obtain ⟨s, st, kp, t, T, h, hg, hR⟩ := hG
  rcases hw : (wh t T (T + 1) 0).1 with _ | _
  · skip
    obtain ⟨K1, hx, hi1, hf⟩ := x1_X5_work G K r s st kp t T h hg  hw
    obtain ⟨K2, hm, hR2, h3, hFM⟩ := m1_X6_work G K1 r s st kp t T (RH_FR hR hf) hg  hw
    exact w_work hW hi  (by decide) (by decide) (e1_L_work G K r  K1 hx) hm h3 (fun w => absurd w (by decide)) (cont _ _ ⟨s, st, kp, t, T, IC_ext (fun q hq _ => hFM q (.inl hq)) hi1, hg, hR2⟩)
  · skip
    have gT := hg.2.2.2.1
    have o3 := (wk_ok (t := t) (T := T) (T + 1) (svS s st) (whF t T (T + 1) (K 28 8) 0).1 (whF t T (T + 1) (K 28 8) 0).2 0 0 (Nat.zero_le _) (by omega) hw (GI_save hg).1).2.2.1
    obtain ⟨K1, r1, hc1, hi1, hf⟩ := o_X5_work G K r s st kp t T h hg hw (whF t T (T + 1) (K 28 8) 0).1 (whF t T (T + 1) (K 28 8) 0).2
    have hv : (-2147483648 : Int) ≤ (((wk t T (T + 1) (svS s st) (whF t T (T + 1) (K 28 8) 0).1 (whF t T (T + 1) (K 28 8) 0).2 0 0).2.1 : Int) : Int) ∧ (((wk t T (T + 1) (svS s st) (whF t T (T + 1) (K 28 8) 0).1 (whF t T (T + 1) (K 28 8) 0).2 0 0).2.1 : Int) : Int) < 2147483648 := by omega
    have e8 : (us K1 33 (us (K1 33) 0 ((wk t T (T + 1) (svS s st) (whF t T (T + 1) (K 28 8) 0).1 (whF t T (T + 1) (K 28 8) 0).2 0 0).2.1 : Int))) 28 8 = K 28 8 := by rw [us_ne _ _ (show (28 : Nat) ≠ 33 by decide), hf 28 (by decide)]
    have hM := m0_X6_work G (us K1 33 (us (K1 33) 0 ((wk t T (T + 1) (svS s st) (whF t T (T + 1) (K 28 8) 0).1 (whF t T (T + 1) (K 28 8) 0).2 0 0).2.1 : Int))) r1 s st kp t T (RH_33 (RH_FR hR hf)) hg hw
    rw [e8] at hM
    obtain ⟨K2, hm, hR2, h3, hFM⟩ := hM
    exact w_work hW hi (by decide) hv (h_L_work G K r _ hv K1 r1 hc1) hm h3 (fun _ => by rw [hFM 33 (.inr rfl), us_at, us_at]) (cont _ _ ⟨_, _, _, _, _, IC_ext (fun q hq _ => (hFM q (.inl hq)).trans (us_ne _ _ (by omega))) hi1, gi_work s st kp t T hg hw _ _, hR2⟩)
set_option maxRecDepth 100000 in
set_option maxHeartbeats 4000000 in
theorem s_hasStopped {G : GT} {x : CxT} {sa L : Nat} {xs : Nat → Int32} (hW : LW G x sa L xs) {i : Int} (hi : 0 ≤ i ∧ i + 3 < L) {n : Nat} {K : Nat → Nat → Int} {r : Nat → Option Nat} (hG : GG K r) (cont : ∀ K2 r2, GG K2 r2 → LL G x sa 23 (i + 4) K2 r2 n) : LL G x sa 862 i K r (n + 1) := by
  obtain ⟨s, st, kp, t, T, h, hg, hR⟩ := hG
  have b01 := b2_01 (decide (s 71 = 1))
  obtain ⟨K1, r1, hc1, hi1, hf⟩ := o_X5_hasStopped G K r s st kp t T h hg
  obtain ⟨K2, hm, hR2, h3, hFM⟩ := m0_X6_hasStopped G K1 r1 s st kp t T (RH_FR hR hf) hg
  exact w_hasStopped hW hi (by omega) hc1 hm (cont _ _ ⟨_, _, _, _, _, IC_ext (fun q hq _ => hFM q (.inl hq)) hi1, hg, hR2⟩)
set_option maxRecDepth 100000 in
set_option maxHeartbeats 4000000 in
theorem s_stoppedPart {G : GT} {x : CxT} {sa L : Nat} {xs : Nat → Int32} (hW : LW G x sa L xs) {i : Int} (hi : 0 ≤ i ∧ i + 3 < L) {n : Nat} {K : Nat → Nat → Int} {r : Nat → Option Nat} (hG : GG K r) (cont : ∀ K2 r2, GG K2 r2 → LL G x sa 23 (i + 4) K2 r2 n) : LL G x sa 875 i K r (n + 1) := by
  obtain ⟨s, st, kp, t, T, h, hg, hR⟩ := hG
  by_cases hc : s 71 = 1
  · skip
    have g72 := hg.1.2.2.2.2.1
    obtain ⟨K1, r1, hc1, hi1, hf⟩ := o_X5_stoppedPart G K r s st kp t T h hg  hc
    have hv : (-2147483648 : Int) ≤ ((s 72) : Int) ∧ ((s 72) : Int) < 2147483648 := by omega
    obtain ⟨K2, hm, hR2, h3, hFM⟩ := m0_X6_stoppedPart G (us K1 33 (us (K1 33) 0 (s 72))) r1 s st kp t T (RH_33 (RH_FR hR hf)) hg  hc
    exact w_stoppedPart hW hi  (by decide) hv (h_L_stoppedPart G K r  _ hv K1 r1 hc1) hm h3 (fun _ => by rw [hFM 33 (.inr rfl), us_at, us_at]) (cont _ _ ⟨_, _, _, _, _, IC_ext (fun q hq _ => (hFM q (.inl hq)).trans (us_ne _ _ (by omega))) hi1, hg, hR2⟩)
  · skip
    obtain ⟨K1, hx, hi1, hf⟩ := x1_X5_stoppedPart G K r s st kp t T h hg  hc
    obtain ⟨K2, hm, hR2, h3, hFM⟩ := m1_X6_stoppedPart G K1 r s st kp t T (RH_FR hR hf) hg  hc
    exact w_stoppedPart hW hi  (by decide) (by decide) (e1_L_stoppedPart G K r  K1 hx) hm h3 (fun w => absurd w (by decide)) (cont _ _ ⟨s, st, kp, t, T, IC_ext (fun q hq _ => hFM q (.inl hq)) hi1, hg, hR2⟩)
set_option maxRecDepth 100000 in
set_option maxHeartbeats 4000000 in
theorem s_whyStopped {G : GT} {x : CxT} {sa L : Nat} {xs : Nat → Int32} (hW : LW G x sa L xs) {i : Int} (hi : 0 ≤ i ∧ i + 3 < L) {n : Nat} {K : Nat → Nat → Int} {r : Nat → Option Nat} (hG : GG K r) (cont : ∀ K2 r2, GG K2 r2 → LL G x sa 23 (i + 4) K2 r2 n) : LL G x sa 919 i K r (n + 1) := by
  obtain ⟨s, st, kp, t, T, h, hg, hR⟩ := hG
  by_cases hc : s 71 = 1
  · skip
    have g73 := hg.1.2.2.2.2.2
    obtain ⟨K1, r1, hc1, hi1, hf⟩ := o_X5_whyStopped G K r s st kp t T h hg  hc
    have hv : (-2147483648 : Int) ≤ ((s 73) : Int) ∧ ((s 73) : Int) < 2147483648 := by omega
    obtain ⟨K2, hm, hR2, h3, hFM⟩ := m0_X6_whyStopped G (us K1 33 (us (K1 33) 0 (s 73))) r1 s st kp t T (RH_33 (RH_FR hR hf)) hg  hc
    exact w_whyStopped hW hi  (by decide) hv (h_L_whyStopped G K r  _ hv K1 r1 hc1) hm h3 (fun _ => by rw [hFM 33 (.inr rfl), us_at, us_at]) (cont _ _ ⟨_, _, _, _, _, IC_ext (fun q hq _ => (hFM q (.inl hq)).trans (us_ne _ _ (by omega))) hi1, hg, hR2⟩)
  · skip
    obtain ⟨K1, hx, hi1, hf⟩ := x1_X5_whyStopped G K r s st kp t T h hg  hc
    obtain ⟨K2, hm, hR2, h3, hFM⟩ := m1_X6_whyStopped G K1 r s st kp t T (RH_FR hR hf) hg  hc
    exact w_whyStopped hW hi  (by decide) (by decide) (e1_L_whyStopped G K r  K1 hx) hm h3 (fun w => absurd w (by decide)) (cont _ _ ⟨s, st, kp, t, T, IC_ext (fun q hq _ => hFM q (.inl hq)) hi1, hg, hR2⟩)
set_option maxRecDepth 100000 in
set_option maxHeartbeats 4000000 in
theorem s_undo {G : GT} {x : CxT} {sa L : Nat} {xs : Nat → Int32} (hW : LW G x sa L xs) {i : Int} (hi : 0 ≤ i ∧ i + 3 < L) {n : Nat} {K : Nat → Nat → Int} {r : Nat → Option Nat} (hG : GG K r) (cont : ∀ K2 r2, GG K2 r2 → LL G x sa 23 (i + 4) K2 r2 n) : LL G x sa 963 i K r (n + 1) := by
  obtain ⟨s, st, kp, t, T, h, hg, hR⟩ := hG
  rcases Nat.eq_zero_or_pos st with hc | hc
  · skip
    obtain ⟨K1, hx, hi1, hf⟩ := x1_X5_undo G K r s st kp t T h hg  hc
    obtain ⟨K2, hm, hR2, h3, hFM⟩ := m1_X6_undo G K1 r s st kp t T (RH_FR hR hf) hg  hc
    exact w_undo hW hi  (by decide) (by decide) (e1_L_undo G K r  K1 hx) hm h3 (fun w => absurd w (by decide)) (cont _ _ ⟨s, st, kp, t, T, IC_ext (fun q hq _ => hFM q (.inl hq)) hi1, hg, hR2⟩)
  · skip
    have gst := hg.2.1
    obtain ⟨K1, r1, hc1, hi1, hf⟩ := o_X5_undo G K r s st kp t T h hg  hc
    have hv : (-2147483648 : Int) ≤ (((st : Int) - 1) : Int) ∧ (((st : Int) - 1) : Int) < 2147483648 := by omega
    obtain ⟨K2, hm, hR2, h3, hFM⟩ := m0_X6_undo G (us K1 33 (us (K1 33) 0 ((st : Int) - 1))) r1 s st kp t T (RH_33 (RH_FR hR hf)) hg  hc
    exact w_undo hW hi  (by decide) hv (h_L_undo G K r  _ hv K1 r1 hc1) hm h3 (fun _ => by rw [hFM 33 (.inr rfl), us_at, us_at]) (cont _ _ ⟨_, _, _, _, _, IC_ext (fun q hq _ => (hFM q (.inl hq)).trans (us_ne _ _ (by omega))) hi1, gi_undo s st kp t T hg hc, hR2⟩)
set_option maxRecDepth 100000 in
set_option maxHeartbeats 4000000 in
theorem s_keep {G : GT} {x : CxT} {sa L : Nat} {xs : Nat → Int32} (hW : LW G x sa L xs) {i : Int} (hi : 0 ≤ i ∧ i + 3 < L) {n : Nat} {K : Nat → Nat → Int} {r : Nat → Option Nat} (hG : GG K r) (cont : ∀ K2 r2, GG K2 r2 → LL G x sa 23 (i + 4) K2 r2 n) : LL G x sa 1007 i K r (n + 1) := by
  obtain ⟨s, st, kp, t, T, h, hg, hR⟩ := hG
  have sr := su_r (f := s) (k := 6) hg.1.1
  obtain ⟨K1, r1, hc1, hi1, hf⟩ := o_X5_keep G K r s st kp t T h hg
  obtain ⟨K2, hm, hR2, h3, hFM⟩ := m0_X6_keep G K1 r1 s st kp t T (RH_FR hR hf) hg
  exact w_keep hW hi (by omega) hc1 hm (cont _ _ ⟨_, _, _, _, _, IC_ext (fun q hq _ => hFM q (.inl hq)) hi1, GI_keep hg, hR2⟩)
set_option maxRecDepth 100000 in
set_option maxHeartbeats 4000000 in
theorem s_restore {G : GT} {x : CxT} {sa L : Nat} {xs : Nat → Int32} (hW : LW G x sa L xs) {i : Int} (hi : 0 ≤ i ∧ i + 3 < L) {n : Nat} {K : Nat → Nat → Int} {r : Nat → Option Nat} (hG : GG K r) (cont : ∀ K2 r2, GG K2 r2 → LL G x sa 23 (i + 4) K2 r2 n) : LL G x sa 1020 i K r (n + 1) := by
  obtain ⟨s, st, kp, t, T, h, hg, hR⟩ := hG
  rcases hg.2.2.1 with hc | hc
  · skip
    obtain ⟨K1, hx, hi1, hf⟩ := x1_X5_restore G K r s st kp t T h hg  hc
    obtain ⟨K2, hm, hR2, h3, hFM⟩ := m1_X6_restore G K1 r s st kp t T (RH_FR hR hf) hg  hc
    exact w_restore hW hi  (by decide) (by decide) (e1_L_restore G K r  K1 hx) hm h3 (fun w => absurd w (by decide)) (cont _ _ ⟨s, st, kp, t, T, IC_ext (fun q hq _ => hFM q (.inl hq)) hi1, hg, hR2⟩)
  · skip
    have sr := su_r (f := cpS (svS s st) 6 0 74) (k := 6) (gi_restore s st kp t T hg hc).1.1
    obtain ⟨K1, r1, hc1, hi1, hf⟩ := o_X5_restore G K r s st kp t T h hg  hc
    have hv : (-2147483648 : Int) ≤ ((su (cpS (svS s st) 6 0 74) 6) : Int) ∧ ((su (cpS (svS s st) 6 0 74) 6) : Int) < 2147483648 := by omega
    obtain ⟨K2, hm, hR2, h3, hFM⟩ := m0_X6_restore G (us K1 33 (us (K1 33) 0 (su (cpS (svS s st) 6 0 74) 6))) r1 s st kp t T (RH_33 (RH_FR hR hf)) hg  hc
    exact w_restore hW hi  (by decide) hv (h_L_restore G K r  _ hv K1 r1 hc1) hm h3 (fun _ => by rw [hFM 33 (.inr rfl), us_at, us_at]) (cont _ _ ⟨_, _, _, _, _, IC_ext (fun q hq _ => (hFM q (.inl hq)).trans (us_ne _ _ (by omega))) hi1, gi_restore s st kp t T hg hc, hR2⟩)
set_option maxRecDepth 100000 in
set_option maxHeartbeats 4000000 in
theorem s_savedStates {G : GT} {x : CxT} {sa L : Nat} {xs : Nat → Int32} (hW : LW G x sa L xs) {i : Int} (hi : 0 ≤ i ∧ i + 3 < L) {n : Nat} {K : Nat → Nat → Int} {r : Nat → Option Nat} (hG : GG K r) (cont : ∀ K2 r2, GG K2 r2 → LL G x sa 23 (i + 4) K2 r2 n) : LL G x sa 1064 i K r (n + 1) := by
  obtain ⟨s, st, kp, t, T, h, hg, hR⟩ := hG
  have gst := hg.2.1
  obtain ⟨K1, r1, hc1, hi1, hf⟩ := o_X5_savedStates G K r s st kp t T h hg
  obtain ⟨K2, hm, hR2, h3, hFM⟩ := m0_X6_savedStates G K1 r1 s st kp t T (RH_FR hR hf) hg
  exact w_savedStates hW hi (by omega) hc1 hm (cont _ _ ⟨_, _, _, _, _, IC_ext (fun q hq _ => hFM q (.inl hq)) hi1, hg, hR2⟩)
set_option maxRecDepth 100000 in
set_option maxHeartbeats 4000000 in
theorem s_worthOf {G : GT} {x : CxT} {sa L : Nat} {xs : Nat → Int32} (hW : LW G x sa L xs) {i : Int} (hi : 0 ≤ i ∧ i + 3 < L) {n : Nat} {K : Nat → Nat → Int} {r : Nat → Option Nat} (hG : GG K r) (cont : ∀ K2 r2, GG K2 r2 → LL G x sa 23 (i + 4) K2 r2 n) : LL G x sa 1077 i K r (n + 1) := by
  obtain ⟨s, st, kp, t, T, h, hg, hR⟩ := hG
  obtain ⟨p, hp, ep⟩ := iI_ex (xs (i + 1).toNat)
  by_cases hc : 0 ≤ p ∧ p ≤ 17
  · skip
    have w2 := wN_22 (k := p.toNat) (by omega)
    obtain ⟨K1, r1, hc1, hi1, hf⟩ := o_X5_worthOf G K r s st kp t T h hg p hp hc
    have hv : (-2147483648 : Int) ≤ ((wN p.toNat : Nat) : Int) ∧ ((wN p.toNat : Nat) : Int) < 2147483648 := by omega
    obtain ⟨K2, hm, hR2, h3, hFM⟩ := m0_X6_worthOf G (us K1 33 (us (K1 33) 0 (wN p.toNat : Nat))) r1 s st kp t T (RH_33 (RH_FR hR hf)) hg p hp hc
    exact w_worthOf hW hi ep (by decide) hv (h_L_worthOf G K r p hp _ hv K1 r1 hc1) hm h3 (fun _ => by rw [hFM 33 (.inr rfl), us_at, us_at]) (cont _ _ ⟨_, _, _, _, _, IC_ext (fun q hq _ => (hFM q (.inl hq)).trans (us_ne _ _ (by omega))) hi1, hg, hR2⟩)
  · skip
    obtain ⟨K1, hx, hi1, hf⟩ := x1_X5_worthOf G K r s st kp t T h hg p hp hc
    obtain ⟨K2, hm, hR2, h3, hFM⟩ := m1_X6_worthOf G K1 r s st kp t T (RH_FR hR hf) hg p hp hc
    exact w_worthOf hW hi ep (by decide) (by decide) (e1_L_worthOf G K r p hp K1 hx) hm h3 (fun w => absurd w (by decide)) (cont _ _ ⟨s, st, kp, t, T, IC_ext (fun q hq _ => hFM q (.inl hq)) hi1, hg, hR2⟩)
set_option maxRecDepth 100000 in
set_option maxHeartbeats 4000000 in
theorem s_worthOfSet {G : GT} {x : CxT} {sa L : Nat} {xs : Nat → Int32} (hW : LW G x sa L xs) {i : Int} (hi : 0 ≤ i ∧ i + 3 < L) {n : Nat} {K : Nat → Nat → Int} {r : Nat → Option Nat} (hG : GG K r) (cont : ∀ K2 r2, GG K2 r2 → LL G x sa 23 (i + 4) K2 r2 n) : LL G x sa 1133 i K r (n + 1) := by
  obtain ⟨s, st, kp, t, T, h, hg, hR⟩ := hG
  obtain ⟨p, hp, ep⟩ := iI_ex (xs (i + 1).toNat)
  by_cases hc : 0 ≤ p ∧ p ≤ 262143
  · skip
    have w2 := wo_le 22 p.toNat
    have w3 := wS_22 (k := 22) (by decide)
    obtain ⟨K1, r1, hc1, hi1, hf⟩ := o_X5_worthOfSet G K r s st kp t T h hg p hp hc
    have hv : (-2147483648 : Int) ≤ ((wo 22 p.toNat : Nat) : Int) ∧ ((wo 22 p.toNat : Nat) : Int) < 2147483648 := by omega
    obtain ⟨K2, hm, hR2, h3, hFM⟩ := m0_X6_worthOfSet G (us K1 33 (us (K1 33) 0 (wo 22 p.toNat : Nat))) r1 s st kp t T (RH_33 (RH_FR hR hf)) hg p hp hc
    exact w_worthOfSet hW hi ep (by decide) hv (h_L_worthOfSet G K r p hp _ hv K1 r1 hc1) hm h3 (fun _ => by rw [hFM 33 (.inr rfl), us_at, us_at]) (cont _ _ ⟨_, _, _, _, _, IC_ext (fun q hq _ => (hFM q (.inl hq)).trans (us_ne _ _ (by omega))) hi1, hg, hR2⟩)
  · skip
    obtain ⟨K1, hx, hi1, hf⟩ := x1_X5_worthOfSet G K r s st kp t T h hg p hp hc
    obtain ⟨K2, hm, hR2, h3, hFM⟩ := m1_X6_worthOfSet G K1 r s st kp t T (RH_FR hR hf) hg p hp hc
    exact w_worthOfSet hW hi ep (by decide) (by decide) (e1_L_worthOfSet G K r p hp K1 hx) hm h3 (fun w => absurd w (by decide)) (cont _ _ ⟨s, st, kp, t, T, IC_ext (fun q hq _ => hFM q (.inl hq)) hi1, hg, hR2⟩)
set_option maxRecDepth 100000 in
set_option maxHeartbeats 4000000 in
theorem s_say {G : GT} {x : CxT} {sa L : Nat} {xs : Nat → Int32} (hW : LW G x sa L xs) {i : Int} (hi : 0 ≤ i ∧ i + 3 < L) {n : Nat} {K : Nat → Nat → Int} {r : Nat → Option Nat} (hG : GG K r) (cont : ∀ K2 r2, GG K2 r2 → LL G x sa 23 (i + 4) K2 r2 n) : LL G x sa 1189 i K r (n + 1) := by
  obtain ⟨s, st, kp, t, T, h, hg, hR⟩ := hG
  obtain ⟨p, hp, ep⟩ := iI_ex (xs (i + 1).toNat)
  by_cases hc : 0 ≤ p ∧ p ≤ 6764
  · skip
    have g := gm_18 p.toNat
    obtain ⟨K1, r1, hc1, hi1, hf⟩ := o_X5_say G K r s st kp t T h hg p hp hc
    have hv : (-2147483648 : Int) ≤ ((gm 18 p.toNat : Nat) : Int) ∧ ((gm 18 p.toNat : Nat) : Int) < 2147483648 := by omega
    obtain ⟨K2, hm, hR2, h3, hFM⟩ := m0_X6_say G (us K1 33 (us (K1 33) 0 (gm 18 p.toNat : Nat))) r1 s st kp t T (RH_33 (RH_FR hR hf)) hg p hp hc
    exact w_say hW hi ep (by decide) hv (h_L_say G K r p hp _ hv K1 r1 hc1) hm h3 (fun _ => by rw [hFM 33 (.inr rfl), us_at, us_at]) (cont _ _ ⟨_, _, _, _, _, IC_ext (fun q hq _ => (hFM q (.inl hq)).trans (us_ne _ _ (by omega))) hi1, hg, hR2⟩)
  · skip
    obtain ⟨K1, hx, hi1, hf⟩ := x1_X5_say G K r s st kp t T h hg p hp hc
    obtain ⟨K2, hm, hR2, h3, hFM⟩ := m1_X6_say G K1 r s st kp t T (RH_FR hR hf) hg p hp hc
    exact w_say hW hi ep (by decide) (by decide) (e1_L_say G K r p hp K1 hx) hm h3 (fun w => absurd w (by decide)) (cont _ _ ⟨s, st, kp, t, T, IC_ext (fun q hq _ => hFM q (.inl hq)) hi1, hg, hR2⟩)
set_option maxRecDepth 100000 in
set_option maxHeartbeats 4000000 in
theorem s_sayByCounting {G : GT} {x : CxT} {sa L : Nat} {xs : Nat → Int32} (hW : LW G x sa L xs) {i : Int} (hi : 0 ≤ i ∧ i + 3 < L) {n : Nat} {K : Nat → Nat → Int} {r : Nat → Option Nat} (hG : GG K r) (cont : ∀ K2 r2, GG K2 r2 → LL G x sa 23 (i + 4) K2 r2 n) : LL G x sa 1245 i K r (n + 1) := by
  obtain ⟨s, st, kp, t, T, h, hg, hR⟩ := hG
  obtain ⟨p, hp, ep⟩ := iI_ex (xs (i + 1).toNat)
  by_cases hc : 0 ≤ p ∧ p ≤ 6764
  · skip
    have g := gm_18 p.toNat
    obtain ⟨K1, r1, hc1, hi1, hf⟩ := o_X5_sayByCounting G K r s st kp t T h hg p hp hc
    have hv : (-2147483648 : Int) ≤ ((gm 18 p.toNat : Nat) : Int) ∧ ((gm 18 p.toNat : Nat) : Int) < 2147483648 := by omega
    obtain ⟨K2, hm, hR2, h3, hFM⟩ := m0_X6_sayByCounting G (us K1 33 (us (K1 33) 0 (gm 18 p.toNat : Nat))) r1 s st kp t T (RH_33 (RH_FR hR hf)) hg p hp hc
    exact w_sayByCounting hW hi ep (by decide) hv (h_L_sayByCounting G K r p hp _ hv K1 r1 hc1) hm h3 (fun _ => by rw [hFM 33 (.inr rfl), us_at, us_at]) (cont _ _ ⟨_, _, _, _, _, IC_ext (fun q hq _ => (hFM q (.inl hq)).trans (us_ne _ _ (by omega))) hi1, hg, hR2⟩)
  · skip
    obtain ⟨K1, hx, hi1, hf⟩ := x1_X5_sayByCounting G K r s st kp t T h hg p hp hc
    obtain ⟨K2, hm, hR2, h3, hFM⟩ := m1_X6_sayByCounting G K1 r s st kp t T (RH_FR hR hf) hg p hp hc
    exact w_sayByCounting hW hi ep (by decide) (by decide) (e1_L_sayByCounting G K r p hp K1 hx) hm h3 (fun w => absurd w (by decide)) (cont _ _ ⟨s, st, kp, t, T, IC_ext (fun q hq _ => hFM q (.inl hq)) hi1, hg, hR2⟩)
set_option maxRecDepth 100000 in
set_option maxHeartbeats 4000000 in
theorem s_fullSet {G : GT} {x : CxT} {sa L : Nat} {xs : Nat → Int32} (hW : LW G x sa L xs) {i : Int} (hi : 0 ≤ i ∧ i + 3 < L) {n : Nat} {K : Nat → Nat → Int} {r : Nat → Option Nat} (hG : GG K r) (cont : ∀ K2 r2, GG K2 r2 → LL G x sa 23 (i + 4) K2 r2 n) : LL G x sa 1301 i K r (n + 1) := by
  obtain ⟨s, st, kp, t, T, h, hg, hR⟩ := hG
  obtain ⟨p, hp, ep⟩ := iI_ex (xs (i + 1).toNat)
  by_cases hc : 0 ≤ p ∧ p ≤ 6764
  · skip
    have g := fm_18 p.toNat
    obtain ⟨K1, r1, hc1, hi1, hf⟩ := o_X5_fullSet G K r s st kp t T h hg p hp hc
    have hv : (-2147483648 : Int) ≤ ((fm 18 p.toNat : Nat) : Int) ∧ ((fm 18 p.toNat : Nat) : Int) < 2147483648 := by omega
    obtain ⟨K2, hm, hR2, h3, hFM⟩ := m0_X6_fullSet G (us K1 33 (us (K1 33) 0 (fm 18 p.toNat : Nat))) r1 s st kp t T (RH_33 (RH_FR hR hf)) hg p hp hc
    exact w_fullSet hW hi ep (by decide) hv (h_L_fullSet G K r p hp _ hv K1 r1 hc1) hm h3 (fun _ => by rw [hFM 33 (.inr rfl), us_at, us_at]) (cont _ _ ⟨_, _, _, _, _, IC_ext (fun q hq _ => (hFM q (.inl hq)).trans (us_ne _ _ (by omega))) hi1, hg, hR2⟩)
  · skip
    obtain ⟨K1, hx, hi1, hf⟩ := x1_X5_fullSet G K r s st kp t T h hg p hp hc
    obtain ⟨K2, hm, hR2, h3, hFM⟩ := m1_X6_fullSet G K1 r s st kp t T (RH_FR hR hf) hg p hp hc
    exact w_fullSet hW hi ep (by decide) (by decide) (e1_L_fullSet G K r p hp K1 hx) hm h3 (fun w => absurd w (by decide)) (cont _ _ ⟨s, st, kp, t, T, IC_ext (fun q hq _ => hFM q (.inl hq)) hi1, hg, hR2⟩)
set_option maxRecDepth 100000 in
set_option maxHeartbeats 4000000 in
theorem s_ways {G : GT} {x : CxT} {sa L : Nat} {xs : Nat → Int32} (hW : LW G x sa L xs) {i : Int} (hi : 0 ≤ i ∧ i + 3 < L) {n : Nat} {K : Nat → Nat → Int} {r : Nat → Option Nat} (hG : GG K r) (cont : ∀ K2 r2, GG K2 r2 → LL G x sa 23 (i + 4) K2 r2 n) : LL G x sa 1357 i K r (n + 1) := by
  obtain ⟨s, st, kp, t, T, h, hg, hR⟩ := hG
  obtain ⟨p, hp, ep⟩ := iI_ex (xs (i + 1).toNat)
  by_cases hc : 0 ≤ p ∧ p ≤ 6764
  · skip
    have g := cw_r (n := p.toNat) (by omega)
    obtain ⟨K1, r1, hc1, hi1, hf⟩ := o_X5_ways G K r s st kp t T h hg p hp hc
    have hv : (-2147483648 : Int) ≤ ((cw (gm 18 p.toNat)) : Int) ∧ ((cw (gm 18 p.toNat)) : Int) < 2147483648 := by omega
    obtain ⟨K2, hm, hR2, h3, hFM⟩ := m0_X6_ways G (us K1 33 (us (K1 33) 0 (cw (gm 18 p.toNat)))) r1 s st kp t T (RH_33 (RH_FR hR hf)) hg p hp hc
    exact w_ways hW hi ep (by decide) hv (h_L_ways G K r p hp _ hv K1 r1 hc1) hm h3 (fun _ => by rw [hFM 33 (.inr rfl), us_at, us_at]) (cont _ _ ⟨_, _, _, _, _, IC_ext (fun q hq _ => (hFM q (.inl hq)).trans (us_ne _ _ (by omega))) hi1, hg, hR2⟩)
  · skip
    obtain ⟨K1, hx, hi1, hf⟩ := x1_X5_ways G K r s st kp t T h hg p hp hc
    obtain ⟨K2, hm, hR2, h3, hFM⟩ := m1_X6_ways G K1 r s st kp t T (RH_FR hR hf) hg p hp hc
    exact w_ways hW hi ep (by decide) (by decide) (e1_L_ways G K r p hp K1 hx) hm h3 (fun w => absurd w (by decide)) (cont _ _ ⟨s, st, kp, t, T, IC_ext (fun q hq _ => hFM q (.inl hq)) hi1, hg, hR2⟩)
set_option maxRecDepth 100000 in
set_option maxHeartbeats 4000000 in
theorem s_waysByGaps {G : GT} {x : CxT} {sa L : Nat} {xs : Nat → Int32} (hW : LW G x sa L xs) {i : Int} (hi : 0 ≤ i ∧ i + 3 < L) {n : Nat} {K : Nat → Nat → Int} {r : Nat → Option Nat} (hG : GG K r) (cont : ∀ K2 r2, GG K2 r2 → LL G x sa 23 (i + 4) K2 r2 n) : LL G x sa 1413 i K r (n + 1) := by
  obtain ⟨s, st, kp, t, T, h, hg, hR⟩ := hG
  obtain ⟨p, hp, ep⟩ := iI_ex (xs (i + 1).toNat)
  by_cases hc : 0 ≤ p ∧ p ≤ 6764
  · skip
    have g := cw_r (n := p.toNat) (by omega)
    obtain ⟨K1, r1, hc1, hi1, hf⟩ := o_X5_waysByGaps G K r s st kp t T h hg p hp hc
    have hv : (-2147483648 : Int) ≤ ((cw (gm 18 p.toNat)) : Int) ∧ ((cw (gm 18 p.toNat)) : Int) < 2147483648 := by omega
    obtain ⟨K2, hm, hR2, h3, hFM⟩ := m0_X6_waysByGaps G (us K1 33 (us (K1 33) 0 (cw (gm 18 p.toNat)))) r1 s st kp t T (RH_33 (RH_FR hR hf)) hg p hp hc
    exact w_waysByGaps hW hi ep (by decide) hv (h_L_waysByGaps G K r p hp _ hv K1 r1 hc1) hm h3 (fun _ => by rw [hFM 33 (.inr rfl), us_at, us_at]) (cont _ _ ⟨_, _, _, _, _, IC_ext (fun q hq _ => (hFM q (.inl hq)).trans (us_ne _ _ (by omega))) hi1, hg, hR2⟩)
  · skip
    obtain ⟨K1, hx, hi1, hf⟩ := x1_X5_waysByGaps G K r s st kp t T h hg p hp hc
    obtain ⟨K2, hm, hR2, h3, hFM⟩ := m1_X6_waysByGaps G K1 r s st kp t T (RH_FR hR hf) hg p hp hc
    exact w_waysByGaps hW hi ep (by decide) (by decide) (e1_L_waysByGaps G K r p hp K1 hx) hm h3 (fun w => absurd w (by decide)) (cont _ _ ⟨s, st, kp, t, T, IC_ext (fun q hq _ => hFM q (.inl hq)) hi1, hg, hR2⟩)
set_option maxRecDepth 100000 in
set_option maxHeartbeats 4000000 in
theorem s_spokenLength {G : GT} {x : CxT} {sa L : Nat} {xs : Nat → Int32} (hW : LW G x sa L xs) {i : Int} (hi : 0 ≤ i ∧ i + 3 < L) {n : Nat} {K : Nat → Nat → Int} {r : Nat → Option Nat} (hG : GG K r) (cont : ∀ K2 r2, GG K2 r2 → LL G x sa 23 (i + 4) K2 r2 n) : LL G x sa 1469 i K r (n + 1) := by
  obtain ⟨s, st, kp, t, T, h, hg, hR⟩ := hG
  obtain ⟨p, hp, ep⟩ := iI_ex (xs (i + 1).toNat)
  obtain ⟨q, hq, eq⟩ := iI_ex (xs (i + 2).toNat)
  by_cases hc : 0 ≤ p ∧ p ≤ 2
  · skip
    by_cases hd : 0 ≤ q ∧ q ≤ 6764
    · skip
      have g := cn_le 22 (gm 18 q.toNat)
      obtain ⟨K1, r1, hc1, hi1, hf⟩ := o_X5_spokenLength G K r s st kp t T h hg p hp q hq hc hd
      have hv : (-2147483648 : Int) ≤ ((cn 22 (gm 18 q.toNat) : Nat) : Int) ∧ ((cn 22 (gm 18 q.toNat) : Nat) : Int) < 2147483648 := by omega
      obtain ⟨K2, hm, hR2, h3, hFM⟩ := m0_X6_spokenLength G (us K1 33 (us (K1 33) 0 (cn 22 (gm 18 q.toNat) : Nat))) r1 s st kp t T (RH_33 (RH_FR hR hf)) hg p hp q hq hc hd
      exact w_spokenLength hW hi ep eq (by decide) hv (h_L_spokenLength G K r p hp q hq _ hv K1 r1 hc1) hm h3 (fun _ => by rw [hFM 33 (.inr rfl), us_at, us_at]) (cont _ _ ⟨_, _, _, _, _, IC_ext (fun q hq _ => (hFM q (.inl hq)).trans (us_ne _ _ (by omega))) hi1, hg, hR2⟩)
    · skip
      obtain ⟨K1, hx, hi1, hf⟩ := x2_X5_spokenLength G K r s st kp t T h hg p hp q hq hc hd
      obtain ⟨K2, hm, hR2, h3, hFM⟩ := m2_X6_spokenLength G K1 r s st kp t T (RH_FR hR hf) hg p hp q hq hc hd
      exact w_spokenLength hW hi ep eq (by decide) (by decide) (e2_L_spokenLength G K r p hp q hq K1 hx) hm h3 (fun w => absurd w (by decide)) (cont _ _ ⟨s, st, kp, t, T, IC_ext (fun q hq _ => hFM q (.inl hq)) hi1, hg, hR2⟩)
  · skip
    obtain ⟨K1, hx, hi1, hf⟩ := x1_X5_spokenLength G K r s st kp t T h hg p hp q hq hc
    obtain ⟨K2, hm, hR2, h3, hFM⟩ := m1_X6_spokenLength G K1 r s st kp t T (RH_FR hR hf) hg p hp q hq hc
    exact w_spokenLength hW hi ep eq (by decide) (by decide) (e1_L_spokenLength G K r p hp q hq K1 hx) hm h3 (fun w => absurd w (by decide)) (cont _ _ ⟨s, st, kp, t, T, IC_ext (fun q hq _ => hFM q (.inl hq)) hi1, hg, hR2⟩)
set_option maxRecDepth 100000 in
set_option maxHeartbeats 4000000 in
theorem s_spokenAt {G : GT} {x : CxT} {sa L : Nat} {xs : Nat → Int32} (hW : LW G x sa L xs) {i : Int} (hi : 0 ≤ i ∧ i + 3 < L) {n : Nat} {K : Nat → Nat → Int} {r : Nat → Option Nat} (hG : GG K r) (cont : ∀ K2 r2, GG K2 r2 → LL G x sa 23 (i + 4) K2 r2 n) : LL G x sa 1537 i K r (n + 1) := by
  obtain ⟨s, st, kp, t, T, h, hg, hR⟩ := hG
  obtain ⟨p, hp, ep⟩ := iI_ex (xs (i + 1).toNat)
  obtain ⟨q, hq, eq⟩ := iI_ex (xs (i + 2).toNat)
  obtain ⟨u, hu, eu⟩ := iI_ex (xs (i + 3).toNat)
  by_cases hc : 0 ≤ p ∧ p ≤ 2
  · skip
    by_cases hd : 0 ≤ q ∧ q ≤ 6764 ∧ 0 ≤ u ∧ u < (cn 22 (gm 18 q.toNat) : Nat)
    · skip
      have g := wd_r (gm 18 q.toNat) p u
      obtain ⟨K1, r1, hc1, hi1, hf⟩ := o_X5_spokenAt G K r s st kp t T h hg p hp q hq u hu hc hd
      have hv : (-2147483648 : Int) ≤ ((wd (gm 18 q.toNat) p u) : Int) ∧ ((wd (gm 18 q.toNat) p u) : Int) < 2147483648 := by omega
      obtain ⟨K2, hm, hR2, h3, hFM⟩ := m0_X6_spokenAt G (us K1 33 (us (K1 33) 0 (wd (gm 18 q.toNat) p u))) r1 s st kp t T (RH_33 (RH_FR hR hf)) hg p hp q hq u hu hc hd
      exact w_spokenAt hW hi ep eq eu (by decide) hv (h_L_spokenAt G K r p hp q hq u hu _ hv K1 r1 hc1) hm h3 (fun _ => by rw [hFM 33 (.inr rfl), us_at, us_at]) (cont _ _ ⟨_, _, _, _, _, IC_ext (fun q hq _ => (hFM q (.inl hq)).trans (us_ne _ _ (by omega))) hi1, hg, hR2⟩)
    · skip
      obtain ⟨K1, hx, hi1, hf⟩ := x2_X5_spokenAt G K r s st kp t T h hg p hp q hq u hu hc hd
      obtain ⟨K2, hm, hR2, h3, hFM⟩ := m2_X6_spokenAt G K1 r s st kp t T (RH_FR hR hf) hg p hp q hq u hu hc hd
      exact w_spokenAt hW hi ep eq eu (by decide) (by decide) (e2_L_spokenAt G K r p hp q hq u hu K1 hx) hm h3 (fun w => absurd w (by decide)) (cont _ _ ⟨s, st, kp, t, T, IC_ext (fun q hq _ => hFM q (.inl hq)) hi1, hg, hR2⟩)
  · skip
    obtain ⟨K1, hx, hi1, hf⟩ := x1_X5_spokenAt G K r s st kp t T h hg p hp q hq u hu hc
    obtain ⟨K2, hm, hR2, h3, hFM⟩ := m1_X6_spokenAt G K1 r s st kp t T (RH_FR hR hf) hg p hp q hq u hu hc
    exact w_spokenAt hW hi ep eq eu (by decide) (by decide) (e1_L_spokenAt G K r p hp q hq u hu K1 hx) hm h3 (fun w => absurd w (by decide)) (cont _ _ ⟨s, st, kp, t, T, IC_ext (fun q hq _ => hFM q (.inl hq)) hi1, hg, hR2⟩)
set_option maxRecDepth 100000 in
set_option maxHeartbeats 4000000 in
theorem s_numberOf {G : GT} {x : CxT} {sa L : Nat} {xs : Nat → Int32} (hW : LW G x sa L xs) {i : Int} (hi : 0 ≤ i ∧ i + 3 < L) {n : Nat} {K : Nat → Nat → Int} {r : Nat → Option Nat} (hG : GG K r) (cont : ∀ K2 r2, GG K2 r2 → LL G x sa 23 (i + 4) K2 r2 n) : LL G x sa 1617 i K r (n + 1) := by
  obtain ⟨s, st, kp, t, T, h, hg, hR⟩ := hG
  obtain ⟨p, hp, ep⟩ := iI_ex (xs (i + 1).toNat)
  by_cases hc : 0 ≤ p ∧ p ≤ 5
  · skip
    have zp := hg.1.1 p.toNat (by omega)
    obtain ⟨K1, r1, hc1, hi1, hf⟩ := o_X5_numberOf G K r s st kp t T h hg p hp hc
    have hv : (-2147483648 : Int) ≤ ((s p.toNat) : Int) ∧ ((s p.toNat) : Int) < 2147483648 := by omega
    obtain ⟨K2, hm, hR2, h3, hFM⟩ := m0_X6_numberOf G (us K1 33 (us (K1 33) 0 (s p.toNat))) r1 s st kp t T (RH_33 (RH_FR hR hf)) hg p hp hc
    exact w_numberOf hW hi ep (by decide) hv (h_L_numberOf G K r p hp _ hv K1 r1 hc1) hm h3 (fun _ => by rw [hFM 33 (.inr rfl), us_at, us_at]) (cont _ _ ⟨_, _, _, _, _, IC_ext (fun q hq _ => (hFM q (.inl hq)).trans (us_ne _ _ (by omega))) hi1, hg, hR2⟩)
  · skip
    obtain ⟨K1, hx, hi1, hf⟩ := x1_X5_numberOf G K r s st kp t T h hg p hp hc
    obtain ⟨K2, hm, hR2, h3, hFM⟩ := m1_X6_numberOf G K1 r s st kp t T (RH_FR hR hf) hg p hp hc
    exact w_numberOf hW hi ep (by decide) (by decide) (e1_L_numberOf G K r p hp K1 hx) hm h3 (fun w => absurd w (by decide)) (cont _ _ ⟨s, st, kp, t, T, IC_ext (fun q hq _ => hFM q (.inl hq)) hi1, hg, hR2⟩)
set_option maxRecDepth 100000 in
set_option maxHeartbeats 4000000 in
theorem s_stepsOf {G : GT} {x : CxT} {sa L : Nat} {xs : Nat → Int32} (hW : LW G x sa L xs) {i : Int} (hi : 0 ≤ i ∧ i + 3 < L) {n : Nat} {K : Nat → Nat → Int} {r : Nat → Option Nat} (hG : GG K r) (cont : ∀ K2 r2, GG K2 r2 → LL G x sa 23 (i + 4) K2 r2 n) : LL G x sa 1673 i K r (n + 1) := by
  obtain ⟨s, st, kp, t, T, h, hg, hR⟩ := hG
  obtain ⟨p, hp, ep⟩ := iI_ex (xs (i + 1).toNat)
  by_cases hc : 0 ≤ p ∧ p ≤ 5
  · skip
    have g := cn_le 22 (gm 18 (s p.toNat).toNat)
    obtain ⟨K1, r1, hc1, hi1, hf⟩ := o_X5_stepsOf G K r s st kp t T h hg p hp hc
    have hv : (-2147483648 : Int) ≤ ((cn 22 (gm 18 (s p.toNat).toNat) : Nat) : Int) ∧ ((cn 22 (gm 18 (s p.toNat).toNat) : Nat) : Int) < 2147483648 := by omega
    obtain ⟨K2, hm, hR2, h3, hFM⟩ := m0_X6_stepsOf G (us K1 33 (us (K1 33) 0 (cn 22 (gm 18 (s p.toNat).toNat) : Nat))) r1 s st kp t T (RH_33 (RH_FR hR hf)) hg p hp hc
    exact w_stepsOf hW hi ep (by decide) hv (h_L_stepsOf G K r p hp _ hv K1 r1 hc1) hm h3 (fun _ => by rw [hFM 33 (.inr rfl), us_at, us_at]) (cont _ _ ⟨_, _, _, _, _, IC_ext (fun q hq _ => (hFM q (.inl hq)).trans (us_ne _ _ (by omega))) hi1, hg, hR2⟩)
  · skip
    obtain ⟨K1, hx, hi1, hf⟩ := x1_X5_stepsOf G K r s st kp t T h hg p hp hc
    obtain ⟨K2, hm, hR2, h3, hFM⟩ := m1_X6_stepsOf G K1 r s st kp t T (RH_FR hR hf) hg p hp hc
    exact w_stepsOf hW hi ep (by decide) (by decide) (e1_L_stepsOf G K r p hp K1 hx) hm h3 (fun w => absurd w (by decide)) (cont _ _ ⟨s, st, kp, t, T, IC_ext (fun q hq _ => hFM q (.inl hq)) hi1, hg, hR2⟩)
set_option maxRecDepth 100000 in
set_option maxHeartbeats 4000000 in
theorem s_total {G : GT} {x : CxT} {sa L : Nat} {xs : Nat → Int32} (hW : LW G x sa L xs) {i : Int} (hi : 0 ≤ i ∧ i + 3 < L) {n : Nat} {K : Nat → Nat → Int} {r : Nat → Option Nat} (hG : GG K r) (cont : ∀ K2 r2, GG K2 r2 → LL G x sa 23 (i + 4) K2 r2 n) : LL G x sa 1729 i K r (n + 1) := by
  obtain ⟨s, st, kp, t, T, h, hg, hR⟩ := hG
  have sr := su_r (f := s) (k := 6) hg.1.1
  obtain ⟨K1, r1, hc1, hi1, hf⟩ := o_X5_total G K r s st kp t T h hg
  obtain ⟨K2, hm, hR2, h3, hFM⟩ := m0_X6_total G K1 r1 s st kp t T (RH_FR hR hf) hg
  exact w_total hW hi (by omega) hc1 hm (cont _ _ ⟨_, _, _, _, _, IC_ext (fun q hq _ => hFM q (.inl hq)) hi1, hg, hR2⟩)
set_option maxRecDepth 100000 in
set_option maxHeartbeats 4000000 in
theorem s_richest {G : GT} {x : CxT} {sa L : Nat} {xs : Nat → Int32} (hW : LW G x sa L xs) {i : Int} (hi : 0 ≤ i ∧ i + 3 < L) {n : Nat} {K : Nat → Nat → Int} {r : Nat → Option Nat} (hG : GG K r) (cont : ∀ K2 r2, GG K2 r2 → LL G x sa 23 (i + 4) K2 r2 n) : LL G x sa 1742 i K r (n + 1) := by
  obtain ⟨s, st, kp, t, T, h, hg, hR⟩ := hG
  have rr := ri_le s 5
  obtain ⟨K1, r1, hc1, hi1, hf⟩ := o_X5_richest G K r s st kp t T h hg
  obtain ⟨K2, hm, hR2, h3, hFM⟩ := m0_X6_richest G K1 r1 s st kp t T (RH_FR hR hf) hg
  exact w_richest hW hi (by omega) hc1 hm (cont _ _ ⟨_, _, _, _, _, IC_ext (fun q hq _ => hFM q (.inl hq)) hi1, hg, hR2⟩)
set_option maxRecDepth 100000 in
set_option maxHeartbeats 4000000 in
theorem s_sumByCarries {G : GT} {x : CxT} {sa L : Nat} {xs : Nat → Int32} (hW : LW G x sa L xs) {i : Int} (hi : 0 ≤ i ∧ i + 3 < L) {n : Nat} {K : Nat → Nat → Int} {r : Nat → Option Nat} (hG : GG K r) (cont : ∀ K2 r2, GG K2 r2 → LL G x sa 23 (i + 4) K2 r2 n) : LL G x sa 1755 i K r (n + 1) := by
  obtain ⟨s, st, kp, t, T, h, hg, hR⟩ := hG
  obtain ⟨p, hp, ep⟩ := iI_ex (xs (i + 1).toNat)
  obtain ⟨q, hq, eq⟩ := iI_ex (xs (i + 2).toNat)
  by_cases hc : (0 ≤ p ∧ p ≤ 5) ∧ 0 ≤ q ∧ q ≤ 5
  · skip
    have g := mkN_r (adE (gm 18 (s p.toNat).toNat) (gm 18 (s q.toNat).toNat))
    obtain ⟨K1, r1, hc1, hi1, hf⟩ := o_X5_sumByCarries G K r s st kp t T h hg p hp q hq hc
    have hv : (-2147483648 : Int) ≤ ((mkN (adE (gm 18 (s p.toNat).toNat) (gm 18 (s q.toNat).toNat)) 22 : Nat) : Int) ∧ ((mkN (adE (gm 18 (s p.toNat).toNat) (gm 18 (s q.toNat).toNat)) 22 : Nat) : Int) < 2147483648 := by omega
    obtain ⟨K2, hm, hR2, h3, hFM⟩ := m0_X6_sumByCarries G (us K1 33 (us (K1 33) 0 (mkN (adE (gm 18 (s p.toNat).toNat) (gm 18 (s q.toNat).toNat)) 22 : Nat))) r1 s st kp t T (RH_33 (RH_FR hR hf)) hg p hp q hq hc
    exact w_sumByCarries hW hi ep eq (by decide) hv (h_L_sumByCarries G K r p hp q hq _ hv K1 r1 hc1) hm h3 (fun _ => by rw [hFM 33 (.inr rfl), us_at, us_at]) (cont _ _ ⟨_, _, _, _, _, IC_ext (fun q hq _ => (hFM q (.inl hq)).trans (us_ne _ _ (by omega))) hi1, hg, hR2⟩)
  · skip
    obtain ⟨K1, hx, hi1, hf⟩ := x1_X5_sumByCarries G K r s st kp t T h hg p hp q hq hc
    obtain ⟨K2, hm, hR2, h3, hFM⟩ := m1_X6_sumByCarries G K1 r s st kp t T (RH_FR hR hf) hg p hp q hq hc
    exact w_sumByCarries hW hi ep eq (by decide) (by decide) (e1_L_sumByCarries G K r p hp q hq K1 hx) hm h3 (fun w => absurd w (by decide)) (cont _ _ ⟨s, st, kp, t, T, IC_ext (fun q hq _ => hFM q (.inl hq)) hi1, hg, hR2⟩)
set_option maxRecDepth 100000 in
set_option maxHeartbeats 4000000 in
theorem s_carries {G : GT} {x : CxT} {sa L : Nat} {xs : Nat → Int32} (hW : LW G x sa L xs) {i : Int} (hi : 0 ≤ i ∧ i + 3 < L) {n : Nat} {K : Nat → Nat → Int} {r : Nat → Option Nat} (hG : GG K r) (cont : ∀ K2 r2, GG K2 r2 → LL G x sa 23 (i + 4) K2 r2 n) : LL G x sa 1823 i K r (n + 1) := by
  obtain ⟨s, st, kp, t, T, h, hg, hR⟩ := hG
  obtain ⟨p, hp, ep⟩ := iI_ex (xs (i + 1).toNat)
  obtain ⟨q, hq, eq⟩ := iI_ex (xs (i + 2).toNat)
  by_cases hc : (0 ≤ p ∧ p ≤ 5) ∧ 0 ≤ q ∧ q ≤ 5
  · skip
    have g := adC_r (gm 18 (s p.toNat).toNat) (gm 18 (s q.toNat).toNat)
    obtain ⟨K1, r1, hc1, hi1, hf⟩ := o_X5_carries G K r s st kp t T h hg p hp q hq hc
    have hv : (-2147483648 : Int) ≤ ((adC (gm 18 (s p.toNat).toNat) (gm 18 (s q.toNat).toNat) : Nat) : Int) ∧ ((adC (gm 18 (s p.toNat).toNat) (gm 18 (s q.toNat).toNat) : Nat) : Int) < 2147483648 := by omega
    obtain ⟨K2, hm, hR2, h3, hFM⟩ := m0_X6_carries G (us K1 33 (us (K1 33) 0 (adC (gm 18 (s p.toNat).toNat) (gm 18 (s q.toNat).toNat) : Nat))) r1 s st kp t T (RH_33 (RH_FR hR hf)) hg p hp q hq hc
    exact w_carries hW hi ep eq (by decide) hv (h_L_carries G K r p hp q hq _ hv K1 r1 hc1) hm h3 (fun _ => by rw [hFM 33 (.inr rfl), us_at, us_at]) (cont _ _ ⟨_, _, _, _, _, IC_ext (fun q hq _ => (hFM q (.inl hq)).trans (us_ne _ _ (by omega))) hi1, hg, hR2⟩)
  · skip
    obtain ⟨K1, hx, hi1, hf⟩ := x1_X5_carries G K r s st kp t T h hg p hp q hq hc
    obtain ⟨K2, hm, hR2, h3, hFM⟩ := m1_X6_carries G K1 r s st kp t T (RH_FR hR hf) hg p hp q hq hc
    exact w_carries hW hi ep eq (by decide) (by decide) (e1_L_carries G K r p hp q hq K1 hx) hm h3 (fun w => absurd w (by decide)) (cont _ _ ⟨s, st, kp, t, T, IC_ext (fun q hq _ => hFM q (.inl hq)) hi1, hg, hR2⟩)
set_option maxRecDepth 100000 in
set_option maxHeartbeats 4000000 in
theorem s_streamLength {G : GT} {x : CxT} {sa L : Nat} {xs : Nat → Int32} (hW : LW G x sa L xs) {i : Int} (hi : 0 ≤ i ∧ i + 3 < L) {n : Nat} {K : Nat → Nat → Int} {r : Nat → Option Nat} (hG : GG K r) (cont : ∀ K2 r2, GG K2 r2 → LL G x sa 23 (i + 4) K2 r2 n) : LL G x sa 1891 i K r (n + 1) := by
  obtain ⟨s, st, kp, t, T, h, hg, hR⟩ := hG
  have g6 := hg.1.2.1
  obtain ⟨K1, r1, hc1, hi1, hf⟩ := o_X5_streamLength G K r s st kp t T h hg
  obtain ⟨K2, hm, hR2, h3, hFM⟩ := m0_X6_streamLength G K1 r1 s st kp t T (RH_FR hR hf) hg
  exact w_streamLength hW hi (by omega) hc1 hm (cont _ _ ⟨_, _, _, _, _, IC_ext (fun q hq _ => hFM q (.inl hq)) hi1, hg, hR2⟩)
set_option maxRecDepth 100000 in
set_option maxHeartbeats 4000000 in
theorem s_digitAt {G : GT} {x : CxT} {sa L : Nat} {xs : Nat → Int32} (hW : LW G x sa L xs) {i : Int} (hi : 0 ≤ i ∧ i + 3 < L) {n : Nat} {K : Nat → Nat → Int} {r : Nat → Option Nat} (hG : GG K r) (cont : ∀ K2 r2, GG K2 r2 → LL G x sa 23 (i + 4) K2 r2 n) : LL G x sa 1904 i K r (n + 1) := by
  obtain ⟨s, st, kp, t, T, h, hg, hR⟩ := hG
  obtain ⟨p, hp, ep⟩ := iI_ex (xs (i + 1).toNat)
  by_cases hc : 0 ≤ p ∧ p ≤ s 6 - 1
  · skip
    have g6 := hg.1.2.1
    have g7 := hg.1.2.2.1 (7 + p.toNat) (by omega) (by omega)
    obtain ⟨K1, r1, hc1, hi1, hf⟩ := o_X5_digitAt G K r s st kp t T h hg p hp hc
    have hv : (-2147483648 : Int) ≤ ((s (7 + p.toNat)) : Int) ∧ ((s (7 + p.toNat)) : Int) < 2147483648 := by omega
    obtain ⟨K2, hm, hR2, h3, hFM⟩ := m0_X6_digitAt G (us K1 33 (us (K1 33) 0 (s (7 + p.toNat)))) r1 s st kp t T (RH_33 (RH_FR hR hf)) hg p hp hc
    exact w_digitAt hW hi ep (by decide) hv (h_L_digitAt G K r p hp _ hv K1 r1 hc1) hm h3 (fun _ => by rw [hFM 33 (.inr rfl), us_at, us_at]) (cont _ _ ⟨_, _, _, _, _, IC_ext (fun q hq _ => (hFM q (.inl hq)).trans (us_ne _ _ (by omega))) hi1, hg, hR2⟩)
  · skip
    obtain ⟨K1, hx, hi1, hf⟩ := x1_X5_digitAt G K r s st kp t T h hg p hp hc
    obtain ⟨K2, hm, hR2, h3, hFM⟩ := m1_X6_digitAt G K1 r s st kp t T (RH_FR hR hf) hg p hp hc
    exact w_digitAt hW hi ep (by decide) (by decide) (e1_L_digitAt G K r p hp K1 hx) hm h3 (fun w => absurd w (by decide)) (cont _ _ ⟨s, st, kp, t, T, IC_ext (fun q hq _ => hFM q (.inl hq)) hi1, hg, hR2⟩)
set_option maxRecDepth 100000 in
set_option maxHeartbeats 4000000 in
theorem s_readNumbers {G : GT} {x : CxT} {sa L : Nat} {xs : Nat → Int32} (hW : LW G x sa L xs) {i : Int} (hi : 0 ≤ i ∧ i + 3 < L) {n : Nat} {K : Nat → Nat → Int} {r : Nat → Option Nat} (hG : GG K r) (cont : ∀ K2 r2, GG K2 r2 → LL G x sa 23 (i + 4) K2 r2 n) : LL G x sa 1960 i K r (n + 1) := by
  obtain ⟨s, st, kp, t, T, h, hg, hR⟩ := hG
  have g6 := hg.1.2.1
  have rl := rdS_le (fun j => s (7 + j)) (s 6).toNat
  have rl2 : 2 * (rdZ s).2.2.2.length + (rdZ s).2.1 + (rdZ s).2.2.1 ≤ (s 6).toNat := rl
  obtain ⟨K1, r1, hc1, hi1, hf⟩ := o_X5_readNumbers G K r s st kp t T h hg
  obtain ⟨K2, hm, hR2, h3, hFM⟩ := m0_X6_readNumbers G K1 r1 s st kp t T (RH_FR hR hf) hg
  exact w_readNumbers hW hi (by omega) hc1 hm (cont _ _ ⟨_, _, _, _, _, IC_ext (fun q hq _ => hFM q (.inl hq)) hi1, hg, hR2⟩)
set_option maxRecDepth 100000 in
set_option maxHeartbeats 4000000 in
theorem s_readAt {G : GT} {x : CxT} {sa L : Nat} {xs : Nat → Int32} (hW : LW G x sa L xs) {i : Int} (hi : 0 ≤ i ∧ i + 3 < L) {n : Nat} {K : Nat → Nat → Int} {r : Nat → Option Nat} (hG : GG K r) (cont : ∀ K2 r2, GG K2 r2 → LL G x sa 23 (i + 4) K2 r2 n) : LL G x sa 1973 i K r (n + 1) := by
  obtain ⟨s, st, kp, t, T, h, hg, hR⟩ := hG
  obtain ⟨p, hp, ep⟩ := iI_ex (xs (i + 1).toNat)
  by_cases hc : 0 ≤ p ∧ p < ((rdZ s).2.2.2.length : Nat)
  · skip
    have g := rdZ_v s (k := p.toNat) (by omega)
    obtain ⟨K1, r1, hc1, hi1, hf⟩ := o_X5_readAt G K r s st kp t T h hg p hp hc
    have hv : (-2147483648 : Int) ≤ ((((rdZ s).2.2.2.getD p.toNat 0 : Nat) : Int) : Int) ∧ ((((rdZ s).2.2.2.getD p.toNat 0 : Nat) : Int) : Int) < 2147483648 := by omega
    obtain ⟨K2, hm, hR2, h3, hFM⟩ := m0_X6_readAt G (us K1 33 (us (K1 33) 0 (((rdZ s).2.2.2.getD p.toNat 0 : Nat) : Int))) r1 s st kp t T (RH_33 (RH_FR hR hf)) hg p hp hc
    exact w_readAt hW hi ep (by decide) hv (h_L_readAt G K r p hp _ hv K1 r1 hc1) hm h3 (fun _ => by rw [hFM 33 (.inr rfl), us_at, us_at]) (cont _ _ ⟨_, _, _, _, _, IC_ext (fun q hq _ => (hFM q (.inl hq)).trans (us_ne _ _ (by omega))) hi1, hg, hR2⟩)
  · skip
    obtain ⟨K1, hx, hi1, hf⟩ := x1_X5_readAt G K r s st kp t T h hg p hp hc
    obtain ⟨K2, hm, hR2, h3, hFM⟩ := m1_X6_readAt G K1 r s st kp t T (RH_FR hR hf) hg p hp hc
    exact w_readAt hW hi ep (by decide) (by decide) (e1_L_readAt G K r p hp K1 hx) hm h3 (fun w => absurd w (by decide)) (cont _ _ ⟨s, st, kp, t, T, IC_ext (fun q hq _ => hFM q (.inl hq)) hi1, hg, hR2⟩)
set_option maxRecDepth 100000 in
set_option maxHeartbeats 4000000 in
theorem s_errors {G : GT} {x : CxT} {sa L : Nat} {xs : Nat → Int32} (hW : LW G x sa L xs) {i : Int} (hi : 0 ≤ i ∧ i + 3 < L) {n : Nat} {K : Nat → Nat → Int} {r : Nat → Option Nat} (hG : GG K r) (cont : ∀ K2 r2, GG K2 r2 → LL G x sa 23 (i + 4) K2 r2 n) : LL G x sa 2029 i K r (n + 1) := by
  obtain ⟨s, st, kp, t, T, h, hg, hR⟩ := hG
  have g6 := hg.1.2.1
  have rl := rdS_le (fun j => s (7 + j)) (s 6).toNat
  have rl2 : 2 * (rdZ s).2.2.2.length + (rdZ s).2.1 + (rdZ s).2.2.1 ≤ (s 6).toNat := rl
  obtain ⟨K1, r1, hc1, hi1, hf⟩ := o_X5_errors G K r s st kp t T h hg
  obtain ⟨K2, hm, hR2, h3, hFM⟩ := m0_X6_errors G K1 r1 s st kp t T (RH_FR hR hf) hg
  exact w_errors hW hi (by omega) hc1 hm (cont _ _ ⟨_, _, _, _, _, IC_ext (fun q hq _ => hFM q (.inl hq)) hi1, hg, hR2⟩)
set_option maxRecDepth 100000 in
set_option maxHeartbeats 4000000 in
theorem s_looseDigits {G : GT} {x : CxT} {sa L : Nat} {xs : Nat → Int32} (hW : LW G x sa L xs) {i : Int} (hi : 0 ≤ i ∧ i + 3 < L) {n : Nat} {K : Nat → Nat → Int} {r : Nat → Option Nat} (hG : GG K r) (cont : ∀ K2 r2, GG K2 r2 → LL G x sa 23 (i + 4) K2 r2 n) : LL G x sa 2042 i K r (n + 1) := by
  obtain ⟨s, st, kp, t, T, h, hg, hR⟩ := hG
  have g6 := hg.1.2.1
  have rl := rdS_le (fun j => s (7 + j)) (s 6).toNat
  have rl2 : 2 * (rdZ s).2.2.2.length + (rdZ s).2.1 + (rdZ s).2.2.1 ≤ (s 6).toNat := rl
  obtain ⟨K1, r1, hc1, hi1, hf⟩ := o_X5_looseDigits G K r s st kp t T h hg
  obtain ⟨K2, hm, hR2, h3, hFM⟩ := m0_X6_looseDigits G K1 r1 s st kp t T (RH_FR hR hf) hg
  exact w_looseDigits hW hi (by omega) hc1 hm (cont _ _ ⟨_, _, _, _, _, IC_ext (fun q hq _ => hFM q (.inl hq)) hi1, hg, hR2⟩)
set_option maxRecDepth 100000 in
set_option maxHeartbeats 4000000 in
theorem s_readIfTurned {G : GT} {x : CxT} {sa L : Nat} {xs : Nat → Int32} (hW : LW G x sa L xs) {i : Int} (hi : 0 ≤ i ∧ i + 3 < L) {n : Nat} {K : Nat → Nat → Int} {r : Nat → Option Nat} (hG : GG K r) (cont : ∀ K2 r2, GG K2 r2 → LL G x sa 23 (i + 4) K2 r2 n) : LL G x sa 2055 i K r (n + 1) := by
  obtain ⟨s, st, kp, t, T, h, hg, hR⟩ := hG
  obtain ⟨p, hp, ep⟩ := iI_ex (xs (i + 1).toNat)
  by_cases hc : 0 ≤ p ∧ p ≤ s 6 - 1
  · skip
    have g6 := hg.1.2.1
    have rl := rdS_le (fun j => (tD s p.toNat) (7 + j)) ((tD s p.toNat) 6).toNat
    have rl2 : 2 * (rdZ (tD s p.toNat)).2.2.2.length + (rdZ (tD s p.toNat)).2.1 + (rdZ (tD s p.toNat)).2.2.1 ≤ ((tD s p.toNat) 6).toNat := rl
    have e6 : tD s p.toNat 6 = s 6 := us_ne _ _ (by omega)
    rw [e6] at rl2
    obtain ⟨K1, r1, hc1, hi1, hf⟩ := o_X5_readIfTurned G K r s st kp t T h hg p hp hc
    have hv : (-2147483648 : Int) ≤ (((rdZ (tD s p.toNat)).2.2.2.length : Nat) : Int) ∧ (((rdZ (tD s p.toNat)).2.2.2.length : Nat) : Int) < 2147483648 := by omega
    obtain ⟨K2, hm, hR2, h3, hFM⟩ := m0_X6_readIfTurned G (us K1 33 (us (K1 33) 0 ((rdZ (tD s p.toNat)).2.2.2.length : Nat))) r1 s st kp t T (RH_33 (RH_FR hR hf)) hg p hp hc
    exact w_readIfTurned hW hi ep (by decide) hv (h_L_readIfTurned G K r p hp _ hv K1 r1 hc1) hm h3 (fun _ => by rw [hFM 33 (.inr rfl), us_at, us_at]) (cont _ _ ⟨_, _, _, _, _, IC_ext (fun q hq _ => (hFM q (.inl hq)).trans (us_ne _ _ (by omega))) hi1, hg, hR2⟩)
  · skip
    obtain ⟨K1, hx, hi1, hf⟩ := x1_X5_readIfTurned G K r s st kp t T h hg p hp hc
    obtain ⟨K2, hm, hR2, h3, hFM⟩ := m1_X6_readIfTurned G K1 r s st kp t T (RH_FR hR hf) hg p hp hc
    exact w_readIfTurned hW hi ep (by decide) (by decide) (e1_L_readIfTurned G K r p hp K1 hx) hm h3 (fun w => absurd w (by decide)) (cont _ _ ⟨s, st, kp, t, T, IC_ext (fun q hq _ => hFM q (.inl hq)) hi1, hg, hR2⟩)
set_option maxRecDepth 100000 in
set_option maxHeartbeats 4000000 in
theorem s_codeLength {G : GT} {x : CxT} {sa L : Nat} {xs : Nat → Int32} (hW : LW G x sa L xs) {i : Int} (hi : 0 ≤ i ∧ i + 3 < L) {n : Nat} {K : Nat → Nat → Int} {r : Nat → Option Nat} (hG : GG K r) (cont : ∀ K2 r2, GG K2 r2 → LL G x sa 23 (i + 4) K2 r2 n) : LL G x sa 2111 i K r (n + 1) := by
  obtain ⟨s, st, kp, t, T, h, hg, hR⟩ := hG
  obtain ⟨p, hp, ep⟩ := iI_ex (xs (i + 1).toNat)
  by_cases hc : 1 ≤ p ∧ p ≤ 6764
  · skip
    have g := hl_le 18 (gm 18 p.toNat)
    have ecl : cl p = hl 18 (gm 18 p.toNat) + 1 := rfl
    obtain ⟨K1, r1, hc1, hi1, hf⟩ := o_X5_codeLength G K r s st kp t T h hg p hp hc
    have hv : (-2147483648 : Int) ≤ ((cl p : Nat) : Int) ∧ ((cl p : Nat) : Int) < 2147483648 := by omega
    obtain ⟨K2, hm, hR2, h3, hFM⟩ := m0_X6_codeLength G (us K1 33 (us (K1 33) 0 (cl p : Nat))) r1 s st kp t T (RH_33 (RH_FR hR hf)) hg p hp hc
    exact w_codeLength hW hi ep (by decide) hv (h_L_codeLength G K r p hp _ hv K1 r1 hc1) hm h3 (fun _ => by rw [hFM 33 (.inr rfl), us_at, us_at]) (cont _ _ ⟨_, _, _, _, _, IC_ext (fun q hq _ => (hFM q (.inl hq)).trans (us_ne _ _ (by omega))) hi1, hg, hR2⟩)
  · skip
    obtain ⟨K1, hx, hi1, hf⟩ := x1_X5_codeLength G K r s st kp t T h hg p hp hc
    obtain ⟨K2, hm, hR2, h3, hFM⟩ := m1_X6_codeLength G K1 r s st kp t T (RH_FR hR hf) hg p hp hc
    exact w_codeLength hW hi ep (by decide) (by decide) (e1_L_codeLength G K r p hp K1 hx) hm h3 (fun w => absurd w (by decide)) (cont _ _ ⟨s, st, kp, t, T, IC_ext (fun q hq _ => hFM q (.inl hq)) hi1, hg, hR2⟩)
set_option maxRecDepth 100000 in
set_option maxHeartbeats 4000000 in
theorem s_sparseShare {G : GT} {x : CxT} {sa L : Nat} {xs : Nat → Int32} (hW : LW G x sa L xs) {i : Int} (hi : 0 ≤ i ∧ i + 3 < L) {n : Nat} {K : Nat → Nat → Int} {r : Nat → Option Nat} (hG : GG K r) (cont : ∀ K2 r2, GG K2 r2 → LL G x sa 23 (i + 4) K2 r2 n) : LL G x sa 2167 i K r (n + 1) := by
  obtain ⟨s, st, kp, t, T, h, hg, hR⟩ := hG
  obtain ⟨K1, r1, hc1, hi1, hf⟩ := o_X5_sparseShare G K r s st kp t T h hg
  obtain ⟨K2, hm, hR2, h3, hFM⟩ := m0_X6_sparseShare G K1 r1 s st kp t T (RH_FR hR hf) hg
  exact w_sparseShare hW hi hc1 hm (cont _ _ ⟨_, _, _, _, _, IC_ext (fun q hq _ => hFM q (.inl hq)) hi1, hg, hR2⟩)
set_option maxRecDepth 100000 in
set_option maxHeartbeats 4000000 in
theorem s_digest {G : GT} {x : CxT} {sa L : Nat} {xs : Nat → Int32} (hW : LW G x sa L xs) {i : Int} (hi : 0 ≤ i ∧ i + 3 < L) {n : Nat} {K : Nat → Nat → Int} {r : Nat → Option Nat} (hG : GG K r) (cont : ∀ K2 r2, GG K2 r2 → LL G x sa 23 (i + 4) K2 r2 n) : LL G x sa 2208 i K r (n + 1) := by
  obtain ⟨s, st, kp, t, T, h, hg, hR⟩ := hG
  obtain ⟨K1, r1, hc1, hi1, hf⟩ := o_X5_digest G K r s st kp t T h hg
  obtain ⟨K2, hm, hR2, h3, hFM⟩ := m0_X6_digest G K1 r1 s st kp t T (RH_FR hR hf) hg
  exact w_digest hW hi hc1 hm (cont _ _ ⟨_, _, _, _, _, IC_ext (fun q hq _ => hFM q (.inl hq)) hi1, hg, hR2⟩)
