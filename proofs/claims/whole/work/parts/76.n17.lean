set_option maxRecDepth 100000 in
set_option maxHeartbeats 4000000 in
theorem law_loop {G : GT} {x : CxT} {sa L : Nat} {xs : Nat → Int32} (hW : LW G x sa L xs) (fin : ∀ (i : Int) (K : Nat → Nat → Int) (r : Nat → Option Nat) (o5 o6 o7 o8 : Option Value), V G mL_law x 2228 [some (.ref sa), some (rf G 0), some (rf G 28), some (rf G 33), some (.int (iI i)), o5, o6, o7, o8] [] 34 false (HP G K r) 0 0) : ∀ (n : Nat) (i : Int) (K : Nat → Nat → Int) (r : Nat → Option Nat), 0 ≤ i → i ≤ 4100 → (L : Int) ≤ i + 4 * n + 3 → GG K r → LL G x sa 23 i K r n := by
  have hW0 := hW
  obtain ⟨C, hX, hsz, hA, hL⟩ := hW
  intro n
  induction n with
  | zero =>
    intro i K r h0 h1 h2 hG o5 o6 o7 o8
    refine V_iload C dL_law_23 rfl ?_
    refine V_aload_nq C dL_law_25 rfl rfl ?_
    refine V_slen C dL_law_26 hX hsz hA ?_
    refine V_iconst C dL_law_27 ?_
    refine V_isub C dL_law_28 ?_
    refine V_icmp_gt (tgt := 2228) C dL_law_29 (by decide) (by omega) (by omega) (fun q29 => ?_) (fun q29 => by exfalso; omega)
    exact V_less (Nat.zero_le _) (Nat.zero_le _) (fin _ _ _ _ _ _ _)
  | succ n ih =>
    intro i K r h0 h1 h2 hG o5 o6 o7 o8
    by_cases hx : (L : Int) - 4 < i
    · skip
      refine V_iload C dL_law_23 rfl ?_
      refine V_aload_nq C dL_law_25 rfl rfl ?_
      refine V_slen C dL_law_26 hX hsz hA ?_
      refine V_iconst C dL_law_27 ?_
      refine V_isub C dL_law_28 ?_
      refine V_icmp_gt (tgt := 2228) C dL_law_29 (by decide) (by omega) (by omega) (fun q29 => ?_) (fun q29 => by exfalso; omega)
      exact V_less (Nat.zero_le _) (Nat.zero_le _) (fin _ _ _ _ _ _ _)
    · obtain ⟨c, hc, ec⟩ := wb_of32 (xs i.toNat)
      have ec2 : xs i.toNat = iI (c : Int) := ec.trans (iI_nat c).symm
      have c63 : c &&& 63 ≤ 63 := Nat.and_le_right
      refine V_iload C dL_law_23 rfl ?_
      refine V_aload_nq C dL_law_25 rfl rfl ?_
      refine V_slen C dL_law_26 hX hsz hA ?_
      refine V_iconst C dL_law_27 ?_
      refine V_isub C dL_law_28 ?_
      refine V_icmp_gt (tgt := 2228) C dL_law_29 (by decide) (by omega) (by omega) (fun q29 => by exfalso; omega) (fun q29 => ?_)
      refine V_aload_nq C dL_law_32 rfl rfl ?_
      refine V_iload C dL_law_33 rfl ?_
      refine V_sld C dL_law_35 hX hsz hA (by omega) (by omega) ?_
      rw [ec2]
      refine V_bipush C dL_law_36 (by decide +kernel) ?_
      refine V_iand C dL_law_38 c 63 (by first | rfl | omega) (by first | rfl | omega) ?_
      by_cases q0 : c &&& 63 = 0
      · refine V_tableIn (tgt := 228) C dL_law_39 (by omega) (by omega) (by omega) (by rw [q0]; rfl) (by decide) ?_
        exact s_set hW0 ⟨h0, by omega⟩ hG (fun K2 r2 g => ih (i + 4) K2 r2 (by omega) (by omega) (by omega) g) _ _ _ _
      by_cases q1 : c &&& 63 = 1
      · refine V_tableIn (tgt := 296) C dL_law_39 (by omega) (by omega) (by omega) (by rw [q1]; rfl) (by decide) ?_
        exact s_add hW0 ⟨h0, by omega⟩ hG (fun K2 r2 g => ih (i + 4) K2 r2 (by omega) (by omega) (by omega) g) _ _ _ _
      by_cases q2 : c &&& 63 = 2
      · refine V_tableIn (tgt := 364) C dL_law_39 (by omega) (by omega) (by omega) (by rw [q2]; rfl) (by decide) ?_
        exact s_takeAway hW0 ⟨h0, by omega⟩ hG (fun K2 r2 g => ih (i + 4) K2 r2 (by omega) (by omega) (by omega) g) _ _ _ _
      by_cases q3 : c &&& 63 = 3
      · refine V_tableIn (tgt := 432) C dL_law_39 (by omega) (by omega) (by omega) (by rw [q3]; rfl) (by decide) ?_
        exact s_raise hW0 ⟨h0, by omega⟩ hG (fun K2 r2 g => ih (i + 4) K2 r2 (by omega) (by omega) (by omega) g) _ _ _ _
      by_cases q4 : c &&& 63 = 4
      · refine V_tableIn (tgt := 488) C dL_law_39 (by omega) (by omega) (by omega) (by rw [q4]; rfl) (by decide) ?_
        exact s_pay hW0 ⟨h0, by omega⟩ hG (fun K2 r2 g => ih (i + 4) K2 r2 (by omega) (by omega) (by omega) g) _ _ _ _
      by_cases q5 : c &&& 63 = 5
      · refine V_tableIn (tgt := 568) C dL_law_39 (by omega) (by omega) (by omega) (by rw [q5]; rfl) (by decide) ?_
        exact s_send hW0 ⟨h0, by omega⟩ hG (fun K2 r2 g => ih (i + 4) K2 r2 (by omega) (by omega) (by omega) g) _ _ _ _
      by_cases q6 : c &&& 63 = 6
      · refine V_tableIn (tgt := 624) C dL_law_39 (by omega) (by omega) (by omega) (by rw [q6]; rfl) (by decide) ?_
        exact s_turn hW0 ⟨h0, by omega⟩ hG (fun K2 r2 g => ih (i + 4) K2 r2 (by omega) (by omega) (by omega) g) _ _ _ _
      by_cases q7 : c &&& 63 = 7
      · refine V_tableIn (tgt := 680) C dL_law_39 (by omega) (by omega) (by omega) (by rw [q7]; rfl) (by decide) ?_
        exact s_cut hW0 ⟨h0, by omega⟩ hG (fun K2 r2 g => ih (i + 4) K2 r2 (by omega) (by omega) (by omega) g) _ _ _ _
      by_cases q8 : c &&& 63 = 8
      · refine V_tableIn (tgt := 736) C dL_law_39 (by omega) (by omega) (by omega) (by rw [q8]; rfl) (by decide) ?_
        exact s_append hW0 ⟨h0, by omega⟩ hG (fun K2 r2 g => ih (i + 4) K2 r2 (by omega) (by omega) (by omega) g) _ _ _ _
      by_cases q9 : c &&& 63 = 9
      · refine V_tableIn (tgt := 792) C dL_law_39 (by omega) (by omega) (by omega) (by rw [q9]; rfl) (by decide) ?_
        exact s_clearBuffer hW0 ⟨h0, by omega⟩ hG (fun K2 r2 g => ih (i + 4) K2 r2 (by omega) (by omega) (by omega) g) _ _ _ _
      by_cases q10 : c &&& 63 = 10
      · refine V_tableIn (tgt := 805) C dL_law_39 (by omega) (by omega) (by omega) (by rw [q10]; rfl) (by decide) ?_
        exact s_firstError hW0 ⟨h0, by omega⟩ hG (fun K2 r2 g => ih (i + 4) K2 r2 (by omega) (by omega) (by omega) g) _ _ _ _
      by_cases q11 : c &&& 63 = 11
      · refine V_tableIn (tgt := 818) C dL_law_39 (by omega) (by omega) (by omega) (by rw [q11]; rfl) (by decide) ?_
        exact s_work hW0 ⟨h0, by omega⟩ hG (fun K2 r2 g => ih (i + 4) K2 r2 (by omega) (by omega) (by omega) g) _ _ _ _
      by_cases q12 : c &&& 63 = 12
      · refine V_tableIn (tgt := 862) C dL_law_39 (by omega) (by omega) (by omega) (by rw [q12]; rfl) (by decide) ?_
        exact s_hasStopped hW0 ⟨h0, by omega⟩ hG (fun K2 r2 g => ih (i + 4) K2 r2 (by omega) (by omega) (by omega) g) _ _ _ _
      by_cases q13 : c &&& 63 = 13
      · refine V_tableIn (tgt := 875) C dL_law_39 (by omega) (by omega) (by omega) (by rw [q13]; rfl) (by decide) ?_
        exact s_stoppedPart hW0 ⟨h0, by omega⟩ hG (fun K2 r2 g => ih (i + 4) K2 r2 (by omega) (by omega) (by omega) g) _ _ _ _
      by_cases q14 : c &&& 63 = 14
      · refine V_tableIn (tgt := 919) C dL_law_39 (by omega) (by omega) (by omega) (by rw [q14]; rfl) (by decide) ?_
        exact s_whyStopped hW0 ⟨h0, by omega⟩ hG (fun K2 r2 g => ih (i + 4) K2 r2 (by omega) (by omega) (by omega) g) _ _ _ _
      by_cases q15 : c &&& 63 = 15
      · refine V_tableIn (tgt := 963) C dL_law_39 (by omega) (by omega) (by omega) (by rw [q15]; rfl) (by decide) ?_
        exact s_undo hW0 ⟨h0, by omega⟩ hG (fun K2 r2 g => ih (i + 4) K2 r2 (by omega) (by omega) (by omega) g) _ _ _ _
      by_cases q16 : c &&& 63 = 16
      · refine V_tableIn (tgt := 1007) C dL_law_39 (by omega) (by omega) (by omega) (by rw [q16]; rfl) (by decide) ?_
        exact s_keep hW0 ⟨h0, by omega⟩ hG (fun K2 r2 g => ih (i + 4) K2 r2 (by omega) (by omega) (by omega) g) _ _ _ _
      by_cases q17 : c &&& 63 = 17
      · refine V_tableIn (tgt := 1020) C dL_law_39 (by omega) (by omega) (by omega) (by rw [q17]; rfl) (by decide) ?_
        exact s_restore hW0 ⟨h0, by omega⟩ hG (fun K2 r2 g => ih (i + 4) K2 r2 (by omega) (by omega) (by omega) g) _ _ _ _
      by_cases q18 : c &&& 63 = 18
      · refine V_tableIn (tgt := 1064) C dL_law_39 (by omega) (by omega) (by omega) (by rw [q18]; rfl) (by decide) ?_
        exact s_savedStates hW0 ⟨h0, by omega⟩ hG (fun K2 r2 g => ih (i + 4) K2 r2 (by omega) (by omega) (by omega) g) _ _ _ _
      by_cases q19 : c &&& 63 = 19
      · refine V_tableIn (tgt := 1077) C dL_law_39 (by omega) (by omega) (by omega) (by rw [q19]; rfl) (by decide) ?_
        exact s_worthOf hW0 ⟨h0, by omega⟩ hG (fun K2 r2 g => ih (i + 4) K2 r2 (by omega) (by omega) (by omega) g) _ _ _ _
      by_cases q20 : c &&& 63 = 20
      · refine V_tableIn (tgt := 1133) C dL_law_39 (by omega) (by omega) (by omega) (by rw [q20]; rfl) (by decide) ?_
        exact s_worthOfSet hW0 ⟨h0, by omega⟩ hG (fun K2 r2 g => ih (i + 4) K2 r2 (by omega) (by omega) (by omega) g) _ _ _ _
      by_cases q21 : c &&& 63 = 21
      · refine V_tableIn (tgt := 1189) C dL_law_39 (by omega) (by omega) (by omega) (by rw [q21]; rfl) (by decide) ?_
        exact s_say hW0 ⟨h0, by omega⟩ hG (fun K2 r2 g => ih (i + 4) K2 r2 (by omega) (by omega) (by omega) g) _ _ _ _
      by_cases q22 : c &&& 63 = 22
      · refine V_tableIn (tgt := 1245) C dL_law_39 (by omega) (by omega) (by omega) (by rw [q22]; rfl) (by decide) ?_
        exact s_sayByCounting hW0 ⟨h0, by omega⟩ hG (fun K2 r2 g => ih (i + 4) K2 r2 (by omega) (by omega) (by omega) g) _ _ _ _
      by_cases q23 : c &&& 63 = 23
      · refine V_tableIn (tgt := 1301) C dL_law_39 (by omega) (by omega) (by omega) (by rw [q23]; rfl) (by decide) ?_
        exact s_fullSet hW0 ⟨h0, by omega⟩ hG (fun K2 r2 g => ih (i + 4) K2 r2 (by omega) (by omega) (by omega) g) _ _ _ _
      by_cases q24 : c &&& 63 = 24
      · refine V_tableIn (tgt := 1357) C dL_law_39 (by omega) (by omega) (by omega) (by rw [q24]; rfl) (by decide) ?_
        exact s_ways hW0 ⟨h0, by omega⟩ hG (fun K2 r2 g => ih (i + 4) K2 r2 (by omega) (by omega) (by omega) g) _ _ _ _
      by_cases q25 : c &&& 63 = 25
      · refine V_tableIn (tgt := 1413) C dL_law_39 (by omega) (by omega) (by omega) (by rw [q25]; rfl) (by decide) ?_
        exact s_waysByGaps hW0 ⟨h0, by omega⟩ hG (fun K2 r2 g => ih (i + 4) K2 r2 (by omega) (by omega) (by omega) g) _ _ _ _
      by_cases q26 : c &&& 63 = 26
      · refine V_tableIn (tgt := 1469) C dL_law_39 (by omega) (by omega) (by omega) (by rw [q26]; rfl) (by decide) ?_
        exact s_spokenLength hW0 ⟨h0, by omega⟩ hG (fun K2 r2 g => ih (i + 4) K2 r2 (by omega) (by omega) (by omega) g) _ _ _ _
      by_cases q27 : c &&& 63 = 27
      · refine V_tableIn (tgt := 1537) C dL_law_39 (by omega) (by omega) (by omega) (by rw [q27]; rfl) (by decide) ?_
        exact s_spokenAt hW0 ⟨h0, by omega⟩ hG (fun K2 r2 g => ih (i + 4) K2 r2 (by omega) (by omega) (by omega) g) _ _ _ _
      by_cases q28 : c &&& 63 = 28
      · refine V_tableIn (tgt := 1617) C dL_law_39 (by omega) (by omega) (by omega) (by rw [q28]; rfl) (by decide) ?_
        exact s_numberOf hW0 ⟨h0, by omega⟩ hG (fun K2 r2 g => ih (i + 4) K2 r2 (by omega) (by omega) (by omega) g) _ _ _ _
      by_cases q29 : c &&& 63 = 29
      · refine V_tableIn (tgt := 1673) C dL_law_39 (by omega) (by omega) (by omega) (by rw [q29]; rfl) (by decide) ?_
        exact s_stepsOf hW0 ⟨h0, by omega⟩ hG (fun K2 r2 g => ih (i + 4) K2 r2 (by omega) (by omega) (by omega) g) _ _ _ _
      by_cases q30 : c &&& 63 = 30
      · refine V_tableIn (tgt := 1729) C dL_law_39 (by omega) (by omega) (by omega) (by rw [q30]; rfl) (by decide) ?_
        exact s_total hW0 ⟨h0, by omega⟩ hG (fun K2 r2 g => ih (i + 4) K2 r2 (by omega) (by omega) (by omega) g) _ _ _ _
      by_cases q31 : c &&& 63 = 31
      · refine V_tableIn (tgt := 1742) C dL_law_39 (by omega) (by omega) (by omega) (by rw [q31]; rfl) (by decide) ?_
        exact s_richest hW0 ⟨h0, by omega⟩ hG (fun K2 r2 g => ih (i + 4) K2 r2 (by omega) (by omega) (by omega) g) _ _ _ _
      by_cases q32 : c &&& 63 = 32
      · refine V_tableIn (tgt := 1755) C dL_law_39 (by omega) (by omega) (by omega) (by rw [q32]; rfl) (by decide) ?_
        exact s_sumByCarries hW0 ⟨h0, by omega⟩ hG (fun K2 r2 g => ih (i + 4) K2 r2 (by omega) (by omega) (by omega) g) _ _ _ _
      by_cases q33 : c &&& 63 = 33
      · refine V_tableIn (tgt := 1823) C dL_law_39 (by omega) (by omega) (by omega) (by rw [q33]; rfl) (by decide) ?_
        exact s_carries hW0 ⟨h0, by omega⟩ hG (fun K2 r2 g => ih (i + 4) K2 r2 (by omega) (by omega) (by omega) g) _ _ _ _
      by_cases q34 : c &&& 63 = 34
      · refine V_tableIn (tgt := 1891) C dL_law_39 (by omega) (by omega) (by omega) (by rw [q34]; rfl) (by decide) ?_
        exact s_streamLength hW0 ⟨h0, by omega⟩ hG (fun K2 r2 g => ih (i + 4) K2 r2 (by omega) (by omega) (by omega) g) _ _ _ _
      by_cases q35 : c &&& 63 = 35
      · refine V_tableIn (tgt := 1904) C dL_law_39 (by omega) (by omega) (by omega) (by rw [q35]; rfl) (by decide) ?_
        exact s_digitAt hW0 ⟨h0, by omega⟩ hG (fun K2 r2 g => ih (i + 4) K2 r2 (by omega) (by omega) (by omega) g) _ _ _ _
      by_cases q36 : c &&& 63 = 36
      · refine V_tableIn (tgt := 1960) C dL_law_39 (by omega) (by omega) (by omega) (by rw [q36]; rfl) (by decide) ?_
        exact s_readNumbers hW0 ⟨h0, by omega⟩ hG (fun K2 r2 g => ih (i + 4) K2 r2 (by omega) (by omega) (by omega) g) _ _ _ _
      by_cases q37 : c &&& 63 = 37
      · refine V_tableIn (tgt := 1973) C dL_law_39 (by omega) (by omega) (by omega) (by rw [q37]; rfl) (by decide) ?_
        exact s_readAt hW0 ⟨h0, by omega⟩ hG (fun K2 r2 g => ih (i + 4) K2 r2 (by omega) (by omega) (by omega) g) _ _ _ _
      by_cases q38 : c &&& 63 = 38
      · refine V_tableIn (tgt := 2029) C dL_law_39 (by omega) (by omega) (by omega) (by rw [q38]; rfl) (by decide) ?_
        exact s_errors hW0 ⟨h0, by omega⟩ hG (fun K2 r2 g => ih (i + 4) K2 r2 (by omega) (by omega) (by omega) g) _ _ _ _
      by_cases q39 : c &&& 63 = 39
      · refine V_tableIn (tgt := 2042) C dL_law_39 (by omega) (by omega) (by omega) (by rw [q39]; rfl) (by decide) ?_
        exact s_looseDigits hW0 ⟨h0, by omega⟩ hG (fun K2 r2 g => ih (i + 4) K2 r2 (by omega) (by omega) (by omega) g) _ _ _ _
      by_cases q40 : c &&& 63 = 40
      · refine V_tableIn (tgt := 2055) C dL_law_39 (by omega) (by omega) (by omega) (by rw [q40]; rfl) (by decide) ?_
        exact s_readIfTurned hW0 ⟨h0, by omega⟩ hG (fun K2 r2 g => ih (i + 4) K2 r2 (by omega) (by omega) (by omega) g) _ _ _ _
      by_cases q41 : c &&& 63 = 41
      · refine V_tableIn (tgt := 2111) C dL_law_39 (by omega) (by omega) (by omega) (by rw [q41]; rfl) (by decide) ?_
        exact s_codeLength hW0 ⟨h0, by omega⟩ hG (fun K2 r2 g => ih (i + 4) K2 r2 (by omega) (by omega) (by omega) g) _ _ _ _
      by_cases q42 : c &&& 63 = 42
      · refine V_tableIn (tgt := 2167) C dL_law_39 (by omega) (by omega) (by omega) (by rw [q42]; rfl) (by decide) ?_
        exact s_sparseShare hW0 ⟨h0, by omega⟩ hG (fun K2 r2 g => ih (i + 4) K2 r2 (by omega) (by omega) (by omega) g) _ _ _ _
      by_cases q43 : c &&& 63 = 43
      · refine V_tableIn (tgt := 2208) C dL_law_39 (by omega) (by omega) (by omega) (by rw [q43]; rfl) (by decide) ?_
        exact s_digest hW0 ⟨h0, by omega⟩ hG (fun K2 r2 g => ih (i + 4) K2 r2 (by omega) (by omega) (by omega) g) _ _ _ _
      refine V_tableOut (tgt := 2222) C dL_law_39 (by omega) (by omega) (by decide) ?_
      refine V_iinc C dL_law_2222 rfl (Nat.le_of_ble_eq_true rfl) rfl ?_
      refine V_goto (tgt := 23) C dL_law_2225 (by decide) ?_
      exact V_less (Nat.le_succ n) (by omega) (ih (i + 4) K r (by omega) (by omega) (by omega) hG _ _ _ _)
