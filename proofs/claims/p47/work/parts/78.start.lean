theorem str_tb : (lw_strs.all fun q => decide (Cond.stringRef q.1 q.2.1 q.2.2 ∈ lw_tbl)) = true := by decide +kernel
theorem str_nw : (lw_strs.all fun q => decide (Cond.exactly (.string q.1 q.2.1) "java/lang/String" ∈ flatC (Jvm.Cond.and given_1 narrow_1))) = true := by decide +kernel
theorem nest_tb : (lw_nest.all fun q => decide (Cond.methodLinkNest q.1 q.2.1 q.2.2.1 q.2.2.2 ∈ lw_tbl)) = true := by decide +kernel
theorem nc_nw : (lw_nc.all fun q => decide (Cond.not (.castable q.1 q.2) ∈ flatC (Jvm.Cond.and given_1 narrow_1))) = true := by decide +kernel
def tWS : Term := .static "ApartSteps" "WORTHS" "[I"
theorem ws_nw : ((List.range 19).all fun j => decide (Cond.eq (.elem tWS (.int (Int32.ofNat j))) (.int (iI (wN j : Nat))) ∈ flatC (Jvm.Cond.and given_1 narrow_1))) = true := by decide +kernel
/-- what is known at the law's start -/
theorem start_KK {l : Launch} (hflags : l.flags = flags0) {args : Array Value} {s : State} (hts : ∀ w ∈ lw_tbl, w.before args s = true) (hgv : (Jvm.Cond.and given_1 narrow_1).before args s = true) : ∀ (b L : Nat) (xs : Nat → Int32), va_X b L xs s s.heap → b < s.heap.size → ∃ (D : va_G) (aC : Nat → ClassId) (wa : Nat) (sa : Nat → Nat), KK (l, s.heap.size, D, aC, wa, sa, b, L, xs) s := by
  intro b L xs hbX hbl
  have hfl := flat_of_before _ hgv
  have hgd : ∀ w ∈ lw_gd, w.before args s = true := fun w hw => hts w (gd_in hw)
  have hA : ∀ a : Nat, a < s.heap.size → ¬ (s.heap.size ≤ a) := fun a h => Nat.not_le.mpr h
  obtain ⟨c0, s0, h0⟩ := u_known (C := RX0) (T := TX0) (N := 1) (n := 1) hgd uX0 (hgd _ niX0.1)
  obtain ⟨c1, s1, h1⟩ := u_known (C := RX1) (T := TX1) (N := 4) (n := 4) hgd uX1 (hgd _ niX1.1)
  obtain ⟨c2, s2, h2⟩ := u_known (C := RX2) (T := TX2) (N := 5) (n := 5) hgd uX2 (hgd _ niX2.1)
  obtain ⟨c3, s3, h3⟩ := u_known (C := RX3) (T := TX3) (N := 6) (n := 6) hgd uX3 (hgd _ niX3.1)
  obtain ⟨c4, s4, h4⟩ := u_known (C := RX4) (T := TX4) (N := 3) (n := 3) hgd uX4 (hgd _ niX4.1)
  obtain ⟨c5, s5, h5⟩ := u_known (C := RX5) (T := TX5) (N := 12) (n := 12) hgd uX5 (hgd _ niX5.1)
  obtain ⟨cI, kI, pI, i1, i2, i3⟩ := Cond.arrayClass_spec (hgd _ k_arr_int)
  obtain ⟨cC, kC, pC, j1, j2, j3⟩ := Cond.arrayClass_spec (hgd _ k_arr_char)
  have hao := hts (Cond.arrayOver (.object "ApartSteps$State")) (tb_1 49 (by decide +kernel))
  obtain ⟨pS, cS, kS, m1, m2, m3, m4, m5⟩ := Cond.arrayOver_spec hao
  obtain ⟨wa, w1, w2⟩ := va_Tof (args := args) (s := s) (tm := tWS) (ty := .int) (N := 19) (f := fun k => .int (iI (wN k : Nat))) (A := fun q => s.heap.size ≤ q) (by decide) (hfl _ (by decide +kernel)) (va_eqt (hfl _ (by decide +kernel))) (fun j hj => va_eqt (hfl _ (of_decide_eq_true (List.all_eq_true.mp ws_nw j (List.mem_range.mpr hj))))) hA
  have hst : ∀ j : Nat, ∃ a : Nat, ∀ q : String × Nat × String, lw_strs[j]? = some q → vk_R q.1 q.2.1 q.2.2 a s := by
    intro j
    rcases hq : lw_strs[j]? with _ | q
    · exact ⟨0, fun q e => by cases e⟩
    · have hm := List.mem_of_getElem? hq
      obtain ⟨a, -, -, -, e1, -⟩ := Cond.exactly_spec (hfl _ (of_decide_eq_true (List.all_eq_true.mp str_nw q hm)))
      refine ⟨a, fun q' e => ?_⟩
      cases e
      exact vk_R.of (hts _ (of_decide_eq_true (List.all_eq_true.mp str_tb q hm))) e1
  obtain ⟨sa, hsa⟩ := Classical.axiomOfChoice hst
  refine ⟨(fun k => if k = 0 then c0 else if k = 1 then c1 else if k = 2 then c2 else if k = 3 then c3 else if k = 4 then c4 else c5, fun k => if k = 0 then s0 else if k = 1 then s1 else if k = 2 then s2 else if k = 3 then s3 else if k = 4 then s4 else s5), fun k => if k = 0 then cI else if k = 1 then cC else cS, wa, sa, ?_, ⟨?_, ?_⟩, Nat.le_refl _, va_Zof (hts _ (tb_1 228 (by decide +kernel))) (hts _ (tb_1 1 (by decide +kernel))) w1 hA, w2, vx_Zqof (hts _ (tb_2 33 (by decide +kernel))) (hts _ (tb_1 7 (by decide +kernel))) (hfl _ (by decide +kernel)) hA, vx_Zqof (hts _ (tb_2 35 (by decide +kernel))) (hts _ (tb_1 7 (by decide +kernel))) (hfl _ (by decide +kernel)) hA, fun j q e => hsa j q e, fun q hq => va_Nw.of rfl (hts _ (of_decide_eq_true (List.all_eq_true.mp nest_tb q hq))), ?_, ?_, fun q hq => va_Nc.of (hfl _ (of_decide_eq_true (List.all_eq_true.mp nc_nw q hq))), va_AO.of hao, hbX, hbl, Nat.not_le.mpr hbl⟩
  · show (!l.flags.contains noTraceFlag) = false
    rw [hflags]
    decide +kernel
  · intro k q hq
    match k, hq with
    | 0, hq => cases hq; exact h0
    | 1, hq => cases hq; exact h1
    | 2, hq => cases hq; exact h2
    | 3, hq => cases hq; exact h3
    | 4, hq => cases hq; exact h4
    | 5, hq => cases hq; exact h5
    | k + 6, hq => exact absurd hq (by simp)
  · intro k q hq
    match k, hq with
    | 0, hq => cases hq; exact ⟨fun n z => ⟨fun k h => (by cases h), kI, i2, pI, i3⟩, i1⟩
    | 1, hq => cases hq; exact ⟨fun n z => ⟨fun k h => (by cases h), kC, j2, pC, j3⟩, j1⟩
    | 2, hq => cases hq; exact ⟨fun n z => ⟨fun k h => (by cases h), kS, m3, pS, m4⟩, kS, pS, m3, m4, m1, m5⟩
    | k + 3, hq => exact absurd hq (by simp [tysO])
  · intro q hq
    rcases List.mem_cons.mp hq with rfl | hq
    · exact va_Nw.of rfl (hts _ (tb_2 101 (by decide +kernel)))
    rcases List.mem_cons.mp hq with rfl | hq
    · exact va_Nw.of rfl (hts _ (tb_2 132 (by decide +kernel)))
    obtain rfl := List.mem_singleton.mp hq
    exact va_Nw.of rfl (hts _ (tb_2 8 (by decide +kernel)))
  · intro y hy
    rcases List.mem_cons.mp hy with rfl | hy
    · exact va_Nw.of rfl (hts _ (tb_2 9 (by decide +kernel)))
    rcases List.mem_cons.mp hy with rfl | hy
    · exact va_Nw.of rfl (hts _ (tb_2 10 (by decide +kernel)))
    rcases List.mem_cons.mp hy with rfl | hy
    · exact va_Nw.of rfl (hts _ (tb_2 11 (by decide +kernel)))
    rcases List.mem_cons.mp hy with rfl | hy
    · exact va_Nw.of rfl (hts _ (tb_2 12 (by decide +kernel)))
    rcases List.mem_cons.mp hy with rfl | hy
    · exact va_Nw.of rfl (hts _ (tb_2 13 (by decide +kernel)))
    obtain rfl := List.mem_singleton.mp hy
    exact va_Nw.of rfl (hts _ (tb_2 14 (by decide +kernel)))
