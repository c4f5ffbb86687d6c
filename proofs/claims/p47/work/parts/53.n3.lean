set_option maxRecDepth 100000 in
set_option maxHeartbeats 4000000 in
theorem c_X4_clear (G : GT) (K : Nat → Nat → Int) (r : Nat → Option Nat) (a : Nat) (ha : isR a = true)  : CtO G yX4_clear mX4_clear [rf G a] K r (none) (us K a (us (K a) 2 0)) (r) := by
  refine Ct_of kX4_clear.1.1 (by decide) [some (rf G a)] rfl (Nat.le_of_ble_eq_true rfl) ?_
  intro x C hZ
  refine V_aload_n C dX4_clear_0 rfl rfl ?_
  refine V_iconst C dX4_clear_1 ?_
  refine V_putH (L := wyL G a) (ty := .int) C dX4_clear_2 fX4_16 (isR_lt ha) ((fun _ => cO_ry ha _)) rfl (by decide +kernel) (rfl) (rfl) (Nat.le_of_ble_eq_true rfl) rfl ?_
  exact V_vret C dX4_clear_5 rfl hZ rfl
set_option maxRecDepth 100000 in
set_option maxHeartbeats 4000000 in
theorem c_X4_put (G : GT) (K : Nat → Nat → Int) (r : Nat → Option Nat) (a : Nat) (ha : isR a = true) (hs : 0 ≤ K a 2 ∧ K a 2 ≤ 3) (hv : ∀ i, i < (K a 2).toNat → 0 ≤ K (a + 1) i ∧ K (a + 1) i ≤ 100000) (x0 c0 : Int) (hx : 0 ≤ x0 ∧ x0 ≤ 100000) : CtO G yX4_put mX4_put [rf G a, .int (iI x0), .int (iI c0)] K r (none) (putW a x0 c0 K) (r) := by
  refine Ct_of kX4_put.1.1 (by decide) [some (rf G a), some (.int (iI x0)), some (.int (iI c0)), none] rfl (Nat.le_of_ble_eq_true rfl) ?_
  intro x C hZ
  have ha1 : a + 1 ≠ a := by omega
  have ha2 : a + 2 ≠ a := by omega
  have ha12 : a + 2 ≠ a + 1 := by omega
  unfold putW at hZ
  split at hZ
  · rename_i i hi
    obtain ⟨h1, h2, h3⟩ := fnd_some hi
    have loop : ∀ (n j : Nat), j + n = i → V G mX4_put x 2 [some (rf G a), some (.int (iI x0)), some (.int (iI c0)), some (.int (iI (j : Int)))] [] 28 false (HP G K r) 0 0 := by
      intro n
      induction n with
      | zero =>
        intro j e
        obtain rfl : j = i := by omega
        have ej : ((j : Int)).toNat = j := by omega
        have g := hv j (by omega)
        refine V_iload_n C dX4_put_2 rfl rfl ?_
        refine V_aload_n C dX4_put_3 rfl rfl ?_
        refine V_getH (L := wyL G a) C dX4_put_4 fX4_16 (isR_lt ha) ((fun _ => cO_ry ha _)) rfl ?_
        refine V_icmp_ge (tgt := 55) C dX4_put_7 (by decide) (by omega) (by omega) (fun q7 => by exfalso; omega) (fun q7 => ?_)
        refine V_iload_n C dX4_put_10 rfl rfl ?_
        refine V_aload_n C dX4_put_11 rfl rfl ?_
        refine V_getH (L := wyL G a) C dX4_put_12 fX4_7 (isR_lt ha) ((fun _ => cO_ry ha _)) rfl ?_
        refine V_alenH C dX4_put_15 (isR_lt1 ha) ((fun _ => cO_r1 ha _)) ?_
        refine V_icmp_ge (tgt := 55) C dX4_put_16 (by decide) (by omega) (by omega) (fun q16 => by exfalso; omega) (fun q16 => ?_)
        refine V_iload_n C dX4_put_19 rfl rfl ?_
        refine V_aload_n C dX4_put_20 rfl rfl ?_
        refine V_getH (L := wyL G a) C dX4_put_21 fX4_13 (isR_lt ha) ((fun _ => cO_ry ha _)) rfl ?_
        refine V_alenH C dX4_put_24 (isR_lt2 ha) ((fun _ => cO_r2 ha _)) ?_
        refine V_icmp_ge (tgt := 55) C dX4_put_25 (by decide) (by omega) (by omega) (fun q25 => by exfalso; omega) (fun q25 => ?_)
        refine V_aload_n C dX4_put_28 rfl rfl ?_
        refine V_getH (L := wyL G a) C dX4_put_29 fX4_7 (isR_lt ha) ((fun _ => cO_ry ha _)) rfl ?_
        refine V_iload_n C dX4_put_32 rfl rfl ?_
        refine V_ialdH C dX4_put_33 (isR_lt1 ha) ((fun _ => cO_r1 ha _)) (by omega) (by decide) ?_
        rw [ej]
        refine V_iload_n C dX4_put_34 rfl rfl ?_
        refine V_icmp_ne (tgt := 49) C dX4_put_35 (by decide) (by omega) (by omega) (fun q35 => by exfalso; omega) (fun q35 => ?_)
        refine V_aload_n C dX4_put_38 rfl rfl ?_
        refine V_getH (L := wyL G a) C dX4_put_39 fX4_13 (isR_lt ha) ((fun _ => cO_ry ha _)) rfl ?_
        refine V_iload_n C dX4_put_42 rfl rfl ?_
        refine V_dup2 C dX4_put_43 rfl rfl ?_
        refine V_ialdH C dX4_put_44 (isR_lt2 ha) ((fun _ => cO_r2 ha _)) (by omega) (by decide) ?_
        rw [ej]
        refine V_iload_n C dX4_put_45 rfl rfl ?_
        refine V_iadd C dX4_put_46 ?_
        refine V_iastH C dX4_put_47 (isR_lt2 ha) ((fun _ => cO_r2 ha _)) (by omega) (by decide) ?_
        exact V_vret C dX4_put_48 rfl hZ (by rw [ej])
      | succ n ih =>
        intro j e
        have ej : ((j : Int)).toNat = j := by omega
        have g := hv j (by omega)
        have g2 := h3 j (by omega)
        refine V_iload_n C dX4_put_2 rfl rfl ?_
        refine V_aload_n C dX4_put_3 rfl rfl ?_
        refine V_getH (L := wyL G a) C dX4_put_4 fX4_16 (isR_lt ha) ((fun _ => cO_ry ha _)) rfl ?_
        refine V_icmp_ge (tgt := 55) C dX4_put_7 (by decide) (by omega) (by omega) (fun q7 => by exfalso; omega) (fun q7 => ?_)
        refine V_iload_n C dX4_put_10 rfl rfl ?_
        refine V_aload_n C dX4_put_11 rfl rfl ?_
        refine V_getH (L := wyL G a) C dX4_put_12 fX4_7 (isR_lt ha) ((fun _ => cO_ry ha _)) rfl ?_
        refine V_alenH C dX4_put_15 (isR_lt1 ha) ((fun _ => cO_r1 ha _)) ?_
        refine V_icmp_ge (tgt := 55) C dX4_put_16 (by decide) (by omega) (by omega) (fun q16 => by exfalso; omega) (fun q16 => ?_)
        refine V_iload_n C dX4_put_19 rfl rfl ?_
        refine V_aload_n C dX4_put_20 rfl rfl ?_
        refine V_getH (L := wyL G a) C dX4_put_21 fX4_13 (isR_lt ha) ((fun _ => cO_ry ha _)) rfl ?_
        refine V_alenH C dX4_put_24 (isR_lt2 ha) ((fun _ => cO_r2 ha _)) ?_
        refine V_icmp_ge (tgt := 55) C dX4_put_25 (by decide) (by omega) (by omega) (fun q25 => by exfalso; omega) (fun q25 => ?_)
        refine V_aload_n C dX4_put_28 rfl rfl ?_
        refine V_getH (L := wyL G a) C dX4_put_29 fX4_7 (isR_lt ha) ((fun _ => cO_ry ha _)) rfl ?_
        refine V_iload_n C dX4_put_32 rfl rfl ?_
        refine V_ialdH C dX4_put_33 (isR_lt1 ha) ((fun _ => cO_r1 ha _)) (by omega) (by decide) ?_
        rw [ej]
        refine V_iload_n C dX4_put_34 rfl rfl ?_
        refine V_icmp_ne (tgt := 49) C dX4_put_35 (by decide) (by omega) (by omega) (fun q35 => ?_) (fun q35 => by exfalso; omega)
        refine V_iinc C dX4_put_49 rfl (Nat.le_of_ble_eq_true rfl) rfl ?_
        refine V_goto (tgt := 2) C dX4_put_52 (by decide) ?_
        exact ih (j + 1) (by omega)
    refine V_iconst C dX4_put_0 ?_
    refine V_istore_n C dX4_put_1 rfl (Nat.le_of_ble_eq_true rfl) rfl ?_
    exact loop i 0 (by omega)
  · rename_i hi
    have h3 := fnd_none hi
    have loop : ∀ (n j : Nat), j + n = (K a 2).toNat → V G mX4_put x 2 [some (rf G a), some (.int (iI x0)), some (.int (iI c0)), some (.int (iI (j : Int)))] [] 28 false (HP G K r) 0 0 := by
      intro n
      induction n with
      | zero =>
        intro j e
        refine V_iload_n C dX4_put_2 rfl rfl ?_
        refine V_aload_n C dX4_put_3 rfl rfl ?_
        refine V_getH (L := wyL G a) C dX4_put_4 fX4_16 (isR_lt ha) ((fun _ => cO_ry ha _)) rfl ?_
        refine V_icmp_ge (tgt := 55) C dX4_put_7 (by decide) (by omega) (by omega) (fun q7 => ?_) (fun q7 => by exfalso; omega)
        refine V_aload_n C dX4_put_55 rfl rfl ?_
        refine V_getH (L := wyL G a) C dX4_put_56 fX4_16 (isR_lt ha) ((fun _ => cO_ry ha _)) rfl ?_
        refine V_if_lt (tgt := 116) C dX4_put_59 (by decide) (by omega) (fun q59 => by exfalso; omega) (fun q59 => ?_)
        refine V_aload_n C dX4_put_62 rfl rfl ?_
        refine V_getH (L := wyL G a) C dX4_put_63 fX4_16 (isR_lt ha) ((fun _ => cO_ry ha _)) rfl ?_
        refine V_aload_n C dX4_put_66 rfl rfl ?_
        refine V_getH (L := wyL G a) C dX4_put_67 fX4_7 (isR_lt ha) ((fun _ => cO_ry ha _)) rfl ?_
        refine V_alenH C dX4_put_70 (isR_lt1 ha) ((fun _ => cO_r1 ha _)) ?_
        refine V_icmp_ge (tgt := 116) C dX4_put_71 (by decide) (by omega) (by omega) (fun q71 => by exfalso; omega) (fun q71 => ?_)
        refine V_aload_n C dX4_put_74 rfl rfl ?_
        refine V_getH (L := wyL G a) C dX4_put_75 fX4_16 (isR_lt ha) ((fun _ => cO_ry ha _)) rfl ?_
        refine V_aload_n C dX4_put_78 rfl rfl ?_
        refine V_getH (L := wyL G a) C dX4_put_79 fX4_13 (isR_lt ha) ((fun _ => cO_ry ha _)) rfl ?_
        refine V_alenH C dX4_put_82 (isR_lt2 ha) ((fun _ => cO_r2 ha _)) ?_
        refine V_icmp_ge (tgt := 116) C dX4_put_83 (by decide) (by omega) (by omega) (fun q83 => by exfalso; omega) (fun q83 => ?_)
        refine V_aload_n C dX4_put_86 rfl rfl ?_
        refine V_getH (L := wyL G a) C dX4_put_87 fX4_7 (isR_lt ha) ((fun _ => cO_ry ha _)) rfl ?_
        refine V_aload_n C dX4_put_90 rfl rfl ?_
        refine V_getH (L := wyL G a) C dX4_put_91 fX4_16 (isR_lt ha) ((fun _ => cO_ry ha _)) rfl ?_
        refine V_iload_n C dX4_put_94 rfl rfl ?_
        refine V_iastH C dX4_put_95 (isR_lt1 ha) ((fun _ => cO_r1 ha _)) (by omega) (by decide) ?_
        refine V_aload_n C dX4_put_96 rfl rfl ?_
        refine V_getH (L := wyL G a) C dX4_put_97 fX4_13 (isR_lt ha) ((fun _ => cO_ry ha _)) rfl ?_
        refine V_aload_n C dX4_put_100 rfl rfl ?_
        refine V_getH (L := wyL G a) C dX4_put_101 fX4_16 (isR_lt ha) ((fun _ => cO_ry ha _)) rfl ?_
        rw [us_ne _ _ (Ne.symm ha1)]
        refine V_iload_n C dX4_put_104 rfl rfl ?_
        refine V_iastH C dX4_put_105 (isR_lt2 ha) ((fun _ => cO_r2 ha _)) (by omega) (by decide) ?_
        refine V_aload_n C dX4_put_106 rfl rfl ?_
        refine V_dup C dX4_put_107 rfl ?_
        refine V_getH (L := wyL G a) C dX4_put_108 fX4_16 (isR_lt ha) ((fun _ => cO_ry ha _)) rfl ?_
        rw [us_ne _ _ (Ne.symm ha2), us_ne _ _ (Ne.symm ha1)]
        refine V_iconst C dX4_put_111 ?_
        refine V_iadd C dX4_put_112 ?_
        refine V_putH (L := wyL G a) (ty := .int) C dX4_put_113 fX4_16 (isR_lt ha) ((fun _ => cO_ry ha _)) rfl (by decide +kernel) (rfl) (rfl) (Nat.le_of_ble_eq_true rfl) rfl ?_
        exact V_vret C dX4_put_116 rfl hZ (by rw [us_ne _ _ ha12, us_ne _ _ (Ne.symm ha2), us_ne _ _ (Ne.symm ha1)])
      | succ n ih =>
        intro j e
        have ej : ((j : Int)).toNat = j := by omega
        have g := hv j (by omega)
        have g2 := h3 j (by omega)
        refine V_iload_n C dX4_put_2 rfl rfl ?_
        refine V_aload_n C dX4_put_3 rfl rfl ?_
        refine V_getH (L := wyL G a) C dX4_put_4 fX4_16 (isR_lt ha) ((fun _ => cO_ry ha _)) rfl ?_
        refine V_icmp_ge (tgt := 55) C dX4_put_7 (by decide) (by omega) (by omega) (fun q7 => by exfalso; omega) (fun q7 => ?_)
        refine V_iload_n C dX4_put_10 rfl rfl ?_
        refine V_aload_n C dX4_put_11 rfl rfl ?_
        refine V_getH (L := wyL G a) C dX4_put_12 fX4_7 (isR_lt ha) ((fun _ => cO_ry ha _)) rfl ?_
        refine V_alenH C dX4_put_15 (isR_lt1 ha) ((fun _ => cO_r1 ha _)) ?_
        refine V_icmp_ge (tgt := 55) C dX4_put_16 (by decide) (by omega) (by omega) (fun q16 => by exfalso; omega) (fun q16 => ?_)
        refine V_iload_n C dX4_put_19 rfl rfl ?_
        refine V_aload_n C dX4_put_20 rfl rfl ?_
        refine V_getH (L := wyL G a) C dX4_put_21 fX4_13 (isR_lt ha) ((fun _ => cO_ry ha _)) rfl ?_
        refine V_alenH C dX4_put_24 (isR_lt2 ha) ((fun _ => cO_r2 ha _)) ?_
        refine V_icmp_ge (tgt := 55) C dX4_put_25 (by decide) (by omega) (by omega) (fun q25 => by exfalso; omega) (fun q25 => ?_)
        refine V_aload_n C dX4_put_28 rfl rfl ?_
        refine V_getH (L := wyL G a) C dX4_put_29 fX4_7 (isR_lt ha) ((fun _ => cO_ry ha _)) rfl ?_
        refine V_iload_n C dX4_put_32 rfl rfl ?_
        refine V_ialdH C dX4_put_33 (isR_lt1 ha) ((fun _ => cO_r1 ha _)) (by omega) (by decide) ?_
        rw [ej]
        refine V_iload_n C dX4_put_34 rfl rfl ?_
        refine V_icmp_ne (tgt := 49) C dX4_put_35 (by decide) (by omega) (by omega) (fun q35 => ?_) (fun q35 => by exfalso; omega)
        refine V_iinc C dX4_put_49 rfl (Nat.le_of_ble_eq_true rfl) rfl ?_
        refine V_goto (tgt := 2) C dX4_put_52 (by decide) ?_
        exact ih (j + 1) (by omega)
    refine V_iconst C dX4_put_0 ?_
    refine V_istore_n C dX4_put_1 rfl (Nat.le_of_ble_eq_true rfl) rfl ?_
    exact loop (K a 2).toNat 0 (by omega)
set_option maxRecDepth 100000 in
set_option maxHeartbeats 4000000 in
theorem c_X4_countOf (G : GT) (K : Nat → Nat → Int) (r : Nat → Option Nat) (a : Nat) (ha : isR a = true) (l : List (Nat × Nat)) (hR : RW K a l) (hl : l.length ≤ 2) (hv : ∀ i, i < l.length → (l.getD i (0, 0)).1 ≤ 6764) : CtO G yX4_countOf mX4_countOf [rf G a, .int (iI 0)] K r (some (.int (iI ((lct l : Nat) : Int)))) (K) (r) := by
  refine Ct_of kX4_countOf.1.1 (by decide) [some (rf G a), some (.int (iI 0)), none] rfl (Nat.le_of_ble_eq_true rfl) ?_
  intro x C hZ
  have hs := hR.1
  have hF := RW_fnd hR 0
  unfold lct at hZ
  rw [← hF] at hZ
  split at hZ
  · rename_i i hi
    obtain ⟨h1, h2, h3⟩ := fnd_some hi
    have loop : ∀ (n j : Nat), j + n = i → V G mX4_countOf x 2 [some (rf G a), some (.int (iI 0)), some (.int (iI (j : Int)))] [] 28 false (HP G K r) 0 0 := by
      intro n
      induction n with
      | zero =>
        intro j e
        obtain rfl : j = i := by omega
        have ej : ((j : Int)).toNat = j := by omega
        have g := hR.2 j (by omega)
        refine V_iload_n C dX4_countOf_2 rfl rfl ?_
        refine V_aload_n C dX4_countOf_3 rfl rfl ?_
        refine V_getH (L := wyL G a) C dX4_countOf_4 fX4_16 (isR_lt ha) ((fun _ => cO_ry ha _)) rfl ?_
        refine V_icmp_ge (tgt := 51) C dX4_countOf_7 (by decide) (by omega) (by omega) (fun q7 => by exfalso; omega) (fun q7 => ?_)
        refine V_iload_n C dX4_countOf_10 rfl rfl ?_
        refine V_aload_n C dX4_countOf_11 rfl rfl ?_
        refine V_getH (L := wyL G a) C dX4_countOf_12 fX4_7 (isR_lt ha) ((fun _ => cO_ry ha _)) rfl ?_
        refine V_alenH C dX4_countOf_15 (isR_lt1 ha) ((fun _ => cO_r1 ha _)) ?_
        refine V_icmp_ge (tgt := 51) C dX4_countOf_16 (by decide) (by omega) (by omega) (fun q16 => by exfalso; omega) (fun q16 => ?_)
        refine V_iload_n C dX4_countOf_19 rfl rfl ?_
        refine V_aload_n C dX4_countOf_20 rfl rfl ?_
        refine V_getH (L := wyL G a) C dX4_countOf_21 fX4_13 (isR_lt ha) ((fun _ => cO_ry ha _)) rfl ?_
        refine V_alenH C dX4_countOf_24 (isR_lt2 ha) ((fun _ => cO_r2 ha _)) ?_
        refine V_icmp_ge (tgt := 51) C dX4_countOf_25 (by decide) (by omega) (by omega) (fun q25 => by exfalso; omega) (fun q25 => ?_)
        refine V_aload_n C dX4_countOf_28 rfl rfl ?_
        refine V_getH (L := wyL G a) C dX4_countOf_29 fX4_7 (isR_lt ha) ((fun _ => cO_ry ha _)) rfl ?_
        refine V_iload_n C dX4_countOf_32 rfl rfl ?_
        refine V_ialdH C dX4_countOf_33 (isR_lt1 ha) ((fun _ => cO_r1 ha _)) (by omega) (by decide) ?_
        rw [ej]
        refine V_iload_n C dX4_countOf_34 rfl rfl ?_
        refine V_icmp_ne (tgt := 45) C dX4_countOf_35 (by decide) (by omega) (by omega) (fun q35 => by exfalso; omega) (fun q35 => ?_)
        refine V_aload_n C dX4_countOf_38 rfl rfl ?_
        refine V_getH (L := wyL G a) C dX4_countOf_39 fX4_13 (isR_lt ha) ((fun _ => cO_ry ha _)) rfl ?_
        refine V_iload_n C dX4_countOf_42 rfl rfl ?_
        refine V_ialdH C dX4_countOf_43 (isR_lt2 ha) ((fun _ => cO_r2 ha _)) (by omega) (by decide) ?_
        rw [ej]
        exact V_iret C dX4_countOf_44 rfl hZ g.2 rfl
      | succ n ih =>
        intro j e
        have ej : ((j : Int)).toNat = j := by omega
        have g := hR.2 j (by omega)
        have g1 := hv j (by omega)
        have g2 := h3 j (by omega)
        refine V_iload_n C dX4_countOf_2 rfl rfl ?_
        refine V_aload_n C dX4_countOf_3 rfl rfl ?_
        refine V_getH (L := wyL G a) C dX4_countOf_4 fX4_16 (isR_lt ha) ((fun _ => cO_ry ha _)) rfl ?_
        refine V_icmp_ge (tgt := 51) C dX4_countOf_7 (by decide) (by omega) (by omega) (fun q7 => by exfalso; omega) (fun q7 => ?_)
        refine V_iload_n C dX4_countOf_10 rfl rfl ?_
        refine V_aload_n C dX4_countOf_11 rfl rfl ?_
        refine V_getH (L := wyL G a) C dX4_countOf_12 fX4_7 (isR_lt ha) ((fun _ => cO_ry ha _)) rfl ?_
        refine V_alenH C dX4_countOf_15 (isR_lt1 ha) ((fun _ => cO_r1 ha _)) ?_
        refine V_icmp_ge (tgt := 51) C dX4_countOf_16 (by decide) (by omega) (by omega) (fun q16 => by exfalso; omega) (fun q16 => ?_)
        refine V_iload_n C dX4_countOf_19 rfl rfl ?_
        refine V_aload_n C dX4_countOf_20 rfl rfl ?_
        refine V_getH (L := wyL G a) C dX4_countOf_21 fX4_13 (isR_lt ha) ((fun _ => cO_ry ha _)) rfl ?_
        refine V_alenH C dX4_countOf_24 (isR_lt2 ha) ((fun _ => cO_r2 ha _)) ?_
        refine V_icmp_ge (tgt := 51) C dX4_countOf_25 (by decide) (by omega) (by omega) (fun q25 => by exfalso; omega) (fun q25 => ?_)
        refine V_aload_n C dX4_countOf_28 rfl rfl ?_
        refine V_getH (L := wyL G a) C dX4_countOf_29 fX4_7 (isR_lt ha) ((fun _ => cO_ry ha _)) rfl ?_
        refine V_iload_n C dX4_countOf_32 rfl rfl ?_
        refine V_ialdH C dX4_countOf_33 (isR_lt1 ha) ((fun _ => cO_r1 ha _)) (by omega) (by decide) ?_
        rw [ej]
        refine V_iload_n C dX4_countOf_34 rfl rfl ?_
        refine V_icmp_ne (tgt := 45) C dX4_countOf_35 (by decide) (by omega) (by omega) (fun q35 => ?_) (fun q35 => by exfalso; omega)
        refine V_iinc C dX4_countOf_45 rfl (Nat.le_of_ble_eq_true rfl) rfl ?_
        refine V_goto (tgt := 2) C dX4_countOf_48 (by decide) ?_
        exact ih (j + 1) (by omega)
    refine V_iconst C dX4_countOf_0 ?_
    refine V_istore_n C dX4_countOf_1 rfl (Nat.le_of_ble_eq_true rfl) rfl ?_
    exact loop i 0 (by omega)
  · rename_i hi
    have h3 := fnd_none hi
    have loop : ∀ (n j : Nat), j + n = l.length → V G mX4_countOf x 2 [some (rf G a), some (.int (iI 0)), some (.int (iI (j : Int)))] [] 28 false (HP G K r) 0 0 := by
      intro n
      induction n with
      | zero =>
        intro j e
        refine V_iload_n C dX4_countOf_2 rfl rfl ?_
        refine V_aload_n C dX4_countOf_3 rfl rfl ?_
        refine V_getH (L := wyL G a) C dX4_countOf_4 fX4_16 (isR_lt ha) ((fun _ => cO_ry ha _)) rfl ?_
        refine V_icmp_ge (tgt := 51) C dX4_countOf_7 (by decide) (by omega) (by omega) (fun q7 => ?_) (fun q7 => by exfalso; omega)
        refine V_iconst C dX4_countOf_51 ?_
        exact V_iret C dX4_countOf_52 rfl hZ (by first | rfl | omega) rfl
      | succ n ih =>
        intro j e
        have ej : ((j : Int)).toNat = j := by omega
        have g := hR.2 j (by omega)
        have g1 := hv j (by omega)
        have g2 := h3 j (by omega)
        refine V_iload_n C dX4_countOf_2 rfl rfl ?_
        refine V_aload_n C dX4_countOf_3 rfl rfl ?_
        refine V_getH (L := wyL G a) C dX4_countOf_4 fX4_16 (isR_lt ha) ((fun _ => cO_ry ha _)) rfl ?_
        refine V_icmp_ge (tgt := 51) C dX4_countOf_7 (by decide) (by omega) (by omega) (fun q7 => by exfalso; omega) (fun q7 => ?_)
        refine V_iload_n C dX4_countOf_10 rfl rfl ?_
        refine V_aload_n C dX4_countOf_11 rfl rfl ?_
        refine V_getH (L := wyL G a) C dX4_countOf_12 fX4_7 (isR_lt ha) ((fun _ => cO_ry ha _)) rfl ?_
        refine V_alenH C dX4_countOf_15 (isR_lt1 ha) ((fun _ => cO_r1 ha _)) ?_
        refine V_icmp_ge (tgt := 51) C dX4_countOf_16 (by decide) (by omega) (by omega) (fun q16 => by exfalso; omega) (fun q16 => ?_)
        refine V_iload_n C dX4_countOf_19 rfl rfl ?_
        refine V_aload_n C dX4_countOf_20 rfl rfl ?_
        refine V_getH (L := wyL G a) C dX4_countOf_21 fX4_13 (isR_lt ha) ((fun _ => cO_ry ha _)) rfl ?_
        refine V_alenH C dX4_countOf_24 (isR_lt2 ha) ((fun _ => cO_r2 ha _)) ?_
        refine V_icmp_ge (tgt := 51) C dX4_countOf_25 (by decide) (by omega) (by omega) (fun q25 => by exfalso; omega) (fun q25 => ?_)
        refine V_aload_n C dX4_countOf_28 rfl rfl ?_
        refine V_getH (L := wyL G a) C dX4_countOf_29 fX4_7 (isR_lt ha) ((fun _ => cO_ry ha _)) rfl ?_
        refine V_iload_n C dX4_countOf_32 rfl rfl ?_
        refine V_ialdH C dX4_countOf_33 (isR_lt1 ha) ((fun _ => cO_r1 ha _)) (by omega) (by decide) ?_
        rw [ej]
        refine V_iload_n C dX4_countOf_34 rfl rfl ?_
        refine V_icmp_ne (tgt := 45) C dX4_countOf_35 (by decide) (by omega) (by omega) (fun q35 => ?_) (fun q35 => by exfalso; omega)
        refine V_iinc C dX4_countOf_45 rfl (Nat.le_of_ble_eq_true rfl) rfl ?_
        refine V_goto (tgt := 2) C dX4_countOf_48 (by decide) ?_
        exact ih (j + 1) (by omega)
    refine V_iconst C dX4_countOf_0 ?_
    refine V_istore_n C dX4_countOf_1 rfl (Nat.le_of_ble_eq_true rfl) rfl ?_
    exact loop l.length 0 (by omega)
set_option maxRecDepth 100000 in
set_option maxHeartbeats 4000000 in
theorem c_X4_goOn (G : GT) (K : Nat → Nat → Int) (r : Nat → Option Nat) (a : Nat) (ha : isR a = true) (b : Nat) (hb : isR b = true) (hab : a ≠ b) (s : Nat) (hs : s ≤ 17) (l : List (Nat × Nat)) (hR : RW K a l) (hB : RW K b []) (hl : l.length ≤ 2) (hv : ∀ i, i < l.length → (l.getD i (0, 0)).1 ≤ 6764) : CtO G yX4_goOn mX4_goOn [rf G a, .int (iI (s : Int)), rf G b] K r (none) (goW a b s K l.length) (r) := by
  refine Ct_of kX4_goOn.1.1 (by decide) [some (rf G a), some (.int (iI (s : Int))), some (rf G b), none, none] rfl (Nat.le_of_ble_eq_true rfl) ?_
  intro x C hZ
  have ca := isR_c ha
  have cb := isR_c hb
  have h0 : a ≠ b := hab
  have h1 : a ≠ b + 1 := by omega
  have h2 : a ≠ b + 2 := by omega
  have h3 : a + 1 ≠ b := by omega
  have h4 : a + 1 ≠ b + 1 := by omega
  have h5 : a + 1 ≠ b + 2 := by omega
  have h6 : a + 2 ≠ b := by omega
  have h7 : a + 2 ≠ b + 1 := by omega
  have h8 : a + 2 ≠ b + 2 := by omega
  have loop : ∀ (n j : Nat) (o4 : Option Value), j + n = l.length → j ≤ l.length → V G mX4_goOn x 2 [some (rf G a), some (.int (iI (s : Int))), some (rf G b), some (.int (iI (j : Int))), o4] [] 28 false (HP G (goW a b s K j) r) 0 0 := by
    intro n
    induction n with
    | zero =>
      intro j o4 e ejl
      have wa : goW a b s K j a = K a := goW_ne h0 h1 h2 j
      refine V_iload_n C dX4_goOn_2 rfl rfl ?_
      refine V_aload_n C dX4_goOn_3 rfl rfl ?_
      refine V_getH (L := wyL G a) C dX4_goOn_4 fX4_16 (isR_lt ha) ((fun _ => cO_ry ha _)) rfl ?_
      rw [wa, hR.1]
      refine V_icmp_ge (tgt := 102) C dX4_goOn_7 (by decide) (by omega) (by omega) (fun q7 => ?_) (fun q7 => by exfalso; omega)
      exact V_vret C dX4_goOn_102 rfl hZ (by rw [show j = l.length by omega])
    | succ n ih =>
      intro j o4 e ejl
      have ej : ((j : Int)).toNat = j := by omega
      have wa : goW a b s K j a = K a := goW_ne h0 h1 h2 j
      have wa1 : goW a b s K j (a + 1) = K (a + 1) := goW_ne h3 h4 h5 j
      have wa2 : goW a b s K j (a + 2) = K (a + 2) := goW_ne h6 h7 h8 j
      have hRW := RW_goW (s := s) hR hB j ejl
      have g := hR.2 j (by omega)
      have g1 := hv j (by omega)
      have hAl := rwG_len s l j
      have w1 := wN_22 (k := s) (by omega)
      have w2 := wS_22 (k := s) (by omega)
      obtain ⟨KW, hKW⟩ : ∃ KW, KW = goW a b s K j := ⟨_, rfl⟩
      obtain ⟨AC, hAC⟩ : ∃ AC, AC = rwG s l j := ⟨_, rfl⟩
      rw [← hKW] at wa wa1 wa2 hRW ⊢
      rw [← hAC] at hRW hAl
      have hAv : ∀ i, i < AC.length → (AC.getD i (0, 0)).1 ≤ 6764 := by rw [hAC]; exact rwG_v s l hv j (by omega)
      have hAv1 : ∀ i, i < (rwP (l.getD j (0, 0)).1 (l.getD j (0, 0)).2 AC).length → ((rwP (l.getD j (0, 0)).1 (l.getD j (0, 0)).2 AC).getD i (0, 0)).1 ≤ 6764 := rwP_v _ _ _ g1 hAv
      rcases (show ((l.getD j (0, 0)).1 ≤ wS s ∧ wN s ≤ (l.getD j (0, 0)).1 ∧ (l.getD j (0, 0)).1 - wN s ≤ wS s) ∨ ((l.getD j (0, 0)).1 ≤ wS s ∧ ¬ wN s ≤ (l.getD j (0, 0)).1) ∨ ((l.getD j (0, 0)).1 ≤ wS s ∧ wN s ≤ (l.getD j (0, 0)).1 ∧ ¬ (l.getD j (0, 0)).1 - wN s ≤ wS s) ∨ (¬ (l.getD j (0, 0)).1 ≤ wS s ∧ wN s ≤ (l.getD j (0, 0)).1 ∧ (l.getD j (0, 0)).1 - wN s ≤ wS s) ∨ (¬ (l.getD j (0, 0)).1 ≤ wS s ∧ ¬ wN s ≤ (l.getD j (0, 0)).1) ∨ (¬ (l.getD j (0, 0)).1 ≤ wS s ∧ wN s ≤ (l.getD j (0, 0)).1 ∧ ¬ (l.getD j (0, 0)).1 - wN s ≤ wS s) by omega) with ⟨u1, u2⟩ | ⟨u1, u2⟩ | ⟨u1, u2⟩ | ⟨u1, u2⟩ | ⟨u1, u2⟩ | ⟨u1, u2⟩
      · obtain ⟨K1, hK1⟩ : ∃ K1, K1 = (putW b ((l.getD j (0, 0)).1 : Nat) ((l.getD j (0, 0)).2 : Nat) KW) := ⟨_, rfl⟩
        have hR1 : RW K1 b (rwP (l.getD j (0, 0)).1 (l.getD j (0, 0)).2 AC) := by rw [hK1]; exact RW_put hRW _ _
        have hl1 : (rwP (l.getD j (0, 0)).1 (l.getD j (0, 0)).2 AC).length ≤ 3 := by have := rwP_len (l.getD j (0, 0)).1 (l.getD j (0, 0)).2 AC; omega
        have wb : K1 a = KW a := by rw [hK1, putW_ne h0 h1 h2]
        have wb1 : K1 (a + 1) = KW (a + 1) := by rw [hK1, putW_ne h3 h4 h5]
        have wb2 : K1 (a + 2) = KW (a + 2) := by rw [hK1, putW_ne h6 h7 h8]
        refine V_iload_n C dX4_goOn_2 rfl rfl ?_
        refine V_aload_n C dX4_goOn_3 rfl rfl ?_
        refine V_getH (L := wyL G a) C dX4_goOn_4 fX4_16 (isR_lt ha) ((fun _ => cO_ry ha _)) rfl ?_
        rw [wa, hR.1]
        refine V_icmp_ge (tgt := 102) C dX4_goOn_7 (by decide) (by omega) (by omega) (fun q7 => by exfalso; omega) (fun q7 => ?_)
        refine V_iload_n C dX4_goOn_10 rfl rfl ?_
        refine V_aload_n C dX4_goOn_11 rfl rfl ?_
        refine V_getH (L := wyL G a) C dX4_goOn_12 fX4_7 (isR_lt ha) ((fun _ => cO_ry ha _)) rfl ?_
        refine V_alenH C dX4_goOn_15 (isR_lt1 ha) ((fun _ => cO_r1 ha _)) ?_
        refine V_icmp_ge (tgt := 102) C dX4_goOn_16 (by decide) (by omega) (by omega) (fun q16 => by exfalso; omega) (fun q16 => ?_)
        refine V_iload_n C dX4_goOn_19 rfl rfl ?_
        refine V_aload_n C dX4_goOn_20 rfl rfl ?_
        refine V_getH (L := wyL G a) C dX4_goOn_21 fX4_13 (isR_lt ha) ((fun _ => cO_ry ha _)) rfl ?_
        refine V_alenH C dX4_goOn_24 (isR_lt2 ha) ((fun _ => cO_r2 ha _)) ?_
        refine V_icmp_ge (tgt := 102) C dX4_goOn_25 (by decide) (by omega) (by omega) (fun q25 => by exfalso; omega) (fun q25 => ?_)
        refine V_aload_n C dX4_goOn_28 rfl rfl ?_
        refine V_getH (L := wyL G a) C dX4_goOn_29 fX4_7 (isR_lt ha) ((fun _ => cO_ry ha _)) rfl ?_
        refine V_iload_n C dX4_goOn_32 rfl rfl ?_
        refine V_ialdH C dX4_goOn_33 (isR_lt1 ha) ((fun _ => cO_r1 ha _)) (by omega) (by decide) ?_
        rw [ej, wa1, g.1]
        refine V_iload_n C dX4_goOn_34 rfl rfl ?_
        refine V_SN1 (k2 := 0) (s2 := 0) C dX4_goOn_35 lX4_20 kX5_worthBelow (c_X5_worthBelow s hs G 28 false _) rfl rfl ⟨Nat.le_of_ble_eq_true rfl, Nat.le_of_ble_eq_true rfl⟩ (Nat.le_of_ble_eq_true rfl) (Nat.le_refl _) (Nat.le_refl _) ?_
        refine V_icmp_gt (tgt := 57) C dX4_goOn_38 (by decide) (by omega) (by omega) (fun q38 => by exfalso; omega) (fun q38 => ?_)
        refine V_aload_n C dX4_goOn_41 rfl rfl ?_
        refine V_aload_n C dX4_goOn_42 rfl rfl ?_
        refine V_getH (L := wyL G a) C dX4_goOn_43 fX4_7 (isR_lt ha) ((fun _ => cO_ry ha _)) rfl ?_
        refine V_iload_n C dX4_goOn_46 rfl rfl ?_
        refine V_ialdH C dX4_goOn_47 (isR_lt1 ha) ((fun _ => cO_r1 ha _)) (by omega) (by decide) ?_
        rw [ej, wa1, g.1]
        refine V_aload_n C dX4_goOn_48 rfl rfl ?_
        refine V_getH (L := wyL G a) C dX4_goOn_49 fX4_13 (isR_lt ha) ((fun _ => cO_ry ha _)) rfl ?_
        refine V_iload_n C dX4_goOn_52 rfl rfl ?_
        refine V_ialdH C dX4_goOn_53 (isR_lt2 ha) ((fun _ => cO_r2 ha _)) (by omega) (by decide) ?_
        rw [ej, wa2, g.2]
        refine V_V0 (k2 := 0) (s2 := 0) C dX4_goOn_54 lX4_26 kX4_put (c_X4_put G KW r b hb (by rw [hRW.1]; omega) (RW_rng hRW hAv) _ _ (by omega)) (isR_lt hb) ((fun _ => cO_ry hb _) _) rfl rfl rfl ⟨Nat.le_of_ble_eq_true rfl, Nat.le_of_ble_eq_true rfl⟩ (Nat.le_of_ble_eq_true rfl) (Nat.le_refl _) (Nat.le_refl _) ?_
        rw [← hK1]
        refine V_aload_n C dX4_goOn_57 rfl rfl ?_
        refine V_getH (L := wyL G a) C dX4_goOn_58 fX4_7 (isR_lt ha) ((fun _ => cO_ry ha _)) rfl ?_
        refine V_iload_n C dX4_goOn_61 rfl rfl ?_
        refine V_ialdH C dX4_goOn_62 (isR_lt1 ha) ((fun _ => cO_r1 ha _)) (by omega) (by decide) ?_
        rw [ej, wb1, wa1, g.1]
        refine V_iload_n C dX4_goOn_63 rfl rfl ?_
        refine V_SN1 (k2 := 0) (s2 := 0) C dX4_goOn_64 lX4_30 kX5_worth (c_X5_worth s (by omega) G 28 false _) rfl rfl ⟨Nat.le_of_ble_eq_true rfl, Nat.le_of_ble_eq_true rfl⟩ (Nat.le_of_ble_eq_true rfl) (Nat.le_refl _) (Nat.le_refl _) ?_
        refine V_isub C dX4_goOn_67 ?_
        refine V_istore C dX4_goOn_68 (Nat.le_of_ble_eq_true rfl) rfl ?_
        refine V_iload C dX4_goOn_70 rfl ?_
        refine V_if_lt (tgt := 96) C dX4_goOn_72 (by decide) (by omega) (fun q72 => by exfalso; omega) (fun q72 => ?_)
        refine V_iload C dX4_goOn_75 rfl ?_
        refine V_iload_n C dX4_goOn_77 rfl rfl ?_
        refine V_SN1 (k2 := 0) (s2 := 0) C dX4_goOn_78 lX4_20 kX5_worthBelow (c_X5_worthBelow s hs G 28 false _) rfl rfl ⟨Nat.le_of_ble_eq_true rfl, Nat.le_of_ble_eq_true rfl⟩ (Nat.le_of_ble_eq_true rfl) (Nat.le_refl _) (Nat.le_refl _) ?_
        refine V_icmp_gt (tgt := 96) C dX4_goOn_81 (by decide) (by omega) (by omega) (fun q81 => by exfalso; omega) (fun q81 => ?_)
        refine V_aload_n C dX4_goOn_84 rfl rfl ?_
        refine V_iload C dX4_goOn_85 rfl ?_
        refine V_aload_n C dX4_goOn_87 rfl rfl ?_
        refine V_getH (L := wyL G a) C dX4_goOn_88 fX4_13 (isR_lt ha) ((fun _ => cO_ry ha _)) rfl ?_
        refine V_iload_n C dX4_goOn_91 rfl rfl ?_
        refine V_ialdH C dX4_goOn_92 (isR_lt2 ha) ((fun _ => cO_r2 ha _)) (by omega) (by decide) ?_
        rw [ej, wb2, wa2, g.2]
        refine V_V0 (k2 := 0) (s2 := 0) C dX4_goOn_93 lX4_26 kX4_put (c_X4_put G K1 r b hb (by rw [hR1.1]; omega) (RW_rng hR1 hAv1) _ _ (by omega)) (isR_lt hb) ((fun _ => cO_ry hb _) _) rfl rfl rfl ⟨Nat.le_of_ble_eq_true rfl, Nat.le_of_ble_eq_true rfl⟩ (Nat.le_of_ble_eq_true rfl) (Nat.le_refl _) (Nat.le_refl _) ?_
        refine V_iinc C dX4_goOn_96 rfl (Nat.le_of_ble_eq_true rfl) rfl ?_
        refine V_goto (tgt := 2) C dX4_goOn_99 (by decide) ?_
        refine V_hp ?_ (ih (j + 1) _ (by omega) (by omega))
        simp only [goW]
        rw [g.1, g.2, ← hKW]
        unfold goS
        dsimp only
        rw [if_pos (show 0 ≤ (((l.getD j (0, 0)).1 : Nat) : Int) - (wN s : Nat) ∧ (((l.getD j (0, 0)).1 : Nat) : Int) - (wN s : Nat) ≤ (wS s : Nat) by omega), if_pos (show (((l.getD j (0, 0)).1 : Nat) : Int) ≤ (wS s : Nat) by omega), ← hK1]
      · obtain ⟨K1, hK1⟩ : ∃ K1, K1 = (putW b ((l.getD j (0, 0)).1 : Nat) ((l.getD j (0, 0)).2 : Nat) KW) := ⟨_, rfl⟩
        have hR1 : RW K1 b (rwP (l.getD j (0, 0)).1 (l.getD j (0, 0)).2 AC) := by rw [hK1]; exact RW_put hRW _ _
        have hl1 : (rwP (l.getD j (0, 0)).1 (l.getD j (0, 0)).2 AC).length ≤ 3 := by have := rwP_len (l.getD j (0, 0)).1 (l.getD j (0, 0)).2 AC; omega
        have wb : K1 a = KW a := by rw [hK1, putW_ne h0 h1 h2]
        have wb1 : K1 (a + 1) = KW (a + 1) := by rw [hK1, putW_ne h3 h4 h5]
        have wb2 : K1 (a + 2) = KW (a + 2) := by rw [hK1, putW_ne h6 h7 h8]
        refine V_iload_n C dX4_goOn_2 rfl rfl ?_
        refine V_aload_n C dX4_goOn_3 rfl rfl ?_
        refine V_getH (L := wyL G a) C dX4_goOn_4 fX4_16 (isR_lt ha) ((fun _ => cO_ry ha _)) rfl ?_
        rw [wa, hR.1]
        refine V_icmp_ge (tgt := 102) C dX4_goOn_7 (by decide) (by omega) (by omega) (fun q7 => by exfalso; omega) (fun q7 => ?_)
        refine V_iload_n C dX4_goOn_10 rfl rfl ?_
        refine V_aload_n C dX4_goOn_11 rfl rfl ?_
        refine V_getH (L := wyL G a) C dX4_goOn_12 fX4_7 (isR_lt ha) ((fun _ => cO_ry ha _)) rfl ?_
        refine V_alenH C dX4_goOn_15 (isR_lt1 ha) ((fun _ => cO_r1 ha _)) ?_
        refine V_icmp_ge (tgt := 102) C dX4_goOn_16 (by decide) (by omega) (by omega) (fun q16 => by exfalso; omega) (fun q16 => ?_)
        refine V_iload_n C dX4_goOn_19 rfl rfl ?_
        refine V_aload_n C dX4_goOn_20 rfl rfl ?_
        refine V_getH (L := wyL G a) C dX4_goOn_21 fX4_13 (isR_lt ha) ((fun _ => cO_ry ha _)) rfl ?_
        refine V_alenH C dX4_goOn_24 (isR_lt2 ha) ((fun _ => cO_r2 ha _)) ?_
        refine V_icmp_ge (tgt := 102) C dX4_goOn_25 (by decide) (by omega) (by omega) (fun q25 => by exfalso; omega) (fun q25 => ?_)
        refine V_aload_n C dX4_goOn_28 rfl rfl ?_
        refine V_getH (L := wyL G a) C dX4_goOn_29 fX4_7 (isR_lt ha) ((fun _ => cO_ry ha _)) rfl ?_
        refine V_iload_n C dX4_goOn_32 rfl rfl ?_
        refine V_ialdH C dX4_goOn_33 (isR_lt1 ha) ((fun _ => cO_r1 ha _)) (by omega) (by decide) ?_
        rw [ej, wa1, g.1]
        refine V_iload_n C dX4_goOn_34 rfl rfl ?_
        refine V_SN1 (k2 := 0) (s2 := 0) C dX4_goOn_35 lX4_20 kX5_worthBelow (c_X5_worthBelow s hs G 28 false _) rfl rfl ⟨Nat.le_of_ble_eq_true rfl, Nat.le_of_ble_eq_true rfl⟩ (Nat.le_of_ble_eq_true rfl) (Nat.le_refl _) (Nat.le_refl _) ?_
        refine V_icmp_gt (tgt := 57) C dX4_goOn_38 (by decide) (by omega) (by omega) (fun q38 => by exfalso; omega) (fun q38 => ?_)
        refine V_aload_n C dX4_goOn_41 rfl rfl ?_
        refine V_aload_n C dX4_goOn_42 rfl rfl ?_
        refine V_getH (L := wyL G a) C dX4_goOn_43 fX4_7 (isR_lt ha) ((fun _ => cO_ry ha _)) rfl ?_
        refine V_iload_n C dX4_goOn_46 rfl rfl ?_
        refine V_ialdH C dX4_goOn_47 (isR_lt1 ha) ((fun _ => cO_r1 ha _)) (by omega) (by decide) ?_
        rw [ej, wa1, g.1]
        refine V_aload_n C dX4_goOn_48 rfl rfl ?_
        refine V_getH (L := wyL G a) C dX4_goOn_49 fX4_13 (isR_lt ha) ((fun _ => cO_ry ha _)) rfl ?_
        refine V_iload_n C dX4_goOn_52 rfl rfl ?_
        refine V_ialdH C dX4_goOn_53 (isR_lt2 ha) ((fun _ => cO_r2 ha _)) (by omega) (by decide) ?_
        rw [ej, wa2, g.2]
        refine V_V0 (k2 := 0) (s2 := 0) C dX4_goOn_54 lX4_26 kX4_put (c_X4_put G KW r b hb (by rw [hRW.1]; omega) (RW_rng hRW hAv) _ _ (by omega)) (isR_lt hb) ((fun _ => cO_ry hb _) _) rfl rfl rfl ⟨Nat.le_of_ble_eq_true rfl, Nat.le_of_ble_eq_true rfl⟩ (Nat.le_of_ble_eq_true rfl) (Nat.le_refl _) (Nat.le_refl _) ?_
        rw [← hK1]
        refine V_aload_n C dX4_goOn_57 rfl rfl ?_
        refine V_getH (L := wyL G a) C dX4_goOn_58 fX4_7 (isR_lt ha) ((fun _ => cO_ry ha _)) rfl ?_
        refine V_iload_n C dX4_goOn_61 rfl rfl ?_
        refine V_ialdH C dX4_goOn_62 (isR_lt1 ha) ((fun _ => cO_r1 ha _)) (by omega) (by decide) ?_
        rw [ej, wb1, wa1, g.1]
        refine V_iload_n C dX4_goOn_63 rfl rfl ?_
        refine V_SN1 (k2 := 0) (s2 := 0) C dX4_goOn_64 lX4_30 kX5_worth (c_X5_worth s (by omega) G 28 false _) rfl rfl ⟨Nat.le_of_ble_eq_true rfl, Nat.le_of_ble_eq_true rfl⟩ (Nat.le_of_ble_eq_true rfl) (Nat.le_refl _) (Nat.le_refl _) ?_
        refine V_isub C dX4_goOn_67 ?_
        refine V_istore C dX4_goOn_68 (Nat.le_of_ble_eq_true rfl) rfl ?_
        refine V_iload C dX4_goOn_70 rfl ?_
        refine V_if_lt (tgt := 96) C dX4_goOn_72 (by decide) (by omega) (fun q72 => ?_) (fun q72 => by exfalso; omega)
        refine V_iinc C dX4_goOn_96 rfl (Nat.le_of_ble_eq_true rfl) rfl ?_
        refine V_goto (tgt := 2) C dX4_goOn_99 (by decide) ?_
        refine V_hp ?_ (ih (j + 1) _ (by omega) (by omega))
        simp only [goW]
        rw [g.1, g.2, ← hKW]
        unfold goS
        dsimp only
        rw [if_neg (show ¬ (0 ≤ (((l.getD j (0, 0)).1 : Nat) : Int) - (wN s : Nat) ∧ (((l.getD j (0, 0)).1 : Nat) : Int) - (wN s : Nat) ≤ (wS s : Nat)) by omega), if_pos (show (((l.getD j (0, 0)).1 : Nat) : Int) ≤ (wS s : Nat) by omega), ← hK1]
      · obtain ⟨K1, hK1⟩ : ∃ K1, K1 = (putW b ((l.getD j (0, 0)).1 : Nat) ((l.getD j (0, 0)).2 : Nat) KW) := ⟨_, rfl⟩
        have hR1 : RW K1 b (rwP (l.getD j (0, 0)).1 (l.getD j (0, 0)).2 AC) := by rw [hK1]; exact RW_put hRW _ _
        have hl1 : (rwP (l.getD j (0, 0)).1 (l.getD j (0, 0)).2 AC).length ≤ 3 := by have := rwP_len (l.getD j (0, 0)).1 (l.getD j (0, 0)).2 AC; omega
        have wb : K1 a = KW a := by rw [hK1, putW_ne h0 h1 h2]
        have wb1 : K1 (a + 1) = KW (a + 1) := by rw [hK1, putW_ne h3 h4 h5]
        have wb2 : K1 (a + 2) = KW (a + 2) := by rw [hK1, putW_ne h6 h7 h8]
        refine V_iload_n C dX4_goOn_2 rfl rfl ?_
        refine V_aload_n C dX4_goOn_3 rfl rfl ?_
        refine V_getH (L := wyL G a) C dX4_goOn_4 fX4_16 (isR_lt ha) ((fun _ => cO_ry ha _)) rfl ?_
        rw [wa, hR.1]
        refine V_icmp_ge (tgt := 102) C dX4_goOn_7 (by decide) (by omega) (by omega) (fun q7 => by exfalso; omega) (fun q7 => ?_)
        refine V_iload_n C dX4_goOn_10 rfl rfl ?_
        refine V_aload_n C dX4_goOn_11 rfl rfl ?_
        refine V_getH (L := wyL G a) C dX4_goOn_12 fX4_7 (isR_lt ha) ((fun _ => cO_ry ha _)) rfl ?_
        refine V_alenH C dX4_goOn_15 (isR_lt1 ha) ((fun _ => cO_r1 ha _)) ?_
        refine V_icmp_ge (tgt := 102) C dX4_goOn_16 (by decide) (by omega) (by omega) (fun q16 => by exfalso; omega) (fun q16 => ?_)
        refine V_iload_n C dX4_goOn_19 rfl rfl ?_
        refine V_aload_n C dX4_goOn_20 rfl rfl ?_
        refine V_getH (L := wyL G a) C dX4_goOn_21 fX4_13 (isR_lt ha) ((fun _ => cO_ry ha _)) rfl ?_
        refine V_alenH C dX4_goOn_24 (isR_lt2 ha) ((fun _ => cO_r2 ha _)) ?_
        refine V_icmp_ge (tgt := 102) C dX4_goOn_25 (by decide) (by omega) (by omega) (fun q25 => by exfalso; omega) (fun q25 => ?_)
        refine V_aload_n C dX4_goOn_28 rfl rfl ?_
        refine V_getH (L := wyL G a) C dX4_goOn_29 fX4_7 (isR_lt ha) ((fun _ => cO_ry ha _)) rfl ?_
        refine V_iload_n C dX4_goOn_32 rfl rfl ?_
        refine V_ialdH C dX4_goOn_33 (isR_lt1 ha) ((fun _ => cO_r1 ha _)) (by omega) (by decide) ?_
        rw [ej, wa1, g.1]
        refine V_iload_n C dX4_goOn_34 rfl rfl ?_
        refine V_SN1 (k2 := 0) (s2 := 0) C dX4_goOn_35 lX4_20 kX5_worthBelow (c_X5_worthBelow s hs G 28 false _) rfl rfl ⟨Nat.le_of_ble_eq_true rfl, Nat.le_of_ble_eq_true rfl⟩ (Nat.le_of_ble_eq_true rfl) (Nat.le_refl _) (Nat.le_refl _) ?_
        refine V_icmp_gt (tgt := 57) C dX4_goOn_38 (by decide) (by omega) (by omega) (fun q38 => by exfalso; omega) (fun q38 => ?_)
        refine V_aload_n C dX4_goOn_41 rfl rfl ?_
        refine V_aload_n C dX4_goOn_42 rfl rfl ?_
        refine V_getH (L := wyL G a) C dX4_goOn_43 fX4_7 (isR_lt ha) ((fun _ => cO_ry ha _)) rfl ?_
        refine V_iload_n C dX4_goOn_46 rfl rfl ?_
        refine V_ialdH C dX4_goOn_47 (isR_lt1 ha) ((fun _ => cO_r1 ha _)) (by omega) (by decide) ?_
        rw [ej, wa1, g.1]
        refine V_aload_n C dX4_goOn_48 rfl rfl ?_
        refine V_getH (L := wyL G a) C dX4_goOn_49 fX4_13 (isR_lt ha) ((fun _ => cO_ry ha _)) rfl ?_
        refine V_iload_n C dX4_goOn_52 rfl rfl ?_
        refine V_ialdH C dX4_goOn_53 (isR_lt2 ha) ((fun _ => cO_r2 ha _)) (by omega) (by decide) ?_
        rw [ej, wa2, g.2]
        refine V_V0 (k2 := 0) (s2 := 0) C dX4_goOn_54 lX4_26 kX4_put (c_X4_put G KW r b hb (by rw [hRW.1]; omega) (RW_rng hRW hAv) _ _ (by omega)) (isR_lt hb) ((fun _ => cO_ry hb _) _) rfl rfl rfl ⟨Nat.le_of_ble_eq_true rfl, Nat.le_of_ble_eq_true rfl⟩ (Nat.le_of_ble_eq_true rfl) (Nat.le_refl _) (Nat.le_refl _) ?_
        rw [← hK1]
        refine V_aload_n C dX4_goOn_57 rfl rfl ?_
        refine V_getH (L := wyL G a) C dX4_goOn_58 fX4_7 (isR_lt ha) ((fun _ => cO_ry ha _)) rfl ?_
        refine V_iload_n C dX4_goOn_61 rfl rfl ?_
        refine V_ialdH C dX4_goOn_62 (isR_lt1 ha) ((fun _ => cO_r1 ha _)) (by omega) (by decide) ?_
        rw [ej, wb1, wa1, g.1]
        refine V_iload_n C dX4_goOn_63 rfl rfl ?_
        refine V_SN1 (k2 := 0) (s2 := 0) C dX4_goOn_64 lX4_30 kX5_worth (c_X5_worth s (by omega) G 28 false _) rfl rfl ⟨Nat.le_of_ble_eq_true rfl, Nat.le_of_ble_eq_true rfl⟩ (Nat.le_of_ble_eq_true rfl) (Nat.le_refl _) (Nat.le_refl _) ?_
        refine V_isub C dX4_goOn_67 ?_
        refine V_istore C dX4_goOn_68 (Nat.le_of_ble_eq_true rfl) rfl ?_
        refine V_iload C dX4_goOn_70 rfl ?_
        refine V_if_lt (tgt := 96) C dX4_goOn_72 (by decide) (by omega) (fun q72 => by exfalso; omega) (fun q72 => ?_)
        refine V_iload C dX4_goOn_75 rfl ?_
        refine V_iload_n C dX4_goOn_77 rfl rfl ?_
        refine V_SN1 (k2 := 0) (s2 := 0) C dX4_goOn_78 lX4_20 kX5_worthBelow (c_X5_worthBelow s hs G 28 false _) rfl rfl ⟨Nat.le_of_ble_eq_true rfl, Nat.le_of_ble_eq_true rfl⟩ (Nat.le_of_ble_eq_true rfl) (Nat.le_refl _) (Nat.le_refl _) ?_
        refine V_icmp_gt (tgt := 96) C dX4_goOn_81 (by decide) (by omega) (by omega) (fun q81 => ?_) (fun q81 => by exfalso; omega)
        refine V_iinc C dX4_goOn_96 rfl (Nat.le_of_ble_eq_true rfl) rfl ?_
        refine V_goto (tgt := 2) C dX4_goOn_99 (by decide) ?_
        refine V_hp ?_ (ih (j + 1) _ (by omega) (by omega))
        simp only [goW]
        rw [g.1, g.2, ← hKW]
        unfold goS
        dsimp only
        rw [if_neg (show ¬ (0 ≤ (((l.getD j (0, 0)).1 : Nat) : Int) - (wN s : Nat) ∧ (((l.getD j (0, 0)).1 : Nat) : Int) - (wN s : Nat) ≤ (wS s : Nat)) by omega), if_pos (show (((l.getD j (0, 0)).1 : Nat) : Int) ≤ (wS s : Nat) by omega), ← hK1]
      · obtain ⟨K1, hK1⟩ : ∃ K1, K1 = KW := ⟨_, rfl⟩
        have hR1 : RW K1 b AC := by rw [hK1]; exact hRW
        have hl1 : AC.length ≤ 3 := by have := rwP_len (l.getD j (0, 0)).1 (l.getD j (0, 0)).2 AC; omega
        have wb : K1 a = KW a := by rw [hK1]
        have wb1 : K1 (a + 1) = KW (a + 1) := by rw [hK1]
        have wb2 : K1 (a + 2) = KW (a + 2) := by rw [hK1]
        refine V_iload_n C dX4_goOn_2 rfl rfl ?_
        refine V_aload_n C dX4_goOn_3 rfl rfl ?_
        refine V_getH (L := wyL G a) C dX4_goOn_4 fX4_16 (isR_lt ha) ((fun _ => cO_ry ha _)) rfl ?_
        rw [wa, hR.1]
        refine V_icmp_ge (tgt := 102) C dX4_goOn_7 (by decide) (by omega) (by omega) (fun q7 => by exfalso; omega) (fun q7 => ?_)
        refine V_iload_n C dX4_goOn_10 rfl rfl ?_
        refine V_aload_n C dX4_goOn_11 rfl rfl ?_
        refine V_getH (L := wyL G a) C dX4_goOn_12 fX4_7 (isR_lt ha) ((fun _ => cO_ry ha _)) rfl ?_
        refine V_alenH C dX4_goOn_15 (isR_lt1 ha) ((fun _ => cO_r1 ha _)) ?_
        refine V_icmp_ge (tgt := 102) C dX4_goOn_16 (by decide) (by omega) (by omega) (fun q16 => by exfalso; omega) (fun q16 => ?_)
        refine V_iload_n C dX4_goOn_19 rfl rfl ?_
        refine V_aload_n C dX4_goOn_20 rfl rfl ?_
        refine V_getH (L := wyL G a) C dX4_goOn_21 fX4_13 (isR_lt ha) ((fun _ => cO_ry ha _)) rfl ?_
        refine V_alenH C dX4_goOn_24 (isR_lt2 ha) ((fun _ => cO_r2 ha _)) ?_
        refine V_icmp_ge (tgt := 102) C dX4_goOn_25 (by decide) (by omega) (by omega) (fun q25 => by exfalso; omega) (fun q25 => ?_)
        refine V_aload_n C dX4_goOn_28 rfl rfl ?_
        refine V_getH (L := wyL G a) C dX4_goOn_29 fX4_7 (isR_lt ha) ((fun _ => cO_ry ha _)) rfl ?_
        refine V_iload_n C dX4_goOn_32 rfl rfl ?_
        refine V_ialdH C dX4_goOn_33 (isR_lt1 ha) ((fun _ => cO_r1 ha _)) (by omega) (by decide) ?_
        rw [ej, wa1, g.1]
        refine V_iload_n C dX4_goOn_34 rfl rfl ?_
        refine V_SN1 (k2 := 0) (s2 := 0) C dX4_goOn_35 lX4_20 kX5_worthBelow (c_X5_worthBelow s hs G 28 false _) rfl rfl ⟨Nat.le_of_ble_eq_true rfl, Nat.le_of_ble_eq_true rfl⟩ (Nat.le_of_ble_eq_true rfl) (Nat.le_refl _) (Nat.le_refl _) ?_
        refine V_icmp_gt (tgt := 57) C dX4_goOn_38 (by decide) (by omega) (by omega) (fun q38 => ?_) (fun q38 => by exfalso; omega)
        rw [← hK1]
        refine V_aload_n C dX4_goOn_57 rfl rfl ?_
        refine V_getH (L := wyL G a) C dX4_goOn_58 fX4_7 (isR_lt ha) ((fun _ => cO_ry ha _)) rfl ?_
        refine V_iload_n C dX4_goOn_61 rfl rfl ?_
        refine V_ialdH C dX4_goOn_62 (isR_lt1 ha) ((fun _ => cO_r1 ha _)) (by omega) (by decide) ?_
        rw [ej, wb1, wa1, g.1]
        refine V_iload_n C dX4_goOn_63 rfl rfl ?_
        refine V_SN1 (k2 := 0) (s2 := 0) C dX4_goOn_64 lX4_30 kX5_worth (c_X5_worth s (by omega) G 28 false _) rfl rfl ⟨Nat.le_of_ble_eq_true rfl, Nat.le_of_ble_eq_true rfl⟩ (Nat.le_of_ble_eq_true rfl) (Nat.le_refl _) (Nat.le_refl _) ?_
        refine V_isub C dX4_goOn_67 ?_
        refine V_istore C dX4_goOn_68 (Nat.le_of_ble_eq_true rfl) rfl ?_
        refine V_iload C dX4_goOn_70 rfl ?_
        refine V_if_lt (tgt := 96) C dX4_goOn_72 (by decide) (by omega) (fun q72 => by exfalso; omega) (fun q72 => ?_)
        refine V_iload C dX4_goOn_75 rfl ?_
        refine V_iload_n C dX4_goOn_77 rfl rfl ?_
        refine V_SN1 (k2 := 0) (s2 := 0) C dX4_goOn_78 lX4_20 kX5_worthBelow (c_X5_worthBelow s hs G 28 false _) rfl rfl ⟨Nat.le_of_ble_eq_true rfl, Nat.le_of_ble_eq_true rfl⟩ (Nat.le_of_ble_eq_true rfl) (Nat.le_refl _) (Nat.le_refl _) ?_
        refine V_icmp_gt (tgt := 96) C dX4_goOn_81 (by decide) (by omega) (by omega) (fun q81 => by exfalso; omega) (fun q81 => ?_)
        refine V_aload_n C dX4_goOn_84 rfl rfl ?_
        refine V_iload C dX4_goOn_85 rfl ?_
        refine V_aload_n C dX4_goOn_87 rfl rfl ?_
        refine V_getH (L := wyL G a) C dX4_goOn_88 fX4_13 (isR_lt ha) ((fun _ => cO_ry ha _)) rfl ?_
        refine V_iload_n C dX4_goOn_91 rfl rfl ?_
        refine V_ialdH C dX4_goOn_92 (isR_lt2 ha) ((fun _ => cO_r2 ha _)) (by omega) (by decide) ?_
        rw [ej, wb2, wa2, g.2]
        refine V_V0 (k2 := 0) (s2 := 0) C dX4_goOn_93 lX4_26 kX4_put (c_X4_put G K1 r b hb (by rw [hR1.1]; omega) (RW_rng hR1 hAv) _ _ (by omega)) (isR_lt hb) ((fun _ => cO_ry hb _) _) rfl rfl rfl ⟨Nat.le_of_ble_eq_true rfl, Nat.le_of_ble_eq_true rfl⟩ (Nat.le_of_ble_eq_true rfl) (Nat.le_refl _) (Nat.le_refl _) ?_
        refine V_iinc C dX4_goOn_96 rfl (Nat.le_of_ble_eq_true rfl) rfl ?_
        refine V_goto (tgt := 2) C dX4_goOn_99 (by decide) ?_
        refine V_hp ?_ (ih (j + 1) _ (by omega) (by omega))
        simp only [goW]
        rw [g.1, g.2, ← hKW]
        unfold goS
        dsimp only
        rw [if_pos (show 0 ≤ (((l.getD j (0, 0)).1 : Nat) : Int) - (wN s : Nat) ∧ (((l.getD j (0, 0)).1 : Nat) : Int) - (wN s : Nat) ≤ (wS s : Nat) by omega), if_neg (show ¬ ((((l.getD j (0, 0)).1 : Nat) : Int) ≤ (wS s : Nat)) by omega), ← hK1]
      · obtain ⟨K1, hK1⟩ : ∃ K1, K1 = KW := ⟨_, rfl⟩
        have hR1 : RW K1 b AC := by rw [hK1]; exact hRW
        have hl1 : AC.length ≤ 3 := by have := rwP_len (l.getD j (0, 0)).1 (l.getD j (0, 0)).2 AC; omega
        have wb : K1 a = KW a := by rw [hK1]
        have wb1 : K1 (a + 1) = KW (a + 1) := by rw [hK1]
        have wb2 : K1 (a + 2) = KW (a + 2) := by rw [hK1]
        refine V_iload_n C dX4_goOn_2 rfl rfl ?_
        refine V_aload_n C dX4_goOn_3 rfl rfl ?_
        refine V_getH (L := wyL G a) C dX4_goOn_4 fX4_16 (isR_lt ha) ((fun _ => cO_ry ha _)) rfl ?_
        rw [wa, hR.1]
        refine V_icmp_ge (tgt := 102) C dX4_goOn_7 (by decide) (by omega) (by omega) (fun q7 => by exfalso; omega) (fun q7 => ?_)
        refine V_iload_n C dX4_goOn_10 rfl rfl ?_
        refine V_aload_n C dX4_goOn_11 rfl rfl ?_
        refine V_getH (L := wyL G a) C dX4_goOn_12 fX4_7 (isR_lt ha) ((fun _ => cO_ry ha _)) rfl ?_
        refine V_alenH C dX4_goOn_15 (isR_lt1 ha) ((fun _ => cO_r1 ha _)) ?_
        refine V_icmp_ge (tgt := 102) C dX4_goOn_16 (by decide) (by omega) (by omega) (fun q16 => by exfalso; omega) (fun q16 => ?_)
        refine V_iload_n C dX4_goOn_19 rfl rfl ?_
        refine V_aload_n C dX4_goOn_20 rfl rfl ?_
        refine V_getH (L := wyL G a) C dX4_goOn_21 fX4_13 (isR_lt ha) ((fun _ => cO_ry ha _)) rfl ?_
        refine V_alenH C dX4_goOn_24 (isR_lt2 ha) ((fun _ => cO_r2 ha _)) ?_
        refine V_icmp_ge (tgt := 102) C dX4_goOn_25 (by decide) (by omega) (by omega) (fun q25 => by exfalso; omega) (fun q25 => ?_)
        refine V_aload_n C dX4_goOn_28 rfl rfl ?_
        refine V_getH (L := wyL G a) C dX4_goOn_29 fX4_7 (isR_lt ha) ((fun _ => cO_ry ha _)) rfl ?_
        refine V_iload_n C dX4_goOn_32 rfl rfl ?_
        refine V_ialdH C dX4_goOn_33 (isR_lt1 ha) ((fun _ => cO_r1 ha _)) (by omega) (by decide) ?_
        rw [ej, wa1, g.1]
        refine V_iload_n C dX4_goOn_34 rfl rfl ?_
        refine V_SN1 (k2 := 0) (s2 := 0) C dX4_goOn_35 lX4_20 kX5_worthBelow (c_X5_worthBelow s hs G 28 false _) rfl rfl ⟨Nat.le_of_ble_eq_true rfl, Nat.le_of_ble_eq_true rfl⟩ (Nat.le_of_ble_eq_true rfl) (Nat.le_refl _) (Nat.le_refl _) ?_
        refine V_icmp_gt (tgt := 57) C dX4_goOn_38 (by decide) (by omega) (by omega) (fun q38 => ?_) (fun q38 => by exfalso; omega)
        rw [← hK1]
        refine V_aload_n C dX4_goOn_57 rfl rfl ?_
        refine V_getH (L := wyL G a) C dX4_goOn_58 fX4_7 (isR_lt ha) ((fun _ => cO_ry ha _)) rfl ?_
        refine V_iload_n C dX4_goOn_61 rfl rfl ?_
        refine V_ialdH C dX4_goOn_62 (isR_lt1 ha) ((fun _ => cO_r1 ha _)) (by omega) (by decide) ?_
        rw [ej, wb1, wa1, g.1]
        refine V_iload_n C dX4_goOn_63 rfl rfl ?_
        refine V_SN1 (k2 := 0) (s2 := 0) C dX4_goOn_64 lX4_30 kX5_worth (c_X5_worth s (by omega) G 28 false _) rfl rfl ⟨Nat.le_of_ble_eq_true rfl, Nat.le_of_ble_eq_true rfl⟩ (Nat.le_of_ble_eq_true rfl) (Nat.le_refl _) (Nat.le_refl _) ?_
        refine V_isub C dX4_goOn_67 ?_
        refine V_istore C dX4_goOn_68 (Nat.le_of_ble_eq_true rfl) rfl ?_
        refine V_iload C dX4_goOn_70 rfl ?_
        refine V_if_lt (tgt := 96) C dX4_goOn_72 (by decide) (by omega) (fun q72 => ?_) (fun q72 => by exfalso; omega)
        refine V_iinc C dX4_goOn_96 rfl (Nat.le_of_ble_eq_true rfl) rfl ?_
        refine V_goto (tgt := 2) C dX4_goOn_99 (by decide) ?_
        refine V_hp ?_ (ih (j + 1) _ (by omega) (by omega))
        simp only [goW]
        rw [g.1, g.2, ← hKW]
        unfold goS
        dsimp only
        rw [if_neg (show ¬ (0 ≤ (((l.getD j (0, 0)).1 : Nat) : Int) - (wN s : Nat) ∧ (((l.getD j (0, 0)).1 : Nat) : Int) - (wN s : Nat) ≤ (wS s : Nat)) by omega), if_neg (show ¬ ((((l.getD j (0, 0)).1 : Nat) : Int) ≤ (wS s : Nat)) by omega), ← hK1]
      · obtain ⟨K1, hK1⟩ : ∃ K1, K1 = KW := ⟨_, rfl⟩
        have hR1 : RW K1 b AC := by rw [hK1]; exact hRW
        have hl1 : AC.length ≤ 3 := by have := rwP_len (l.getD j (0, 0)).1 (l.getD j (0, 0)).2 AC; omega
        have wb : K1 a = KW a := by rw [hK1]
        have wb1 : K1 (a + 1) = KW (a + 1) := by rw [hK1]
        have wb2 : K1 (a + 2) = KW (a + 2) := by rw [hK1]
        refine V_iload_n C dX4_goOn_2 rfl rfl ?_
        refine V_aload_n C dX4_goOn_3 rfl rfl ?_
        refine V_getH (L := wyL G a) C dX4_goOn_4 fX4_16 (isR_lt ha) ((fun _ => cO_ry ha _)) rfl ?_
        rw [wa, hR.1]
        refine V_icmp_ge (tgt := 102) C dX4_goOn_7 (by decide) (by omega) (by omega) (fun q7 => by exfalso; omega) (fun q7 => ?_)
        refine V_iload_n C dX4_goOn_10 rfl rfl ?_
        refine V_aload_n C dX4_goOn_11 rfl rfl ?_
        refine V_getH (L := wyL G a) C dX4_goOn_12 fX4_7 (isR_lt ha) ((fun _ => cO_ry ha _)) rfl ?_
        refine V_alenH C dX4_goOn_15 (isR_lt1 ha) ((fun _ => cO_r1 ha _)) ?_
        refine V_icmp_ge (tgt := 102) C dX4_goOn_16 (by decide) (by omega) (by omega) (fun q16 => by exfalso; omega) (fun q16 => ?_)
        refine V_iload_n C dX4_goOn_19 rfl rfl ?_
        refine V_aload_n C dX4_goOn_20 rfl rfl ?_
        refine V_getH (L := wyL G a) C dX4_goOn_21 fX4_13 (isR_lt ha) ((fun _ => cO_ry ha _)) rfl ?_
        refine V_alenH C dX4_goOn_24 (isR_lt2 ha) ((fun _ => cO_r2 ha _)) ?_
        refine V_icmp_ge (tgt := 102) C dX4_goOn_25 (by decide) (by omega) (by omega) (fun q25 => by exfalso; omega) (fun q25 => ?_)
        refine V_aload_n C dX4_goOn_28 rfl rfl ?_
        refine V_getH (L := wyL G a) C dX4_goOn_29 fX4_7 (isR_lt ha) ((fun _ => cO_ry ha _)) rfl ?_
        refine V_iload_n C dX4_goOn_32 rfl rfl ?_
        refine V_ialdH C dX4_goOn_33 (isR_lt1 ha) ((fun _ => cO_r1 ha _)) (by omega) (by decide) ?_
        rw [ej, wa1, g.1]
        refine V_iload_n C dX4_goOn_34 rfl rfl ?_
        refine V_SN1 (k2 := 0) (s2 := 0) C dX4_goOn_35 lX4_20 kX5_worthBelow (c_X5_worthBelow s hs G 28 false _) rfl rfl ⟨Nat.le_of_ble_eq_true rfl, Nat.le_of_ble_eq_true rfl⟩ (Nat.le_of_ble_eq_true rfl) (Nat.le_refl _) (Nat.le_refl _) ?_
        refine V_icmp_gt (tgt := 57) C dX4_goOn_38 (by decide) (by omega) (by omega) (fun q38 => ?_) (fun q38 => by exfalso; omega)
        rw [← hK1]
        refine V_aload_n C dX4_goOn_57 rfl rfl ?_
        refine V_getH (L := wyL G a) C dX4_goOn_58 fX4_7 (isR_lt ha) ((fun _ => cO_ry ha _)) rfl ?_
        refine V_iload_n C dX4_goOn_61 rfl rfl ?_
        refine V_ialdH C dX4_goOn_62 (isR_lt1 ha) ((fun _ => cO_r1 ha _)) (by omega) (by decide) ?_
        rw [ej, wb1, wa1, g.1]
        refine V_iload_n C dX4_goOn_63 rfl rfl ?_
        refine V_SN1 (k2 := 0) (s2 := 0) C dX4_goOn_64 lX4_30 kX5_worth (c_X5_worth s (by omega) G 28 false _) rfl rfl ⟨Nat.le_of_ble_eq_true rfl, Nat.le_of_ble_eq_true rfl⟩ (Nat.le_of_ble_eq_true rfl) (Nat.le_refl _) (Nat.le_refl _) ?_
        refine V_isub C dX4_goOn_67 ?_
        refine V_istore C dX4_goOn_68 (Nat.le_of_ble_eq_true rfl) rfl ?_
        refine V_iload C dX4_goOn_70 rfl ?_
        refine V_if_lt (tgt := 96) C dX4_goOn_72 (by decide) (by omega) (fun q72 => by exfalso; omega) (fun q72 => ?_)
        refine V_iload C dX4_goOn_75 rfl ?_
        refine V_iload_n C dX4_goOn_77 rfl rfl ?_
        refine V_SN1 (k2 := 0) (s2 := 0) C dX4_goOn_78 lX4_20 kX5_worthBelow (c_X5_worthBelow s hs G 28 false _) rfl rfl ⟨Nat.le_of_ble_eq_true rfl, Nat.le_of_ble_eq_true rfl⟩ (Nat.le_of_ble_eq_true rfl) (Nat.le_refl _) (Nat.le_refl _) ?_
        refine V_icmp_gt (tgt := 96) C dX4_goOn_81 (by decide) (by omega) (by omega) (fun q81 => ?_) (fun q81 => by exfalso; omega)
        refine V_iinc C dX4_goOn_96 rfl (Nat.le_of_ble_eq_true rfl) rfl ?_
        refine V_goto (tgt := 2) C dX4_goOn_99 (by decide) ?_
        refine V_hp ?_ (ih (j + 1) _ (by omega) (by omega))
        simp only [goW]
        rw [g.1, g.2, ← hKW]
        unfold goS
        dsimp only
        rw [if_neg (show ¬ (0 ≤ (((l.getD j (0, 0)).1 : Nat) : Int) - (wN s : Nat) ∧ (((l.getD j (0, 0)).1 : Nat) : Int) - (wN s : Nat) ≤ (wS s : Nat)) by omega), if_neg (show ¬ ((((l.getD j (0, 0)).1 : Nat) : Int) ≤ (wS s : Nat)) by omega), ← hK1]
  refine V_iconst C dX4_goOn_0 ?_
  refine V_istore_n C dX4_goOn_1 rfl (Nat.le_of_ble_eq_true rfl) rfl ?_
  exact loop l.length 0 _ (by omega) (by omega)
set_option maxRecDepth 100000 in
set_option maxHeartbeats 4000000 in
theorem c_X5_waysInTable (G : GT) (K : Nat → Nat → Int) (r : Nat → Option Nat) (n : Nat) (hn : n ≤ 6764) : CtO G yX5_waysInTable mX5_waysInTable [rf G 0, .int (iI (n : Int))] K r (some (.int (iI (cw (gm 18 n))))) ((tbW 18 12 15 (putW 12 (n : Int) 1 (us K 12 (us (K 12) 2 0))))) (r) := by
  refine Ct_of kX5_waysInTable.1.1 (by decide) [some (rf G 0), some (.int (iI (n : Int))), none, none, none, none] rfl (Nat.le_of_ble_eq_true rfl) ?_
  intro x C hZ
  obtain ⟨lf, hlf, hval⟩ := tb_ways hn
  have loop : ∀ (k a b : Nat) (KW : Nat → Nat → Int) (l : List (Nat × Nat)) (at0 : Int) (o5 : Option Value), at0 = (k : Int) - 1 → k ≤ 18 → isR a = true → isR b = true → a ≠ b → RW KW a l → (∀ i, i < l.length → (l.getD i (0, 0)).1 ≤ 6764) → tbC k l = some lf → tbW k a b KW = (tbW 18 12 15 (putW 12 (n : Int) 1 (us K 12 (us (K 12) 2 0)))) → V G mX5_waysInTable x 24 [some (rf G 0), some (.int (iI (n : Int))), some (rf G a), some (rf G b), some (.int (iI at0)), o5] [] 28 false (HP G KW r) 0 0 := by
    intro k
    induction k with
    | zero =>
      intro a b KW l at0 o5 e0 hk ha hb hab hR hv hT hF
      simp only [tbC] at hT
      split at hT
      · rename_i hok
        obtain rfl : l = lf := Option.some.inj hT
        have t1 := tbOK_r hok
        refine V_iload C dX5_waysInTable_24 rfl ?_
        refine V_if_lt (tgt := 54) C dX5_waysInTable_26 (by decide) (by omega) (fun q26 => ?_) (fun q26 => by exfalso; omega)
        refine V_aload_n C dX5_waysInTable_54 rfl rfl ?_
        refine V_iconst C dX5_waysInTable_55 ?_
        refine V_V1 (k2 := 0) (s2 := 0) C dX5_waysInTable_56 lX5_335 kX4_countOf (c_X4_countOf G KW r a ha l hR t1 hv) (isR_lt ha) ((fun _ => cO_ry ha _) _) rfl rfl rfl ⟨Nat.le_of_ble_eq_true rfl, Nat.le_of_ble_eq_true rfl⟩ (Nat.le_of_ble_eq_true rfl) (Nat.le_refl _) (Nat.le_refl _) ?_
        exact V_iret C dX5_waysInTable_59 rfl hZ hval (by rw [← hF]; rfl)
      · cases hT
    | succ k ih =>
      intro a b KW l at0 o5 e0 hk ha hb hab hR hv hT hF
      obtain rfl : at0 = (k : Int) := by omega
      simp only [tbC] at hT
      split at hT
      · rename_i hok
        have t1 := tbOK_r hok
        have ca := isR_c ha
        have cb := isR_c hb
        have hR2 : RW (us KW b (us (KW b) 2 0)) a l := by
          refine ⟨?_, ?_⟩
          · rw [us_ne _ _ hab]; exact hR.1
          · rw [us_ne _ _ (show a + 1 ≠ b by omega), us_ne _ _ (show a + 2 ≠ b by omega)]; exact hR.2
        have hB2 : RW (us KW b (us (KW b) 2 0)) b [] := by
          refine ⟨?_, fun i hi => absurd hi (Nat.not_lt_zero i)⟩
          rw [us_at, us_at]; rfl
        have hG := RW_goW (s := k) hR2 hB2 l.length (Nat.le_refl _)
        refine V_iload C dX5_waysInTable_24 rfl ?_
        refine V_if_lt (tgt := 54) C dX5_waysInTable_26 (by decide) (by omega) (fun q26 => by exfalso; omega) (fun q26 => ?_)
        refine V_aload_n C dX5_waysInTable_29 rfl rfl ?_
        refine V_V0 (k2 := 0) (s2 := 0) C dX5_waysInTable_30 lX5_325 kX4_clear (c_X4_clear G KW r b hb) (isR_lt hb) ((fun _ => cO_ry hb _) _) rfl rfl rfl ⟨Nat.le_of_ble_eq_true rfl, Nat.le_of_ble_eq_true rfl⟩ (Nat.le_of_ble_eq_true rfl) (Nat.le_refl _) (Nat.le_refl _) ?_
        refine V_aload_n C dX5_waysInTable_33 rfl rfl ?_
        refine V_iload C dX5_waysInTable_34 rfl ?_
        refine V_aload_n C dX5_waysInTable_36 rfl rfl ?_
        refine V_V0 (k2 := 0) (s2 := 0) C dX5_waysInTable_37 lX5_331 kX4_goOn (c_X4_goOn G _ r a ha b hb hab k (by omega) l hR2 hB2 t1 hv) (isR_lt ha) ((fun _ => cO_ry ha _) _) rfl rfl rfl ⟨Nat.le_of_ble_eq_true rfl, Nat.le_of_ble_eq_true rfl⟩ (Nat.le_of_ble_eq_true rfl) (Nat.le_refl _) (Nat.le_refl _) ?_
        refine V_aload_n C dX5_waysInTable_40 rfl rfl ?_
        refine V_astorer C dX5_waysInTable_41 (Nat.le_of_ble_eq_true rfl) rfl ?_
        refine V_aload_n C dX5_waysInTable_43 rfl rfl ?_
        refine V_astore_nr C dX5_waysInTable_44 rfl (Nat.le_of_ble_eq_true rfl) rfl ?_
        refine V_aload C dX5_waysInTable_45 rfl ?_
        refine V_astore_nr C dX5_waysInTable_47 rfl (Nat.le_of_ble_eq_true rfl) rfl ?_
        refine V_iinc C dX5_waysInTable_48 rfl (Nat.le_of_ble_eq_true rfl) rfl ?_
        refine V_goto (tgt := 24) C dX5_waysInTable_51 (by decide) ?_
        refine ih b a _ _ _ _ (by omega) (by omega) hb ha (Ne.symm hab) hG (rwG_v k l hv l.length (Nat.le_refl _)) hT ?_
        rw [← hF]
        simp only [tbW]
        rw [hR.1]; rfl
      · cases hT
  refine V_aload_n C dX5_waysInTable_0 rfl rfl ?_
  refine V_getH (L := clL G) C dX5_waysInTable_1 fX5_51 (by decide) (fun _ => rfl) rfl ?_
  refine V_astore_nr C dX5_waysInTable_4 rfl (Nat.le_of_ble_eq_true rfl) rfl ?_
  refine V_aload_n C dX5_waysInTable_5 rfl rfl ?_
  refine V_getH (L := clL G) C dX5_waysInTable_6 fX5_55 (by decide) (fun _ => rfl) rfl ?_
  refine V_astore_nr C dX5_waysInTable_9 rfl (Nat.le_of_ble_eq_true rfl) rfl ?_
  refine V_aload_n C dX5_waysInTable_10 rfl rfl ?_
  refine V_V0 (k2 := 0) (s2 := 0) C dX5_waysInTable_11 lX5_325 kX4_clear (c_X4_clear G K r 12 rfl) (by decide) (rfl) rfl rfl rfl ⟨Nat.le_of_ble_eq_true rfl, Nat.le_of_ble_eq_true rfl⟩ (Nat.le_of_ble_eq_true rfl) (Nat.le_refl _) (Nat.le_refl _) ?_
  refine V_aload_n C dX5_waysInTable_14 rfl rfl ?_
  refine V_iload_n C dX5_waysInTable_15 rfl rfl ?_
  refine V_iconst C dX5_waysInTable_16 ?_
  refine V_V0 (k2 := 0) (s2 := 0) C dX5_waysInTable_17 lX5_328 kX4_put (c_X4_put G _ r 12 rfl (by rw [us_at, us_at]; decide) (by rw [us_at, us_at]; intro i hi; exact absurd hi (Nat.not_lt_zero i)) (n : Int) 1 (by omega)) (by decide) (rfl) rfl rfl rfl ⟨Nat.le_of_ble_eq_true rfl, Nat.le_of_ble_eq_true rfl⟩ (Nat.le_of_ble_eq_true rfl) (Nat.le_refl _) (Nat.le_refl _) ?_
  refine V_bipush C dX5_waysInTable_20 (by decide +kernel) ?_
  refine V_istore C dX5_waysInTable_22 (Nat.le_of_ble_eq_true rfl) rfl ?_
  refine loop 18 12 15 _ [(n, 1)] _ _ (by omega) (by omega) rfl rfl (by decide) ?_ (fun i hi => by rw [show i = 0 from Nat.lt_one_iff.mp hi]; exact hn) hlf rfl
  have hR0 : RW (us K 12 (us (K 12) 2 0)) 12 [] := ⟨by rw [us_at, us_at]; rfl, fun i hi => absurd hi (Nat.not_lt_zero i)⟩
  exact RW_put hR0 n 1
