theorem woS_1 {m : Nat} : ∀ {k : Nat}, (woS m k).2.2 = 0 → (woS m k).1 = 1
  | 0, _ => rfl
  | k + 1, h => by
    simp only [woS] at h ⊢
    split
    · rename_i c
      rw [if_pos c] at h
      split at h
      · cases h
      · cases h
    · rename_i c
      rw [if_neg c] at h
      exact woS_1 h
set_option maxRecDepth 100000 in
set_option maxHeartbeats 4000000 in
theorem c_X5_waysOfMark (m : Nat) (hm : m < 262144) (G : GT) (N : Nat) (gf : Bool) (h : Hp) : Ct G yX5_waysOfMark mX5_waysOfMark [.int (iI (m : Int))] N gf h 0 0 (some (.int (iI (((woS m 18).1 + (woS m 18).2.1 : Nat) : Int)))) N gf h := by
  refine Ct_of kX5_waysOfMark.1 (by decide) [some (.int (iI (m : Int))), none, none, none, none, none, none] rfl (Nat.le_of_ble_eq_true rfl) ?_
  intro x C hZ
  have loop : ∀ (n k : Nat) (f1 s1 a1 : Int) (o5 o6 : Option Value), k + n = 18 → f1 = ((woS m k).1 : Nat) → s1 = ((woS m k).2.1 : Nat) → a1 = ((woS m k).2.2 : Nat) - 1 → V G mX5_waysOfMark x 9 [some (.int (iI (m : Int))), some (.int (iI f1)), some (.int (iI s1)), some (.int (iI a1)), some (.int (iI (k : Int))), o5, o6] [] N gf h 0 0 := by
    intro n
    induction n with
    | zero =>
      intro k f1 s1 a1 o5 o6 e e1 e2 e3
      obtain rfl : k = 18 := by omega
      refine V_iload C dX5_waysOfMark_9 rfl ?_
      refine V_bipush C dX5_waysOfMark_11 (by decide +kernel) ?_
      refine V_icmp_ge (tgt := 76) C dX5_waysOfMark_13 (by decide) (by omega) (by omega) (fun q13 => ?_) (fun q13 => by exfalso; omega)
      refine V_iload_n C dX5_waysOfMark_76 rfl rfl ?_
      refine V_iload_n C dX5_waysOfMark_77 rfl rfl ?_
      refine V_iadd C dX5_waysOfMark_78 ?_
      exact V_iret C dX5_waysOfMark_79 rfl hZ (by omega) rfl
    | succ n ih =>
      intro k f1 s1 a1 o5 o6 e e2 e3 e4
      have b := b1_le m k
      have hv := woS_v (m := m) (k := k)
      by_cases c : m >>> k &&& 1 = 1
      · have e1 : woS m (k + 1) = if (woS m k).2.2 = 0 then (1, k / 2, k + 1) else ((woS m k).1 + (woS m k).2.1, (woS m k).1 * ((k + 1 - (woS m k).2.2 - 1) / 2) + (woS m k).2.1 * ((k + 1 - (woS m k).2.2) / 2), k + 1) := by simp only [woS]; rw [if_pos c]
        by_cases c2 : (woS m k).2.2 = 0
        · rw [if_pos c2] at e1
          have f1 : (woS m k).1 = 1 := woS_1 c2
          refine V_iload C dX5_waysOfMark_9 rfl ?_
          refine V_bipush C dX5_waysOfMark_11 (by decide +kernel) ?_
          refine V_icmp_ge (tgt := 76) C dX5_waysOfMark_13 (by decide) (by omega) (by omega) (fun q13 => by exfalso; omega) (fun q13 => ?_)
          refine V_iload_n C dX5_waysOfMark_16 rfl rfl ?_
          refine V_iload C dX5_waysOfMark_17 rfl ?_
          refine V_S1 (k2 := 0) (s2 := 0) C dX5_waysOfMark_19 lX5_318 kX5_hasStep (c_X5_hasStep m k (by omega) (by omega) G N gf h) rfl rfl ⟨Nat.le_of_ble_eq_true rfl, Nat.le_of_ble_eq_true rfl⟩ (Nat.le_of_ble_eq_true rfl) (Nat.le_refl _) (Nat.le_refl _) ?_
          refine V_if_eq (tgt := 70) C dX5_waysOfMark_22 (by decide) (by omega) (fun q22 => by exfalso; omega) (fun q22 => ?_)
          refine V_iload_n C dX5_waysOfMark_25 rfl rfl ?_
          refine V_if_ge (tgt := 37) C dX5_waysOfMark_26 (by decide) (by omega) (fun q26 => by exfalso; omega) (fun q26 => ?_)
          refine V_iload C dX5_waysOfMark_29 rfl ?_
          refine V_iconst C dX5_waysOfMark_31 ?_
          refine V_idiv C dX5_waysOfMark_32 (by omega) (by omega) ?_
          refine V_istore_n C dX5_waysOfMark_33 rfl (Nat.le_of_ble_eq_true rfl) rfl ?_
          refine V_goto (tgt := 67) C dX5_waysOfMark_34 (by decide) ?_
          refine V_iload C dX5_waysOfMark_67 rfl ?_
          refine V_istore_n C dX5_waysOfMark_69 rfl (Nat.le_of_ble_eq_true rfl) rfl ?_
          refine V_iinc C dX5_waysOfMark_70 rfl (Nat.le_of_ble_eq_true rfl) rfl ?_
          refine V_goto (tgt := 9) C dX5_waysOfMark_73 (by decide) ?_
          exact ih (k + 1) _ _ _ o5 o6 (by omega) (by rw [e1, e2, f1]) (by rw [e1]; show (k : Int) / 2 = ((k / 2 : Nat) : Int); omega) (by rw [e1]; show (k : Int) = ((k + 1 : Nat) : Int) - 1; omega)
        · rw [if_neg c2] at e1
          have d1 : ((k : Int) - a1 - 1) / 2 = (((k + 1 - (woS m k).2.2 - 1) / 2 : Nat) : Int) := by omega
          have d2 : ((k : Int) - a1) / 2 = (((k + 1 - (woS m k).2.2) / 2 : Nat) : Int) := by omega
          refine V_iload C dX5_waysOfMark_9 rfl ?_
          refine V_bipush C dX5_waysOfMark_11 (by decide +kernel) ?_
          refine V_icmp_ge (tgt := 76) C dX5_waysOfMark_13 (by decide) (by omega) (by omega) (fun q13 => by exfalso; omega) (fun q13 => ?_)
          refine V_iload_n C dX5_waysOfMark_16 rfl rfl ?_
          refine V_iload C dX5_waysOfMark_17 rfl ?_
          refine V_S1 (k2 := 0) (s2 := 0) C dX5_waysOfMark_19 lX5_318 kX5_hasStep (c_X5_hasStep m k (by omega) (by omega) G N gf h) rfl rfl ⟨Nat.le_of_ble_eq_true rfl, Nat.le_of_ble_eq_true rfl⟩ (Nat.le_of_ble_eq_true rfl) (Nat.le_refl _) (Nat.le_refl _) ?_
          refine V_if_eq (tgt := 70) C dX5_waysOfMark_22 (by decide) (by omega) (fun q22 => by exfalso; omega) (fun q22 => ?_)
          refine V_iload_n C dX5_waysOfMark_25 rfl rfl ?_
          refine V_if_ge (tgt := 37) C dX5_waysOfMark_26 (by decide) (by omega) (fun q26 => ?_) (fun q26 => by exfalso; omega)
          refine V_iload C dX5_waysOfMark_37 rfl ?_
          refine V_iload_n C dX5_waysOfMark_39 rfl rfl ?_
          refine V_isub C dX5_waysOfMark_40 ?_
          refine V_istore C dX5_waysOfMark_41 (Nat.le_of_ble_eq_true rfl) rfl ?_
          refine V_iload_n C dX5_waysOfMark_43 rfl rfl ?_
          refine V_iload_n C dX5_waysOfMark_44 rfl rfl ?_
          refine V_iadd C dX5_waysOfMark_45 ?_
          refine V_istore C dX5_waysOfMark_46 (Nat.le_of_ble_eq_true rfl) rfl ?_
          refine V_iload_n C dX5_waysOfMark_48 rfl rfl ?_
          refine V_iload C dX5_waysOfMark_49 rfl ?_
          refine V_iconst C dX5_waysOfMark_51 ?_
          refine V_isub C dX5_waysOfMark_52 ?_
          refine V_iconst C dX5_waysOfMark_53 ?_
          refine V_idiv C dX5_waysOfMark_54 (by omega) (by omega) ?_
          rw [d1]
          refine V_imul C dX5_waysOfMark_55 ?_
          refine V_iload_n C dX5_waysOfMark_56 rfl rfl ?_
          refine V_iload C dX5_waysOfMark_57 rfl ?_
          refine V_iconst C dX5_waysOfMark_59 ?_
          refine V_idiv C dX5_waysOfMark_60 (by omega) (by omega) ?_
          rw [d2]
          refine V_imul C dX5_waysOfMark_61 ?_
          refine V_iadd C dX5_waysOfMark_62 ?_
          refine V_istore_n C dX5_waysOfMark_63 rfl (Nat.le_of_ble_eq_true rfl) rfl ?_
          refine V_iload C dX5_waysOfMark_64 rfl ?_
          refine V_istore_n C dX5_waysOfMark_66 rfl (Nat.le_of_ble_eq_true rfl) rfl ?_
          refine V_iload C dX5_waysOfMark_67 rfl ?_
          refine V_istore_n C dX5_waysOfMark_69 rfl (Nat.le_of_ble_eq_true rfl) rfl ?_
          refine V_iinc C dX5_waysOfMark_70 rfl (Nat.le_of_ble_eq_true rfl) rfl ?_
          refine V_goto (tgt := 9) C dX5_waysOfMark_73 (by decide) ?_
          exact ih (k + 1) _ _ _ _ _ (by omega) (by rw [e1, e2, e3]; show _ = (((woS m k).1 + (woS m k).2.1 : Nat) : Int); omega) (by rw [e1, e2, e3]; show _ = (((woS m k).1 * ((k + 1 - (woS m k).2.2 - 1) / 2) + (woS m k).2.1 * ((k + 1 - (woS m k).2.2) / 2) : Nat) : Int); rw [Int.natCast_add, Int.natCast_mul, Int.natCast_mul]) (by rw [e1]; show (k : Int) = ((k + 1 : Nat) : Int) - 1; omega)
      · have e1 : woS m (k + 1) = woS m k := by simp only [woS]; rw [if_neg c]
        refine V_iload C dX5_waysOfMark_9 rfl ?_
        refine V_bipush C dX5_waysOfMark_11 (by decide +kernel) ?_
        refine V_icmp_ge (tgt := 76) C dX5_waysOfMark_13 (by decide) (by omega) (by omega) (fun q13 => by exfalso; omega) (fun q13 => ?_)
        refine V_iload_n C dX5_waysOfMark_16 rfl rfl ?_
        refine V_iload C dX5_waysOfMark_17 rfl ?_
        refine V_S1 (k2 := 0) (s2 := 0) C dX5_waysOfMark_19 lX5_318 kX5_hasStep (c_X5_hasStep m k (by omega) (by omega) G N gf h) rfl rfl ⟨Nat.le_of_ble_eq_true rfl, Nat.le_of_ble_eq_true rfl⟩ (Nat.le_of_ble_eq_true rfl) (Nat.le_refl _) (Nat.le_refl _) ?_
        refine V_if_eq (tgt := 70) C dX5_waysOfMark_22 (by decide) (by omega) (fun q22 => ?_) (fun q22 => by exfalso; omega)
        refine V_iinc C dX5_waysOfMark_70 rfl (Nat.le_of_ble_eq_true rfl) rfl ?_
        refine V_goto (tgt := 9) C dX5_waysOfMark_73 (by decide) ?_
        exact ih (k + 1) _ _ _ o5 o6 (by omega) (by rw [e1]; exact e2) (by rw [e1]; exact e3) (by rw [e1]; exact e4)
  refine V_iconst C dX5_waysOfMark_0 ?_
  refine V_istore_n C dX5_waysOfMark_1 rfl (Nat.le_of_ble_eq_true rfl) rfl ?_
  refine V_iconst C dX5_waysOfMark_2 ?_
  refine V_istore_n C dX5_waysOfMark_3 rfl (Nat.le_of_ble_eq_true rfl) rfl ?_
  refine V_iconst C dX5_waysOfMark_4 ?_
  refine V_istore_n C dX5_waysOfMark_5 rfl (Nat.le_of_ble_eq_true rfl) rfl ?_
  refine V_iconst C dX5_waysOfMark_6 ?_
  refine V_istore C dX5_waysOfMark_7 (Nat.le_of_ble_eq_true rfl) rfl ?_
  exact loop 18 0 _ _ _ _ _ (by omega) rfl rfl rfl
theorem i_X5_waysOfMark (n : Nat) (hn : n ≤ 6764) (G : GT) (N : Nat) (gf : Bool) (h : Hp) : Ct G yX5_waysOfMark mX5_waysOfMark [.int (iI ((gm 18 n : Nat) : Int))] N gf h 0 0 (some (.int (iI (cw (gm 18 n))))) N gf h := by
  have := c_X5_waysOfMark (gm 18 n) (gm_18 n) G N gf h
  rwa [← woS_18 (gm_18 n), ← cw_woS] at this
set_option maxRecDepth 100000 in
set_option maxHeartbeats 4000000 in
theorem c_X5_carryStalls (G : GT) (K : Nat → Nat → Int) (r : Nat → Option Nat) (z : Nat → Int) (hq : RQ K 1 z) (hz : GZ z) (p q : Int) (hp : 0 ≤ p ∧ p ≤ 5) (hq2 : 0 ≤ q ∧ q ≤ 5)  : CtO G yX5_carryStalls mX5_carryStalls [rf G 0, .int (iI p), .int (iI q)] K r (some (.int (iI (adC (gm 18 (z p.toNat).toNat) (gm 18 (z q.toNat).toNat) : Nat)))) (us K 11 (adE (gm 18 (z p.toNat).toNat) (gm 18 (z q.toNat).toNat))) (r) := by
  refine Ct_of kX5_carryStalls.1.1 (by decide) [some (rf G 0), some (.int (iI p)), some (.int (iI q))] rfl (Nat.le_of_ble_eq_true rfl) ?_
  intro x C hZ
  have k1 := hq.1 p.toNat (by omega)
  have k2 := hq.1 q.toNat (by omega)
  have z1 := hz.1 p.toNat (by omega)
  have z2 := hz.1 q.toNat (by omega)
  refine V_aload_n C dX5_carryStalls_0 rfl rfl ?_
  refine V_getH (L := clL G) C dX5_carryStalls_1 fX5_44 (by decide) (fun _ => rfl) rfl ?_
  refine V_aload_n C dX5_carryStalls_4 rfl rfl ?_
  refine V_getH (L := clL G) C dX5_carryStalls_5 fX5_10 (by decide) (fun _ => rfl) rfl ?_
  refine V_iload_n C dX5_carryStalls_8 rfl rfl ?_
  refine V_V1 (k2 := 0) (s2 := 0) C dX5_carryStalls_9 lX5_65 kX2_numberIn (c_X2_numberIn G K r 1 rfl p hp) (by decide) (rfl) rfl rfl rfl ⟨Nat.le_of_ble_eq_true rfl, Nat.le_of_ble_eq_true rfl⟩ (Nat.le_of_ble_eq_true rfl) (Nat.le_refl _) (Nat.le_refl _) ?_
  rw [k1]
  refine V_S1 (k2 := 0) (s2 := 0) C dX5_carryStalls_12 lX5_89 kX5_greedyMark (i_X5_greedyMark G 28 false _ _ z1) rfl rfl ⟨Nat.le_of_ble_eq_true rfl, Nat.le_of_ble_eq_true rfl⟩ (Nat.le_of_ble_eq_true rfl) (Nat.le_refl _) (Nat.le_refl _) ?_
  refine V_aload_n C dX5_carryStalls_15 rfl rfl ?_
  refine V_getH (L := clL G) C dX5_carryStalls_16 fX5_10 (by decide) (fun _ => rfl) rfl ?_
  refine V_iload_n C dX5_carryStalls_19 rfl rfl ?_
  refine V_V1 (k2 := 0) (s2 := 0) C dX5_carryStalls_20 lX5_65 kX2_numberIn (c_X2_numberIn G K r 1 rfl q hq2) (by decide) (rfl) rfl rfl rfl ⟨Nat.le_of_ble_eq_true rfl, Nat.le_of_ble_eq_true rfl⟩ (Nat.le_of_ble_eq_true rfl) (Nat.le_refl _) (Nat.le_refl _) ?_
  rw [k2]
  refine V_S1 (k2 := 0) (s2 := 0) C dX5_carryStalls_23 lX5_89 kX5_greedyMark (i_X5_greedyMark G 28 false _ _ z2) rfl rfl ⟨Nat.le_of_ble_eq_true rfl, Nat.le_of_ble_eq_true rfl⟩ (Nat.le_of_ble_eq_true rfl) (Nat.le_refl _) (Nat.le_refl _) ?_
  refine V_V1 (k2 := 0) (s2 := 0) C dX5_carryStalls_26 lX5_341 kX0_carryAll (c_X0_carryAll G K r _ _ (gm_18 _) (gm_18 _)) (by decide) (rfl) rfl rfl rfl ⟨Nat.le_of_ble_eq_true rfl, Nat.le_of_ble_eq_true rfl⟩ (Nat.le_of_ble_eq_true rfl) (Nat.le_refl _) (Nat.le_refl _) ?_
  exact V_iret C dX5_carryStalls_29 rfl hZ (by first | rfl | omega) rfl
theorem rd_now (G : GT) (K : Nat → Nat → Int) (r : Nat → Option Nat) (z : Nat → Int) (hz : GZ z) : CtO G yX1_readAll mX1_readAll [rf G 8, .long (lL ((dN (fun j => z (7 + j)) (z 6).toNat : Nat) : Int)), .int (iI (z 6))] K r none (Rd K ((rdZ z).2.2.2.length : Nat) ((rdZ z).2.2.1 : Nat) ((rdZ z).2.1 : Nat) (foU (K 9) (rdZ z).2.2.2)) r := by
  have g6 := hz.2.1
  have h := c_X1_readAll G K r (fun j => z (7 + j)) (z 6).toNat (by omega) (fun j hj => hz.2.2.1 (7 + j) (by omega) (by omega))
  rwa [toN g6.1] at h
set_option maxRecDepth 100000 in
set_option maxHeartbeats 4000000 in
theorem c_X5_scanText (G : GT) (K : Nat → Nat → Int) (r : Nat → Option Nat) (T : Nat) (hT : K 0 6 = T) (h60 : T ≤ 60) (ht : ∀ j, j < T → 33 ≤ K 6 j ∧ K 6 j ≤ 126)  : CtO G yX5_scanText mX5_scanText [rf G 0] K r (some (.int (iI (((scR (K 6) T (us (K 7) 0 0) 0).2 : Nat) : Int)))) (us K 7 (scR (K 6) T (us (K 7) 0 0) 0).1) (r) := by
  refine Ct_of kX5_scanText.1.1 (by decide) [some (rf G 0), none] rfl (Nat.le_of_ble_eq_true rfl) ?_
  intro x C hZ
  have loop : ∀ (n i : Nat) (f : Nat → Int), i + n = T → scI f → scR (K 6) n f i = (scR (K 6) T (us (K 7) 0 0) 0) → V G mX5_scanText x 9 [some (rf G 0), some (.int (iI (i : Int)))] [] 28 false (HP G (us K 7 f) r) 0 0 := by
    intro n
    induction n with
    | zero =>
      intro i f e hI hR
      have e1 : (f, i) = (scR (K 6) T (us (K 7) 0 0) 0) := hR
      refine V_iload_n C dX5_scanText_9 rfl rfl ?_
      refine V_aload_n C dX5_scanText_10 rfl rfl ?_
      refine V_getH (L := clL G) C dX5_scanText_11 fX5_146 (by decide) (fun _ => rfl) rfl ?_
      rw [show us K 7 f 0 6 = T from hT]
      refine V_icmp_ge (tgt := 50) C dX5_scanText_14 (by decide) (by omega) (by omega) (fun q14 => ?_) (fun q14 => by exfalso; omega)
      refine V_aload_n C dX5_scanText_50 rfl rfl ?_
      refine V_getH (L := clL G) C dX5_scanText_51 fX5_146 (by decide) (fun _ => rfl) rfl ?_
      rw [show us K 7 f 0 6 = T from hT]
      exact V_iret C dX5_scanText_54 rfl hZ (by rw [← e1]; show (T : Int) = (i : Int); omega) (by rw [← e1])
    | succ n ih =>
      intro i f e hI hR
      have g := ht i (by omega)
      have hk := c_X3_take G (us K 7 f) r (K 6 i) (by omega) (by rw [us_at]; exact hI)
      rw [us_at, us_us] at hk
      simp only [scR] at hR
      by_cases c : scB f (K 6 i) = true
      · rw [if_pos c] at hR
        rw [c] at hk
        refine V_iload_n C dX5_scanText_9 rfl rfl ?_
        refine V_aload_n C dX5_scanText_10 rfl rfl ?_
        refine V_getH (L := clL G) C dX5_scanText_11 fX5_146 (by decide) (fun _ => rfl) rfl ?_
        rw [show us K 7 f 0 6 = T from hT]
        refine V_icmp_ge (tgt := 50) C dX5_scanText_14 (by decide) (by first | omega | (simp [b2]; done)) (by first | omega | (simp [b2]; done)) (fun q14 => by exfalso; first | omega | (simp [b2]; done)) (fun q14 => ?_)
        refine V_iload_n C dX5_scanText_17 rfl rfl ?_
        refine V_aload_n C dX5_scanText_18 rfl rfl ?_
        refine V_getH (L := clL G) C dX5_scanText_19 fX5_23 (by decide) (fun _ => rfl) rfl ?_
        refine V_alenHc C dX5_scanText_22 (by decide) (fun _ => rfl) ?_
        refine V_icmp_ge (tgt := 50) C dX5_scanText_23 (by decide) (by first | omega | (simp [b2]; done)) (by first | omega | (simp [b2]; done)) (fun q23 => by exfalso; first | omega | (simp [b2]; done)) (fun q23 => ?_)
        refine V_aload_n C dX5_scanText_26 rfl rfl ?_
        refine V_getH (L := clL G) C dX5_scanText_27 fX5_30 (by decide) (fun _ => rfl) rfl ?_
        refine V_aload_n C dX5_scanText_30 rfl rfl ?_
        refine V_getH (L := clL G) C dX5_scanText_31 fX5_23 (by decide) (fun _ => rfl) rfl ?_
        refine V_iload_n C dX5_scanText_34 rfl rfl ?_
        refine V_caldH C dX5_scanText_35 (by decide) (fun _ => rfl) (by first | omega | (simp [b2]; done)) (by decide) ?_
        rw [tnN, show us K 7 f 6 i = K 6 i from rfl]
        refine V_V1 (k2 := 0) (s2 := 0) C dX5_scanText_36 lX5_347 kX3_take (hk) (by decide) (rfl) rfl rfl rfl ⟨Nat.le_of_ble_eq_true rfl, Nat.le_of_ble_eq_true rfl⟩ (Nat.le_of_ble_eq_true rfl) (Nat.le_refl _) (Nat.le_refl _) ?_
        refine V_if_ne (tgt := 44) C dX5_scanText_39 (by decide) (by first | omega | (simp [b2]; done)) (fun q39 => ?_) (fun q39 => by exfalso; exact absurd q39 (by decide))
        refine V_iinc C dX5_scanText_44 rfl (Nat.le_of_ble_eq_true rfl) rfl ?_
        refine V_goto (tgt := 9) C dX5_scanText_47 (by decide) ?_
        exact ih (i + 1) _ (by omega) (scI_F hI (by omega)) hR
      · rw [if_neg c] at hR
        have c' : scB f (K 6 i) = false := by simpa using c
        rw [c'] at hk
        refine V_iload_n C dX5_scanText_9 rfl rfl ?_
        refine V_aload_n C dX5_scanText_10 rfl rfl ?_
        refine V_getH (L := clL G) C dX5_scanText_11 fX5_146 (by decide) (fun _ => rfl) rfl ?_
        rw [show us K 7 f 0 6 = T from hT]
        refine V_icmp_ge (tgt := 50) C dX5_scanText_14 (by decide) (by first | omega | (simp [b2]; done)) (by first | omega | (simp [b2]; done)) (fun q14 => by exfalso; first | omega | (simp [b2]; done)) (fun q14 => ?_)
        refine V_iload_n C dX5_scanText_17 rfl rfl ?_
        refine V_aload_n C dX5_scanText_18 rfl rfl ?_
        refine V_getH (L := clL G) C dX5_scanText_19 fX5_23 (by decide) (fun _ => rfl) rfl ?_
        refine V_alenHc C dX5_scanText_22 (by decide) (fun _ => rfl) ?_
        refine V_icmp_ge (tgt := 50) C dX5_scanText_23 (by decide) (by first | omega | (simp [b2]; done)) (by first | omega | (simp [b2]; done)) (fun q23 => by exfalso; first | omega | (simp [b2]; done)) (fun q23 => ?_)
        refine V_aload_n C dX5_scanText_26 rfl rfl ?_
        refine V_getH (L := clL G) C dX5_scanText_27 fX5_30 (by decide) (fun _ => rfl) rfl ?_
        refine V_aload_n C dX5_scanText_30 rfl rfl ?_
        refine V_getH (L := clL G) C dX5_scanText_31 fX5_23 (by decide) (fun _ => rfl) rfl ?_
        refine V_iload_n C dX5_scanText_34 rfl rfl ?_
        refine V_caldH C dX5_scanText_35 (by decide) (fun _ => rfl) (by first | omega | (simp [b2]; done)) (by decide) ?_
        rw [tnN, show us K 7 f 6 i = K 6 i from rfl]
        refine V_V1 (k2 := 0) (s2 := 0) C dX5_scanText_36 lX5_347 kX3_take (hk) (by decide) (rfl) rfl rfl rfl ⟨Nat.le_of_ble_eq_true rfl, Nat.le_of_ble_eq_true rfl⟩ (Nat.le_of_ble_eq_true rfl) (Nat.le_refl _) (Nat.le_refl _) ?_
        refine V_if_ne (tgt := 44) C dX5_scanText_39 (by decide) (by first | omega | (simp [b2]; done)) (fun q39 => by exfalso; exact absurd rfl q39) (fun q39 => ?_)
        refine V_iload_n C dX5_scanText_42 rfl rfl ?_
        exact V_iret C dX5_scanText_43 rfl hZ (by rw [← hR]) (by rw [scF_no c', ← hR])
  refine V_aload_n C dX5_scanText_0 rfl rfl ?_
  refine V_getH (L := clL G) C dX5_scanText_1 fX5_30 (by decide) (fun _ => rfl) rfl ?_
  refine V_V0 (k2 := 0) (s2 := 0) C dX5_scanText_4 lX5_344 kX3_start (c_X3_start G K r) (by decide) (rfl) rfl rfl rfl ⟨Nat.le_of_ble_eq_true rfl, Nat.le_of_ble_eq_true rfl⟩ (Nat.le_of_ble_eq_true rfl) (Nat.le_refl _) (Nat.le_refl _) ?_
  refine V_iconst C dX5_scanText_7 ?_
  refine V_istore_n C dX5_scanText_8 rfl (Nat.le_of_ble_eq_true rfl) rfl ?_
  exact loop T 0 _ (by omega) (us_I (.inl rfl)) rfl
