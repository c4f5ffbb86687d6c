def WK (G : GT) (me : MeT) (v : Option Value) (pc : Nat) (loc : List (Option Value)) (stk : List Value) (K : Nat → Nat → Int) (r : Nat → Option Nat) (s : Nat → Int) (st : Nat) (kp : Int) (t : Nat → Int) (T : Nat) : Prop :=
  ∃ KF rF, IC KF rF s st kp t T ∧ ∀ x : CxT, Cx G me x → ZM G x v 28 false (HP G KF rF) → V G me x pc loc stk 28 false (HP G K r) 0 0
theorem V_dconst0 {G : GT} {me : MeT} {x : CxT} {pc : Nat} {loc : List (Option Value)} {st : List Value} {N : Nat} {gf : Bool} {h : Hp} {kc ks : Nat} (C : Cx G me x) (d : decode me.2.1 pc = .ok (.dconst 0, 1)) (k : V G me x (pc + 1) loc (.double 0 :: st) N gf h kc ks) : V G me x pc loc st N gf h kc ks := V_lift C (fun hx hb k => lv_dconst0 hx hb d k) k
theorem sh_V {z : Nat → Int} (hz : GZ z) : (∃ a : Int, (-1 ≤ a ∧ a ≤ 0) ∧ Op.cmpValue (FP.dcmp (shV z) 0x3ff0000000000000) .g = iI a) ∧ Op.cmpValue (FP.dcmp (shV z) 0) .l = iI 1 := by
  have h : leB (shV z) = true ∧ gtB (shV z) = true := by
    unfold shV
    by_cases e : alS z true 6 = 0
    · rw [if_pos e]; exact ⟨one_le, one_gt⟩
    · rw [if_neg e]
      have g := sh_z hz e
      unfold shC at g
      rw [Bool.and_eq_true, Bool.and_eq_true] at g
      exact g.2
  obtain ⟨h1, h2⟩ := h
  constructor
  · unfold leB at h1
    rcases e : FP.dcmp (shV z) 0x3ff0000000000000 with _ | q
    · rw [e] at h1; cases h1
    · rw [e] at h1
      rcases q with _ | _ | _
      · exact ⟨-1, by decide, by decide +kernel⟩
      · exact ⟨0, by decide, by decide +kernel⟩
      · cases h1
  · unfold gtB at h2
    rcases e : FP.dcmp (shV z) 0 with _ | q
    · rw [e] at h2; cases h2
    · rw [e] at h2
      rcases q with _ | _ | _
      · cases h2
      · cases h2
      · decide +kernel
/-! what the state is, as one number -/
def smN (z : Nat → Int) : Nat → Int
  | 0 => 151
  | k + 1 => 31 * smN z k + z k
def smD (z : Nat → Int) : Nat → Int
  | 0 => smN z 6
  | k + 1 => 3 * smD z k + z (7 + k)
def smX (z : Nat → Int) : Int := 31 * smD z (z 6).toNat + ((rdZ z).2.2.2.length : Nat) + 7 * ((rdZ z).2.2.1 : Nat) + (if z 71 = 1 then 100 + 3 * z 72 + z 73 else 0)
def SN (z : Nat → Int) : Int := (iI (smX z)).toInt
theorem SN_r (z : Nat → Int) : -2147483648 ≤ SN z ∧ SN z < 2147483648 := by
  obtain ⟨w, hw, e⟩ := iI_ex (iI (smX z))
  unfold SN
  rw [e, iI_toInt hw.1 hw.2]
  exact hw
theorem SN_e (z : Nat → Int) : iI (smX z) = iI (SN z) := (iI_as _).symm
theorem SN_cg {z y : Nat → Int} (h : ∀ j, j < 74 → z j = y j) (h6 : y 6 ≤ 64) : SN z = SN y := by
  have e6 := h 6 (by decide)
  have hn : ∀ k, k ≤ 6 → smN z k = smN y k := by
    intro k
    induction k with
    | zero => intro _; rfl
    | succ k ih => intro hk; simp only [smN]; rw [ih (by omega), h k (by omega)]
  have hd : ∀ k, k ≤ 64 → smD z k = smD y k := by
    intro k
    induction k with
    | zero => intro _; exact hn 6 (Nat.le_refl _)
    | succ k ih => intro hk; simp only [smD]; rw [ih (by omega), h (7 + k) (by omega)]
  have hr : rdZ z = rdZ y := by
    unfold rdZ
    rw [e6]
    exact rdS_cg (fun j hj => h (7 + j) (by omega))
  unfold SN smX
  rw [e6, hd _ (by omega), hr, h 71 (by decide), h 72 (by decide), h 73 (by decide)]
set_option maxRecDepth 100000 in
set_option maxHeartbeats 4000000 in
theorem s3_sums (G : GT) (s : Nat → Int) (st : Nat) (kp : Int) (t : Nat → Int) (T : Nat) (hg : GI s st kp t T) (K : Nat → Nat → Int) (r : Nat → Option Nat) (h : IC K r s st kp t T) (o2 : Option Value) : WK G mL_sums (some (.int (iI (SN s)))) 61 [some (rf G 0), some (.int (iI (smD s (s 6).toNat))), o2] [] K r s st kp t T := by
  by_cases hc : s 71 = 1
  · obtain ⟨K1, r1, c1, h1, -⟩ := o_X5_readNumbers G K r s st kp t T h hg
    obtain ⟨K2, r2, c2, h2, -⟩ := o_X5_errors G K1 r1 s st kp t T h1 hg
    obtain ⟨K3, r3, c3, h3, -⟩ := o_X5_hasStopped G K2 r2 s st kp t T h2 hg
    obtain ⟨K4, r4, c4, h4⟩ := g_part G K3 r3 s st kp t T h3 hg hc
    obtain ⟨K5, r5, c5, h5⟩ := g_why G K4 r4 s st kp t T h4 hg hc
    refine ⟨K5, r5, h5, fun x C hZ => ?_⟩
    refine V_bipush C dL_sums_61 (by decide +kernel) ?_
    refine V_iload_n C dL_sums_63 rfl rfl ?_
    refine V_imul C dL_sums_64 ?_
    refine V_aload_n C dL_sums_65 rfl rfl ?_
    refine V_V1 (k2 := 0) (s2 := 0) C dL_sums_66 lL_153 kX5_readNumbers (c1) (by decide) (rfl) rfl rfl rfl ⟨Nat.le_of_ble_eq_true rfl, Nat.le_of_ble_eq_true rfl⟩ (Nat.le_of_ble_eq_true rfl) (Nat.le_refl _) (Nat.le_refl _) ?_
    refine V_iadd C dL_sums_69 ?_
    refine V_bipush C dL_sums_70 (by decide +kernel) ?_
    refine V_aload_n C dL_sums_72 rfl rfl ?_
    refine V_V1 (k2 := 0) (s2 := 0) C dL_sums_73 lL_156 kX5_errors (c2) (by decide) (rfl) rfl rfl rfl ⟨Nat.le_of_ble_eq_true rfl, Nat.le_of_ble_eq_true rfl⟩ (Nat.le_of_ble_eq_true rfl) (Nat.le_refl _) (Nat.le_refl _) ?_
    refine V_imul C dL_sums_76 ?_
    refine V_iadd C dL_sums_77 ?_
    refine V_aload_n C dL_sums_78 rfl rfl ?_
    refine V_V1 (k2 := 0) (s2 := 0) C dL_sums_79 lL_159 kX5_hasStopped (c3) (by decide) (rfl) rfl rfl rfl ⟨Nat.le_of_ble_eq_true rfl, Nat.le_of_ble_eq_true rfl⟩ (Nat.le_of_ble_eq_true rfl) (Nat.le_refl _) (Nat.le_refl _) ?_
    rw [decide_eq_true hc, show b2 true = 1 from rfl]
    refine V_if_eq (tgt := 102) C dL_sums_82 (by decide) (by omega) (fun q82 => by exfalso; omega) (fun q82 => ?_)
    refine V_bipush C dL_sums_85 (by decide +kernel) ?_
    refine V_iconst C dL_sums_87 ?_
    refine V_aload_n C dL_sums_88 rfl rfl ?_
    refine V_SH1 (k2 := 0) (s2 := 0) C dL_sums_89 lL_163 kL_part (c4) rfl rfl ⟨Nat.le_of_ble_eq_true rfl, Nat.le_of_ble_eq_true rfl⟩ (Nat.le_of_ble_eq_true rfl) (Nat.le_refl _) (Nat.le_refl _) ?_
    refine V_imul C dL_sums_92 ?_
    refine V_iadd C dL_sums_93 ?_
    refine V_aload_n C dL_sums_94 rfl rfl ?_
    refine V_SH1 (k2 := 0) (s2 := 0) C dL_sums_95 lL_166 kL_why (c5) rfl rfl ⟨Nat.le_of_ble_eq_true rfl, Nat.le_of_ble_eq_true rfl⟩ (Nat.le_of_ble_eq_true rfl) (Nat.le_refl _) (Nat.le_refl _) ?_
    refine V_iadd C dL_sums_98 ?_
    refine V_goto (tgt := 103) C dL_sums_99 (by decide) ?_
    refine V_iadd C dL_sums_103 ?_
    refine V_eq rfl rfl (st' := [.int (iI (SN s))]) (by rw [← SN_e]; unfold smX; rw [if_pos hc]) rfl ?_
    exact V_iret C dL_sums_104 rfl hZ rfl rfl
  · obtain ⟨K1, r1, c1, h1, -⟩ := o_X5_readNumbers G K r s st kp t T h hg
    obtain ⟨K2, r2, c2, h2, -⟩ := o_X5_errors G K1 r1 s st kp t T h1 hg
    obtain ⟨K3, r3, c3, h3, -⟩ := o_X5_hasStopped G K2 r2 s st kp t T h2 hg
    refine ⟨K3, r3, h3, fun x C hZ => ?_⟩
    refine V_bipush C dL_sums_61 (by decide +kernel) ?_
    refine V_iload_n C dL_sums_63 rfl rfl ?_
    refine V_imul C dL_sums_64 ?_
    refine V_aload_n C dL_sums_65 rfl rfl ?_
    refine V_V1 (k2 := 0) (s2 := 0) C dL_sums_66 lL_153 kX5_readNumbers (c1) (by decide) (rfl) rfl rfl rfl ⟨Nat.le_of_ble_eq_true rfl, Nat.le_of_ble_eq_true rfl⟩ (Nat.le_of_ble_eq_true rfl) (Nat.le_refl _) (Nat.le_refl _) ?_
    refine V_iadd C dL_sums_69 ?_
    refine V_bipush C dL_sums_70 (by decide +kernel) ?_
    refine V_aload_n C dL_sums_72 rfl rfl ?_
    refine V_V1 (k2 := 0) (s2 := 0) C dL_sums_73 lL_156 kX5_errors (c2) (by decide) (rfl) rfl rfl rfl ⟨Nat.le_of_ble_eq_true rfl, Nat.le_of_ble_eq_true rfl⟩ (Nat.le_of_ble_eq_true rfl) (Nat.le_refl _) (Nat.le_refl _) ?_
    refine V_imul C dL_sums_76 ?_
    refine V_iadd C dL_sums_77 ?_
    refine V_aload_n C dL_sums_78 rfl rfl ?_
    refine V_V1 (k2 := 0) (s2 := 0) C dL_sums_79 lL_159 kX5_hasStopped (c3) (by decide) (rfl) rfl rfl rfl ⟨Nat.le_of_ble_eq_true rfl, Nat.le_of_ble_eq_true rfl⟩ (Nat.le_of_ble_eq_true rfl) (Nat.le_refl _) (Nat.le_refl _) ?_
    rw [decide_eq_false hc, show b2 false = 0 from rfl]
    refine V_if_eq (tgt := 102) C dL_sums_82 (by decide) (by omega) (fun q82 => ?_) (fun q82 => by exfalso; omega)
    refine V_iconst C dL_sums_102 ?_
    refine V_iadd C dL_sums_103 ?_
    refine V_eq rfl rfl (st' := [.int (iI (SN s))]) (by rw [← SN_e]; unfold smX; rw [if_neg hc]) rfl ?_
    exact V_iret C dL_sums_104 rfl hZ rfl rfl
set_option maxRecDepth 100000 in
set_option maxHeartbeats 4000000 in
theorem s2_sums (G : GT) (s : Nat → Int) (st : Nat) (kp : Int) (t : Nat → Int) (T : Nat) (hg : GI s st kp t T) : ∀ (f j : Nat) (K : Nat → Nat → Int) (r : Nat → Option Nat), IC K r s st kp t T → j + f = (s 6).toNat → WK G mL_sums (some (.int (iI (SN s)))) 31 [some (rf G 0), some (.int (iI (smD s j))), some (.int (iI (j : Int)))] [] K r s st kp t T := by
  have g6 := hg.1.2.1
  intro f
  induction f with
  | zero =>
    intro j K r h e
    have ej : (j : Int) = s 6 := by omega
    have ej2 : j = (s 6).toNat := by omega
    rw [ej2]
    obtain ⟨K1, r1, c1, h1, -⟩ := o_X5_streamLength G K r s st kp t T h hg
    obtain ⟨KF, rF, hF, kF⟩ := s3_sums G s st kp t T hg K1 r1 h1 _
    refine ⟨KF, rF, hF, fun x C hZ => ?_⟩
    rw [← ej2]
    refine V_iload_n C dL_sums_31 rfl rfl ?_
    refine V_aload_n C dL_sums_32 rfl rfl ?_
    refine V_V1 (k2 := 0) (s2 := 0) C dL_sums_33 lL_147 kX5_streamLength (c1) (by decide) (rfl) rfl rfl rfl ⟨Nat.le_of_ble_eq_true rfl, Nat.le_of_ble_eq_true rfl⟩ (Nat.le_of_ble_eq_true rfl) (Nat.le_refl _) (Nat.le_refl _) ?_
    refine V_icmp_ge (tgt := 61) C dL_sums_36 (by decide) (by omega) (by omega) (fun q36 => ?_) (fun q36 => by exfalso; omega)
    rw [ej2]; exact kF x C hZ
  | succ f ih =>
    intro j K r h e
    have hj : (j : Int) < s 6 := by omega
    obtain ⟨K1, r1, c1, h1, -⟩ := o_X5_streamLength G K r s st kp t T h hg
    obtain ⟨K2, r2, c2, h2⟩ := g_digit G K1 r1 s st kp t T h1 hg j hj
    obtain ⟨KF, rF, hF, kF⟩ := ih (j + 1) K2 r2 h2 (by omega)
    refine ⟨KF, rF, hF, fun x C hZ => ?_⟩
    refine V_iload_n C dL_sums_31 rfl rfl ?_
    refine V_aload_n C dL_sums_32 rfl rfl ?_
    refine V_V1 (k2 := 0) (s2 := 0) C dL_sums_33 lL_147 kX5_streamLength (c1) (by decide) (rfl) rfl rfl rfl ⟨Nat.le_of_ble_eq_true rfl, Nat.le_of_ble_eq_true rfl⟩ (Nat.le_of_ble_eq_true rfl) (Nat.le_refl _) (Nat.le_refl _) ?_
    refine V_icmp_ge (tgt := 61) C dL_sums_36 (by decide) (by omega) (by omega) (fun q36 => by exfalso; omega) (fun q36 => ?_)
    refine V_iload_n C dL_sums_39 rfl rfl ?_
    refine V_bipush C dL_sums_40 (by decide +kernel) ?_
    refine V_icmp_ge (tgt := 61) C dL_sums_42 (by decide) (by omega) (by omega) (fun q42 => by exfalso; omega) (fun q42 => ?_)
    refine V_iconst C dL_sums_45 ?_
    refine V_iload_n C dL_sums_46 rfl rfl ?_
    refine V_imul C dL_sums_47 ?_
    refine V_aload_n C dL_sums_48 rfl rfl ?_
    refine V_iload_n C dL_sums_49 rfl rfl ?_
    refine V_SH1 (k2 := 0) (s2 := 0) C dL_sums_50 lL_150 kL_digit (c2) rfl rfl ⟨Nat.le_of_ble_eq_true rfl, Nat.le_of_ble_eq_true rfl⟩ (Nat.le_of_ble_eq_true rfl) (Nat.le_refl _) (Nat.le_refl _) ?_
    refine V_iadd C dL_sums_53 ?_
    refine V_istore_n C dL_sums_54 rfl (Nat.le_of_ble_eq_true rfl) rfl ?_
    refine V_iinc C dL_sums_55 rfl (Nat.le_of_ble_eq_true rfl) rfl ?_
    refine V_goto (tgt := 31) C dL_sums_58 (by decide) ?_
    exact kF x C hZ
set_option maxRecDepth 100000 in
set_option maxHeartbeats 4000000 in
theorem s1_sums (G : GT) (s : Nat → Int) (st : Nat) (kp : Int) (t : Nat → Int) (T : Nat) (hg : GI s st kp t T) : ∀ (f k : Nat) (K : Nat → Nat → Int) (r : Nat → Option Nat), IC K r s st kp t T → k + f = 6 → WK G mL_sums (some (.int (iI (SN s)))) 6 [some (rf G 0), some (.int (iI (smN s k))), some (.int (iI (k : Int)))] [] K r s st kp t T := by
  have g6 := hg.1.2.1
  intro f
  induction f with
  | zero =>
    intro k K r h e
    obtain rfl : k = 6 := by omega
    obtain ⟨KF, rF, hF, kF⟩ := s2_sums G s st kp t T hg (s 6).toNat 0 K r h (by omega)
    refine ⟨KF, rF, hF, fun x C hZ => ?_⟩
    refine V_iload_n C dL_sums_6 rfl rfl ?_
    refine V_bipush C dL_sums_7 (by decide +kernel) ?_
    refine V_icmp_ge (tgt := 29) C dL_sums_9 (by decide) (by omega) (by omega) (fun q9 => ?_) (fun q9 => by exfalso; omega)
    refine V_iconst C dL_sums_29 ?_
    refine V_istore_n C dL_sums_30 rfl (Nat.le_of_ble_eq_true rfl) rfl ?_
    exact kF x C hZ
  | succ f ih =>
    intro k K r h e
    obtain ⟨K1, r1, c1, h1⟩ := g_number G K r s st kp t T h hg k (by omega) (s k) rfl
    obtain ⟨KF, rF, hF, kF⟩ := ih (k + 1) K1 r1 h1 (by omega)
    refine ⟨KF, rF, hF, fun x C hZ => ?_⟩
    refine V_iload_n C dL_sums_6 rfl rfl ?_
    refine V_bipush C dL_sums_7 (by decide +kernel) ?_
    refine V_icmp_ge (tgt := 29) C dL_sums_9 (by decide) (by omega) (by omega) (fun q9 => by exfalso; omega) (fun q9 => ?_)
    refine V_bipush C dL_sums_12 (by decide +kernel) ?_
    refine V_iload_n C dL_sums_14 rfl rfl ?_
    refine V_imul C dL_sums_15 ?_
    refine V_aload_n C dL_sums_16 rfl rfl ?_
    refine V_iload_n C dL_sums_17 rfl rfl ?_
    refine V_SH1 (k2 := 0) (s2 := 0) C dL_sums_18 lL_144 kL_number (c1) rfl rfl ⟨Nat.le_of_ble_eq_true rfl, Nat.le_of_ble_eq_true rfl⟩ (Nat.le_of_ble_eq_true rfl) (Nat.le_refl _) (Nat.le_refl _) ?_
    refine V_iadd C dL_sums_21 ?_
    refine V_istore_n C dL_sums_22 rfl (Nat.le_of_ble_eq_true rfl) rfl ?_
    refine V_iinc C dL_sums_23 rfl (Nat.le_of_ble_eq_true rfl) rfl ?_
    refine V_goto (tgt := 6) C dL_sums_26 (by decide) ?_
    exact kF x C hZ
set_option maxRecDepth 100000 in
set_option maxHeartbeats 4000000 in
theorem c_sums (G : GT) (s : Nat → Int) (st : Nat) (kp : Int) (t : Nat → Int) (T : Nat) (hg : GI s st kp t T) (K : Nat → Nat → Int) (r : Nat → Option Nat) (h : IC K r s st kp t T) : ∃ K1 r1, CtO G yL_sums mL_sums [rf G 0] K r (some (.int (iI (SN s)))) K1 r1 ∧ IC K1 r1 s st kp t T := by
  obtain ⟨KF, rF, hF, kF⟩ := s1_sums G s st kp t T hg 6 0 K r h (by omega)
  refine ⟨KF, rF, ?_, hF⟩
  refine Ct_of kL_sums.1 (by decide) [some (rf G 0), none, none] rfl (Nat.le_of_ble_eq_true rfl) ?_
  intro x C hZ
  refine V_sipush C dL_sums_0 (by decide +kernel) ?_
  refine V_istore_n C dL_sums_3 rfl (Nat.le_of_ble_eq_true rfl) rfl ?_
  refine V_iconst C dL_sums_4 ?_
  refine V_istore_n C dL_sums_5 rfl (Nat.le_of_ble_eq_true rfl) rfl ?_
  exact kF x C hZ
set_option maxRecDepth 100000 in
set_option maxHeartbeats 4000000 in
theorem f_hangs (G : GT) (s : Nat → Int) (st : Nat) (kp : Int) (t : Nat → Int) (T : Nat) (hg : GI s st kp t T) (K : Nat → Nat → Int) (r : Nat → Option Nat) (h : IC K r s st kp t T) (o4 o5 o6 o7 o8 o9 o10 o11 o12 : Option Value) : WK G mL_hangs (some (.int (iI 1))) 516 [some (rf G 0), some (.int (iI (su s 6))), some (.int (iI (clT (rdZ s).2.2.2 (rdZ s).2.2.2.length : Nat))), some (.int (iI 1)), o4, o5, o6, o7, o8, o9, o10, o11, o12] [] K r s st kp t T := by
  have hs6 := hg.1.2.1
  obtain ⟨⟨a9, ha1, ha2⟩, h1c⟩ := sh_V hg.1
  have hsu := su_r (k := 6) hg.1.1
  have hR := rd_RI (fun j => s (7 + j)) (s 6).toNat
  have e9 : rdS (fun j => s (7 + j)) (s 6).toNat = rdZ s := rfl
  unfold RI at hR
  rw [e9] at hR
  obtain ⟨-, hB, hC, -⟩ := hR
  have hle := rdS_le (fun j => s (7 + j)) (s 6).toNat
  rw [e9] at hle
  have hT9 := clT_all (rdZ s).2.2.2
  by_cases hc : (rdZ s).2.2.1 = 0
  · have hC := hC hc
    obtain ⟨K1, r1, c1, h1, -⟩ := o_X5_total G K r s st kp t T h hg
    obtain ⟨K2, r2, c2, h2, -⟩ := o_X5_looseDigits G K1 r1 s st kp t T h1 hg
    obtain ⟨K3, r3, c3, h3, -⟩ := o_X5_streamLength G K2 r2 s st kp t T h2 hg
    obtain ⟨K4, r4, c4, h4, -⟩ := o_X5_errors G K3 r3 s st kp t T h3 hg
    obtain ⟨K5, r5, c5, h5, -⟩ := o_X5_looseDigits G K4 r4 s st kp t T h4 hg
    obtain ⟨K6, r6, c6, h6, -⟩ := o_X5_streamLength G K5 r5 s st kp t T h5 hg
    obtain ⟨K7, r7, c7, h7, -⟩ := o_X5_streamLength G K6 r6 s st kp t T h6 hg
    obtain ⟨K8, r8, c8, h8, -⟩ := o_X5_sparseShare G K7 r7 s st kp t T h7 hg
    obtain ⟨K9, r9, c9, h9, -⟩ := o_X5_sparseShare G K8 r8 s st kp t T h8 hg
    refine ⟨K9, r9, h9, fun x C hZ => ?_⟩
    refine V_iload_n C dL_hangs_516 rfl rfl ?_
    refine V_if_eq (tgt := 592) C dL_hangs_517 (by decide) (by omega) (fun q517 => by exfalso; omega) (fun q517 => ?_)
    refine V_iload_n C dL_hangs_520 rfl rfl ?_
    refine V_aload_n C dL_hangs_521 rfl rfl ?_
    refine V_V1 (k2 := 0) (s2 := 0) C dL_hangs_522 lL_205 kX5_total (c1) (by decide) (rfl) rfl rfl rfl ⟨Nat.le_of_ble_eq_true rfl, Nat.le_of_ble_eq_true rfl⟩ (Nat.le_of_ble_eq_true rfl) (Nat.le_refl _) (Nat.le_refl _) ?_
    refine V_icmp_ne (tgt := 592) C dL_hangs_525 (by decide) (by omega) (by omega) (fun q525 => by exfalso; omega) (fun q525 => ?_)
    refine V_iload_n C dL_hangs_528 rfl rfl ?_
    refine V_aload_n C dL_hangs_529 rfl rfl ?_
    refine V_V1 (k2 := 0) (s2 := 0) C dL_hangs_530 lL_208 kX5_looseDigits (c2) (by decide) (rfl) rfl rfl rfl ⟨Nat.le_of_ble_eq_true rfl, Nat.le_of_ble_eq_true rfl⟩ (Nat.le_of_ble_eq_true rfl) (Nat.le_refl _) (Nat.le_refl _) ?_
    refine V_iadd C dL_hangs_533 ?_
    refine V_aload_n C dL_hangs_534 rfl rfl ?_
    refine V_V1 (k2 := 0) (s2 := 0) C dL_hangs_535 lL_147 kX5_streamLength (c3) (by decide) (rfl) rfl rfl rfl ⟨Nat.le_of_ble_eq_true rfl, Nat.le_of_ble_eq_true rfl⟩ (Nat.le_of_ble_eq_true rfl) (Nat.le_refl _) (Nat.le_refl _) ?_
    refine V_icmp_gt (tgt := 592) C dL_hangs_538 (by decide) (by omega) (by omega) (fun q538 => by exfalso; omega) (fun q538 => ?_)
    refine V_aload_n C dL_hangs_541 rfl rfl ?_
    refine V_V1 (k2 := 0) (s2 := 0) C dL_hangs_542 lL_156 kX5_errors (c4) (by decide) (rfl) rfl rfl rfl ⟨Nat.le_of_ble_eq_true rfl, Nat.le_of_ble_eq_true rfl⟩ (Nat.le_of_ble_eq_true rfl) (Nat.le_refl _) (Nat.le_refl _) ?_
    refine V_if_gt (tgt := 561) C dL_hangs_545 (by decide) (by omega) (fun q545 => by exfalso; omega) (fun q545 => ?_)
    refine V_iload_n C dL_hangs_548 rfl rfl ?_
    refine V_aload_n C dL_hangs_549 rfl rfl ?_
    refine V_V1 (k2 := 0) (s2 := 0) C dL_hangs_550 lL_208 kX5_looseDigits (c5) (by decide) (rfl) rfl rfl rfl ⟨Nat.le_of_ble_eq_true rfl, Nat.le_of_ble_eq_true rfl⟩ (Nat.le_of_ble_eq_true rfl) (Nat.le_refl _) (Nat.le_refl _) ?_
    refine V_iadd C dL_hangs_553 ?_
    refine V_aload_n C dL_hangs_554 rfl rfl ?_
    refine V_V1 (k2 := 0) (s2 := 0) C dL_hangs_555 lL_147 kX5_streamLength (c6) (by decide) (rfl) rfl rfl rfl ⟨Nat.le_of_ble_eq_true rfl, Nat.le_of_ble_eq_true rfl⟩ (Nat.le_of_ble_eq_true rfl) (Nat.le_refl _) (Nat.le_refl _) ?_
    refine V_icmp_ne (tgt := 592) C dL_hangs_558 (by decide) (by omega) (by omega) (fun q558 => by exfalso; omega) (fun q558 => ?_)
    refine V_aload_n C dL_hangs_561 rfl rfl ?_
    refine V_V1 (k2 := 0) (s2 := 0) C dL_hangs_562 lL_147 kX5_streamLength (c7) (by decide) (rfl) rfl rfl rfl ⟨Nat.le_of_ble_eq_true rfl, Nat.le_of_ble_eq_true rfl⟩ (Nat.le_of_ble_eq_true rfl) (Nat.le_refl _) (Nat.le_refl _) ?_
    refine V_bipush C dL_hangs_565 (by decide +kernel) ?_
    refine V_icmp_gt (tgt := 592) C dL_hangs_567 (by decide) (by omega) (by omega) (fun q567 => by exfalso; omega) (fun q567 => ?_)
    refine V_aload_n C dL_hangs_570 rfl rfl ?_
    refine V_V1 (k2 := 0) (s2 := 0) C dL_hangs_571 lL_211 kX5_sparseShare (c8) (by decide) (rfl) rfl rfl rfl ⟨Nat.le_of_ble_eq_true rfl, Nat.le_of_ble_eq_true rfl⟩ (Nat.le_of_ble_eq_true rfl) (Nat.le_refl _) (Nat.le_refl _) ?_
    refine V_dconst1 C dL_hangs_574 ?_
    refine V_dcmp C dL_hangs_575 ?_
    rw [ha2]
    refine V_if_gt (tgt := 592) C dL_hangs_576 (by decide) (by omega) (fun q576 => by exfalso; omega) (fun q576 => ?_)
    refine V_aload_n C dL_hangs_579 rfl rfl ?_
    refine V_V1 (k2 := 0) (s2 := 0) C dL_hangs_580 lL_211 kX5_sparseShare (c9) (by decide) (rfl) rfl rfl rfl ⟨Nat.le_of_ble_eq_true rfl, Nat.le_of_ble_eq_true rfl⟩ (Nat.le_of_ble_eq_true rfl) (Nat.le_refl _) (Nat.le_refl _) ?_
    refine V_dconst0 C dL_hangs_583 ?_
    refine V_dcmp C dL_hangs_584 ?_
    rw [h1c]
    refine V_if_le (tgt := 592) C dL_hangs_585 (by decide) (by omega) (fun q585 => by exfalso; omega) (fun q585 => ?_)
    refine V_iconst C dL_hangs_588 ?_
    refine V_goto (tgt := 593) C dL_hangs_589 (by decide) ?_
    exact V_zret C dL_hangs_593 rfl hZ (by omega) rfl rfl
  · obtain ⟨K1, r1, c1, h1, -⟩ := o_X5_total G K r s st kp t T h hg
    obtain ⟨K2, r2, c2, h2, -⟩ := o_X5_looseDigits G K1 r1 s st kp t T h1 hg
    obtain ⟨K3, r3, c3, h3, -⟩ := o_X5_streamLength G K2 r2 s st kp t T h2 hg
    obtain ⟨K4, r4, c4, h4, -⟩ := o_X5_errors G K3 r3 s st kp t T h3 hg
    obtain ⟨K5, r5, c5, h5, -⟩ := o_X5_streamLength G K4 r4 s st kp t T h4 hg
    obtain ⟨K6, r6, c6, h6, -⟩ := o_X5_sparseShare G K5 r5 s st kp t T h5 hg
    obtain ⟨K7, r7, c7, h7, -⟩ := o_X5_sparseShare G K6 r6 s st kp t T h6 hg
    refine ⟨K7, r7, h7, fun x C hZ => ?_⟩
    refine V_iload_n C dL_hangs_516 rfl rfl ?_
    refine V_if_eq (tgt := 592) C dL_hangs_517 (by decide) (by omega) (fun q517 => by exfalso; omega) (fun q517 => ?_)
    refine V_iload_n C dL_hangs_520 rfl rfl ?_
    refine V_aload_n C dL_hangs_521 rfl rfl ?_
    refine V_V1 (k2 := 0) (s2 := 0) C dL_hangs_522 lL_205 kX5_total (c1) (by decide) (rfl) rfl rfl rfl ⟨Nat.le_of_ble_eq_true rfl, Nat.le_of_ble_eq_true rfl⟩ (Nat.le_of_ble_eq_true rfl) (Nat.le_refl _) (Nat.le_refl _) ?_
    refine V_icmp_ne (tgt := 592) C dL_hangs_525 (by decide) (by omega) (by omega) (fun q525 => by exfalso; omega) (fun q525 => ?_)
    refine V_iload_n C dL_hangs_528 rfl rfl ?_
    refine V_aload_n C dL_hangs_529 rfl rfl ?_
    refine V_V1 (k2 := 0) (s2 := 0) C dL_hangs_530 lL_208 kX5_looseDigits (c2) (by decide) (rfl) rfl rfl rfl ⟨Nat.le_of_ble_eq_true rfl, Nat.le_of_ble_eq_true rfl⟩ (Nat.le_of_ble_eq_true rfl) (Nat.le_refl _) (Nat.le_refl _) ?_
    refine V_iadd C dL_hangs_533 ?_
    refine V_aload_n C dL_hangs_534 rfl rfl ?_
    refine V_V1 (k2 := 0) (s2 := 0) C dL_hangs_535 lL_147 kX5_streamLength (c3) (by decide) (rfl) rfl rfl rfl ⟨Nat.le_of_ble_eq_true rfl, Nat.le_of_ble_eq_true rfl⟩ (Nat.le_of_ble_eq_true rfl) (Nat.le_refl _) (Nat.le_refl _) ?_
    refine V_icmp_gt (tgt := 592) C dL_hangs_538 (by decide) (by omega) (by omega) (fun q538 => by exfalso; omega) (fun q538 => ?_)
    refine V_aload_n C dL_hangs_541 rfl rfl ?_
    refine V_V1 (k2 := 0) (s2 := 0) C dL_hangs_542 lL_156 kX5_errors (c4) (by decide) (rfl) rfl rfl rfl ⟨Nat.le_of_ble_eq_true rfl, Nat.le_of_ble_eq_true rfl⟩ (Nat.le_of_ble_eq_true rfl) (Nat.le_refl _) (Nat.le_refl _) ?_
    refine V_if_gt (tgt := 561) C dL_hangs_545 (by decide) (by omega) (fun q545 => ?_) (fun q545 => by exfalso; omega)
    refine V_aload_n C dL_hangs_561 rfl rfl ?_
    refine V_V1 (k2 := 0) (s2 := 0) C dL_hangs_562 lL_147 kX5_streamLength (c5) (by decide) (rfl) rfl rfl rfl ⟨Nat.le_of_ble_eq_true rfl, Nat.le_of_ble_eq_true rfl⟩ (Nat.le_of_ble_eq_true rfl) (Nat.le_refl _) (Nat.le_refl _) ?_
    refine V_bipush C dL_hangs_565 (by decide +kernel) ?_
    refine V_icmp_gt (tgt := 592) C dL_hangs_567 (by decide) (by omega) (by omega) (fun q567 => by exfalso; omega) (fun q567 => ?_)
    refine V_aload_n C dL_hangs_570 rfl rfl ?_
    refine V_V1 (k2 := 0) (s2 := 0) C dL_hangs_571 lL_211 kX5_sparseShare (c6) (by decide) (rfl) rfl rfl rfl ⟨Nat.le_of_ble_eq_true rfl, Nat.le_of_ble_eq_true rfl⟩ (Nat.le_of_ble_eq_true rfl) (Nat.le_refl _) (Nat.le_refl _) ?_
    refine V_dconst1 C dL_hangs_574 ?_
    refine V_dcmp C dL_hangs_575 ?_
    rw [ha2]
    refine V_if_gt (tgt := 592) C dL_hangs_576 (by decide) (by omega) (fun q576 => by exfalso; omega) (fun q576 => ?_)
    refine V_aload_n C dL_hangs_579 rfl rfl ?_
    refine V_V1 (k2 := 0) (s2 := 0) C dL_hangs_580 lL_211 kX5_sparseShare (c7) (by decide) (rfl) rfl rfl rfl ⟨Nat.le_of_ble_eq_true rfl, Nat.le_of_ble_eq_true rfl⟩ (Nat.le_of_ble_eq_true rfl) (Nat.le_refl _) (Nat.le_refl _) ?_
    refine V_dconst0 C dL_hangs_583 ?_
    refine V_dcmp C dL_hangs_584 ?_
    rw [h1c]
    refine V_if_le (tgt := 592) C dL_hangs_585 (by decide) (by omega) (fun q585 => by exfalso; omega) (fun q585 => ?_)
    refine V_iconst C dL_hangs_588 ?_
    refine V_goto (tgt := 593) C dL_hangs_589 (by decide) ?_
    exact V_zret C dL_hangs_593 rfl hZ (by omega) rfl rfl
set_option maxRecDepth 100000 in
set_option maxHeartbeats 4000000 in
theorem r_hangs (G : GT) (s : Nat → Int) (st : Nat) (kp : Int) (t : Nat → Int) (T : Nat) (hg : GI s st kp t T) (o4 o7 o8 o9 o10 o11 o12 : Option Value) : ∀ (f i : Nat) (K : Nat → Nat → Int) (r : Nat → Option Nat), IC K r s st kp t T → i + f = (rdZ s).2.2.2.length → WK G mL_hangs (some (.int (iI 1))) 450 [some (rf G 0), some (.int (iI (su s 6))), some (.int (iI (clT (rdZ s).2.2.2 i : Nat))), some (.int (iI 1)), o4, some (.int (iI ((rdZ s).2.2.2.length : Nat))), some (.int (iI (i : Int))), o7, o8, o9, o10, o11, o12] [] K r s st kp t T := by
  have hl := rdZ_len hg.1
  intro f
  induction f with
  | zero =>
    intro i K r h e
    obtain rfl : i = (rdZ s).2.2.2.length := by omega
    obtain ⟨KF, rF, hF, kF⟩ := f_hangs G s st kp t T hg K r h _ _ _ _ _ _ _ _ _
    refine ⟨KF, rF, hF, fun x C hZ => ?_⟩
    refine V_iload C dL_hangs_450 rfl ?_
    refine V_iload C dL_hangs_452 rfl ?_
    refine V_icmp_ge (tgt := 516) C dL_hangs_454 (by decide) (by omega) (by omega) (fun q454 => ?_) (fun q454 => by exfalso; omega)
    exact kF x C hZ
  | succ f ih =>
    intro i K r h e
    have hi : i < (rdZ s).2.2.2.length := by omega
    have hx : 1 ≤ (rdZ s).2.2.2.getD i 0 ∧ (rdZ s).2.2.2.getD i 0 ≤ 6764 := rd_get hi
    obtain ⟨K1, r1, c1, h1⟩ := g_readAt G K r s st kp t T h hg i hi
    obtain ⟨K2, r2, c2, h2⟩ := g_readAt G K1 r1 s st kp t T h1 hg i hi
    obtain ⟨K3, r3, c3, h3⟩ := g_readAt G K2 r2 s st kp t T h2 hg i hi
    obtain ⟨K4, r4, c4, h4⟩ := g_code G K3 r3 s st kp t T h3 hg _ hx
    obtain ⟨KF, rF, hF, kF⟩ := ih (i + 1) K4 r4 h4 (by omega)
    refine ⟨KF, rF, hF, fun x C hZ => ?_⟩
    refine V_iload C dL_hangs_450 rfl ?_
    refine V_iload C dL_hangs_452 rfl ?_
    refine V_icmp_ge (tgt := 516) C dL_hangs_454 (by decide) (by omega) (by omega) (fun q454 => by exfalso; omega) (fun q454 => ?_)
    refine V_iload_n C dL_hangs_457 rfl rfl ?_
    refine V_if_eq (tgt := 516) C dL_hangs_458 (by decide) (by omega) (fun q458 => by exfalso; omega) (fun q458 => ?_)
    refine V_aload_n C dL_hangs_461 rfl rfl ?_
    refine V_iload C dL_hangs_462 rfl ?_
    refine V_SH1 (k2 := 0) (s2 := 0) C dL_hangs_464 lL_200 kL_readAt (c1) rfl rfl ⟨Nat.le_of_ble_eq_true rfl, Nat.le_of_ble_eq_true rfl⟩ (Nat.le_of_ble_eq_true rfl) (Nat.le_refl _) (Nat.le_refl _) ?_
    refine V_iconst C dL_hangs_467 ?_
    refine V_icmp_lt (tgt := 487) C dL_hangs_468 (by decide) (by omega) (by omega) (fun q468 => by exfalso; omega) (fun q468 => ?_)
    refine V_aload_n C dL_hangs_471 rfl rfl ?_
    refine V_iload C dL_hangs_472 rfl ?_
    refine V_SH1 (k2 := 0) (s2 := 0) C dL_hangs_474 lL_200 kL_readAt (c2) rfl rfl ⟨Nat.le_of_ble_eq_true rfl, Nat.le_of_ble_eq_true rfl⟩ (Nat.le_of_ble_eq_true rfl) (Nat.le_refl _) (Nat.le_refl _) ?_
    refine V_sipush C dL_hangs_477 (by decide +kernel) ?_
    refine V_icmp_gt (tgt := 487) C dL_hangs_480 (by decide) (by omega) (by omega) (fun q480 => by exfalso; omega) (fun q480 => ?_)
    refine V_iconst C dL_hangs_483 ?_
    refine V_goto (tgt := 488) C dL_hangs_484 (by decide) ?_
    refine V_istore_n C dL_hangs_488 rfl (Nat.le_of_ble_eq_true rfl) rfl ?_
    refine V_iload_n C dL_hangs_489 rfl rfl ?_
    refine V_iload_n C dL_hangs_490 rfl rfl ?_
    refine V_if_eq (tgt := 507) C dL_hangs_491 (by decide) (by omega) (fun q491 => by exfalso; omega) (fun q491 => ?_)
    refine V_aload_n C dL_hangs_494 rfl rfl ?_
    refine V_aload_n C dL_hangs_495 rfl rfl ?_
    refine V_iload C dL_hangs_496 rfl ?_
    refine V_SH1 (k2 := 0) (s2 := 0) C dL_hangs_498 lL_200 kL_readAt (c3) rfl rfl ⟨Nat.le_of_ble_eq_true rfl, Nat.le_of_ble_eq_true rfl⟩ (Nat.le_of_ble_eq_true rfl) (Nat.le_refl _) (Nat.le_refl _) ?_
    refine V_SH1 (k2 := 0) (s2 := 0) C dL_hangs_501 lL_202 kL_code (c4) rfl rfl ⟨Nat.le_of_ble_eq_true rfl, Nat.le_of_ble_eq_true rfl⟩ (Nat.le_of_ble_eq_true rfl) (Nat.le_refl _) (Nat.le_refl _) ?_
    refine V_goto (tgt := 508) C dL_hangs_504 (by decide) ?_
    refine V_iadd C dL_hangs_508 ?_
    refine V_istore_n C dL_hangs_509 rfl (Nat.le_of_ble_eq_true rfl) rfl ?_
    refine V_iinc C dL_hangs_510 rfl (Nat.le_of_ble_eq_true rfl) rfl ?_
    refine V_goto (tgt := 450) C dL_hangs_513 (by decide) ?_
    exact kF x C hZ
set_option maxRecDepth 100000 in
set_option maxHeartbeats 4000000 in
theorem j_hangs (G : GT) (s : Nat → Int) (st : Nat) (kp : Int) (t : Nat → Int) (T : Nat) (hg : GI s st kp t T) (N : Nat) (hN : N ≤ 6764) (o6 o7 o8 o9 o10 o11 o12 : Option Value) : ∀ (f i : Nat) (K : Nat → Nat → Int) (r : Nat → Option Nat), IC K r s st kp t T → i + f = 17 → WK G mL_hangs (some (.int (iI 1))) 397 [some (rf G 0), some (.int (iI (su s 6))), some (.int (iI 0)), some (.int (iI 1)), some (.int (iI (fm 18 N : Nat))), some (.int (iI ((i + 1 : Nat) : Int))), o6, o7, o8, o9, o10, o11, o12] [] K r s st kp t T := by
  have hfm := fm_18 N
  have hl := rdZ_len hg.1
  intro f
  induction f with
  | zero =>
    intro i K r h e
    obtain rfl : i = 17 := by omega
    obtain ⟨K1, r1, c1, h1, -⟩ := o_X5_readNumbers G K r s st kp t T h hg
    obtain ⟨KF, rF, hF, kF⟩ := r_hangs G s st kp t T hg _ _ _ _ _ _ _ (rdZ s).2.2.2.length 0 K1 r1 h1 (by omega)
    refine ⟨KF, rF, hF, fun x C hZ => ?_⟩
    refine V_iload C dL_hangs_397 rfl ?_
    refine V_bipush C dL_hangs_399 (by decide +kernel) ?_
    refine V_icmp_ge (tgt := 441) C dL_hangs_401 (by decide) (by omega) (by omega) (fun q401 => ?_) (fun q401 => by exfalso; omega)
    refine V_aload_n C dL_hangs_441 rfl rfl ?_
    refine V_V1 (k2 := 0) (s2 := 0) C dL_hangs_442 lL_153 kX5_readNumbers (c1) (by decide) (rfl) rfl rfl rfl ⟨Nat.le_of_ble_eq_true rfl, Nat.le_of_ble_eq_true rfl⟩ (Nat.le_of_ble_eq_true rfl) (Nat.le_refl _) (Nat.le_refl _) ?_
    refine V_istore C dL_hangs_445 (Nat.le_of_ble_eq_true rfl) rfl ?_
    refine V_iconst C dL_hangs_447 ?_
    refine V_istore C dL_hangs_448 (Nat.le_of_ble_eq_true rfl) rfl ?_
    exact kF x C hZ
  | succ f ih =>
    intro i K r h e
    have hp : 1 <<< (i + 1) ≤ 131072 := by rw [Nat.one_shiftLeft]; exact Nat.le_trans (Nat.pow_le_pow_right (by decide) (show i + 1 ≤ 17 by omega)) (by decide)
    obtain ⟨Q, hQ⟩ : ∃ Q, Q = 1 <<< (i + 1) := ⟨_, rfl⟩
    have hQ1 : Q ≤ 131072 := by rw [hQ]; exact hp
    have hF := fu_of (nu_of hN).2.2.2.2.2 i (by omega)
    obtain ⟨X, hX⟩ : ∃ X, X = fm 18 N >>> i &&& 3 := ⟨_, rfl⟩
    have hX3 : X ≤ 3 := by rw [hX]; exact Nat.and_le_right
    rw [← hX, ← hQ] at hF
    by_cases c : fm 18 N < Q
    · obtain ⟨KF, rF, hF, kF⟩ := ih (i + 1) K r h (by omega)
      refine ⟨KF, rF, hF, fun x C hZ => ?_⟩
      refine V_iload C dL_hangs_397 rfl ?_
      refine V_bipush C dL_hangs_399 (by decide +kernel) ?_
      refine V_icmp_ge (tgt := 441) C dL_hangs_401 (by decide) (by omega) (by omega) (fun q401 => by exfalso; omega) (fun q401 => ?_)
      refine V_iload_n C dL_hangs_404 rfl rfl ?_
      refine V_if_eq (tgt := 441) C dL_hangs_405 (by decide) (by omega) (fun q405 => by exfalso; omega) (fun q405 => ?_)
      refine V_iload C dL_hangs_408 rfl ?_
      refine V_iconst C dL_hangs_410 ?_
      refine V_iload C dL_hangs_411 rfl ?_
      refine V_ishl C dL_hangs_413 1 (i + 1) (by first | rfl | omega) (by first | rfl | omega) (by omega) (by omega) ?_
      rw [← hQ]
      refine V_icmp_lt (tgt := 429) C dL_hangs_414 (by decide) (by omega) (by omega) (fun q414 => ?_) (fun q414 => by exfalso; omega)
      refine V_iconst C dL_hangs_429 ?_
      refine V_goto (tgt := 434) C dL_hangs_430 (by decide) ?_
      refine V_istore_n C dL_hangs_434 rfl (Nat.le_of_ble_eq_true rfl) rfl ?_
      refine V_iinc C dL_hangs_435 rfl (Nat.le_of_ble_eq_true rfl) rfl ?_
      refine V_goto (tgt := 397) C dL_hangs_438 (by decide) ?_
      exact kF x C hZ
    · have hX0 : X ≠ 0 := by
        rcases hF with w | w
        · exact absurd w c
        · exact w
      obtain ⟨KF, rF, hF, kF⟩ := ih (i + 1) K r h (by omega)
      refine ⟨KF, rF, hF, fun x C hZ => ?_⟩
      refine V_iload C dL_hangs_397 rfl ?_
      refine V_bipush C dL_hangs_399 (by decide +kernel) ?_
      refine V_icmp_ge (tgt := 441) C dL_hangs_401 (by decide) (by omega) (by omega) (fun q401 => by exfalso; omega) (fun q401 => ?_)
      refine V_iload_n C dL_hangs_404 rfl rfl ?_
      refine V_if_eq (tgt := 441) C dL_hangs_405 (by decide) (by omega) (fun q405 => by exfalso; omega) (fun q405 => ?_)
      refine V_iload C dL_hangs_408 rfl ?_
      refine V_iconst C dL_hangs_410 ?_
      refine V_iload C dL_hangs_411 rfl ?_
      refine V_ishl C dL_hangs_413 1 (i + 1) (by first | rfl | omega) (by first | rfl | omega) (by omega) (by omega) ?_
      rw [← hQ]
      refine V_icmp_lt (tgt := 429) C dL_hangs_414 (by decide) (by omega) (by omega) (fun q414 => by exfalso; omega) (fun q414 => ?_)
      refine V_iload C dL_hangs_417 rfl ?_
      refine V_iload C dL_hangs_419 rfl ?_
      refine V_iconst C dL_hangs_421 ?_
      refine V_isub C dL_hangs_422 ?_
      refine V_ishr C dL_hangs_423 (fm 18 N) i (by first | rfl | omega) (by first | rfl | omega) (by omega) (by omega) ?_
      refine V_iconst C dL_hangs_424 ?_
      refine V_iand C dL_hangs_425 (fm 18 N >>> i) 3 (by first | rfl | omega) (by first | rfl | omega) ?_
      rw [← hX]
      refine V_if_eq (tgt := 433) C dL_hangs_426 (by decide) (by omega) (fun q426 => by exfalso; omega) (fun q426 => ?_)
      refine V_iconst C dL_hangs_429 ?_
      refine V_goto (tgt := 434) C dL_hangs_430 (by decide) ?_
      refine V_istore_n C dL_hangs_434 rfl (Nat.le_of_ble_eq_true rfl) rfl ?_
      refine V_iinc C dL_hangs_435 rfl (Nat.le_of_ble_eq_true rfl) rfl ?_
      refine V_goto (tgt := 397) C dL_hangs_438 (by decide) ?_
      exact kF x C hZ
set_option maxRecDepth 100000 in
set_option maxHeartbeats 4000000 in
theorem w_hangs (G : GT) (s : Nat → Int) (st : Nat) (kp : Int) (t : Nat → Int) (T : Nat) (hg : GI s st kp t T) (k : Nat) (hk : k ≤ 5) (n : Nat) (hn : n ≤ 6764) (en : s k = n) (tt : Int) (o6 o7 o8 o9 : Option Value) (z10 : Int) (nx : ∀ (K : Nat → Nat → Int) (r : Nat → Option Nat), IC K r s st kp t T → ∀ (o5 o6 o7 o8 o9 o10 o11 o12 : Option Value), WK G mL_hangs (some (.int (iI 1))) 9 [some (rf G 0), some (.int (iI tt)), some (.int (iI 0)), some (.int (iI 1)), some (.int (iI ((k + 1 : Nat) : Int))), o5, o6, o7, o8, o9, o10, o11, o12] [] K r s st kp t T) : ∀ (f p : Nat) (K : Nat → Nat → Int) (r : Nat → Option Nat), IC K r s st kp t T → p + f = cn 22 (gm 18 n) → WK G mL_hangs (some (.int (iI 1))) 315 [some (rf G 0), some (.int (iI tt)), some (.int (iI 0)), some (.int (iI 1)), some (.int (iI (k : Int))), some (.int (iI (n : Int))), o6, o7, o8, o9, some (.int (iI z10)), some (.int (iI (wdS (gm 18 n) p))), some (.int (iI (p : Int)))] [] K r s st kp t T := by
  have hcn := cn_le 22 (gm 18 n)
  intro f
  induction f with
  | zero =>
    intro p K r h e
    obtain rfl : p = cn 22 (gm 18 n) := by omega
    have hr := wdS_r (gm 18 n) (cn 22 (gm 18 n))
    by_cases c : n = 0
    · obtain ⟨K1, r1, c1, h1⟩ := g_stepsOf G K r s st kp t T h hg k hk n en
      obtain ⟨KF, rF, hF, kF⟩ := nx K1 r1 h1 _ _ _ _ _ _ _ _
      refine ⟨KF, rF, hF, fun x C hZ => ?_⟩
      refine V_iload C dL_hangs_315 rfl ?_
      refine V_aload_n C dL_hangs_317 rfl rfl ?_
      refine V_iload C dL_hangs_318 rfl ?_
      refine V_SH1 (k2 := 0) (s2 := 0) C dL_hangs_320 lL_190 kL_stepsOf (c1) rfl rfl ⟨Nat.le_of_ble_eq_true rfl, Nat.le_of_ble_eq_true rfl⟩ (Nat.le_of_ble_eq_true rfl) (Nat.le_refl _) (Nat.le_refl _) ?_
      refine V_icmp_ge (tgt := 346) C dL_hangs_323 (by decide) (by omega) (by omega) (fun q323 => ?_) (fun q323 => by exfalso; omega)
      refine V_iload_n C dL_hangs_346 rfl rfl ?_
      refine V_if_eq (tgt := 372) C dL_hangs_347 (by decide) (by omega) (fun q347 => by exfalso; omega) (fun q347 => ?_)
      refine V_iload C dL_hangs_350 rfl ?_
      refine V_if_eq (tgt := 368) C dL_hangs_352 (by decide) (by omega) (fun q352 => ?_) (fun q352 => by exfalso; omega)
      refine V_iconst C dL_hangs_368 ?_
      refine V_goto (tgt := 373) C dL_hangs_369 (by decide) ?_
      refine V_istore_n C dL_hangs_373 rfl (Nat.le_of_ble_eq_true rfl) rfl ?_
      refine V_iinc C dL_hangs_374 rfl (Nat.le_of_ble_eq_true rfl) rfl ?_
      refine V_goto (tgt := 9) C dL_hangs_377 (by decide) ?_
      exact kF x C hZ
    · have h1 := cn_gm hn (by omega)
      have hw := wdS_cn h1
      have hw2 : wdS (gm 18 n) (cn 22 (gm 18 n)) = wd (gm 18 n) 0 ((0 : Nat) : Int) := hw
      obtain ⟨K1, r1, c1, h1⟩ := g_stepsOf G K r s st kp t T h hg k hk n en
      obtain ⟨K2, r2, c2, h2⟩ := g_word G K1 r1 s st kp t T h1 hg 0 (by decide) n hn 0 (by omega)
      obtain ⟨KF, rF, hF, kF⟩ := nx K2 r2 h2 _ _ _ _ _ _ _ _
      refine ⟨KF, rF, hF, fun x C hZ => ?_⟩
      refine V_iload C dL_hangs_315 rfl ?_
      refine V_aload_n C dL_hangs_317 rfl rfl ?_
      refine V_iload C dL_hangs_318 rfl ?_
      refine V_SH1 (k2 := 0) (s2 := 0) C dL_hangs_320 lL_190 kL_stepsOf (c1) rfl rfl ⟨Nat.le_of_ble_eq_true rfl, Nat.le_of_ble_eq_true rfl⟩ (Nat.le_of_ble_eq_true rfl) (Nat.le_refl _) (Nat.le_refl _) ?_
      refine V_icmp_ge (tgt := 346) C dL_hangs_323 (by decide) (by omega) (by omega) (fun q323 => ?_) (fun q323 => by exfalso; omega)
      refine V_iload_n C dL_hangs_346 rfl rfl ?_
      refine V_if_eq (tgt := 372) C dL_hangs_347 (by decide) (by omega) (fun q347 => by exfalso; omega) (fun q347 => ?_)
      refine V_iload C dL_hangs_350 rfl ?_
      refine V_if_eq (tgt := 368) C dL_hangs_352 (by decide) (by omega) (fun q352 => by exfalso; omega) (fun q352 => ?_)
      refine V_iload C dL_hangs_355 rfl ?_
      refine V_aload_n C dL_hangs_357 rfl rfl ?_
      refine V_iconst C dL_hangs_358 ?_
      refine V_iload C dL_hangs_359 rfl ?_
      refine V_iconst C dL_hangs_361 ?_
      refine V_SH1 (k2 := 0) (s2 := 0) C dL_hangs_362 lL_197 kL_word (c2) rfl rfl ⟨Nat.le_of_ble_eq_true rfl, Nat.le_of_ble_eq_true rfl⟩ (Nat.le_of_ble_eq_true rfl) (Nat.le_refl _) (Nat.le_refl _) ?_
      refine V_icmp_ne (tgt := 372) C dL_hangs_365 (by decide) (by omega) (by omega) (fun q365 => by exfalso; omega) (fun q365 => ?_)
      refine V_iconst C dL_hangs_368 ?_
      refine V_goto (tgt := 373) C dL_hangs_369 (by decide) ?_
      refine V_istore_n C dL_hangs_373 rfl (Nat.le_of_ble_eq_true rfl) rfl ?_
      refine V_iinc C dL_hangs_374 rfl (Nat.le_of_ble_eq_true rfl) rfl ?_
      refine V_goto (tgt := 9) C dL_hangs_377 (by decide) ?_
      exact kF x C hZ
  | succ f ih =>
    intro p K r h e
    obtain ⟨K1, r1, c1, h1⟩ := g_stepsOf G K r s st kp t T h hg k hk n en
    obtain ⟨K2, r2, c2, h2⟩ := g_word G K1 r1 s st kp t T h1 hg 2 (by decide) n hn p (by omega)
    obtain ⟨KF, rF, hF, kF⟩ := ih (p + 1) K2 r2 h2 (by omega)
    refine ⟨KF, rF, hF, fun x C hZ => ?_⟩
    refine V_iload C dL_hangs_315 rfl ?_
    refine V_aload_n C dL_hangs_317 rfl rfl ?_
    refine V_iload C dL_hangs_318 rfl ?_
    refine V_SH1 (k2 := 0) (s2 := 0) C dL_hangs_320 lL_190 kL_stepsOf (c1) rfl rfl ⟨Nat.le_of_ble_eq_true rfl, Nat.le_of_ble_eq_true rfl⟩ (Nat.le_of_ble_eq_true rfl) (Nat.le_refl _) (Nat.le_refl _) ?_
    refine V_icmp_ge (tgt := 346) C dL_hangs_323 (by decide) (by omega) (by omega) (fun q323 => by exfalso; omega) (fun q323 => ?_)
    refine V_iload C dL_hangs_326 rfl ?_
    refine V_aload_n C dL_hangs_328 rfl rfl ?_
    refine V_iconst C dL_hangs_329 ?_
    refine V_iload C dL_hangs_330 rfl ?_
    refine V_iload C dL_hangs_332 rfl ?_
    refine V_SH1 (k2 := 0) (s2 := 0) C dL_hangs_334 lL_197 kL_word (c2) rfl rfl ⟨Nat.le_of_ble_eq_true rfl, Nat.le_of_ble_eq_true rfl⟩ (Nat.le_of_ble_eq_true rfl) (Nat.le_refl _) (Nat.le_refl _) ?_
    refine V_iadd C dL_hangs_337 ?_
    refine V_istore C dL_hangs_338 (Nat.le_of_ble_eq_true rfl) rfl ?_
    refine V_iinc C dL_hangs_340 rfl (Nat.le_of_ble_eq_true rfl) rfl ?_
    refine V_goto (tgt := 315) C dL_hangs_343 (by decide) ?_
    exact kF x C hZ
set_option maxRecDepth 100000 in
set_option maxHeartbeats 4000000 in
theorem b_hangs (G : GT) (s : Nat → Int) (st : Nat) (kp : Int) (t : Nat → Int) (T : Nat) (hg : GI s st kp t T) (k : Nat) (hk : k ≤ 5) (n : Nat) (hn : n ≤ 6764) (en : s k = n) (tt : Int) (nx : ∀ (K : Nat → Nat → Int) (r : Nat → Option Nat), IC K r s st kp t T → ∀ (o5 o6 o7 o8 o9 o10 o11 o12 : Option Value), WK G mL_hangs (some (.int (iI 1))) 9 [some (rf G 0), some (.int (iI tt)), some (.int (iI 0)), some (.int (iI 1)), some (.int (iI ((k + 1 : Nat) : Int))), o5, o6, o7, o8, o9, o10, o11, o12] [] K r s st kp t T) (K : Nat → Nat → Int) (r : Nat → Option Nat) (h : IC K r s st kp t T) (o6 o8 o9 o10 o11 o12 : Option Value) (z7 : Int) : WK G mL_hangs (some (.int (iI 1))) 205 [some (rf G 0), some (.int (iI tt)), some (.int (iI 0)), some (.int (iI 1)), some (.int (iI (k : Int))), some (.int (iI (n : Int))), o6, some (.int (iI z7)), o8, o9, o10, o11, o12] [] K r s st kp t T := by
  obtain ⟨j, hj, ej⟩ : ∃ j : Nat, j ≤ 5 ∧ ((k : Int) + 1) % 6 = (j : Int) := ⟨(k + 1) % 6, by omega, by omega⟩
  obtain ⟨m, em, hm⟩ : ∃ m : Nat, s j = m ∧ m ≤ 6764 := by
    have := hg.1.1 j (by omega)
    exact ⟨(s j).toNat, by omega, by omega⟩
  obtain ⟨ad1, ad2, ad3⟩ := ad_sum hn hm
  have adr := adC_r (gm 18 n) (gm 18 m)
  by_cases c : n + m ≤ 6764
  · obtain ⟨K1, r1, c1, h1⟩ := g_number G K r s st kp t T h hg j hj (m : Int) em
    obtain ⟨K2, r2, c2, h2⟩ := g_byCarries G K1 r1 s st kp t T h1 hg k hk j hj n m en em
    obtain ⟨K3, r3, c3, h3⟩ := g_byCarries G K2 r2 s st kp t T h2 hg j hj k hk m n em en
    obtain ⟨K4, r4, c4, h4⟩ := g_carries G K3 r3 s st kp t T h3 hg k hk j hj n m en em
    obtain ⟨K5, r5, c5, h5⟩ := g_carries G K4 r4 s st kp t T h4 hg j hj k hk m n em en
    obtain ⟨K6, r6, c6, h6⟩ := g_say G K5 r5 s st kp t T h5 hg (n + m) (by omega)
    obtain ⟨KF, rF, hF, kF⟩ := w_hangs G s st kp t T hg k hk n hn en tt _ _ _ _ _ nx (cn 22 (gm 18 n)) 0 K6 r6 h6 (by omega)
    refine ⟨KF, rF, hF, fun x C hZ => ?_⟩
    refine V_iload C dL_hangs_205 rfl ?_
    refine V_iconst C dL_hangs_207 ?_
    refine V_iadd C dL_hangs_208 ?_
    refine V_bipush C dL_hangs_209 (by decide +kernel) ?_
    refine V_irem C dL_hangs_211 (by omega) (by omega) ?_
    rw [ej]
    refine V_istore C dL_hangs_212 (Nat.le_of_ble_eq_true rfl) rfl ?_
    refine V_aload_n C dL_hangs_214 rfl rfl ?_
    refine V_iload C dL_hangs_215 rfl ?_
    refine V_SH1 (k2 := 0) (s2 := 0) C dL_hangs_217 lL_144 kL_number (c1) rfl rfl ⟨Nat.le_of_ble_eq_true rfl, Nat.le_of_ble_eq_true rfl⟩ (Nat.le_of_ble_eq_true rfl) (Nat.le_refl _) (Nat.le_refl _) ?_
    refine V_istore C dL_hangs_220 (Nat.le_of_ble_eq_true rfl) rfl ?_
    refine V_aload_n C dL_hangs_222 rfl rfl ?_
    refine V_iload C dL_hangs_223 rfl ?_
    refine V_iload C dL_hangs_225 rfl ?_
    refine V_SH1 (k2 := 0) (s2 := 0) C dL_hangs_227 lL_192 kL_byCarries (c2) rfl rfl ⟨Nat.le_of_ble_eq_true rfl, Nat.le_of_ble_eq_true rfl⟩ (Nat.le_of_ble_eq_true rfl) (Nat.le_refl _) (Nat.le_refl _) ?_
    refine V_istore C dL_hangs_230 (Nat.le_of_ble_eq_true rfl) rfl ?_
    refine V_iload_n C dL_hangs_232 rfl rfl ?_
    refine V_if_eq (tgt := 307) C dL_hangs_233 (by decide) (by omega) (fun q233 => by exfalso; omega) (fun q233 => ?_)
    refine V_iload C dL_hangs_236 rfl ?_
    refine V_iload C dL_hangs_238 rfl ?_
    refine V_iconst C dL_hangs_240 ?_
    refine V_ishr C dL_hangs_241 (mkN (adE (gm 18 n) (gm 18 m)) 22) 1 (by first | rfl | omega) (by first | rfl | omega) (by omega) (by omega) ?_
    refine V_iand C dL_hangs_242 (mkN (adE (gm 18 n) (gm 18 m)) 22) (mkN (adE (gm 18 n) (gm 18 m)) 22 >>> 1) (by first | rfl | omega) (by first | rfl | omega) ?_
    rw [ad2]
    refine V_if_ne (tgt := 307) C dL_hangs_243 (by decide) (by omega) (fun q243 => by exfalso; omega) (fun q243 => ?_)
    refine V_iload C dL_hangs_246 rfl ?_
    refine V_aload_n C dL_hangs_248 rfl rfl ?_
    refine V_iload C dL_hangs_249 rfl ?_
    refine V_iload C dL_hangs_251 rfl ?_
    refine V_SH1 (k2 := 0) (s2 := 0) C dL_hangs_253 lL_192 kL_byCarries (c3) rfl rfl ⟨Nat.le_of_ble_eq_true rfl, Nat.le_of_ble_eq_true rfl⟩ (Nat.le_of_ble_eq_true rfl) (Nat.le_refl _) (Nat.le_refl _) ?_
    rw [adE_comm (gm 18 m) (gm 18 n)]
    refine V_icmp_ne (tgt := 307) C dL_hangs_256 (by decide) (by omega) (by omega) (fun q256 => by exfalso; omega) (fun q256 => ?_)
    refine V_aload_n C dL_hangs_259 rfl rfl ?_
    refine V_iload C dL_hangs_260 rfl ?_
    refine V_iload C dL_hangs_262 rfl ?_
    refine V_SH1 (k2 := 0) (s2 := 0) C dL_hangs_264 lL_195 kL_carries (c4) rfl rfl ⟨Nat.le_of_ble_eq_true rfl, Nat.le_of_ble_eq_true rfl⟩ (Nat.le_of_ble_eq_true rfl) (Nat.le_refl _) (Nat.le_refl _) ?_
    refine V_aload_n C dL_hangs_267 rfl rfl ?_
    refine V_iload C dL_hangs_268 rfl ?_
    refine V_iload C dL_hangs_270 rfl ?_
    refine V_SH1 (k2 := 0) (s2 := 0) C dL_hangs_272 lL_195 kL_carries (c5) rfl rfl ⟨Nat.le_of_ble_eq_true rfl, Nat.le_of_ble_eq_true rfl⟩ (Nat.le_of_ble_eq_true rfl) (Nat.le_refl _) (Nat.le_refl _) ?_
    rw [adC_comm (gm 18 m) (gm 18 n)]
    refine V_icmp_ne (tgt := 307) C dL_hangs_275 (by decide) (by omega) (by omega) (fun q275 => by exfalso; omega) (fun q275 => ?_)
    refine V_iload C dL_hangs_278 rfl ?_
    refine V_iload C dL_hangs_280 rfl ?_
    refine V_iadd C dL_hangs_282 ?_
    refine V_sipush C dL_hangs_283 (by decide +kernel) ?_
    refine V_icmp_gt (tgt := 303) C dL_hangs_286 (by decide) (by omega) (by omega) (fun q286 => by exfalso; omega) (fun q286 => ?_)
    refine V_iload C dL_hangs_289 rfl ?_
    refine V_aload_n C dL_hangs_291 rfl rfl ?_
    refine V_iload C dL_hangs_292 rfl ?_
    refine V_iload C dL_hangs_294 rfl ?_
    refine V_iadd C dL_hangs_296 ?_
    rw [show (n : Int) + (m : Int) = ((n + m : Nat) : Int) from rfl]
    refine V_SH1 (k2 := 0) (s2 := 0) C dL_hangs_297 lL_169 kL_say (c6) rfl rfl ⟨Nat.le_of_ble_eq_true rfl, Nat.le_of_ble_eq_true rfl⟩ (Nat.le_of_ble_eq_true rfl) (Nat.le_refl _) (Nat.le_refl _) ?_
    rw [← ad3 c]
    refine V_icmp_ne (tgt := 307) C dL_hangs_300 (by decide) (by omega) (by omega) (fun q300 => by exfalso; omega) (fun q300 => ?_)
    refine V_iconst C dL_hangs_303 ?_
    refine V_goto (tgt := 308) C dL_hangs_304 (by decide) ?_
    refine V_istore_n C dL_hangs_308 rfl (Nat.le_of_ble_eq_true rfl) rfl ?_
    refine V_iconst C dL_hangs_309 ?_
    refine V_istore C dL_hangs_310 (Nat.le_of_ble_eq_true rfl) rfl ?_
    refine V_iconst C dL_hangs_312 ?_
    refine V_istore C dL_hangs_313 (Nat.le_of_ble_eq_true rfl) rfl ?_
    exact kF x C hZ
  · obtain ⟨K1, r1, c1, h1⟩ := g_number G K r s st kp t T h hg j hj (m : Int) em
    obtain ⟨K2, r2, c2, h2⟩ := g_byCarries G K1 r1 s st kp t T h1 hg k hk j hj n m en em
    obtain ⟨K3, r3, c3, h3⟩ := g_byCarries G K2 r2 s st kp t T h2 hg j hj k hk m n em en
    obtain ⟨K4, r4, c4, h4⟩ := g_carries G K3 r3 s st kp t T h3 hg k hk j hj n m en em
    obtain ⟨K5, r5, c5, h5⟩ := g_carries G K4 r4 s st kp t T h4 hg j hj k hk m n em en
    obtain ⟨KF, rF, hF, kF⟩ := w_hangs G s st kp t T hg k hk n hn en tt _ _ _ _ _ nx (cn 22 (gm 18 n)) 0 K5 r5 h5 (by omega)
    refine ⟨KF, rF, hF, fun x C hZ => ?_⟩
    refine V_iload C dL_hangs_205 rfl ?_
    refine V_iconst C dL_hangs_207 ?_
    refine V_iadd C dL_hangs_208 ?_
    refine V_bipush C dL_hangs_209 (by decide +kernel) ?_
    refine V_irem C dL_hangs_211 (by omega) (by omega) ?_
    rw [ej]
    refine V_istore C dL_hangs_212 (Nat.le_of_ble_eq_true rfl) rfl ?_
    refine V_aload_n C dL_hangs_214 rfl rfl ?_
    refine V_iload C dL_hangs_215 rfl ?_
    refine V_SH1 (k2 := 0) (s2 := 0) C dL_hangs_217 lL_144 kL_number (c1) rfl rfl ⟨Nat.le_of_ble_eq_true rfl, Nat.le_of_ble_eq_true rfl⟩ (Nat.le_of_ble_eq_true rfl) (Nat.le_refl _) (Nat.le_refl _) ?_
    refine V_istore C dL_hangs_220 (Nat.le_of_ble_eq_true rfl) rfl ?_
    refine V_aload_n C dL_hangs_222 rfl rfl ?_
    refine V_iload C dL_hangs_223 rfl ?_
    refine V_iload C dL_hangs_225 rfl ?_
    refine V_SH1 (k2 := 0) (s2 := 0) C dL_hangs_227 lL_192 kL_byCarries (c2) rfl rfl ⟨Nat.le_of_ble_eq_true rfl, Nat.le_of_ble_eq_true rfl⟩ (Nat.le_of_ble_eq_true rfl) (Nat.le_refl _) (Nat.le_refl _) ?_
    refine V_istore C dL_hangs_230 (Nat.le_of_ble_eq_true rfl) rfl ?_
    refine V_iload_n C dL_hangs_232 rfl rfl ?_
    refine V_if_eq (tgt := 307) C dL_hangs_233 (by decide) (by omega) (fun q233 => by exfalso; omega) (fun q233 => ?_)
    refine V_iload C dL_hangs_236 rfl ?_
    refine V_iload C dL_hangs_238 rfl ?_
    refine V_iconst C dL_hangs_240 ?_
    refine V_ishr C dL_hangs_241 (mkN (adE (gm 18 n) (gm 18 m)) 22) 1 (by first | rfl | omega) (by first | rfl | omega) (by omega) (by omega) ?_
    refine V_iand C dL_hangs_242 (mkN (adE (gm 18 n) (gm 18 m)) 22) (mkN (adE (gm 18 n) (gm 18 m)) 22 >>> 1) (by first | rfl | omega) (by first | rfl | omega) ?_
    rw [ad2]
    refine V_if_ne (tgt := 307) C dL_hangs_243 (by decide) (by omega) (fun q243 => by exfalso; omega) (fun q243 => ?_)
    refine V_iload C dL_hangs_246 rfl ?_
    refine V_aload_n C dL_hangs_248 rfl rfl ?_
    refine V_iload C dL_hangs_249 rfl ?_
    refine V_iload C dL_hangs_251 rfl ?_
    refine V_SH1 (k2 := 0) (s2 := 0) C dL_hangs_253 lL_192 kL_byCarries (c3) rfl rfl ⟨Nat.le_of_ble_eq_true rfl, Nat.le_of_ble_eq_true rfl⟩ (Nat.le_of_ble_eq_true rfl) (Nat.le_refl _) (Nat.le_refl _) ?_
    rw [adE_comm (gm 18 m) (gm 18 n)]
    refine V_icmp_ne (tgt := 307) C dL_hangs_256 (by decide) (by omega) (by omega) (fun q256 => by exfalso; omega) (fun q256 => ?_)
    refine V_aload_n C dL_hangs_259 rfl rfl ?_
    refine V_iload C dL_hangs_260 rfl ?_
    refine V_iload C dL_hangs_262 rfl ?_
    refine V_SH1 (k2 := 0) (s2 := 0) C dL_hangs_264 lL_195 kL_carries (c4) rfl rfl ⟨Nat.le_of_ble_eq_true rfl, Nat.le_of_ble_eq_true rfl⟩ (Nat.le_of_ble_eq_true rfl) (Nat.le_refl _) (Nat.le_refl _) ?_
    refine V_aload_n C dL_hangs_267 rfl rfl ?_
    refine V_iload C dL_hangs_268 rfl ?_
    refine V_iload C dL_hangs_270 rfl ?_
    refine V_SH1 (k2 := 0) (s2 := 0) C dL_hangs_272 lL_195 kL_carries (c5) rfl rfl ⟨Nat.le_of_ble_eq_true rfl, Nat.le_of_ble_eq_true rfl⟩ (Nat.le_of_ble_eq_true rfl) (Nat.le_refl _) (Nat.le_refl _) ?_
    rw [adC_comm (gm 18 m) (gm 18 n)]
    refine V_icmp_ne (tgt := 307) C dL_hangs_275 (by decide) (by omega) (by omega) (fun q275 => by exfalso; omega) (fun q275 => ?_)
    refine V_iload C dL_hangs_278 rfl ?_
    refine V_iload C dL_hangs_280 rfl ?_
    refine V_iadd C dL_hangs_282 ?_
    refine V_sipush C dL_hangs_283 (by decide +kernel) ?_
    refine V_icmp_gt (tgt := 303) C dL_hangs_286 (by decide) (by omega) (by omega) (fun q286 => ?_) (fun q286 => by exfalso; omega)
    refine V_iconst C dL_hangs_303 ?_
    refine V_goto (tgt := 308) C dL_hangs_304 (by decide) ?_
    refine V_istore_n C dL_hangs_308 rfl (Nat.le_of_ble_eq_true rfl) rfl ?_
    refine V_iconst C dL_hangs_309 ?_
    refine V_istore C dL_hangs_310 (Nat.le_of_ble_eq_true rfl) rfl ?_
    refine V_iconst C dL_hangs_312 ?_
    refine V_istore C dL_hangs_313 (Nat.le_of_ble_eq_true rfl) rfl ?_
    exact kF x C hZ
set_option maxRecDepth 100000 in
set_option maxHeartbeats 4000000 in
theorem n_hangs (G : GT) (s : Nat → Int) (st : Nat) (kp : Int) (t : Nat → Int) (T : Nat) (hg : GI s st kp t T) (k : Nat) (hk : k ≤ 5) (nx : ∀ (K : Nat → Nat → Int) (r : Nat → Option Nat), IC K r s st kp t T → ∀ (o5 o6 o7 o8 o9 o10 o11 o12 : Option Value), WK G mL_hangs (some (.int (iI 1))) 9 [some (rf G 0), some (.int (iI (su s (k + 1)))), some (.int (iI 0)), some (.int (iI 1)), some (.int (iI ((k + 1 : Nat) : Int))), o5, o6, o7, o8, o9, o10, o11, o12] [] K r s st kp t T) (K : Nat → Nat → Int) (r : Nat → Option Nat) (h : IC K r s st kp t T) (o5 o6 o7 o8 o9 o10 o11 o12 : Option Value) : WK G mL_hangs (some (.int (iI 1))) 9 [some (rf G 0), some (.int (iI (su s k))), some (.int (iI 0)), some (.int (iI 1)), some (.int (iI (k : Int))), o5, o6, o7, o8, o9, o10, o11, o12] [] K r s st kp t T := by
  obtain ⟨n, en, hn⟩ : ∃ n : Nat, s k = n ∧ n ≤ 6764 := by
    have := hg.1.1 k (by omega)
    exact ⟨(s k).toNat, by omega, by omega⟩
  have hri : ri s 5 ≤ 5 := ri_le s 5
  have hmx := ri_max s 5 k hk
  obtain ⟨M, eM, hM⟩ : ∃ M : Nat, s (ri s 5) = M ∧ M ≤ 6764 := by
    have := hg.1.1 (ri s 5) (by omega)
    exact ⟨(s (ri s 5)).toNat, by omega, by omega⟩
  rw [en, eM] at hmx
  obtain ⟨nu1, nu2, nu3, nu4, nu5, -⟩ := nu_of hn
  have hgm := gm_18 n
  have hfm := fm_18 n
  have hcw := cw_r hn
  have hcn := cn_le 22 (gm 18 n)
  have esu : su s (k + 1) = su s k + (n : Int) := by simp only [su]; rw [en]
  rw [esu] at nx
  by_cases c : gm 18 n = fm 18 n
  · obtain ⟨K1, r1, c1, h1⟩ := g_number G K r s st kp t T h hg k hk (n : Int) en
    obtain ⟨K2, r2, c2, h2⟩ := g_say G K1 r1 s st kp t T h1 hg n hn
    obtain ⟨K3, r3, c3, h3⟩ := g_full G K2 r2 s st kp t T h2 hg n hn
    obtain ⟨K4, r4, c4, h4, -⟩ := o_X5_richest G K3 r3 s st kp t T h3 hg
    obtain ⟨K5, r5, c5, h5⟩ := g_number G K4 r4 s st kp t T h4 hg (ri s 5) hri (M : Int) eM
    obtain ⟨K6, r6, c6, h6⟩ := g_counting G K5 r5 s st kp t T h5 hg n hn
    obtain ⟨K7, r7, c7, h7⟩ := g_worthOfSet G K6 r6 s st kp t T h6 hg _ hgm
    obtain ⟨K8, r8, c8, h8⟩ := g_worthOfSet G K7 r7 s st kp t T h7 hg _ hfm
    obtain ⟨K9, r9, c9, h9⟩ := g_ways G K8 r8 s st kp t T h8 hg n hn
    obtain ⟨K10, r10, c10, h10⟩ := g_gaps G K9 r9 s st kp t T h9 hg n hn
    obtain ⟨K11, r11, c11, h11⟩ := g_ways G K10 r10 s st kp t T h10 hg n hn
    obtain ⟨K12, r12, c12, h12⟩ := g_length G K11 r11 s st kp t T h11 hg 0 (by decide) n hn
    obtain ⟨K13, r13, c13, h13⟩ := g_stepsOf G K12 r12 s st kp t T h12 hg k hk n en
    obtain ⟨K14, r14, c14, h14⟩ := g_length G K13 r13 s st kp t T h13 hg 2 (by decide) n hn
    obtain ⟨K15, r15, c15, h15⟩ := g_stepsOf G K14 r14 s st kp t T h14 hg k hk n en
    obtain ⟨KF, rF, hF, kF⟩ := b_hangs G s st kp t T hg k hk n hn en (su s k + (n : Int)) nx K15 r15 h15 _ _ _ _ _ _ _
    refine ⟨KF, rF, hF, fun x C hZ => ?_⟩
    refine V_iload C dL_hangs_9 rfl ?_
    refine V_bipush C dL_hangs_11 (by decide +kernel) ?_
    refine V_icmp_ge (tgt := 380) C dL_hangs_13 (by decide) (by omega) (by omega) (fun q13 => by exfalso; omega) (fun q13 => ?_)
    refine V_iload_n C dL_hangs_16 rfl rfl ?_
    refine V_if_eq (tgt := 380) C dL_hangs_17 (by decide) (by omega) (fun q17 => by exfalso; omega) (fun q17 => ?_)
    refine V_aload_n C dL_hangs_20 rfl rfl ?_
    refine V_iload C dL_hangs_21 rfl ?_
    refine V_SH1 (k2 := 0) (s2 := 0) C dL_hangs_23 lL_144 kL_number (c1) rfl rfl ⟨Nat.le_of_ble_eq_true rfl, Nat.le_of_ble_eq_true rfl⟩ (Nat.le_of_ble_eq_true rfl) (Nat.le_refl _) (Nat.le_refl _) ?_
    refine V_istore C dL_hangs_26 (Nat.le_of_ble_eq_true rfl) rfl ?_
    refine V_aload_n C dL_hangs_28 rfl rfl ?_
    refine V_iload C dL_hangs_29 rfl ?_
    refine V_SH1 (k2 := 0) (s2 := 0) C dL_hangs_31 lL_169 kL_say (c2) rfl rfl ⟨Nat.le_of_ble_eq_true rfl, Nat.le_of_ble_eq_true rfl⟩ (Nat.le_of_ble_eq_true rfl) (Nat.le_refl _) (Nat.le_refl _) ?_
    refine V_istore C dL_hangs_34 (Nat.le_of_ble_eq_true rfl) rfl ?_
    refine V_aload_n C dL_hangs_36 rfl rfl ?_
    refine V_iload C dL_hangs_37 rfl ?_
    refine V_SH1 (k2 := 0) (s2 := 0) C dL_hangs_39 lL_171 kL_full (c3) rfl rfl ⟨Nat.le_of_ble_eq_true rfl, Nat.le_of_ble_eq_true rfl⟩ (Nat.le_of_ble_eq_true rfl) (Nat.le_refl _) (Nat.le_refl _) ?_
    refine V_istore C dL_hangs_42 (Nat.le_of_ble_eq_true rfl) rfl ?_
    refine V_iload_n C dL_hangs_44 rfl rfl ?_
    refine V_iload C dL_hangs_45 rfl ?_
    refine V_iadd C dL_hangs_47 ?_
    refine V_istore_n C dL_hangs_48 rfl (Nat.le_of_ble_eq_true rfl) rfl ?_
    refine V_iload C dL_hangs_49 rfl ?_
    refine V_if_lt (tgt := 203) C dL_hangs_51 (by decide) (by omega) (fun q51 => by exfalso; omega) (fun q51 => ?_)
    refine V_iload C dL_hangs_54 rfl ?_
    refine V_sipush C dL_hangs_56 (by decide +kernel) ?_
    refine V_icmp_gt (tgt := 203) C dL_hangs_59 (by decide) (by omega) (by omega) (fun q59 => by exfalso; omega) (fun q59 => ?_)
    refine V_iload C dL_hangs_62 rfl ?_
    refine V_aload_n C dL_hangs_64 rfl rfl ?_
    refine V_aload_n C dL_hangs_65 rfl rfl ?_
    refine V_V1 (k2 := 0) (s2 := 0) C dL_hangs_66 lL_174 kX5_richest (c4) (by decide) (rfl) rfl rfl rfl ⟨Nat.le_of_ble_eq_true rfl, Nat.le_of_ble_eq_true rfl⟩ (Nat.le_of_ble_eq_true rfl) (Nat.le_refl _) (Nat.le_refl _) ?_
    refine V_SH1 (k2 := 0) (s2 := 0) C dL_hangs_69 lL_144 kL_number (c5) rfl rfl ⟨Nat.le_of_ble_eq_true rfl, Nat.le_of_ble_eq_true rfl⟩ (Nat.le_of_ble_eq_true rfl) (Nat.le_refl _) (Nat.le_refl _) ?_
    refine V_icmp_gt (tgt := 203) C dL_hangs_72 (by decide) (by omega) (by omega) (fun q72 => by exfalso; omega) (fun q72 => ?_)
    refine V_iload C dL_hangs_75 rfl ?_
    refine V_aload_n C dL_hangs_77 rfl rfl ?_
    refine V_iload C dL_hangs_78 rfl ?_
    refine V_SH1 (k2 := 0) (s2 := 0) C dL_hangs_80 lL_177 kL_counting (c6) rfl rfl ⟨Nat.le_of_ble_eq_true rfl, Nat.le_of_ble_eq_true rfl⟩ (Nat.le_of_ble_eq_true rfl) (Nat.le_refl _) (Nat.le_refl _) ?_
    refine V_icmp_ne (tgt := 203) C dL_hangs_83 (by decide) (by omega) (by omega) (fun q83 => by exfalso; omega) (fun q83 => ?_)
    refine V_iload C dL_hangs_86 rfl ?_
    refine V_iload C dL_hangs_88 rfl ?_
    refine V_iconst C dL_hangs_90 ?_
    refine V_ishr C dL_hangs_91 (gm 18 n) 1 (by first | rfl | omega) (by first | rfl | omega) (by omega) (by omega) ?_
    refine V_iand C dL_hangs_92 (gm 18 n) (gm 18 n >>> 1) (by first | rfl | omega) (by first | rfl | omega) ?_
    rw [nu1]
    refine V_if_ne (tgt := 203) C dL_hangs_93 (by decide) (by omega) (fun q93 => by exfalso; omega) (fun q93 => ?_)
    refine V_aload_n C dL_hangs_96 rfl rfl ?_
    refine V_iload C dL_hangs_97 rfl ?_
    refine V_SH1 (k2 := 0) (s2 := 0) C dL_hangs_99 lL_180 kL_worthOfSet (c7) rfl rfl ⟨Nat.le_of_ble_eq_true rfl, Nat.le_of_ble_eq_true rfl⟩ (Nat.le_of_ble_eq_true rfl) (Nat.le_refl _) (Nat.le_refl _) ?_
    rw [wo_18 hgm, wo_gm hn]
    refine V_iload C dL_hangs_102 rfl ?_
    refine V_icmp_ne (tgt := 203) C dL_hangs_104 (by decide) (by omega) (by omega) (fun q104 => by exfalso; omega) (fun q104 => ?_)
    refine V_aload_n C dL_hangs_107 rfl rfl ?_
    refine V_iload C dL_hangs_108 rfl ?_
    refine V_SH1 (k2 := 0) (s2 := 0) C dL_hangs_110 lL_180 kL_worthOfSet (c8) rfl rfl ⟨Nat.le_of_ble_eq_true rfl, Nat.le_of_ble_eq_true rfl⟩ (Nat.le_of_ble_eq_true rfl) (Nat.le_refl _) (Nat.le_refl _) ?_
    rw [nu2]
    refine V_iload C dL_hangs_113 rfl ?_
    refine V_icmp_ne (tgt := 203) C dL_hangs_115 (by decide) (by omega) (by omega) (fun q115 => by exfalso; omega) (fun q115 => ?_)
    refine V_iload C dL_hangs_118 rfl ?_
    refine V_iload C dL_hangs_120 rfl ?_
    refine V_icmp_lt (tgt := 203) C dL_hangs_122 (by decide) (by omega) (by omega) (fun q122 => by exfalso; omega) (fun q122 => ?_)
    refine V_aload_n C dL_hangs_125 rfl rfl ?_
    refine V_iload C dL_hangs_126 rfl ?_
    refine V_SH1 (k2 := 0) (s2 := 0) C dL_hangs_128 lL_182 kL_ways (c9) rfl rfl ⟨Nat.le_of_ble_eq_true rfl, Nat.le_of_ble_eq_true rfl⟩ (Nat.le_of_ble_eq_true rfl) (Nat.le_refl _) (Nat.le_refl _) ?_
    refine V_aload_n C dL_hangs_131 rfl rfl ?_
    refine V_iload C dL_hangs_132 rfl ?_
    refine V_SH1 (k2 := 0) (s2 := 0) C dL_hangs_134 lL_184 kL_gaps (c10) rfl rfl ⟨Nat.le_of_ble_eq_true rfl, Nat.le_of_ble_eq_true rfl⟩ (Nat.le_of_ble_eq_true rfl) (Nat.le_refl _) (Nat.le_refl _) ?_
    refine V_icmp_ne (tgt := 203) C dL_hangs_137 (by decide) (by omega) (by omega) (fun q137 => by exfalso; omega) (fun q137 => ?_)
    refine V_aload_n C dL_hangs_140 rfl rfl ?_
    refine V_iload C dL_hangs_141 rfl ?_
    refine V_SH1 (k2 := 0) (s2 := 0) C dL_hangs_143 lL_182 kL_ways (c11) rfl rfl ⟨Nat.le_of_ble_eq_true rfl, Nat.le_of_ble_eq_true rfl⟩ (Nat.le_of_ble_eq_true rfl) (Nat.le_refl _) (Nat.le_refl _) ?_
    refine V_iconst C dL_hangs_146 ?_
    refine V_icmp_lt (tgt := 203) C dL_hangs_147 (by decide) (by omega) (by omega) (fun q147 => by exfalso; omega) (fun q147 => ?_)
    refine V_iload C dL_hangs_150 rfl ?_
    refine V_iload C dL_hangs_152 rfl ?_
    refine V_icmp_eq (tgt := 167) C dL_hangs_154 (by decide) (by omega) (by omega) (fun q154 => ?_) (fun q154 => by exfalso; omega)
    refine V_aload_n C dL_hangs_167 rfl rfl ?_
    refine V_iconst C dL_hangs_168 ?_
    refine V_iload C dL_hangs_169 rfl ?_
    refine V_SH1 (k2 := 0) (s2 := 0) C dL_hangs_171 lL_187 kL_length (c12) rfl rfl ⟨Nat.le_of_ble_eq_true rfl, Nat.le_of_ble_eq_true rfl⟩ (Nat.le_of_ble_eq_true rfl) (Nat.le_refl _) (Nat.le_refl _) ?_
    refine V_aload_n C dL_hangs_174 rfl rfl ?_
    refine V_iload C dL_hangs_175 rfl ?_
    refine V_SH1 (k2 := 0) (s2 := 0) C dL_hangs_177 lL_190 kL_stepsOf (c13) rfl rfl ⟨Nat.le_of_ble_eq_true rfl, Nat.le_of_ble_eq_true rfl⟩ (Nat.le_of_ble_eq_true rfl) (Nat.le_refl _) (Nat.le_refl _) ?_
    refine V_icmp_ne (tgt := 203) C dL_hangs_180 (by decide) (by omega) (by omega) (fun q180 => by exfalso; omega) (fun q180 => ?_)
    refine V_aload_n C dL_hangs_183 rfl rfl ?_
    refine V_iconst C dL_hangs_184 ?_
    refine V_iload C dL_hangs_185 rfl ?_
    refine V_SH1 (k2 := 0) (s2 := 0) C dL_hangs_187 lL_187 kL_length (c14) rfl rfl ⟨Nat.le_of_ble_eq_true rfl, Nat.le_of_ble_eq_true rfl⟩ (Nat.le_of_ble_eq_true rfl) (Nat.le_refl _) (Nat.le_refl _) ?_
    refine V_aload_n C dL_hangs_190 rfl rfl ?_
    refine V_iload C dL_hangs_191 rfl ?_
    refine V_SH1 (k2 := 0) (s2 := 0) C dL_hangs_193 lL_190 kL_stepsOf (c15) rfl rfl ⟨Nat.le_of_ble_eq_true rfl, Nat.le_of_ble_eq_true rfl⟩ (Nat.le_of_ble_eq_true rfl) (Nat.le_refl _) (Nat.le_refl _) ?_
    refine V_icmp_ne (tgt := 203) C dL_hangs_196 (by decide) (by omega) (by omega) (fun q196 => by exfalso; omega) (fun q196 => ?_)
    refine V_iconst C dL_hangs_199 ?_
    refine V_goto (tgt := 204) C dL_hangs_200 (by decide) ?_
    refine V_istore_n C dL_hangs_204 rfl (Nat.le_of_ble_eq_true rfl) rfl ?_
    exact kF x C hZ
  · have nu6 : 1 < cw (gm 18 n) := by
      rcases nu5 with w | w
      · exact absurd w c
      · exact w
    obtain ⟨K1, r1, c1, h1⟩ := g_number G K r s st kp t T h hg k hk (n : Int) en
    obtain ⟨K2, r2, c2, h2⟩ := g_say G K1 r1 s st kp t T h1 hg n hn
    obtain ⟨K3, r3, c3, h3⟩ := g_full G K2 r2 s st kp t T h2 hg n hn
    obtain ⟨K4, r4, c4, h4, -⟩ := o_X5_richest G K3 r3 s st kp t T h3 hg
    obtain ⟨K5, r5, c5, h5⟩ := g_number G K4 r4 s st kp t T h4 hg (ri s 5) hri (M : Int) eM
    obtain ⟨K6, r6, c6, h6⟩ := g_counting G K5 r5 s st kp t T h5 hg n hn
    obtain ⟨K7, r7, c7, h7⟩ := g_worthOfSet G K6 r6 s st kp t T h6 hg _ hgm
    obtain ⟨K8, r8, c8, h8⟩ := g_worthOfSet G K7 r7 s st kp t T h7 hg _ hfm
    obtain ⟨K9, r9, c9, h9⟩ := g_ways G K8 r8 s st kp t T h8 hg n hn
    obtain ⟨K10, r10, c10, h10⟩ := g_gaps G K9 r9 s st kp t T h9 hg n hn
    obtain ⟨K11, r11, c11, h11⟩ := g_ways G K10 r10 s st kp t T h10 hg n hn
    obtain ⟨K12, r12, c12, h12⟩ := g_ways G K11 r11 s st kp t T h11 hg n hn
    obtain ⟨K13, r13, c13, h13⟩ := g_length G K12 r12 s st kp t T h12 hg 0 (by decide) n hn
    obtain ⟨K14, r14, c14, h14⟩ := g_stepsOf G K13 r13 s st kp t T h13 hg k hk n en
    obtain ⟨K15, r15, c15, h15⟩ := g_length G K14 r14 s st kp t T h14 hg 2 (by decide) n hn
    obtain ⟨K16, r16, c16, h16⟩ := g_stepsOf G K15 r15 s st kp t T h15 hg k hk n en
    obtain ⟨KF, rF, hF, kF⟩ := b_hangs G s st kp t T hg k hk n hn en (su s k + (n : Int)) nx K16 r16 h16 _ _ _ _ _ _ _
    refine ⟨KF, rF, hF, fun x C hZ => ?_⟩
    refine V_iload C dL_hangs_9 rfl ?_
    refine V_bipush C dL_hangs_11 (by decide +kernel) ?_
    refine V_icmp_ge (tgt := 380) C dL_hangs_13 (by decide) (by omega) (by omega) (fun q13 => by exfalso; omega) (fun q13 => ?_)
    refine V_iload_n C dL_hangs_16 rfl rfl ?_
    refine V_if_eq (tgt := 380) C dL_hangs_17 (by decide) (by omega) (fun q17 => by exfalso; omega) (fun q17 => ?_)
    refine V_aload_n C dL_hangs_20 rfl rfl ?_
    refine V_iload C dL_hangs_21 rfl ?_
    refine V_SH1 (k2 := 0) (s2 := 0) C dL_hangs_23 lL_144 kL_number (c1) rfl rfl ⟨Nat.le_of_ble_eq_true rfl, Nat.le_of_ble_eq_true rfl⟩ (Nat.le_of_ble_eq_true rfl) (Nat.le_refl _) (Nat.le_refl _) ?_
    refine V_istore C dL_hangs_26 (Nat.le_of_ble_eq_true rfl) rfl ?_
    refine V_aload_n C dL_hangs_28 rfl rfl ?_
    refine V_iload C dL_hangs_29 rfl ?_
    refine V_SH1 (k2 := 0) (s2 := 0) C dL_hangs_31 lL_169 kL_say (c2) rfl rfl ⟨Nat.le_of_ble_eq_true rfl, Nat.le_of_ble_eq_true rfl⟩ (Nat.le_of_ble_eq_true rfl) (Nat.le_refl _) (Nat.le_refl _) ?_
    refine V_istore C dL_hangs_34 (Nat.le_of_ble_eq_true rfl) rfl ?_
    refine V_aload_n C dL_hangs_36 rfl rfl ?_
    refine V_iload C dL_hangs_37 rfl ?_
    refine V_SH1 (k2 := 0) (s2 := 0) C dL_hangs_39 lL_171 kL_full (c3) rfl rfl ⟨Nat.le_of_ble_eq_true rfl, Nat.le_of_ble_eq_true rfl⟩ (Nat.le_of_ble_eq_true rfl) (Nat.le_refl _) (Nat.le_refl _) ?_
    refine V_istore C dL_hangs_42 (Nat.le_of_ble_eq_true rfl) rfl ?_
    refine V_iload_n C dL_hangs_44 rfl rfl ?_
    refine V_iload C dL_hangs_45 rfl ?_
    refine V_iadd C dL_hangs_47 ?_
    refine V_istore_n C dL_hangs_48 rfl (Nat.le_of_ble_eq_true rfl) rfl ?_
    refine V_iload C dL_hangs_49 rfl ?_
    refine V_if_lt (tgt := 203) C dL_hangs_51 (by decide) (by omega) (fun q51 => by exfalso; omega) (fun q51 => ?_)
    refine V_iload C dL_hangs_54 rfl ?_
    refine V_sipush C dL_hangs_56 (by decide +kernel) ?_
    refine V_icmp_gt (tgt := 203) C dL_hangs_59 (by decide) (by omega) (by omega) (fun q59 => by exfalso; omega) (fun q59 => ?_)
    refine V_iload C dL_hangs_62 rfl ?_
    refine V_aload_n C dL_hangs_64 rfl rfl ?_
    refine V_aload_n C dL_hangs_65 rfl rfl ?_
    refine V_V1 (k2 := 0) (s2 := 0) C dL_hangs_66 lL_174 kX5_richest (c4) (by decide) (rfl) rfl rfl rfl ⟨Nat.le_of_ble_eq_true rfl, Nat.le_of_ble_eq_true rfl⟩ (Nat.le_of_ble_eq_true rfl) (Nat.le_refl _) (Nat.le_refl _) ?_
    refine V_SH1 (k2 := 0) (s2 := 0) C dL_hangs_69 lL_144 kL_number (c5) rfl rfl ⟨Nat.le_of_ble_eq_true rfl, Nat.le_of_ble_eq_true rfl⟩ (Nat.le_of_ble_eq_true rfl) (Nat.le_refl _) (Nat.le_refl _) ?_
    refine V_icmp_gt (tgt := 203) C dL_hangs_72 (by decide) (by omega) (by omega) (fun q72 => by exfalso; omega) (fun q72 => ?_)
    refine V_iload C dL_hangs_75 rfl ?_
    refine V_aload_n C dL_hangs_77 rfl rfl ?_
    refine V_iload C dL_hangs_78 rfl ?_
    refine V_SH1 (k2 := 0) (s2 := 0) C dL_hangs_80 lL_177 kL_counting (c6) rfl rfl ⟨Nat.le_of_ble_eq_true rfl, Nat.le_of_ble_eq_true rfl⟩ (Nat.le_of_ble_eq_true rfl) (Nat.le_refl _) (Nat.le_refl _) ?_
    refine V_icmp_ne (tgt := 203) C dL_hangs_83 (by decide) (by omega) (by omega) (fun q83 => by exfalso; omega) (fun q83 => ?_)
    refine V_iload C dL_hangs_86 rfl ?_
    refine V_iload C dL_hangs_88 rfl ?_
    refine V_iconst C dL_hangs_90 ?_
    refine V_ishr C dL_hangs_91 (gm 18 n) 1 (by first | rfl | omega) (by first | rfl | omega) (by omega) (by omega) ?_
    refine V_iand C dL_hangs_92 (gm 18 n) (gm 18 n >>> 1) (by first | rfl | omega) (by first | rfl | omega) ?_
    rw [nu1]
    refine V_if_ne (tgt := 203) C dL_hangs_93 (by decide) (by omega) (fun q93 => by exfalso; omega) (fun q93 => ?_)
    refine V_aload_n C dL_hangs_96 rfl rfl ?_
    refine V_iload C dL_hangs_97 rfl ?_
    refine V_SH1 (k2 := 0) (s2 := 0) C dL_hangs_99 lL_180 kL_worthOfSet (c7) rfl rfl ⟨Nat.le_of_ble_eq_true rfl, Nat.le_of_ble_eq_true rfl⟩ (Nat.le_of_ble_eq_true rfl) (Nat.le_refl _) (Nat.le_refl _) ?_
    rw [wo_18 hgm, wo_gm hn]
    refine V_iload C dL_hangs_102 rfl ?_
    refine V_icmp_ne (tgt := 203) C dL_hangs_104 (by decide) (by omega) (by omega) (fun q104 => by exfalso; omega) (fun q104 => ?_)
    refine V_aload_n C dL_hangs_107 rfl rfl ?_
    refine V_iload C dL_hangs_108 rfl ?_
    refine V_SH1 (k2 := 0) (s2 := 0) C dL_hangs_110 lL_180 kL_worthOfSet (c8) rfl rfl ⟨Nat.le_of_ble_eq_true rfl, Nat.le_of_ble_eq_true rfl⟩ (Nat.le_of_ble_eq_true rfl) (Nat.le_refl _) (Nat.le_refl _) ?_
    rw [nu2]
    refine V_iload C dL_hangs_113 rfl ?_
    refine V_icmp_ne (tgt := 203) C dL_hangs_115 (by decide) (by omega) (by omega) (fun q115 => by exfalso; omega) (fun q115 => ?_)
    refine V_iload C dL_hangs_118 rfl ?_
    refine V_iload C dL_hangs_120 rfl ?_
    refine V_icmp_lt (tgt := 203) C dL_hangs_122 (by decide) (by omega) (by omega) (fun q122 => by exfalso; omega) (fun q122 => ?_)
    refine V_aload_n C dL_hangs_125 rfl rfl ?_
    refine V_iload C dL_hangs_126 rfl ?_
    refine V_SH1 (k2 := 0) (s2 := 0) C dL_hangs_128 lL_182 kL_ways (c9) rfl rfl ⟨Nat.le_of_ble_eq_true rfl, Nat.le_of_ble_eq_true rfl⟩ (Nat.le_of_ble_eq_true rfl) (Nat.le_refl _) (Nat.le_refl _) ?_
    refine V_aload_n C dL_hangs_131 rfl rfl ?_
    refine V_iload C dL_hangs_132 rfl ?_
    refine V_SH1 (k2 := 0) (s2 := 0) C dL_hangs_134 lL_184 kL_gaps (c10) rfl rfl ⟨Nat.le_of_ble_eq_true rfl, Nat.le_of_ble_eq_true rfl⟩ (Nat.le_of_ble_eq_true rfl) (Nat.le_refl _) (Nat.le_refl _) ?_
    refine V_icmp_ne (tgt := 203) C dL_hangs_137 (by decide) (by omega) (by omega) (fun q137 => by exfalso; omega) (fun q137 => ?_)
    refine V_aload_n C dL_hangs_140 rfl rfl ?_
    refine V_iload C dL_hangs_141 rfl ?_
    refine V_SH1 (k2 := 0) (s2 := 0) C dL_hangs_143 lL_182 kL_ways (c11) rfl rfl ⟨Nat.le_of_ble_eq_true rfl, Nat.le_of_ble_eq_true rfl⟩ (Nat.le_of_ble_eq_true rfl) (Nat.le_refl _) (Nat.le_refl _) ?_
    refine V_iconst C dL_hangs_146 ?_
    refine V_icmp_lt (tgt := 203) C dL_hangs_147 (by decide) (by omega) (by omega) (fun q147 => by exfalso; omega) (fun q147 => ?_)
    refine V_iload C dL_hangs_150 rfl ?_
    refine V_iload C dL_hangs_152 rfl ?_
    refine V_icmp_eq (tgt := 167) C dL_hangs_154 (by decide) (by omega) (by omega) (fun q154 => by exfalso; omega) (fun q154 => ?_)
    refine V_aload_n C dL_hangs_157 rfl rfl ?_
    refine V_iload C dL_hangs_158 rfl ?_
    refine V_SH1 (k2 := 0) (s2 := 0) C dL_hangs_160 lL_182 kL_ways (c12) rfl rfl ⟨Nat.le_of_ble_eq_true rfl, Nat.le_of_ble_eq_true rfl⟩ (Nat.le_of_ble_eq_true rfl) (Nat.le_refl _) (Nat.le_refl _) ?_
    refine V_iconst C dL_hangs_163 ?_
    refine V_icmp_le (tgt := 203) C dL_hangs_164 (by decide) (by omega) (by omega) (fun q164 => by exfalso; omega) (fun q164 => ?_)
    refine V_aload_n C dL_hangs_167 rfl rfl ?_
    refine V_iconst C dL_hangs_168 ?_
    refine V_iload C dL_hangs_169 rfl ?_
    refine V_SH1 (k2 := 0) (s2 := 0) C dL_hangs_171 lL_187 kL_length (c13) rfl rfl ⟨Nat.le_of_ble_eq_true rfl, Nat.le_of_ble_eq_true rfl⟩ (Nat.le_of_ble_eq_true rfl) (Nat.le_refl _) (Nat.le_refl _) ?_
    refine V_aload_n C dL_hangs_174 rfl rfl ?_
    refine V_iload C dL_hangs_175 rfl ?_
    refine V_SH1 (k2 := 0) (s2 := 0) C dL_hangs_177 lL_190 kL_stepsOf (c14) rfl rfl ⟨Nat.le_of_ble_eq_true rfl, Nat.le_of_ble_eq_true rfl⟩ (Nat.le_of_ble_eq_true rfl) (Nat.le_refl _) (Nat.le_refl _) ?_
    refine V_icmp_ne (tgt := 203) C dL_hangs_180 (by decide) (by omega) (by omega) (fun q180 => by exfalso; omega) (fun q180 => ?_)
    refine V_aload_n C dL_hangs_183 rfl rfl ?_
    refine V_iconst C dL_hangs_184 ?_
    refine V_iload C dL_hangs_185 rfl ?_
    refine V_SH1 (k2 := 0) (s2 := 0) C dL_hangs_187 lL_187 kL_length (c15) rfl rfl ⟨Nat.le_of_ble_eq_true rfl, Nat.le_of_ble_eq_true rfl⟩ (Nat.le_of_ble_eq_true rfl) (Nat.le_refl _) (Nat.le_refl _) ?_
    refine V_aload_n C dL_hangs_190 rfl rfl ?_
    refine V_iload C dL_hangs_191 rfl ?_
    refine V_SH1 (k2 := 0) (s2 := 0) C dL_hangs_193 lL_190 kL_stepsOf (c16) rfl rfl ⟨Nat.le_of_ble_eq_true rfl, Nat.le_of_ble_eq_true rfl⟩ (Nat.le_of_ble_eq_true rfl) (Nat.le_refl _) (Nat.le_refl _) ?_
    refine V_icmp_ne (tgt := 203) C dL_hangs_196 (by decide) (by omega) (by omega) (fun q196 => by exfalso; omega) (fun q196 => ?_)
    refine V_iconst C dL_hangs_199 ?_
    refine V_goto (tgt := 204) C dL_hangs_200 (by decide) ?_
    refine V_istore_n C dL_hangs_204 rfl (Nat.le_of_ble_eq_true rfl) rfl ?_
    exact kF x C hZ
set_option maxRecDepth 100000 in
set_option maxHeartbeats 4000000 in
theorem l_hangs (G : GT) (s : Nat → Int) (st : Nat) (kp : Int) (t : Nat → Int) (T : Nat) (hg : GI s st kp t T) : ∀ (f k : Nat) (K : Nat → Nat → Int) (r : Nat → Option Nat), IC K r s st kp t T → k + f = 6 → ∀ (o5 o6 o7 o8 o9 o10 o11 o12 : Option Value), WK G mL_hangs (some (.int (iI 1))) 9 [some (rf G 0), some (.int (iI (su s k))), some (.int (iI 0)), some (.int (iI 1)), some (.int (iI (k : Int))), o5, o6, o7, o8, o9, o10, o11, o12] [] K r s st kp t T := by
  intro f
  induction f with
  | zero =>
    intro k K r h e o5 o6 o7 o8 o9 o10 o11 o12
    obtain rfl : k = 6 := by omega
    have hri : ri s 5 ≤ 5 := ri_le s 5
    obtain ⟨M, eM, hM⟩ : ∃ M : Nat, s (ri s 5) = M ∧ M ≤ 6764 := by
      have := hg.1.1 (ri s 5) (by omega)
      exact ⟨(s (ri s 5)).toNat, by omega, by omega⟩
    obtain ⟨K1, r1, c1, h1, -⟩ := o_X5_richest G K r s st kp t T h hg
    obtain ⟨K2, r2, c2, h2⟩ := g_number G K1 r1 s st kp t T h1 hg (ri s 5) hri (M : Int) eM
    obtain ⟨K3, r3, c3, h3⟩ := g_full G K2 r2 s st kp t T h2 hg M hM
    obtain ⟨KF, rF, hF, kF⟩ := j_hangs G s st kp t T hg M hM _ _ _ _ _ _ _ 17 0 K3 r3 h3 (by omega)
    refine ⟨KF, rF, hF, fun x C hZ => ?_⟩
    refine V_iload C dL_hangs_9 rfl ?_
    refine V_bipush C dL_hangs_11 (by decide +kernel) ?_
    refine V_icmp_ge (tgt := 380) C dL_hangs_13 (by decide) (by omega) (by omega) (fun q13 => ?_) (fun q13 => by exfalso; omega)
    refine V_aload_n C dL_hangs_380 rfl rfl ?_
    refine V_aload_n C dL_hangs_381 rfl rfl ?_
    refine V_aload_n C dL_hangs_382 rfl rfl ?_
    refine V_V1 (k2 := 0) (s2 := 0) C dL_hangs_383 lL_174 kX5_richest (c1) (by decide) (rfl) rfl rfl rfl ⟨Nat.le_of_ble_eq_true rfl, Nat.le_of_ble_eq_true rfl⟩ (Nat.le_of_ble_eq_true rfl) (Nat.le_refl _) (Nat.le_refl _) ?_
    refine V_SH1 (k2 := 0) (s2 := 0) C dL_hangs_386 lL_144 kL_number (c2) rfl rfl ⟨Nat.le_of_ble_eq_true rfl, Nat.le_of_ble_eq_true rfl⟩ (Nat.le_of_ble_eq_true rfl) (Nat.le_refl _) (Nat.le_refl _) ?_
    refine V_SH1 (k2 := 0) (s2 := 0) C dL_hangs_389 lL_171 kL_full (c3) rfl rfl ⟨Nat.le_of_ble_eq_true rfl, Nat.le_of_ble_eq_true rfl⟩ (Nat.le_of_ble_eq_true rfl) (Nat.le_refl _) (Nat.le_refl _) ?_
    refine V_istore C dL_hangs_392 (Nat.le_of_ble_eq_true rfl) rfl ?_
    refine V_iconst C dL_hangs_394 ?_
    refine V_istore C dL_hangs_395 (Nat.le_of_ble_eq_true rfl) rfl ?_
    exact kF x C hZ
  | succ f ih =>
    intro k K r h e o5 o6 o7 o8 o9 o10 o11 o12
    exact n_hangs G s st kp t T hg k (by omega) (fun K2 r2 h2 => ih (k + 1) K2 r2 h2 (by omega)) K r h o5 o6 o7 o8 o9 o10 o11 o12
set_option maxRecDepth 100000 in
set_option maxHeartbeats 4000000 in
theorem c_hangs (G : GT) (s : Nat → Int) (st : Nat) (kp : Int) (t : Nat → Int) (T : Nat) (hg : GI s st kp t T) (K : Nat → Nat → Int) (r : Nat → Option Nat) (h : IC K r s st kp t T) : ∃ K1 r1, CtO G yL_hangs mL_hangs [rf G 0] K r (some (.int (iI 1))) K1 r1 ∧ IC K1 r1 s st kp t T := by
  obtain ⟨KF, rF, hF, kF⟩ := l_hangs G s st kp t T hg 6 0 K r h (by omega) none none none none none none none none
  refine ⟨KF, rF, ?_, hF⟩
  refine Ct_of kL_hangs.1 (by decide) [some (rf G 0), none, none, none, none, none, none, none, none, none, none, none, none] rfl (Nat.le_of_ble_eq_true rfl) ?_
  intro x C hZ
  refine V_iconst C dL_hangs_0 ?_
  refine V_istore_n C dL_hangs_1 rfl (Nat.le_of_ble_eq_true rfl) rfl ?_
  refine V_iconst C dL_hangs_2 ?_
  refine V_istore_n C dL_hangs_3 rfl (Nat.le_of_ble_eq_true rfl) rfl ?_
  refine V_iconst C dL_hangs_4 ?_
  refine V_istore_n C dL_hangs_5 rfl (Nat.le_of_ble_eq_true rfl) rfl ?_
  refine V_iconst C dL_hangs_6 ?_
  refine V_istore C dL_hangs_7 (Nat.le_of_ble_eq_true rfl) rfl ?_
  exact kF x C hZ
set_option maxRecDepth 100000 in
set_option maxHeartbeats 4000000 in
theorem c_cell (G : GT) (hL : G.2.2.2.2.2.2.2.1 ≤ 100000) (k : Nat) (hk : k < 4096) : ∃ y : Nat, y < 2147483648 ∧ ∀ (N : Nat) (gf : Bool) (h : Hp), Ct G yL_cell mL_cell [.ref G.2.2.2.2.2.2.1, .int (iI (k : Int))] N gf h 0 0 (some (.int (iI ((y : Nat) : Int)))) N gf h := by
  by_cases c : k < G.2.2.2.2.2.2.2.1
  · obtain ⟨w, -, ew⟩ := wb_of32 (G.2.2.2.2.2.2.2.2 k)
    have hw := ew.trans (iI_nat w).symm
    refine ⟨w &&& 2147483647, Nat.lt_of_le_of_lt Nat.and_le_right (by decide), fun N gf h => ?_⟩
    refine Ct_of kL_cell.1 (by decide) [some (.ref G.2.2.2.2.2.2.1), some (.int (iI (k : Int)))] rfl (Nat.le_of_ble_eq_true rfl) ?_
    intro x C hZ
    have hX : va_X G.2.2.2.2.2.2.1 G.2.2.2.2.2.2.2.1 G.2.2.2.2.2.2.2.2 x.2.2.2.1 x.2.2.2.1.heap ∧ G.2.2.2.2.2.2.1 < x.2.2.2.1.heap.size ∧ ¬ gA G G.2.2.2.2.2.2.1 := by
      obtain ⟨p, e, R, s, m, args, below, meth, cc, Z⟩ := x
      exact C.2.2.2.2.2.2.1.2.2.2.2.2.2.2.2.2.2.2.2.2
    obtain ⟨hX, hq, hA⟩ := hX
    refine V_iload_n C dL_cell_0 rfl rfl ?_
    refine V_aload_nq C dL_cell_1 rfl rfl ?_
    refine V_slen C dL_cell_2 hX hq hA ?_
    refine V_icmp_ge (tgt := 12) C dL_cell_3 (by decide) (by omega) (by omega) (fun q3 => by exfalso; omega) (fun q3 => ?_)
    refine V_aload_nq C dL_cell_6 rfl rfl ?_
    refine V_iload_n C dL_cell_7 rfl rfl ?_
    refine V_sld C dL_cell_8 hX hq hA (by omega) (by omega) ?_
    rw [tnN, hw]
    refine V_goto (tgt := 24) C dL_cell_9 (by decide) ?_
    refine V_ldc (n := 2147483647) C dL_cell_24 qL_8 (by decide) ?_
    refine V_iand C dL_cell_26 w 2147483647 (by first | rfl | omega) (by first | rfl | omega) ?_
    exact V_iret C dL_cell_27 rfl hZ rfl rfl
  · refine ⟨(48397 * (k % 4096) + 337) &&& 2147483647, Nat.lt_of_le_of_lt Nat.and_le_right (by decide), fun N gf h => ?_⟩
    refine Ct_of kL_cell.1 (by decide) [some (.ref G.2.2.2.2.2.2.1), some (.int (iI (k : Int)))] rfl (Nat.le_of_ble_eq_true rfl) ?_
    intro x C hZ
    have hX : va_X G.2.2.2.2.2.2.1 G.2.2.2.2.2.2.2.1 G.2.2.2.2.2.2.2.2 x.2.2.2.1 x.2.2.2.1.heap ∧ G.2.2.2.2.2.2.1 < x.2.2.2.1.heap.size ∧ ¬ gA G G.2.2.2.2.2.2.1 := by
      obtain ⟨p, e, R, s, m, args, below, meth, cc, Z⟩ := x
      exact C.2.2.2.2.2.2.1.2.2.2.2.2.2.2.2.2.2.2.2.2
    obtain ⟨hX, hq, hA⟩ := hX
    refine V_iload_n C dL_cell_0 rfl rfl ?_
    refine V_aload_nq C dL_cell_1 rfl rfl ?_
    refine V_slen C dL_cell_2 hX hq hA ?_
    refine V_icmp_ge (tgt := 12) C dL_cell_3 (by decide) (by omega) (by omega) (fun q3 => ?_) (fun q3 => by exfalso; omega)
    refine V_ldc (n := 48397) C dL_cell_12 qL_7 (by decide) ?_
    refine V_iload_n C dL_cell_14 rfl rfl ?_
    refine V_sipush C dL_cell_15 (by decide +kernel) ?_
    refine V_irem C dL_cell_18 (by omega) (by omega) ?_
    refine V_imul C dL_cell_19 ?_
    refine V_sipush C dL_cell_20 (by decide +kernel) ?_
    refine V_iadd C dL_cell_23 ?_
    refine V_ldc (n := 2147483647) C dL_cell_24 qL_8 (by decide) ?_
    refine V_iand C dL_cell_26 (48397 * (k % 4096) + 337) 2147483647 (by first | rfl | omega) (by first | rfl | omega) ?_
    exact V_iret C dL_cell_27 rfl hZ rfl rfl
