set_option maxRecDepth 100000 in
set_option maxHeartbeats 4000000 in
theorem c_X6_bits (a b : Nat) (ha : 1 ≤ a ∧ a ≤ 1000) (hb : 1 ≤ b ∧ b ≤ 1000) (G : GT) (N : Nat) (gf : Bool) (h : Hp) : Ct G yX6_bits mX6_bits [.int (iI (a : Int)), .int (iI (b : Int))] N gf h 0 0 (some (.long (lL (btV a b)))) N gf h := by
  refine Ct_of kX6_bits.1 (by decide) [some (.int (iI (a : Int))), some (.int (iI (b : Int))), none, none, none, none, none, none, none] rfl (Nat.le_of_ble_eq_true rfl) ?_
  intro x C hZ
  have m86 : ∀ (t s q Q : Nat) (r : Int), s ≤ 70 → Q ≤ 9007199254740992 → btR Q s = btV a b → V G mX6_bits x 86 [some (.int (iI (a : Int))), some (.int (iI (b : Int))), some (.long (lL (t : Int))), none, some (.int (iI (s : Int))), some (.long (lL (q : Int))), none, some (.long (lL r)), none] [.long (lL (Q : Int))] N gf h 0 0 := by
    intro t s q Q r hs hQ hE
    unfold btR at hE
    by_cases c : Q = 9007199254740992
    · rw [if_pos c] at hE
      refine V_lstore C dX6_bits_86 (Nat.le_of_ble_eq_true rfl) rfl ?_
      refine V_lload C dX6_bits_88 rfl ?_
      refine V_ldc2 (n := 9007199254740992) C dX6_bits_90 qX6_177 (by decide +kernel) ?_
      refine V_lcmp C dX6_bits_93 ?_
      rw [lcp_of (by omega) (by omega), lcp_eq (by omega)]
      refine V_if_ne (tgt := 105) C dX6_bits_94 (by decide) (by omega) (fun q94 => by exfalso; omega) (fun q94 => ?_)
      refine V_ldc2 (n := 4503599627370496) C dX6_bits_97 qX6_173 (by decide +kernel) ?_
      refine V_lstore C dX6_bits_100 (Nat.le_of_ble_eq_true rfl) rfl ?_
      refine V_iinc C dX6_bits_102 rfl (Nat.le_of_ble_eq_true rfl) rfl ?_
      refine V_sipush C dX6_bits_105 (by decide +kernel) ?_
      refine V_iload C dX6_bits_108 rfl ?_
      refine V_isub C dX6_bits_110 ?_
      refine V_i2l C dX6_bits_111 (by omega) ?_
      refine V_ldc2 (n := 4503599627370496) C dX6_bits_112 qX6_173 (by decide +kernel) ?_
      refine V_lmul C dX6_bits_115 ?_
      refine V_lload C dX6_bits_116 rfl ?_
      refine V_ldc2 (n := 4503599627370496) C dX6_bits_118 qX6_173 (by decide +kernel) ?_
      refine V_lsub C dX6_bits_121 ?_
      refine V_ladd C dX6_bits_122 ?_
      exact V_lret C dX6_bits_123 rfl hZ (by rw [hE]) rfl
    · rw [if_neg c] at hE
      refine V_lstore C dX6_bits_86 (Nat.le_of_ble_eq_true rfl) rfl ?_
      refine V_lload C dX6_bits_88 rfl ?_
      refine V_ldc2 (n := 9007199254740992) C dX6_bits_90 qX6_177 (by decide +kernel) ?_
      refine V_lcmp C dX6_bits_93 ?_
      rw [lcp_of (by omega) (by omega), lcp_lt (by omega)]
      refine V_if_ne (tgt := 105) C dX6_bits_94 (by decide) (by omega) (fun q94 => ?_) (fun q94 => by exfalso; omega)
      refine V_sipush C dX6_bits_105 (by decide +kernel) ?_
      refine V_iload C dX6_bits_108 rfl ?_
      refine V_isub C dX6_bits_110 ?_
      refine V_i2l C dX6_bits_111 (by omega) ?_
      refine V_ldc2 (n := 4503599627370496) C dX6_bits_112 qX6_173 (by decide +kernel) ?_
      refine V_lmul C dX6_bits_115 ?_
      refine V_lload C dX6_bits_116 rfl ?_
      refine V_ldc2 (n := 4503599627370496) C dX6_bits_118 qX6_173 (by decide +kernel) ?_
      refine V_lsub C dX6_bits_121 ?_
      refine V_ladd C dX6_bits_122 ?_
      exact V_lret C dX6_bits_123 rfl hZ (by rw [hE]) rfl
  have m35 : ∀ (t s : Nat) (o5 o7 : Option Value), s ≤ 70 → t < 9223372036854775808 → t / b < 9007199254740992 → t % b < b → btR (btQ b t) s = btV a b → V G mX6_bits x 35 [some (.int (iI (a : Int))), some (.int (iI (b : Int))), some (.long (lL (t : Int))), none, some (.int (iI (s : Int))), none, none, none, none] [] N gf h 0 0 := by
    intro t s o5 o7 hs ht h52 hm hE
    obtain ⟨Q, hQ⟩ : ∃ Q, Q = btQ b t := ⟨_, rfl⟩
    rw [← hQ] at hE
    unfold btQ at hQ
    have hm2 : t / b % 2 < 2 := Nat.mod_lt _ (by decide)
    obtain ⟨q, hq⟩ : ∃ q, q = t / b := ⟨_, rfl⟩
    obtain ⟨u, hu⟩ : ∃ u, u = t % b := ⟨_, rfl⟩
    rw [← hq, ← hu] at hQ
    rw [← hq] at h52 hm2
    rw [← hu] at hm
    by_cases c1 : b < u * 2
    · rw [if_pos (.inl c1)] at hQ
      refine V_lload_n C dX6_bits_35 rfl rfl ?_
      refine V_iload_n C dX6_bits_36 rfl rfl ?_
      refine V_i2l C dX6_bits_37 (by omega) ?_
      refine V_ldiv C dX6_bits_38 t b (by first | rfl | omega) (by first | rfl | omega) (by omega) (by omega) ?_
      rw [← hq]
      refine V_lstore C dX6_bits_39 (Nat.le_of_ble_eq_true rfl) rfl ?_
      refine V_lload_n C dX6_bits_41 rfl rfl ?_
      refine V_iload_n C dX6_bits_42 rfl rfl ?_
      refine V_i2l C dX6_bits_43 (by omega) ?_
      refine V_lrem C dX6_bits_44 t b (by first | rfl | omega) (by first | rfl | omega) (by omega) (by omega) ?_
      rw [← hu]
      refine V_ldc2 (n := 2) C dX6_bits_45 qX6_175 (by decide +kernel) ?_
      refine V_lmul C dX6_bits_48 ?_
      refine V_lstore C dX6_bits_49 (Nat.le_of_ble_eq_true rfl) rfl ?_
      refine V_lload C dX6_bits_51 rfl ?_
      refine V_lload C dX6_bits_53 rfl ?_
      refine V_iload_n C dX6_bits_55 rfl rfl ?_
      refine V_i2l C dX6_bits_56 (by omega) ?_
      refine V_lcmp C dX6_bits_57 ?_
      rw [lcp_of (by omega) (by omega), lcp_gt (by omega)]
      refine V_if_gt (tgt := 80) C dX6_bits_58 (by decide) (by omega) (fun q58 => ?_) (fun q58 => by exfalso; omega)
      refine V_lconst (z := 1) C dX6_bits_80 (by decide +kernel) ?_
      refine V_goto (tgt := 85) C dX6_bits_81 (by decide) ?_
      refine V_ladd C dX6_bits_85 ?_
      rw [hQ] at hE
      exact m86 t s q (q + 1) _ hs (by omega) hE
    · by_cases c2 : u * 2 = b
      · by_cases c3 : q % 2 = 1
        · rw [if_pos (.inr ⟨c2, c3⟩)] at hQ
          refine V_lload_n C dX6_bits_35 rfl rfl ?_
          refine V_iload_n C dX6_bits_36 rfl rfl ?_
          refine V_i2l C dX6_bits_37 (by omega) ?_
          refine V_ldiv C dX6_bits_38 t b (by first | rfl | omega) (by first | rfl | omega) (by omega) (by omega) ?_
          rw [← hq]
          refine V_lstore C dX6_bits_39 (Nat.le_of_ble_eq_true rfl) rfl ?_
          refine V_lload_n C dX6_bits_41 rfl rfl ?_
          refine V_iload_n C dX6_bits_42 rfl rfl ?_
          refine V_i2l C dX6_bits_43 (by omega) ?_
          refine V_lrem C dX6_bits_44 t b (by first | rfl | omega) (by first | rfl | omega) (by omega) (by omega) ?_
          rw [← hu]
          refine V_ldc2 (n := 2) C dX6_bits_45 qX6_175 (by decide +kernel) ?_
          refine V_lmul C dX6_bits_48 ?_
          refine V_lstore C dX6_bits_49 (Nat.le_of_ble_eq_true rfl) rfl ?_
          refine V_lload C dX6_bits_51 rfl ?_
          refine V_lload C dX6_bits_53 rfl ?_
          refine V_iload_n C dX6_bits_55 rfl rfl ?_
          refine V_i2l C dX6_bits_56 (by omega) ?_
          refine V_lcmp C dX6_bits_57 ?_
          rw [lcp_of (by omega) (by omega), lcp_eq (by omega)]
          refine V_if_gt (tgt := 80) C dX6_bits_58 (by decide) (by omega) (fun q58 => by exfalso; omega) (fun q58 => ?_)
          refine V_lload C dX6_bits_61 rfl ?_
          refine V_iload_n C dX6_bits_63 rfl rfl ?_
          refine V_i2l C dX6_bits_64 (by omega) ?_
          refine V_lcmp C dX6_bits_65 ?_
          rw [lcp_of (by omega) (by omega), lcp_eq (by omega)]
          refine V_if_ne (tgt := 84) C dX6_bits_66 (by decide) (by omega) (fun q66 => by exfalso; omega) (fun q66 => ?_)
          refine V_lload C dX6_bits_69 rfl ?_
          refine V_ldc2 (n := 2) C dX6_bits_71 qX6_175 (by decide +kernel) ?_
          refine V_lrem C dX6_bits_74 q 2 (by first | rfl | omega) (by first | rfl | omega) (by omega) (by omega) ?_
          rw [show (q % 2 : Nat) = 1 from c3]
          refine V_lconst (z := 1) C dX6_bits_75 (by decide +kernel) ?_
          refine V_lcmp C dX6_bits_76 ?_
          rw [lcp_of (by omega) (by omega), lcp_eq (by omega)]
          refine V_if_ne (tgt := 84) C dX6_bits_77 (by decide) (by omega) (fun q77 => by exfalso; omega) (fun q77 => ?_)
          refine V_lconst (z := 1) C dX6_bits_80 (by decide +kernel) ?_
          refine V_goto (tgt := 85) C dX6_bits_81 (by decide) ?_
          refine V_ladd C dX6_bits_85 ?_
          rw [hQ] at hE
          exact m86 t s q (q + 1) _ hs (by omega) hE
        · rw [if_neg (by omega)] at hQ
          refine V_lload_n C dX6_bits_35 rfl rfl ?_
          refine V_iload_n C dX6_bits_36 rfl rfl ?_
          refine V_i2l C dX6_bits_37 (by omega) ?_
          refine V_ldiv C dX6_bits_38 t b (by first | rfl | omega) (by first | rfl | omega) (by omega) (by omega) ?_
          rw [← hq]
          refine V_lstore C dX6_bits_39 (Nat.le_of_ble_eq_true rfl) rfl ?_
          refine V_lload_n C dX6_bits_41 rfl rfl ?_
          refine V_iload_n C dX6_bits_42 rfl rfl ?_
          refine V_i2l C dX6_bits_43 (by omega) ?_
          refine V_lrem C dX6_bits_44 t b (by first | rfl | omega) (by first | rfl | omega) (by omega) (by omega) ?_
          rw [← hu]
          refine V_ldc2 (n := 2) C dX6_bits_45 qX6_175 (by decide +kernel) ?_
          refine V_lmul C dX6_bits_48 ?_
          refine V_lstore C dX6_bits_49 (Nat.le_of_ble_eq_true rfl) rfl ?_
          refine V_lload C dX6_bits_51 rfl ?_
          refine V_lload C dX6_bits_53 rfl ?_
          refine V_iload_n C dX6_bits_55 rfl rfl ?_
          refine V_i2l C dX6_bits_56 (by omega) ?_
          refine V_lcmp C dX6_bits_57 ?_
          rw [lcp_of (by omega) (by omega), lcp_eq (by omega)]
          refine V_if_gt (tgt := 80) C dX6_bits_58 (by decide) (by omega) (fun q58 => by exfalso; omega) (fun q58 => ?_)
          refine V_lload C dX6_bits_61 rfl ?_
          refine V_iload_n C dX6_bits_63 rfl rfl ?_
          refine V_i2l C dX6_bits_64 (by omega) ?_
          refine V_lcmp C dX6_bits_65 ?_
          rw [lcp_of (by omega) (by omega), lcp_eq (by omega)]
          refine V_if_ne (tgt := 84) C dX6_bits_66 (by decide) (by omega) (fun q66 => by exfalso; omega) (fun q66 => ?_)
          refine V_lload C dX6_bits_69 rfl ?_
          refine V_ldc2 (n := 2) C dX6_bits_71 qX6_175 (by decide +kernel) ?_
          refine V_lrem C dX6_bits_74 q 2 (by first | rfl | omega) (by first | rfl | omega) (by omega) (by omega) ?_
          rw [show (q % 2 : Nat) = 0 by omega]
          refine V_lconst (z := 1) C dX6_bits_75 (by decide +kernel) ?_
          refine V_lcmp C dX6_bits_76 ?_
          rw [lcp_of (by omega) (by omega), lcp_lt (by omega)]
          refine V_if_ne (tgt := 84) C dX6_bits_77 (by decide) (by omega) (fun q77 => ?_) (fun q77 => by exfalso; omega)
          refine V_lconst (z := 0) C dX6_bits_84 (by decide +kernel) ?_
          refine V_ladd C dX6_bits_85 ?_
          rw [hQ] at hE
          exact m86 t s q q _ hs (by omega) hE
      · rw [if_neg (by omega)] at hQ
        refine V_lload_n C dX6_bits_35 rfl rfl ?_
        refine V_iload_n C dX6_bits_36 rfl rfl ?_
        refine V_i2l C dX6_bits_37 (by omega) ?_
        refine V_ldiv C dX6_bits_38 t b (by first | rfl | omega) (by first | rfl | omega) (by omega) (by omega) ?_
        rw [← hq]
        refine V_lstore C dX6_bits_39 (Nat.le_of_ble_eq_true rfl) rfl ?_
        refine V_lload_n C dX6_bits_41 rfl rfl ?_
        refine V_iload_n C dX6_bits_42 rfl rfl ?_
        refine V_i2l C dX6_bits_43 (by omega) ?_
        refine V_lrem C dX6_bits_44 t b (by first | rfl | omega) (by first | rfl | omega) (by omega) (by omega) ?_
        rw [← hu]
        refine V_ldc2 (n := 2) C dX6_bits_45 qX6_175 (by decide +kernel) ?_
        refine V_lmul C dX6_bits_48 ?_
        refine V_lstore C dX6_bits_49 (Nat.le_of_ble_eq_true rfl) rfl ?_
        refine V_lload C dX6_bits_51 rfl ?_
        refine V_lload C dX6_bits_53 rfl ?_
        refine V_iload_n C dX6_bits_55 rfl rfl ?_
        refine V_i2l C dX6_bits_56 (by omega) ?_
        refine V_lcmp C dX6_bits_57 ?_
        rw [lcp_of (by omega) (by omega), lcp_lt (by omega)]
        refine V_if_gt (tgt := 80) C dX6_bits_58 (by decide) (by omega) (fun q58 => by exfalso; omega) (fun q58 => ?_)
        refine V_lload C dX6_bits_61 rfl ?_
        refine V_iload_n C dX6_bits_63 rfl rfl ?_
        refine V_i2l C dX6_bits_64 (by omega) ?_
        refine V_lcmp C dX6_bits_65 ?_
        rw [lcp_of (by omega) (by omega), lcp_lt (by omega)]
        refine V_if_ne (tgt := 84) C dX6_bits_66 (by decide) (by omega) (fun q66 => ?_) (fun q66 => by exfalso; omega)
        refine V_lconst (z := 0) C dX6_bits_84 (by decide +kernel) ?_
        refine V_ladd C dX6_bits_85 ?_
        rw [hQ] at hE
        exact m86 t s q q _ hs (by omega) hE
  have loop : ∀ (f t s : Nat), f + s = 70 → 2 ^ s ≤ t → t < 9223372036854775808 → (t ≤ 1000 ∨ t / b < 9007199254740992) → btR (btQ b (btS b f t s).1) (btS b f t s).2 = btV a b → V G mX6_bits x 12 [some (.int (iI (a : Int))), some (.int (iI (b : Int))), some (.long (lL (t : Int))), none, some (.int (iI (s : Int))), none, none, none, none] [] N gf h 0 0 := by
    intro f
    induction f with
    | zero =>
      intro t s e h1 h2 h3 hE
      rw [show s = 70 by omega] at h1
      omega
    | succ f ih =>
      intro t s e h1 h2 h3 hE
      simp only [btS] at hE
      have d1 := Nat.div_add_mod t b
      have d2 := Nat.mod_lt t (show b > 0 by omega)
      by_cases c : t / b < 4503599627370496
      · rw [if_pos c] at hE
        have p1 : 2 ^ (s + 1) = 2 * 2 ^ s := by rw [Nat.pow_succ, Nat.mul_comm]
        have d3 : b * (t / b) ≤ 1000 * 4503599627370496 := Nat.mul_le_mul (by omega) (by omega)
        have d4 : 2 * t / b < 9007199254740992 := by
          have : 2 * t / b ≤ 2 * (t / b) + 1 := by
            rw [Nat.div_le_iff_le_mul_add_pred (by omega)]
            have : 2 * t = 2 * (b * (t / b)) + 2 * (t % b) := by omega
            rw [this, Nat.mul_add, Nat.mul_left_comm]
            omega
          omega
        obtain ⟨u, hu⟩ : ∃ u, u = t / b := ⟨_, rfl⟩
        refine V_lload_n C dX6_bits_12 rfl rfl ?_
        refine V_iload_n C dX6_bits_13 rfl rfl ?_
        refine V_i2l C dX6_bits_14 (by omega) ?_
        refine V_ldiv C dX6_bits_15 t b (by first | rfl | omega) (by first | rfl | omega) (by omega) (by omega) ?_
        rw [← hu]
        refine V_ldc2 (n := 4503599627370496) C dX6_bits_16 qX6_173 (by decide +kernel) ?_
        refine V_lcmp C dX6_bits_19 ?_
        rw [lcp_of (by omega) (by omega), lcp_lt (by omega)]
        refine V_if_ge (tgt := 35) C dX6_bits_20 (by decide) (by omega) (fun q20 => by exfalso; omega) (fun q20 => ?_)
        refine V_ldc2 (n := 2) C dX6_bits_23 qX6_175 (by decide +kernel) ?_
        refine V_lload_n C dX6_bits_26 rfl rfl ?_
        refine V_lmul C dX6_bits_27 ?_
        refine V_lstore_n C dX6_bits_28 rfl (Nat.le_of_ble_eq_true rfl) rfl ?_
        refine V_iinc C dX6_bits_29 rfl (Nat.le_of_ble_eq_true rfl) rfl ?_
        refine V_goto (tgt := 12) C dX6_bits_32 (by decide) ?_
        exact ih (2 * t) (s + 1) (by omega) (by omega) (by omega) (.inr d4) hE
      · rw [if_neg c] at hE
        have h4 : t / b < 9007199254740992 := by
          rcases h3 with h3 | h3
          · have := Nat.div_le_self t b
            omega
          · exact h3
        obtain ⟨u, hu⟩ : ∃ u, u = t / b := ⟨_, rfl⟩
        refine V_lload_n C dX6_bits_12 rfl rfl ?_
        refine V_iload_n C dX6_bits_13 rfl rfl ?_
        refine V_i2l C dX6_bits_14 (by omega) ?_
        refine V_ldiv C dX6_bits_15 t b (by first | rfl | omega) (by first | rfl | omega) (by omega) (by omega) ?_
        rw [← hu]
        refine V_ldc2 (n := 4503599627370496) C dX6_bits_16 qX6_173 (by decide +kernel) ?_
        refine V_lcmp C dX6_bits_19 ?_
        have hlc : 0 ≤ lcp (u : Int) 4503599627370496 ∧ lcp (u : Int) 4503599627370496 ≤ 1 := by
          rcases (show (4503599627370496 : Int) < (u : Int) ∨ (u : Int) = 4503599627370496 by omega) with w | w
          · rw [lcp_gt w]; decide
          · rw [lcp_eq w]; decide
        rw [lcp_of (by omega) (by omega)]
        refine V_if_ge (tgt := 35) C dX6_bits_20 (by decide) (by omega) (fun q20 => ?_) (fun q20 => by exfalso; omega)
        exact m35 t s none none (by omega) h2 h4 d2 hE
  refine V_iload_n C dX6_bits_0 rfl rfl ?_
  refine V_if_ne (tgt := 6) C dX6_bits_1 (by decide) (by omega) (fun q1 => ?_) (fun q1 => by exfalso; omega)
  refine V_iload_n C dX6_bits_6 rfl rfl ?_
  refine V_i2l C dX6_bits_7 (by omega) ?_
  refine V_lstore_n C dX6_bits_8 rfl (Nat.le_of_ble_eq_true rfl) rfl ?_
  refine V_iconst C dX6_bits_9 ?_
  refine V_istore C dX6_bits_10 (Nat.le_of_ble_eq_true rfl) rfl ?_
  exact loop 70 a 0 rfl (by omega) (by omega) (.inl ha.2) (by unfold btV; rfl)
