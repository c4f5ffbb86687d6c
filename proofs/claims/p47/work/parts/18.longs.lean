theorem wb_tb (n : Nat) : (lN n).toBitVec = BitVec.ofNat 64 n := rfl
theorem wb_inj {a b : Int64} (h : a.toBitVec = b.toBitVec) : a = b := Int64.toBitVec_inj.mp h
theorem wb_tn {n : Nat} (h : n < 2 ^ 64) : (lN n).toBitVec.toNat = n := by rw [wb_tb, BitVec.toNat_ofNat, Nat.mod_eq_of_lt h]
theorem wb_of (x : Int64) : ∃ n, n < 2 ^ 64 ∧ x = lN n := ⟨x.toBitVec.toNat, x.toBitVec.isLt, wb_inj (by rw [wb_tb]; simp)⟩
theorem wb_of32 (x : Int32) : ∃ n, n < 2 ^ 32 ∧ x = nI n := ⟨x.toBitVec.toNat, x.toBitVec.isLt, Int32.toBitVec_inj.mp (by show _ = BitVec.ofNat 32 _; simp)⟩
theorem wb_c : ∀ k, k < 64 → ((nI k).toInt64 &&& 63) = lN k := by decide +kernel
theorem wb_cu : ∀ k, k < 64 → ((nI k).toInt64.toUInt64 &&& Int64.toUInt64 63) = UInt64.ofNat k := by decide +kernel
theorem wb_sm : ∀ k, k < 64 → (BitVec.ofNat 64 k).smod 64 = BitVec.ofNat 64 k := by decide +kernel
theorem wb_pw {a b : Nat} (h : a ≤ b) : 2 ^ b = 2 ^ a * 2 ^ (b - a) := by rw [← Nat.pow_add]; congr 1; omega
theorem wb_lt2 {a b : Nat} (h : a < b) : 2 ^ a < 2 ^ b := Nat.pow_lt_pow_right (by decide) h
theorem wb_mod (n : Nat) : lN n = lN (n % 2 ^ 64) := wb_inj (by rw [wb_tb, wb_tb]; apply BitVec.eq_of_toNat_eq; rw [BitVec.toNat_ofNat, BitVec.toNat_ofNat, Nat.mod_mod])
theorem wb_shr {n k : Nat} (hn : n < 2 ^ 64) (hk : k < 64) : ((lN n).toUInt64 >>> ((nI k).toInt64.toUInt64 &&& Int64.toUInt64 63)).toInt64 = lN (n / 2 ^ k) := by
  rw [wb_cu k hk]
  apply wb_inj
  apply BitVec.eq_of_toNat_eq
  show ((lN n).toUInt64 >>> UInt64.ofNat k).toNat = (BitVec.ofNat 64 _).toNat
  have h1 : (UInt64.ofNat k).toNat = k := by
    show (BitVec.ofNat 64 k).toNat = k
    rw [BitVec.toNat_ofNat, Nat.mod_eq_of_lt (by omega)]
  have h2 : (lN n).toUInt64.toNat = n := wb_tn hn
  rw [UInt64.toNat_shiftRight, h1, h2, Nat.mod_eq_of_lt hk, Nat.shiftRight_eq_div_pow, BitVec.toNat_ofNat, Nat.mod_eq_of_lt (Nat.lt_of_le_of_lt (Nat.div_le_self _ _) hn)]
theorem wb_shl (n : Nat) {k : Nat} (hk : k < 64) : lN n <<< ((nI k).toInt64 &&& 63) = lN (n * 2 ^ k) := by
  rw [wb_c k hk]
  apply wb_inj
  rw [Int64.toBitVec_shiftLeft, wb_tb, wb_tb, wb_tb, wb_sm k hk]
  apply BitVec.eq_of_toNat_eq
  rw [BitVec.shiftLeft_eq', BitVec.toNat_shiftLeft, BitVec.toNat_ofNat, BitVec.toNat_ofNat, BitVec.toNat_ofNat, Nat.mod_eq_of_lt (show k < 2 ^ 64 by omega), Nat.shiftLeft_eq, Nat.mul_mod, Nat.mod_mod, ← Nat.mul_mod]
theorem wb_and {a b : Nat} (ha : a < 2 ^ 64) (hb : b < 2 ^ 64) : lN a &&& lN b = lN (a &&& b) := by
  apply wb_inj
  rw [Int64.toBitVec_and, wb_tb, wb_tb, wb_tb]
  apply BitVec.eq_of_toNat_eq
  rw [BitVec.toNat_and, BitVec.toNat_ofNat, BitVec.toNat_ofNat, BitVec.toNat_ofNat, Nat.mod_eq_of_lt ha, Nat.mod_eq_of_lt hb, Nat.mod_eq_of_lt (Nat.and_lt_two_pow _ hb)]
theorem wb_or {a b : Nat} (ha : a < 2 ^ 64) (hb : b < 2 ^ 64) : lN a ||| lN b = lN (a ||| b) := by
  apply wb_inj
  rw [Int64.toBitVec_or, wb_tb, wb_tb, wb_tb]
  apply BitVec.eq_of_toNat_eq
  rw [BitVec.toNat_or, BitVec.toNat_ofNat, BitVec.toNat_ofNat, BitVec.toNat_ofNat, Nat.mod_eq_of_lt ha, Nat.mod_eq_of_lt hb, Nat.mod_eq_of_lt (Nat.or_lt_two_pow ha hb)]
theorem fb_andL (a b : Nat) : lN a &&& lN b = lN (a &&& b) := by
  apply Int64.toBitVec_inj.1
  show BitVec.ofNat 64 a &&& BitVec.ofNat 64 b = BitVec.ofNat 64 (a &&& b)
  apply BitVec.eq_of_getLsbD_eq
  intro i hi
  simp [hi]
theorem fb_orL (a b : Nat) : lN a ||| lN b = lN (a ||| b) := by
  apply Int64.toBitVec_inj.1
  show BitVec.ofNat 64 a ||| BitVec.ofNat 64 b = BitVec.ofNat 64 (a ||| b)
  apply BitVec.eq_of_getLsbD_eq
  intro i hi
  simp [hi]
theorem fb_xorL (a b : Nat) : lN a ^^^ lN b = lN (a ^^^ b) := by
  apply Int64.toBitVec_inj.1
  show BitVec.ofNat 64 a ^^^ BitVec.ofNat 64 b = BitVec.ofNat 64 (a ^^^ b)
  apply BitVec.eq_of_getLsbD_eq
  intro i hi
  simp [hi]
section VL
variable {G : GT} {me : MeT} {x : CxT} {pc : Nat} {loc : List (Option Value)} {st : List Value} {N : Nat} {gf : Bool} {h : Hp} {kc ks : Nat} {a b : Int}
theorem V_lushr (C : Cx G me x) (d : decode me.2.1 pc = .ok (.lushr, 1)) (m s : Nat) (ha : a = m) (hb0 : b = s) (hm : m < 18446744073709551616) (hs : s < 64) (k : V G me x (pc + 1) loc (.long (lL ((m >>> s : Nat) : Int)) :: st) N gf h kc ks) : V G me x pc loc (.int (iI b) :: .long (lL a) :: st) N gf h kc ks := by
  subst ha; subst hb0
  exact V_lift C (fun hx hb k => lv_lushr hx hb d (by rw [lL_nat, iI_nat, wb_shr (by omega) hs, ← lL_nat, ← Nat.shiftRight_eq_div_pow]) k) k
theorem V_lshl (C : Cx G me x) (d : decode me.2.1 pc = .ok (.lshl, 1)) (m s : Nat) (ha : a = m) (hb0 : b = s) (hs : s < 64) (k : V G me x (pc + 1) loc (.long (lL ((m <<< s : Nat) : Int)) :: st) N gf h kc ks) : V G me x pc loc (.int (iI b) :: .long (lL a) :: st) N gf h kc ks := by
  subst ha; subst hb0
  exact V_lift C (fun hx hb k => lv_lshl hx hb d (by rw [lL_nat, iI_nat, wb_shl _ hs, ← lL_nat, ← Nat.shiftLeft_eq]) k) k
theorem V_land (C : Cx G me x) (d : decode me.2.1 pc = .ok (.land, 1)) (m s : Nat) (ha : a = m) (hb0 : b = s) (k : V G me x (pc + 1) loc (.long (lL ((m &&& s : Nat) : Int)) :: st) N gf h kc ks) : V G me x pc loc (.long (lL b) :: .long (lL a) :: st) N gf h kc ks := by
  subst ha; subst hb0
  exact V_lift C (fun hx hb k => lv_land hx hb d (by rw [lL_nat, lL_nat, fb_andL, ← lL_nat]; exact k)) k
theorem V_lor (C : Cx G me x) (d : decode me.2.1 pc = .ok (.lor, 1)) (m s : Nat) (ha : a = m) (hb0 : b = s) (k : V G me x (pc + 1) loc (.long (lL ((m ||| s : Nat) : Int)) :: st) N gf h kc ks) : V G me x pc loc (.long (lL b) :: .long (lL a) :: st) N gf h kc ks := by
  subst ha; subst hb0
  exact V_lift C (fun hx hb k => lv_lor hx hb d (by rw [lL_nat, lL_nat, fb_orL, ← lL_nat]; exact k)) k
theorem V_lxor (C : Cx G me x) (d : decode me.2.1 pc = .ok (.lxor, 1)) (m s : Nat) (ha : a = m) (hb0 : b = s) (k : V G me x (pc + 1) loc (.long (lL ((m ^^^ s : Nat) : Int)) :: st) N gf h kc ks) : V G me x pc loc (.long (lL b) :: .long (lL a) :: st) N gf h kc ks := by
  subst ha; subst hb0
  exact V_lift C (fun hx hb k => lv_lxor hx hb d (by rw [lL_nat, lL_nat, fb_xorL, ← lL_nat]; exact k)) k
theorem V_l2i (C : Cx G me x) (d : decode me.2.1 pc = .ok (.l2i, 1)) (m : Nat) (ha : a = m) (k : V G me x (pc + 1) loc (.int (iI (m : Int)) :: st) N gf h kc ks) : V G me x pc loc (.long (lL a) :: st) N gf h kc ks := by
  subst ha
  exact V_lift C (fun hx hb k => lv_l2i hx hb d (by rw [lL_nat, lN_i, iI_nat]) k) k
theorem lL_div {m n : Nat} (hm : m < 9223372036854775808) (hn : 0 < n ∧ n < 9223372036854775808) : lL (m : Int) / lL (n : Int) = lL ((m / n : Nat) : Int) := by
  rw [lL_nat, lL_nat, pk_lDiv (by omega) hn.1 (by omega), ← lL_nat]
theorem V_ldiv (C : Cx G me x) (d : decode me.2.1 pc = .ok (.ldiv, 1)) (m s : Nat) (ha : a = m) (hb0 : b = s) (hm : m < 9223372036854775808) (hs : 0 < s ∧ s < 9223372036854775808) (k : V G me x (pc + 1) loc (.long (lL ((m / s : Nat) : Int)) :: st) N gf h kc ks) : V G me x pc loc (.long (lL b) :: .long (lL a) :: st) N gf h kc ks := by
  subst ha; subst hb0
  exact V_lift C (fun hx hb k => lv_ldiv hx hb d (fun e => by have := congrArg Int64.toInt e; rw [lL_toInt (by omega) (by omega)] at this; have z : (0 : Int64).toInt = 0 := rfl; omega) (by rw [lL_div hm hs]; exact k)) k
theorem V_lrem (C : Cx G me x) (d : decode me.2.1 pc = .ok (.lrem, 1)) (m s : Nat) (ha : a = m) (hb0 : b = s) (hm : m < 9223372036854775808) (hs : 0 < s ∧ s < 9223372036854775808) (k : V G me x (pc + 1) loc (.long (lL ((m % s : Nat) : Int)) :: st) N gf h kc ks) : V G me x pc loc (.long (lL b) :: .long (lL a) :: st) N gf h kc ks := by
  subst ha; subst hb0
  exact V_lift C (fun hx hb k => lv_lrem hx hb d (fun e => by have := congrArg Int64.toInt e; rw [lL_toInt (by omega) (by omega)] at this; have z : (0 : Int64).toInt = 0 := rfl; omega) (by rw [lL_nat, lL_nat, pk_lRem (by omega) hs.1 (by omega), ← lL_nat]; exact k)) k
theorem lcmp_eq (w : Int64) : lg_cmp w w = iI 0 := by
  have h : ¬ w < w := by rw [Int64.lt_iff_toInt_lt]; omega
  simp [lg_cmp, h]; rfl
def lcp (a b : Int) : Int := if b < a then 1 else if a = b then 0 else -1
theorem lcp_of {a b : Int} (ha : -9223372036854775808 ≤ a ∧ a < 9223372036854775808) (hb : -9223372036854775808 ≤ b ∧ b < 9223372036854775808) : lg_cmp (lL a) (lL b) = iI (lcp a b) := by
  have e1 : lL b < lL a ↔ b < a := by rw [Int64.lt_iff_toInt_lt, lL_toInt ha.1 ha.2, lL_toInt hb.1 hb.2]
  have e2 : lL a = lL b ↔ a = b := by
    constructor
    · intro e
      have := congrArg Int64.toInt e
      rw [lL_toInt ha.1 ha.2, lL_toInt hb.1 hb.2] at this
      exact this
    · intro e; rw [e]
  unfold lg_cmp lcp
  by_cases h1 : b < a
  · rw [if_pos (e1.mpr h1), if_pos h1]; rfl
  · rw [if_neg (fun q => h1 (e1.mp q)), if_neg h1]
    by_cases h2 : a = b
    · rw [if_pos (e2.mpr h2), if_pos h2]; rfl
    · rw [if_neg (fun q => h2 (e2.mp q)), if_neg h2]; rfl
end VL
