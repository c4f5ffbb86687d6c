/-! numbers: an int is iI of an integer, a long lL of one -/
def iI (z : Int) : Int32 := Int32.ofInt z
def lL (z : Int) : Int64 := Int64.ofInt z
theorem iI_toInt {z : Int} (h1 : -2147483648 ≤ z) (h2 : z < 2147483648) : (iI z).toInt = z := by
  rw [iI, Int32.toInt_ofInt]
  show z.bmod 4294967296 = z
  rw [Int.bmod_eq_of_le (by omega) (by omega)]
theorem iI_as (x : Int32) : iI x.toInt = x := Int32.ofInt_toInt x
theorem iI_ex (x : Int32) : ∃ z : Int, (-2147483648 ≤ z ∧ z < 2147483648) ∧ x = iI z := by
  have h1 := Int32.le_toInt x
  have h2 := Int32.toInt_lt x
  exact ⟨x.toInt, ⟨by omega, by omega⟩, (iI_as x).symm⟩
theorem iI_add (a b : Int) : iI a + iI b = iI (a + b) := (Int32.ofInt_add a b).symm
theorem iI_sub (a b : Int) : iI a - iI b = iI (a - b) := (Int32.ofInt_sub a b).symm
theorem iI_mul (a b : Int) : iI a * iI b = iI (a * b) := (Int32.ofInt_mul a b).symm
theorem iI_nat (n : Nat) : iI (n : Int) = nI n := by
  unfold iI nI
  apply Int32.toBitVec_inj.1
  simp
theorem iI_clamp {z : Int} (h1 : 0 ≤ z) (h2 : z < 2147483648) : (iI z).toNatClampNeg = z.toNat := by
  show (iI z).toInt.toNat = z.toNat
  rw [iI_toInt (by omega) h2]
theorem iI_lt {a b : Int} (ha : -2147483648 ≤ a ∧ a < 2147483648) (hb : -2147483648 ≤ b ∧ b < 2147483648) : iI a < iI b ↔ a < b := by
  rw [Int32.lt_iff_toInt_lt, iI_toInt ha.1 ha.2, iI_toInt hb.1 hb.2]
theorem iI_le {a b : Int} (ha : -2147483648 ≤ a ∧ a < 2147483648) (hb : -2147483648 ≤ b ∧ b < 2147483648) : iI a ≤ iI b ↔ a ≤ b := by
  rw [Int32.le_iff_toInt_le, iI_toInt ha.1 ha.2, iI_toInt hb.1 hb.2]
theorem iI_eq {a b : Int} (ha : -2147483648 ≤ a ∧ a < 2147483648) (hb : -2147483648 ≤ b ∧ b < 2147483648) : iI a = iI b ↔ a = b := by
  constructor
  · intro h
    have h2 := congrArg Int32.toInt h
    rw [iI_toInt ha.1 ha.2, iI_toInt hb.1 hb.2] at h2
    exact h2
  · intro h; rw [h]
theorem iI_in {z : Int} {n : Nat} (h1 : 0 ≤ z) (h2 : z < n) (hn : n < 2147483648) : vp_in (iI z) n := by
  rw [vp_in_iff, iI_toInt (by omega) (by omega)]
  omega
theorem iI_div {a b : Int} (ha : 0 ≤ a ∧ a < 2147483648) (hb : 0 < b ∧ b < 2147483648) : iI a / iI b = iI (a / b) := by
  obtain ⟨m, rfl⟩ := Int.eq_ofNat_of_zero_le ha.1
  obtain ⟨n, rfl⟩ := Int.eq_ofNat_of_zero_le (by omega : 0 ≤ b)
  rw [iI_nat, iI_nat, pk_div (by omega) (by omega) (by omega), ← iI_nat]
  rfl
theorem iI_rem {a b : Int} (ha : 0 ≤ a ∧ a < 2147483648) (hb : 0 < b ∧ b < 2147483648) : iI a - iI a / iI b * iI b = iI (a % b) := by
  rw [iI_div ha hb, iI_mul, iI_sub]
  congr 1
  have := Int.emod_add_mul_ediv a b
  rw [Int.mul_comm] at this
  omega
theorem iI_s31 : ∀ s, s < 32 → (((nI s) &&& 31).toBitVec.smod 32).toNat = s := by decide +kernel
theorem iI_u31 : ∀ s, s < 32 → (((nI s).toUInt32 &&& Int32.toUInt32 31).toBitVec % 32).toNat = s := by decide +kernel
theorem iI_shr {m s : Nat} (hm : m < 2147483648) (hs : s < 32) : iI (m : Int) >>> (iI (s : Int) &&& 31) = iI ((m >>> s : Nat) : Int) := by
  rw [iI_nat, iI_nat, pk_shrN (by omega) _ s (iI_s31 s hs), ← iI_nat, Nat.shiftRight_eq_div_pow]
theorem iI_ushr {m s : Nat} (hm : m < 2147483648) (hs : s < 32) : ((iI (m : Int)).toUInt32 >>> ((iI (s : Int)).toUInt32 &&& Int32.toUInt32 31)).toInt32 = iI ((m >>> s : Nat) : Int) := by
  rw [iI_nat, iI_nat, pk_ushrN (by omega) _ s (iI_u31 s hs), ← iI_nat, Nat.shiftRight_eq_div_pow]
theorem iI_shl {m s : Nat} (h : m <<< s < 4294967296) (hs : s < 32) : iI (m : Int) <<< (iI (s : Int) &&& 31) = iI ((m <<< s : Nat) : Int) := by
  rw [Nat.shiftLeft_eq] at h
  rw [iI_nat, iI_nat, pk_shlN _ s (iI_s31 s hs) (by omega), ← iI_nat, Nat.shiftLeft_eq]
theorem iI_and (m n : Nat) : iI (m : Int) &&& iI (n : Int) = iI ((m &&& n : Nat) : Int) := by
  rw [iI_nat, iI_nat, iI_nat]
  apply Int32.toBitVec_inj.1
  show BitVec.ofNat 32 m &&& BitVec.ofNat 32 n = BitVec.ofNat 32 (m &&& n)
  apply BitVec.eq_of_getLsbD_eq
  intro i hi
  simp [hi]
theorem iI_or (m n : Nat) : iI (m : Int) ||| iI (n : Int) = iI ((m ||| n : Nat) : Int) := by
  rw [iI_nat, iI_nat, iI_nat]
  apply Int32.toBitVec_inj.1
  show BitVec.ofNat 32 m ||| BitVec.ofNat 32 n = BitVec.ofNat 32 (m ||| n)
  apply BitVec.eq_of_getLsbD_eq
  intro i hi
  simp [hi]
theorem lL_toInt {z : Int} (h1 : -9223372036854775808 ≤ z) (h2 : z < 9223372036854775808) : (lL z).toInt = z := by
  rw [lL, Int64.toInt_ofInt]
  show z.bmod 18446744073709551616 = z
  rw [Int.bmod_eq_of_le (by omega) (by omega)]
theorem lL_add (a b : Int) : lL a + lL b = lL (a + b) := (Int64.ofInt_add a b).symm
theorem lL_sub (a b : Int) : lL a - lL b = lL (a - b) := (Int64.ofInt_sub a b).symm
theorem lL_mul (a b : Int) : lL a * lL b = lL (a * b) := (Int64.ofInt_mul a b).symm
theorem iI_i2l {a : Int} (ha : -2147483648 ≤ a ∧ a < 2147483648) : (iI a).toInt64 = lL a := by
  apply Int64.toInt_inj.1
  rw [Int32.toInt_toInt64, iI_toInt ha.1 ha.2, lL_toInt (by omega) (by omega)]
theorem lL_nat (n : Nat) : lL (n : Int) = lN n := by
  unfold lL lN
  apply Int64.toBitVec_inj.1
  simp
/-! the words -/
def lw_gd : List Cond := lw_tbl.filter goodWord
theorem gd_mem {w : Cond} (h : w ∈ lw_tbl) (g : goodWord w = true) : w ∈ lw_gd := List.mem_filter.mpr ⟨h, g⟩
theorem gd_in {w : Cond} (h : w ∈ lw_gd) : w ∈ lw_tbl := (List.mem_filter.mp h).1
theorem gd_good {w : Cond} (h : w ∈ lw_gd) : goodWord w = true := (List.mem_filter.mp h).2
theorem tb_0 {w : Cond} (i : Nat) (h : (k2_sels lw_privs)[i]? = some w) : w ∈ lw_tbl := List.mem_append_left _ (List.mem_of_getElem? h)
theorem tb_t {w : Cond} (h : w ∈ tables_1) : w ∈ lw_tbl := List.mem_append_right _ h
theorem tb_1 {w : Cond} (i : Nat) (h : tables_1_1[i]? = some w) : w ∈ lw_tbl := tb_t (List.mem_append_left _ (List.mem_of_getElem? h))
theorem tb_2 {w : Cond} (i : Nat) (h : tables_1_2[i]? = some w) : w ∈ lw_tbl := tb_t (List.mem_append_right _ (List.mem_append_left _ (List.mem_of_getElem? h)))
theorem tb_3 {w : Cond} (i : Nat) (h : tables_1_3[i]? = some w) : w ∈ lw_tbl := tb_t (List.mem_append_right _ (List.mem_append_right _ (List.mem_append_left _ (List.mem_of_getElem? h))))
theorem tb_4 {w : Cond} (i : Nat) (h : tables_1_4[i]? = some w) : w ∈ lw_tbl := tb_t (List.mem_append_right _ (List.mem_append_right _ (List.mem_append_right _ (List.mem_of_getElem? h))))
/-- a method, said once: class, code, locals, what it returns, the room below it, its table, whether a constructor -/
abbrev MeT : Type := String × ByteArray × Nat × Option FieldType × Nat × Nat × List (Nat × Nat × Nat × Nat) × Bool
def YKx (y : MethodName) (me : MeT) (np : Nat) : Prop := Cond.code y me.2.1 me.2.2.1 me.2.2.2.1 ∈ lw_gd ∧ Cond.initialized y.cls ∈ lw_gd ∧ (y.cls ≠ "java/lang/invoke/MethodHandle" ∧ y.cls ≠ "java/lang/invoke/VarHandle" ∧ (parseMethodDescriptor y.desc).map (fun d => d.parameters.length) = some np) ∧ plainName y.cls = true ∧ me.1 = y.cls ∧ me.2.2.2.2.2.2.1 = [] 
def YKs (y : MethodName) (me : MeT) (np : Nat) : Prop := YKx y me np ∧ Cond.static y ∈ lw_gd
def YKi (y : MethodName) (me : MeT) (np : Nat) : Prop := YKx y me np ∧ Cond.instanceMethod y ∈ lw_gd
def YKv (y : MethodName) (me : MeT) (np : Nat) : Prop := YKi y me np ∧ Cond.selects y.cls y y ∈ lw_gd
def YKh (y : MethodName) (me : MeT) (np : Nat) : Prop := Cond.codeWith y me.2.1 me.2.2.1 me.2.2.2.1 me.2.2.2.2.2.2.1 ∈ lw_gd ∧ Cond.initialized y.cls ∈ lw_gd ∧ (y.cls ≠ "java/lang/invoke/MethodHandle" ∧ y.cls ≠ "java/lang/invoke/VarHandle" ∧ (parseMethodDescriptor y.desc).map (fun d => d.parameters.length) = some np) ∧ plainName y.cls = true ∧ me.1 = y.cls ∧ Cond.static y ∈ lw_gd
/-- a field's entry in a class's pool: the class of the object by its number, the field by its place -/
def FL (own : String) (idx ci k : Nat) : Prop := ∃ (C : String) (T : u_T) (n : Nat), vwCl[ci]? = some (C, T, n) ∧ k < n ∧ Cond.fieldLink own idx (T k).1 (T k).2.1 (T k).2.2.1 ∈ lw_gd
