/-! an operation of the class, and one of the reference, said alike -/
def OkO (G : GT) (y : MethodName) (me : MeT) (as : List Value) (K : Nat → Nat → Int) (r : Nat → Option Nat) (v : Value) (s : Nat → Int) (st : Nat) (kp : Int) (t : Nat → Int) (T : Nat) : Prop :=
  ∃ K1 r1, CtO G y me as K r (some v) K1 r1 ∧ IC K1 r1 s st kp t T ∧ FR K K1
def OkX (G : GT) (y : MethodName) (me : MeT) (as : List Value) (K : Nat → Nat → Int) (r : Nat → Option Nat) (E : String) (s : Nat → Int) (st : Nat) (kp : Int) (t : Nat → Int) (T : Nat) : Prop :=
  ∃ K1, CtX G y me as 28 false (HP G K r) 1 6 E (HP G K1 r) ∧ IC K1 r s st kp t T ∧ FR K K1
def RH (K : Nat → Nat → Int) (s : Nat → Int) (st : Nat) (kp : Int) (t : Nat → Int) (T : Nat) : Prop := K 29 = s ∧ K 28 1 = st ∧ K 28 2 = kp ∧ K 30 = t ∧ K 28 5 = T
def FM (K K' : Nat → Nat → Int) : Prop := ∀ q, q < 28 ∨ q = 33 → K' q = K q
def OkM (G : GT) (y : MethodName) (me : MeT) (as : List Value) (K : Nat → Nat → Int) (r : Nat → Option Nat) (v : Value) (code : Int) (s : Nat → Int) (st : Nat) (kp : Int) (t : Nat → Int) (T : Nat) : Prop :=
  ∃ K2, CtO G y me as K r (some v) K2 r ∧ RH K2 s st kp t T ∧ K2 28 3 = code ∧ FM K K2
theorem bc_22 {n : Nat} (h : n ≤ 6764) : bcN (gm 18 n) = cn 22 (gm 18 n) := by rw [bc_gm h, cn_18 (gm_18 n)]
theorem bcf_22 {n : Nat} (h : n ≤ 6764) : bcN (fm 18 n) = cn 22 (fm 18 n) := by rw [bc_fm h, cn_18 (fm_18 n)]
theorem PR_st {r : Nat → Option Nat} (h : PR r) {i : Nat} (hi : i < 5) : ∃ a, r i = some a ∧ isS a = true ∧ 18 ≤ a := h.1 i hi
theorem stop_r {K : Nat → Nat → Int} {s : Nat → Int} (h : RS K 1 s) (hg : GZ s) : (-1 ≤ K 1 3 ∧ K 1 3 ≤ 100) ∧ (0 ≤ K 1 4 ∧ K 1 4 ≤ 4) ∧ (K 1 3 = -1 ↔ s 71 ≠ 1) ∧ (s 71 = 1 → K 1 3 = s 72 ∧ K 1 4 = s 73) := by
  obtain ⟨h3, h4⟩ := h.2
  obtain ⟨-, -, -, g71, g72, g73⟩ := hg
  by_cases e : s 71 = 1
  · rw [if_pos e] at h3 h4
    exact ⟨by omega, by omega, ⟨fun w => by omega, fun w => absurd e w⟩, fun _ => ⟨h3, h4⟩⟩
  · rw [if_neg e] at h3 h4
    exact ⟨by omega, by omega, ⟨fun _ => e, fun _ => h3⟩, fun w => absurd w e⟩
