/-! what adding two marks gives -/
def mkN (E : Nat → Int) : Nat → Nat
  | 0 => 0
  | k + 1 => if 0 < E k then mkN E k ||| (1 <<< k) else mkN E k
def adE (m o : Nat) : Nat → Int := cyE 3000 (cI m o)
def adC (m o : Nat) : Nat := cyN 3000 (cI m o)
theorem sm_cI (m o : Nat) : ∀ k, k ≤ 24 → sm (fun i => (wN i : Int)) (cI m o) k = ((wo k m + wo k o : Nat) : Int)
  | 0, _ => rfl
  | k + 1, h => by
    have h1 := sm_cI m o k (by omega)
    simp only [sm, h1, wo, cI, if_pos (show k < 24 by omega)]
    rw [Int.mul_add]
    push_cast
    rw [Int.mul_comm ((wN k : Nat) : Int), Int.mul_comm ((wN k : Nat) : Int)]
    omega
theorem wo_24 {m : Nat} (hm : m < 262144) : wo 24 m = wo 18 m := by
  show wo 22 m + (m >>> 22 &&& 1) * wN 22 + (m >>> 23 &&& 1) * wN 23 = wo 18 m
  rw [hi_0 hm (by decide), hi_0 hm (by decide), wo_18 hm]
  omega
theorem cI_val {m o : Nat} (hm : m < 262144) (ho : o < 262144) : sm (fun i => (wN i : Int)) (cI m o) 24 = ((wo 18 m + wo 18 o : Nat) : Int) := by
  rw [sm_cI m o 24 (by omega), wo_24 hm, wo_24 ho]
theorem adE_c0 (m o : Nat) : c0 (adE m o) := cyE_c0 _ _ (cI_c0 m o)
theorem adE_none (m o : Nat) : fk 20 (adE m o) = none := cyE_none _ _ (cI_c0 m o) (by have := cI_pot m o; omega)
theorem adE_lo (m o : Nat) {k : Nat} (hk : k < 20) : adE m o k ≤ 1 := by
  have h := fk_none (adE_none m o) k hk
  simp only [cyB, Bool.or_eq_false_iff, decide_eq_false_iff_not] at h
  omega
theorem adE_hi {m o : Nat} (hm : m < 262144) (ho : o < 262144) (hv : wo 18 m + wo 18 o < 17711) {k : Nat} (h1 : 20 ≤ k) (h2 : k < 24) : adE m o k = 0 := by
  have h3 := adE_c0 m o k
  have h4 : sm (fun i => (wN i : Int)) (adE m o) 24 = ((wo 18 m + wo 18 o : Nat) : Int) := (cyE_val 3000 (cI m o)).trans (cI_val hm ho)
  have h5 := sm_ge (w := fun i => (wN i : Int)) (c := adE m o) (fun k => by show (0 : Int) ≤ (wN k : Int); omega) (adE_c0 m o) (i := k) (n := 24) h2
  have h6 : 17711 ≤ wN k := Nat.le_trans (by decide : 17711 ≤ wN 20) (wN_le h1)
  have h7 := Int.mul_le_mul_of_nonneg_right (show (17711 : Int) ≤ (wN k : Int) by omega) h3
  have h8 : (17711 : Int) * adE m o k < 17711 := by omega
  omega
theorem adE_01 {m o : Nat} (hm : m < 262144) (ho : o < 262144) (hv : wo 18 m + wo 18 o < 17711) {k : Nat} (h2 : k < 24) : adE m o k = 0 ∨ adE m o k = 1 := by
  have h3 := adE_c0 m o k
  by_cases h : k < 20
  · have := adE_lo m o h; omega
  · left; exact adE_hi hm ho hv (by omega) h2
theorem mkN_22 {m o : Nat} (hm : m < 262144) (ho : o < 262144) (hv : wo 18 m + wo 18 o < 17711) : mkN (adE m o) 24 = mkN (adE m o) 22 := by
  have h1 := adE_hi hm ho hv (k := 22) (by omega) (by omega)
  have h2 := adE_hi hm ho hv (k := 23) (by omega) (by omega)
  show (if 0 < adE m o 23 then _ else (if 0 < adE m o 22 then _ else mkN (adE m o) 22)) = _
  rw [if_neg (by omega), if_neg (by omega)]
theorem cyN_n {f : Nat} {c : Nat → Int} (h : fk 20 c = none) : cyN (f + 1) c = 0 := by simp only [cyN, h]
theorem cyE_n {f : Nat} {c : Nat → Int} (h : fk 20 c = none) : cyE (f + 1) c = c := by simp only [cyE, h]
theorem cyN_s {f k : Nat} {c : Nat → Int} (h : fk 20 c = some k) : cyN (f + 1) c = cyN f (cyF c k) + 1 := by simp only [cyN, h]
theorem cyE_s {f k : Nat} {c : Nat → Int} (h : fk 20 c = some k) : cyE (f + 1) c = cyE f (cyF c k) := by simp only [cyE, h]
theorem fk_1 {k : Nat} {c : Nat → Int} (h : cyB c k = true) : fk (k + 1) c = some k := by simp only [fk, h, if_true]
theorem fk_0 {k : Nat} {c : Nat → Int} (h : cyB c k = false) : fk (k + 1) c = fk k c := by simp [fk, h]
def cIk (g : Nat → Int) (m o k : Nat) : Nat → Int := fun j => if j < k then ((m >>> j &&& 1 : Nat) : Int) + ((o >>> j &&& 1 : Nat) : Int) else g j
theorem cIk_s (g : Nat → Int) (m o k : Nat) : us (cIk g m o k) k (((m >>> k &&& 1 : Nat) : Int) + ((o >>> k &&& 1 : Nat) : Int)) = cIk g m o (k + 1) := by
  funext j
  by_cases e : j = k
  · subst e; rw [us_at]; simp only [cIk]; rw [if_pos (by omega)]
  · rw [us_ne _ _ e]
    simp only [cIk]
    by_cases h : j < k
    · rw [if_pos h, if_pos (by omega)]
    · rw [if_neg h, if_neg (by omega)]
theorem cIk_0 (g : Nat → Int) (m o : Nat) : cIk g m o 0 = g := by funext j; simp [cIk]
theorem cyF_no {c : Nat → Int} {k : Nat} (h : cyB c k = false) : cyF c k = c := by
  simp only [cyB, Bool.or_eq_false_iff, decide_eq_false_iff_not] at h
  unfold cyF
  rw [if_neg h.1, if_neg h.2]
theorem us_4 {α : Type} {K : Nat → α} {a b : Nat} {x y x' y' : α} (n : a ≠ b) : us (us (us (us K a x) b y) a x') b y' = us (us K a x') b y' := by
  rw [us_comm (us K a x) y x' (Ne.symm n), us_us, us_us]
