theorem alS_z {f : Nat → Int} (b : Bool) : ∀ k, (∀ j, j < k → f j = 0) → alS f b k = 0
  | 0, _ => rfl
  | k + 1, h => by
    have h1 := alS_z b k (fun j hj => h j (by omega))
    simp only [alS]
    rw [h1, h k (by omega)]
    cases b <;> decide +kernel
theorem alS_0 {f : Nat → Int} : ∀ k, (∀ j, j < k → 0 ≤ f j ∧ f j ≤ 6764) → alS f false k = 0 → ∀ j, j < k → f j = 0
  | k + 1, h, e, j, hj => by
    simp only [alS] at e
    by_cases e1 : j < k
    · exact alS_0 k (fun j hj => h j (by omega)) (by omega) j e1
    · have hk := h j hj
      have e2 : j = k := by omega
      subst e2
      by_cases e3 : 1 ≤ (f j).toNat
      · have := cn_gm (n := (f j).toNat) (by omega) e3
        simp only [Bool.false_eq_true, if_false] at e
        omega
      · omega
theorem alS_pos {f : Nat → Int} (h : ∀ j, j < 6 → 0 ≤ f j ∧ f j ≤ 6764) (e : alS f true 6 ≠ 0) : 1 ≤ alS f false 6 := by
  by_cases c : alS f false 6 = 0
  · exact absurd (alS_z true 6 (alS_0 6 h c)) e
  · omega
/-! the reference's digest -/
def dgA (z : Nat → Int) (st : Int) : Int := 31 * (31 * caH z 6 (stH z 6 (31 * (31 * (31 * 4549 + su z 6) + (ri z 5 : Nat)) + st)) + (gm 18 (z 0).toNat : Nat)) + z 6
def dgB (z : Nat → Int) (h : Int) : Int := 31 * (31 * mxF (fun k => (((rdZ z).2.2.2.getD k 0 : Nat) : Int)) (rdZ z).2.2.2.length (31 * mxF (fun k => z (7 + k)) (z 6).toNat h + ((rdZ z).2.2.2.length : Nat)) + ((rdZ z).2.2.1 : Nat)) + ((rdZ z).2.1 : Nat)
def dgC (z : Nat → Int) (h : Int) : Int := if 0 < z 6 then 31 * h + ((rdZ (tD z 0)).2.2.2.length : Nat) else h
def dgD (z : Nat → Int) (h : Int) : Int := if z 71 = 1 then 31 * (31 * (31 * h + z 71) + z 72) + z 73 else 31 * h + z 71
def dgE (z : Nat → Int) (h : Int) : Int := 31 * h + (if alS z true 6 = 0 then 4607182418800017408 else btV (alS z false 6) (alS z true 6))
def dgF (t : Nat → Int) (T : Nat) (h : Int) : Int := mxF t T (31 * h + (T : Int))
def dg (z : Nat → Int) (st : Int) (t : Nat → Int) (T : Nat) : Int := dgF t T (dgE z (dgD z (dgC z (dgB z (dgA z st)))))
/-- the world after it -/
def dgW (K : Nat → Nat → Int) : Nat → Nat → Int := Wc K (adE (gm 18 (K 29 5).toNat) (gm 18 (K 29 0).toNat)) (adC (gm 18 (K 29 5).toNat) (gm 18 (K 29 0).toNat) : Nat)
def dgX (K : Nat → Nat → Int) : Nat → Nat → Int := if 0 < K 29 6 then WdZ (WdZ (dgW K) (K 29)) (tD (K 29) 0) else WdZ (dgW K) (K 29)
def dgK (K : Nat → Nat → Int) : Nat → Nat → Int := us (dgX K) 28 (us (dgX K 28) 3 0)
theorem rdS_v (d : Nat → Int) : ∀ (k v : Nat), v ∈ (rdS d k).2.2.2 → v ≤ 100000
  | 0, v, h => absurd h (List.not_mem_nil)
  | k + 1, v, h => by
    have ih := rdS_v d k v
    simp only [rdS] at h
    have hw := wo_le 22 (rdS d k).1
    have hs : wS 22 ≤ 100000 := by decide
    split at h
    · dsimp only at h
      split at h
      · rw [List.mem_append, List.mem_singleton] at h
        rcases h with h | h
        · exact ih h
        · omega
      · exact ih h
    · exact ih h
theorem rdZ_v (z : Nat → Int) {k : Nat} (h : k < (rdZ z).2.2.2.length) : (rdZ z).2.2.2.getD k 0 ≤ 100000 := by
  rw [List.getD_eq_getElem?_getD, List.getElem?_eq_getElem h, Option.getD_some]
  exact rdS_v _ _ _ (List.getElem_mem h)
