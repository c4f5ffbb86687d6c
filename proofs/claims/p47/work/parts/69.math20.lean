theorem cn_gf {n : Nat} (h : n ≤ 6764) : cn 22 (gm 18 n) ≤ 9 ∧ cn 22 (fm 18 n) ≤ 17 ∧ cn 22 (gm 18 n) ≤ cn 22 (fm 18 n) := by
  have g := allB_of chkA n (by omega)
  rw [Bool.and_eq_true, Bool.and_eq_true] at g
  rw [cn_18 (gm_18 n), cn_18 (fm_18 n)]
  exact ⟨Nat.le_of_ble_eq_true g.1, Nat.le_of_ble_eq_true g.2.1, Nat.le_of_ble_eq_true g.2.2⟩
theorem alS_b {f : Nat → Int} : ∀ k, (∀ j, j < k → 0 ≤ f j ∧ f j ≤ 6764) → alS f false k ≤ 9 * k ∧ alS f true k ≤ 17 * k ∧ alS f false k ≤ alS f true k
  | 0, _ => ⟨Nat.le_refl _, Nat.le_refl _, Nat.le_refl _⟩
  | k + 1, h => by
    have ih := alS_b k (fun j hj => h j (by omega))
    have g := h k (by omega)
    have c := cn_gf (n := (f k).toNat) (by omega)
    have e1 : alS f false (k + 1) = alS f false k + cn 22 (gm 18 (f k).toNat) := rfl
    have e2 : alS f true (k + 1) = alS f true k + cn 22 (fm 18 (f k).toNat) := rfl
    omega
theorem vf_of {r : UInt64} (h : okB r = true) : vf_n64 r := by
  have h2 := of_decide_eq_true (show decide (r &&& 0x7fffffffffffffff ≤ 0x7ff0000000000000) = true from h)
  exact h2
theorem okB_sh {a b : Nat} (h : shC a b = true) : okB (shD a b) = true := by
  unfold shC at h
  rw [Bool.and_eq_true] at h
  exact h.1
theorem d2l_n (x : Int64) : x = lL ((x.toBitVec.toNat : Nat) : Int) := by
  rw [lL_nat]
  exact wb_inj (by rw [wb_tb]; simp)
/-- the share of a state -/
def shV (z : Nat → Int) : UInt64 := if alS z true 6 = 0 then 0x3ff0000000000000 else shD (alS z false 6) (alS z true 6)
theorem sh_z {z : Nat → Int} (h : GZ z) (e : alS z true 6 ≠ 0) : shC (alS z false 6) (alS z true 6) = true := by
  have b := alS_b 6 h.1
  have p := alS_pos h.1 e
  exact sh_all p (by omega) b.2.2 (by omega)
theorem okB_V {z : Nat → Int} (h : GZ z) (e : alS z true 6 ≠ 0) : okB (FP.ddiv (FP.i2d (iI ((alS z false 6 : Nat) : Int))) (FP.i2d (iI ((alS z true 6 : Nat) : Int)))) = true := okB_sh (sh_z h e)
