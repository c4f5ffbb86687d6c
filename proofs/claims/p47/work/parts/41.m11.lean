theorem kS_s {K : Nat → Nat → Int} {st j : Nat} (hj : j < 74) : kS K st 29 j = K 29 j := svS_0 hj
theorem us_29 {K : Nat → Nat → Int} {F : Nat → Int} : us K 29 F 29 = F := rfl
/-- the stream with a digit turned -/
def tD (z : Nat → Int) (p : Nat) : Nat → Int := us z (7 + p) (1 - z (7 + p))
theorem tD_tD (z : Nat → Int) (p : Nat) : tD (tD z p) p = z := by
  unfold tD
  rw [us_us, us_at]
  have : (1 - (1 - z (7 + p))) = z (7 + p) := by omega
  rw [this, us_same]
theorem Wd_us29 (K : Nat → Nat → Int) (w l : Int) (fo F : Nat → Int) : us (Wd K w l fo) 29 F = Wd (us K 29 F) w l fo := by
  unfold Wd
  rw [us_comm (us K 28 _) fo F (by decide), us_comm K _ F (by decide)]; rfl
/-- the stream's reading -/
def rdZ (z : Nat → Int) : Nat × Nat × Nat × List Nat := rdS (fun j => z (7 + j)) (z 6).toNat
def WdZ (K : Nat → Nat → Int) (z : Nat → Int) : Nat → Nat → Int := Wd K ((rdZ z).2.2.1 : Nat) ((rdZ z).2.1 : Nat) (foU (K 32) (rdZ z).2.2.2)
