/-! a share as a double: above 0, at most 1 -/
def shD (a b : Nat) : UInt64 := FP.ddiv (FP.i2d (iI (a : Int))) (FP.i2d (iI (b : Int)))
def okB (r : UInt64) : Bool := decide (r &&& 0x7fffffffffffffff ≤ 0x7ff0000000000000)
def leB (r : UInt64) : Bool := match FP.dcmp r 0x3ff0000000000000 with
  | some .lt => true
  | some .eq => true
  | _ => false
def gtB (r : UInt64) : Bool := match FP.dcmp r 0 with
  | some .gt => true
  | _ => false
def shC (a b : Nat) : Bool := okB (shD a b) && (leB (shD a b) && gtB (shD a b))
def shR (a : Nat) : Bool := allB (fun k => shC a (a + k)) (103 - a)
theorem chkS_0 : allB (fun k => shR (1 + k)) 6 = true := by decide +kernel
theorem chkS_1 : allB (fun k => shR (7 + k)) 6 = true := by decide +kernel
theorem chkS_2 : allB (fun k => shR (13 + k)) 6 = true := by decide +kernel
theorem chkS_3 : allB (fun k => shR (19 + k)) 6 = true := by decide +kernel
theorem chkS_4 : allB (fun k => shR (25 + k)) 6 = true := by decide +kernel
theorem chkS_5 : allB (fun k => shR (31 + k)) 6 = true := by decide +kernel
theorem chkS_6 : allB (fun k => shR (37 + k)) 6 = true := by decide +kernel
theorem chkS_7 : allB (fun k => shR (43 + k)) 6 = true := by decide +kernel
theorem chkS_8 : allB (fun k => shR (49 + k)) 6 = true := by decide +kernel
theorem sh_all {a b : Nat} (h1 : 1 ≤ a) (h2 : a ≤ 54) (h3 : a ≤ b) (h4 : b ≤ 102) : shC a b = true := by
  have hr : shR a = true := by
    by_cases c0 : a < 7
    · have := allB_of chkS_0 (a - 1) (by omega)
      rwa [show 1 + (a - 1) = a by omega] at this
    by_cases c1 : a < 13
    · have := allB_of chkS_1 (a - 7) (by omega)
      rwa [show 7 + (a - 7) = a by omega] at this
    by_cases c2 : a < 19
    · have := allB_of chkS_2 (a - 13) (by omega)
      rwa [show 13 + (a - 13) = a by omega] at this
    by_cases c3 : a < 25
    · have := allB_of chkS_3 (a - 19) (by omega)
      rwa [show 19 + (a - 19) = a by omega] at this
    by_cases c4 : a < 31
    · have := allB_of chkS_4 (a - 25) (by omega)
      rwa [show 25 + (a - 25) = a by omega] at this
    by_cases c5 : a < 37
    · have := allB_of chkS_5 (a - 31) (by omega)
      rwa [show 31 + (a - 31) = a by omega] at this
    by_cases c6 : a < 43
    · have := allB_of chkS_6 (a - 37) (by omega)
      rwa [show 37 + (a - 37) = a by omega] at this
    by_cases c7 : a < 49
    · have := allB_of chkS_7 (a - 43) (by omega)
      rwa [show 43 + (a - 43) = a by omega] at this
    by_cases c8 : a < 55
    · have := allB_of chkS_8 (a - 49) (by omega)
      rwa [show 49 + (a - 49) = a by omega] at this
    omega
  have := allB_of hr (b - a) (by omega)
  rwa [show a + (b - a) = b by omega] at this
theorem one_le : leB 0x3ff0000000000000 = true := by decide +kernel
theorem one_gt : gtB 0x3ff0000000000000 = true := by decide +kernel
theorem chkA : allB (fun n => Nat.ble (cn 18 (gm 18 n)) 9 && (Nat.ble (cn 18 (fm 18 n)) 17 && Nat.ble (cn 18 (gm 18 n)) (cn 18 (fm 18 n)))) 6765 = true := by decide +kernel
