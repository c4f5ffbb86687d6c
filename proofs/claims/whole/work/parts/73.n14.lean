set_option maxRecDepth 100000 in
set_option maxHeartbeats 4000000 in
theorem m1_X6_worthOf (G : GT) (K : Nat → Nat → Int) (r : Nat → Option Nat) (s : Nat → Int) (st : Nat) (kp : Int) (t : Nat → Int) (T : Nat) (hR : RH K s st kp t T) (hg : GI s st kp t T) (p : Int) (hp : -2147483648 ≤ p ∧ p < 2147483648) (hc : ¬ (0 ≤ p ∧ p ≤ 17)) : OkM G yX6_worthOf mX6_worthOf [rf G 28, .int (iI p)] K r (.int (iI 0)) 1 s st kp t T := by
  obtain ⟨e1, e2, e3, e4, e5⟩ := hR
  subst e1
  subst e4
  exact ⟨_, n_X6_worthOf G K r p hp hc, ⟨rfl, e2, e3, rfl, e5⟩, rfl, FM_of (fun q n1 n2 n3 n4 n5 => by simp only [kT, kS, Wd, WdZ, Wq, wkE, Wc, dgW, us_ne _ _ n1, us_ne _ _ n2, us_ne _ _ n3, us_ne _ _ n4, us_ne _ _ n5])⟩
set_option maxRecDepth 100000 in
set_option maxHeartbeats 4000000 in
theorem m0_X6_worthOf (G : GT) (K : Nat → Nat → Int) (r : Nat → Option Nat) (s : Nat → Int) (st : Nat) (kp : Int) (t : Nat → Int) (T : Nat) (hR : RH K s st kp t T) (hg : GI s st kp t T) (p : Int) (hp : -2147483648 ≤ p ∧ p < 2147483648) (hc : 0 ≤ p ∧ p ≤ 17) : OkM G yX6_worthOf mX6_worthOf [rf G 28, .int (iI p)] K r (.int (iI (wN p.toNat : Nat))) 0 s st kp t T := by
  obtain ⟨e1, e2, e3, e4, e5⟩ := hR
  subst e1
  subst e4
  exact ⟨_, c_X6_worthOf G K r p hp hc, ⟨rfl, e2, e3, rfl, e5⟩, rfl, FM_of (fun q n1 n2 n3 n4 n5 => by simp only [kT, kS, Wd, WdZ, Wq, wkE, Wc, dgW, us_ne _ _ n1, us_ne _ _ n2, us_ne _ _ n3, us_ne _ _ n4, us_ne _ _ n5])⟩
set_option maxRecDepth 100000 in
set_option maxHeartbeats 4000000 in
theorem m1_X6_worthOfSet (G : GT) (K : Nat → Nat → Int) (r : Nat → Option Nat) (s : Nat → Int) (st : Nat) (kp : Int) (t : Nat → Int) (T : Nat) (hR : RH K s st kp t T) (hg : GI s st kp t T) (p : Int) (hp : -2147483648 ≤ p ∧ p < 2147483648) (hc : ¬ (0 ≤ p ∧ p ≤ 262143)) : OkM G yX6_worthOfSet mX6_worthOfSet [rf G 28, .int (iI p)] K r (.int (iI 0)) 1 s st kp t T := by
  obtain ⟨e1, e2, e3, e4, e5⟩ := hR
  subst e1
  subst e4
  exact ⟨_, n_X6_worthOfSet G K r p hp hc, ⟨rfl, e2, e3, rfl, e5⟩, rfl, FM_of (fun q n1 n2 n3 n4 n5 => by simp only [kT, kS, Wd, WdZ, Wq, wkE, Wc, dgW, us_ne _ _ n1, us_ne _ _ n2, us_ne _ _ n3, us_ne _ _ n4, us_ne _ _ n5])⟩
set_option maxRecDepth 100000 in
set_option maxHeartbeats 4000000 in
theorem m0_X6_worthOfSet (G : GT) (K : Nat → Nat → Int) (r : Nat → Option Nat) (s : Nat → Int) (st : Nat) (kp : Int) (t : Nat → Int) (T : Nat) (hR : RH K s st kp t T) (hg : GI s st kp t T) (p : Int) (hp : -2147483648 ≤ p ∧ p < 2147483648) (hc : 0 ≤ p ∧ p ≤ 262143) : OkM G yX6_worthOfSet mX6_worthOfSet [rf G 28, .int (iI p)] K r (.int (iI (wo 22 p.toNat : Nat))) 0 s st kp t T := by
  obtain ⟨e1, e2, e3, e4, e5⟩ := hR
  subst e1
  subst e4
  exact ⟨_, c_X6_worthOfSet G K r p hp hc, ⟨rfl, e2, e3, rfl, e5⟩, rfl, FM_of (fun q n1 n2 n3 n4 n5 => by simp only [kT, kS, Wd, WdZ, Wq, wkE, Wc, dgW, us_ne _ _ n1, us_ne _ _ n2, us_ne _ _ n3, us_ne _ _ n4, us_ne _ _ n5])⟩
set_option maxRecDepth 100000 in
set_option maxHeartbeats 4000000 in
theorem m1_X6_say (G : GT) (K : Nat → Nat → Int) (r : Nat → Option Nat) (s : Nat → Int) (st : Nat) (kp : Int) (t : Nat → Int) (T : Nat) (hR : RH K s st kp t T) (hg : GI s st kp t T) (p : Int) (hp : -2147483648 ≤ p ∧ p < 2147483648) (hc : ¬ (0 ≤ p ∧ p ≤ 6764)) : OkM G yX6_say mX6_say [rf G 28, .int (iI p)] K r (.int (iI 0)) 1 s st kp t T := by
  obtain ⟨e1, e2, e3, e4, e5⟩ := hR
  subst e1
  subst e4
  exact ⟨_, n_X6_say G K r p hp hc, ⟨rfl, e2, e3, rfl, e5⟩, rfl, FM_of (fun q n1 n2 n3 n4 n5 => by simp only [kT, kS, Wd, WdZ, Wq, wkE, Wc, dgW, us_ne _ _ n1, us_ne _ _ n2, us_ne _ _ n3, us_ne _ _ n4, us_ne _ _ n5])⟩
set_option maxRecDepth 100000 in
set_option maxHeartbeats 4000000 in
theorem m0_X6_say (G : GT) (K : Nat → Nat → Int) (r : Nat → Option Nat) (s : Nat → Int) (st : Nat) (kp : Int) (t : Nat → Int) (T : Nat) (hR : RH K s st kp t T) (hg : GI s st kp t T) (p : Int) (hp : -2147483648 ≤ p ∧ p < 2147483648) (hc : 0 ≤ p ∧ p ≤ 6764) : OkM G yX6_say mX6_say [rf G 28, .int (iI p)] K r (.int (iI (gm 18 p.toNat : Nat))) 0 s st kp t T := by
  obtain ⟨e1, e2, e3, e4, e5⟩ := hR
  subst e1
  subst e4
  exact ⟨_, c_X6_say G K r p hp hc, ⟨rfl, e2, e3, rfl, e5⟩, rfl, FM_of (fun q n1 n2 n3 n4 n5 => by simp only [kT, kS, Wd, WdZ, Wq, wkE, Wc, dgW, us_ne _ _ n1, us_ne _ _ n2, us_ne _ _ n3, us_ne _ _ n4, us_ne _ _ n5])⟩
set_option maxRecDepth 100000 in
set_option maxHeartbeats 4000000 in
theorem m1_X6_sayByCounting (G : GT) (K : Nat → Nat → Int) (r : Nat → Option Nat) (s : Nat → Int) (st : Nat) (kp : Int) (t : Nat → Int) (T : Nat) (hR : RH K s st kp t T) (hg : GI s st kp t T) (p : Int) (hp : -2147483648 ≤ p ∧ p < 2147483648) (hc : ¬ (0 ≤ p ∧ p ≤ 6764)) : OkM G yX6_sayByCounting mX6_sayByCounting [rf G 28, .int (iI p)] K r (.int (iI 0)) 1 s st kp t T := by
  obtain ⟨e1, e2, e3, e4, e5⟩ := hR
  subst e1
  subst e4
  exact ⟨_, n_X6_sayByCounting G K r p hp hc, ⟨rfl, e2, e3, rfl, e5⟩, rfl, FM_of (fun q n1 n2 n3 n4 n5 => by simp only [kT, kS, Wd, WdZ, Wq, wkE, Wc, dgW, us_ne _ _ n1, us_ne _ _ n2, us_ne _ _ n3, us_ne _ _ n4, us_ne _ _ n5])⟩
set_option maxRecDepth 100000 in
set_option maxHeartbeats 4000000 in
theorem m0_X6_sayByCounting (G : GT) (K : Nat → Nat → Int) (r : Nat → Option Nat) (s : Nat → Int) (st : Nat) (kp : Int) (t : Nat → Int) (T : Nat) (hR : RH K s st kp t T) (hg : GI s st kp t T) (p : Int) (hp : -2147483648 ≤ p ∧ p < 2147483648) (hc : 0 ≤ p ∧ p ≤ 6764) : OkM G yX6_sayByCounting mX6_sayByCounting [rf G 28, .int (iI p)] K r (.int (iI (gm 18 p.toNat : Nat))) 0 s st kp t T := by
  obtain ⟨e1, e2, e3, e4, e5⟩ := hR
  subst e1
  subst e4
  exact ⟨_, c_X6_sayByCounting G K r p hp hc, ⟨rfl, e2, e3, rfl, e5⟩, rfl, FM_of (fun q n1 n2 n3 n4 n5 => by simp only [kT, kS, Wd, WdZ, Wq, wkE, Wc, dgW, us_ne _ _ n1, us_ne _ _ n2, us_ne _ _ n3, us_ne _ _ n4, us_ne _ _ n5])⟩
set_option maxRecDepth 100000 in
set_option maxHeartbeats 4000000 in
theorem m1_X6_fullSet (G : GT) (K : Nat → Nat → Int) (r : Nat → Option Nat) (s : Nat → Int) (st : Nat) (kp : Int) (t : Nat → Int) (T : Nat) (hR : RH K s st kp t T) (hg : GI s st kp t T) (p : Int) (hp : -2147483648 ≤ p ∧ p < 2147483648) (hc : ¬ (0 ≤ p ∧ p ≤ 6764)) : OkM G yX6_fullSet mX6_fullSet [rf G 28, .int (iI p)] K r (.int (iI 0)) 1 s st kp t T := by
  obtain ⟨e1, e2, e3, e4, e5⟩ := hR
  subst e1
  subst e4
  exact ⟨_, n_X6_fullSet G K r p hp hc, ⟨rfl, e2, e3, rfl, e5⟩, rfl, FM_of (fun q n1 n2 n3 n4 n5 => by simp only [kT, kS, Wd, WdZ, Wq, wkE, Wc, dgW, us_ne _ _ n1, us_ne _ _ n2, us_ne _ _ n3, us_ne _ _ n4, us_ne _ _ n5])⟩
set_option maxRecDepth 100000 in
set_option maxHeartbeats 4000000 in
theorem m0_X6_fullSet (G : GT) (K : Nat → Nat → Int) (r : Nat → Option Nat) (s : Nat → Int) (st : Nat) (kp : Int) (t : Nat → Int) (T : Nat) (hR : RH K s st kp t T) (hg : GI s st kp t T) (p : Int) (hp : -2147483648 ≤ p ∧ p < 2147483648) (hc : 0 ≤ p ∧ p ≤ 6764) : OkM G yX6_fullSet mX6_fullSet [rf G 28, .int (iI p)] K r (.int (iI (fm 18 p.toNat : Nat))) 0 s st kp t T := by
  obtain ⟨e1, e2, e3, e4, e5⟩ := hR
  subst e1
  subst e4
  exact ⟨_, c_X6_fullSet G K r p hp hc, ⟨rfl, e2, e3, rfl, e5⟩, rfl, FM_of (fun q n1 n2 n3 n4 n5 => by simp only [kT, kS, Wd, WdZ, Wq, wkE, Wc, dgW, us_ne _ _ n1, us_ne _ _ n2, us_ne _ _ n3, us_ne _ _ n4, us_ne _ _ n5])⟩
set_option maxRecDepth 100000 in
set_option maxHeartbeats 4000000 in
theorem m1_X6_ways (G : GT) (K : Nat → Nat → Int) (r : Nat → Option Nat) (s : Nat → Int) (st : Nat) (kp : Int) (t : Nat → Int) (T : Nat) (hR : RH K s st kp t T) (hg : GI s st kp t T) (p : Int) (hp : -2147483648 ≤ p ∧ p < 2147483648) (hc : ¬ (0 ≤ p ∧ p ≤ 6764)) : OkM G yX6_ways mX6_ways [rf G 28, .int (iI p)] K r (.int (iI 0)) 1 s st kp t T := by
  obtain ⟨e1, e2, e3, e4, e5⟩ := hR
  subst e1
  subst e4
  exact ⟨_, n_X6_ways G K r p hp hc, ⟨rfl, e2, e3, rfl, e5⟩, rfl, FM_of (fun q n1 n2 n3 n4 n5 => by simp only [kT, kS, Wd, WdZ, Wq, wkE, Wc, dgW, us_ne _ _ n1, us_ne _ _ n2, us_ne _ _ n3, us_ne _ _ n4, us_ne _ _ n5])⟩
set_option maxRecDepth 100000 in
set_option maxHeartbeats 4000000 in
theorem m0_X6_ways (G : GT) (K : Nat → Nat → Int) (r : Nat → Option Nat) (s : Nat → Int) (st : Nat) (kp : Int) (t : Nat → Int) (T : Nat) (hR : RH K s st kp t T) (hg : GI s st kp t T) (p : Int) (hp : -2147483648 ≤ p ∧ p < 2147483648) (hc : 0 ≤ p ∧ p ≤ 6764) : OkM G yX6_ways mX6_ways [rf G 28, .int (iI p)] K r (.int (iI (cw (gm 18 p.toNat)))) 0 s st kp t T := by
  obtain ⟨e1, e2, e3, e4, e5⟩ := hR
  subst e1
  subst e4
  exact ⟨_, c_X6_ways G K r p hp hc, ⟨rfl, e2, e3, rfl, e5⟩, rfl, FM_of (fun q n1 n2 n3 n4 n5 => by simp only [kT, kS, Wd, WdZ, Wq, wkE, Wc, dgW, us_ne _ _ n1, us_ne _ _ n2, us_ne _ _ n3, us_ne _ _ n4, us_ne _ _ n5])⟩
set_option maxRecDepth 100000 in
set_option maxHeartbeats 4000000 in
theorem m1_X6_waysByGaps (G : GT) (K : Nat → Nat → Int) (r : Nat → Option Nat) (s : Nat → Int) (st : Nat) (kp : Int) (t : Nat → Int) (T : Nat) (hR : RH K s st kp t T) (hg : GI s st kp t T) (p : Int) (hp : -2147483648 ≤ p ∧ p < 2147483648) (hc : ¬ (0 ≤ p ∧ p ≤ 6764)) : OkM G yX6_waysByGaps mX6_waysByGaps [rf G 28, .int (iI p)] K r (.int (iI 0)) 1 s st kp t T := by
  obtain ⟨e1, e2, e3, e4, e5⟩ := hR
  subst e1
  subst e4
  exact ⟨_, n_X6_waysByGaps G K r p hp hc, ⟨rfl, e2, e3, rfl, e5⟩, rfl, FM_of (fun q n1 n2 n3 n4 n5 => by simp only [kT, kS, Wd, WdZ, Wq, wkE, Wc, dgW, us_ne _ _ n1, us_ne _ _ n2, us_ne _ _ n3, us_ne _ _ n4, us_ne _ _ n5])⟩
set_option maxRecDepth 100000 in
set_option maxHeartbeats 4000000 in
theorem m0_X6_waysByGaps (G : GT) (K : Nat → Nat → Int) (r : Nat → Option Nat) (s : Nat → Int) (st : Nat) (kp : Int) (t : Nat → Int) (T : Nat) (hR : RH K s st kp t T) (hg : GI s st kp t T) (p : Int) (hp : -2147483648 ≤ p ∧ p < 2147483648) (hc : 0 ≤ p ∧ p ≤ 6764) : OkM G yX6_waysByGaps mX6_waysByGaps [rf G 28, .int (iI p)] K r (.int (iI (cw (gm 18 p.toNat)))) 0 s st kp t T := by
  obtain ⟨e1, e2, e3, e4, e5⟩ := hR
  subst e1
  subst e4
  exact ⟨_, c_X6_waysByGaps G K r p hp hc, ⟨rfl, e2, e3, rfl, e5⟩, rfl, FM_of (fun q n1 n2 n3 n4 n5 => by simp only [kT, kS, Wd, WdZ, Wq, wkE, Wc, dgW, us_ne _ _ n1, us_ne _ _ n2, us_ne _ _ n3, us_ne _ _ n4, us_ne _ _ n5])⟩
set_option maxRecDepth 100000 in
set_option maxHeartbeats 4000000 in
theorem m1_X6_codeLength (G : GT) (K : Nat → Nat → Int) (r : Nat → Option Nat) (s : Nat → Int) (st : Nat) (kp : Int) (t : Nat → Int) (T : Nat) (hR : RH K s st kp t T) (hg : GI s st kp t T) (p : Int) (hp : -2147483648 ≤ p ∧ p < 2147483648) (hc : ¬ (1 ≤ p ∧ p ≤ 6764)) : OkM G yX6_codeLength mX6_codeLength [rf G 28, .int (iI p)] K r (.int (iI 0)) 1 s st kp t T := by
  obtain ⟨e1, e2, e3, e4, e5⟩ := hR
  subst e1
  subst e4
  exact ⟨_, n_X6_codeLength G K r p hp hc, ⟨rfl, e2, e3, rfl, e5⟩, rfl, FM_of (fun q n1 n2 n3 n4 n5 => by simp only [kT, kS, Wd, WdZ, Wq, wkE, Wc, dgW, us_ne _ _ n1, us_ne _ _ n2, us_ne _ _ n3, us_ne _ _ n4, us_ne _ _ n5])⟩
set_option maxRecDepth 100000 in
set_option maxHeartbeats 4000000 in
theorem m0_X6_codeLength (G : GT) (K : Nat → Nat → Int) (r : Nat → Option Nat) (s : Nat → Int) (st : Nat) (kp : Int) (t : Nat → Int) (T : Nat) (hR : RH K s st kp t T) (hg : GI s st kp t T) (p : Int) (hp : -2147483648 ≤ p ∧ p < 2147483648) (hc : 1 ≤ p ∧ p ≤ 6764) : OkM G yX6_codeLength mX6_codeLength [rf G 28, .int (iI p)] K r (.int (iI (cl p : Nat))) 0 s st kp t T := by
  obtain ⟨e1, e2, e3, e4, e5⟩ := hR
  subst e1
  subst e4
  exact ⟨_, c_X6_codeLength G K r p hp hc, ⟨rfl, e2, e3, rfl, e5⟩, rfl, FM_of (fun q n1 n2 n3 n4 n5 => by simp only [kT, kS, Wd, WdZ, Wq, wkE, Wc, dgW, us_ne _ _ n1, us_ne _ _ n2, us_ne _ _ n3, us_ne _ _ n4, us_ne _ _ n5])⟩
set_option maxRecDepth 100000 in
set_option maxHeartbeats 4000000 in
theorem m1_X6_spokenLength (G : GT) (K : Nat → Nat → Int) (r : Nat → Option Nat) (s : Nat → Int) (st : Nat) (kp : Int) (t : Nat → Int) (T : Nat) (hR : RH K s st kp t T) (hg : GI s st kp t T) (p : Int) (hp : -2147483648 ≤ p ∧ p < 2147483648) (q : Int) (hq : -2147483648 ≤ q ∧ q < 2147483648) (hc : ¬ (0 ≤ p ∧ p ≤ 2)) : OkM G yX6_spokenLength mX6_spokenLength [rf G 28, .int (iI p), .int (iI q)] K r (.int (iI 0)) 1 s st kp t T := by
  obtain ⟨e1, e2, e3, e4, e5⟩ := hR
  subst e1
  subst e4
  exact ⟨_, m_X6_spokenLength G K r p hp q hq hc, ⟨rfl, e2, e3, rfl, e5⟩, rfl, FM_of (fun q n1 n2 n3 n4 n5 => by simp only [kT, kS, Wd, WdZ, Wq, wkE, Wc, dgW, us_ne _ _ n1, us_ne _ _ n2, us_ne _ _ n3, us_ne _ _ n4, us_ne _ _ n5])⟩
set_option maxRecDepth 100000 in
set_option maxHeartbeats 4000000 in
theorem m2_X6_spokenLength (G : GT) (K : Nat → Nat → Int) (r : Nat → Option Nat) (s : Nat → Int) (st : Nat) (kp : Int) (t : Nat → Int) (T : Nat) (hR : RH K s st kp t T) (hg : GI s st kp t T) (p : Int) (hp : -2147483648 ≤ p ∧ p < 2147483648) (q : Int) (hq : -2147483648 ≤ q ∧ q < 2147483648) (hc : 0 ≤ p ∧ p ≤ 2) (hd : ¬ (0 ≤ q ∧ q ≤ 6764)) : OkM G yX6_spokenLength mX6_spokenLength [rf G 28, .int (iI p), .int (iI q)] K r (.int (iI 0)) 2 s st kp t T := by
  obtain ⟨e1, e2, e3, e4, e5⟩ := hR
  subst e1
  subst e4
  exact ⟨_, n_X6_spokenLength G K r p hp q hq hc hd, ⟨rfl, e2, e3, rfl, e5⟩, rfl, FM_of (fun q n1 n2 n3 n4 n5 => by simp only [kT, kS, Wd, WdZ, Wq, wkE, Wc, dgW, us_ne _ _ n1, us_ne _ _ n2, us_ne _ _ n3, us_ne _ _ n4, us_ne _ _ n5])⟩
set_option maxRecDepth 100000 in
set_option maxHeartbeats 4000000 in
theorem m0_X6_spokenLength (G : GT) (K : Nat → Nat → Int) (r : Nat → Option Nat) (s : Nat → Int) (st : Nat) (kp : Int) (t : Nat → Int) (T : Nat) (hR : RH K s st kp t T) (hg : GI s st kp t T) (p : Int) (hp : -2147483648 ≤ p ∧ p < 2147483648) (q : Int) (hq : -2147483648 ≤ q ∧ q < 2147483648) (hc : 0 ≤ p ∧ p ≤ 2) (hd : 0 ≤ q ∧ q ≤ 6764) : OkM G yX6_spokenLength mX6_spokenLength [rf G 28, .int (iI p), .int (iI q)] K r (.int (iI (cn 22 (gm 18 q.toNat) : Nat))) 0 s st kp t T := by
  obtain ⟨e1, e2, e3, e4, e5⟩ := hR
  subst e1
  subst e4
  exact ⟨_, c_X6_spokenLength G K r p hp q hq hc hd, ⟨rfl, e2, e3, rfl, e5⟩, rfl, FM_of (fun q n1 n2 n3 n4 n5 => by simp only [kT, kS, Wd, WdZ, Wq, wkE, Wc, dgW, us_ne _ _ n1, us_ne _ _ n2, us_ne _ _ n3, us_ne _ _ n4, us_ne _ _ n5])⟩
set_option maxRecDepth 100000 in
set_option maxHeartbeats 4000000 in
theorem m1_X6_spokenAt (G : GT) (K : Nat → Nat → Int) (r : Nat → Option Nat) (s : Nat → Int) (st : Nat) (kp : Int) (t : Nat → Int) (T : Nat) (hR : RH K s st kp t T) (hg : GI s st kp t T) (p : Int) (hp : -2147483648 ≤ p ∧ p < 2147483648) (q : Int) (hq : -2147483648 ≤ q ∧ q < 2147483648) (u : Int) (hu : -2147483648 ≤ u ∧ u < 2147483648) (hc : ¬ (0 ≤ p ∧ p ≤ 2)) : OkM G yX6_spokenAt mX6_spokenAt [rf G 28, .int (iI p), .int (iI q), .int (iI u)] K r (.int (iI 0)) 1 s st kp t T := by
  obtain ⟨e1, e2, e3, e4, e5⟩ := hR
  subst e1
  subst e4
  exact ⟨_, m_X6_spokenAt G K r p hp q hq u hu hc, ⟨rfl, e2, e3, rfl, e5⟩, rfl, FM_of (fun q n1 n2 n3 n4 n5 => by simp only [kT, kS, Wd, WdZ, Wq, wkE, Wc, dgW, us_ne _ _ n1, us_ne _ _ n2, us_ne _ _ n3, us_ne _ _ n4, us_ne _ _ n5])⟩
set_option maxRecDepth 100000 in
set_option maxHeartbeats 4000000 in
theorem m2_X6_spokenAt (G : GT) (K : Nat → Nat → Int) (r : Nat → Option Nat) (s : Nat → Int) (st : Nat) (kp : Int) (t : Nat → Int) (T : Nat) (hR : RH K s st kp t T) (hg : GI s st kp t T) (p : Int) (hp : -2147483648 ≤ p ∧ p < 2147483648) (q : Int) (hq : -2147483648 ≤ q ∧ q < 2147483648) (u : Int) (hu : -2147483648 ≤ u ∧ u < 2147483648) (hc : 0 ≤ p ∧ p ≤ 2) (hd : ¬ (0 ≤ q ∧ q ≤ 6764 ∧ 0 ≤ u ∧ u < (cn 22 (gm 18 q.toNat) : Nat))) : OkM G yX6_spokenAt mX6_spokenAt [rf G 28, .int (iI p), .int (iI q), .int (iI u)] K r (.int (iI 0)) 2 s st kp t T := by
  obtain ⟨e1, e2, e3, e4, e5⟩ := hR
  subst e1
  subst e4
  exact ⟨_, n_X6_spokenAt G K r p hp q hq u hu hc hd, ⟨rfl, e2, e3, rfl, e5⟩, rfl, FM_of (fun q n1 n2 n3 n4 n5 => by simp only [kT, kS, Wd, WdZ, Wq, wkE, Wc, dgW, us_ne _ _ n1, us_ne _ _ n2, us_ne _ _ n3, us_ne _ _ n4, us_ne _ _ n5])⟩
set_option maxRecDepth 100000 in
set_option maxHeartbeats 4000000 in
theorem m0_X6_spokenAt (G : GT) (K : Nat → Nat → Int) (r : Nat → Option Nat) (s : Nat → Int) (st : Nat) (kp : Int) (t : Nat → Int) (T : Nat) (hR : RH K s st kp t T) (hg : GI s st kp t T) (p : Int) (hp : -2147483648 ≤ p ∧ p < 2147483648) (q : Int) (hq : -2147483648 ≤ q ∧ q < 2147483648) (u : Int) (hu : -2147483648 ≤ u ∧ u < 2147483648) (hc : 0 ≤ p ∧ p ≤ 2) (hd : 0 ≤ q ∧ q ≤ 6764 ∧ 0 ≤ u ∧ u < (cn 22 (gm 18 q.toNat) : Nat)) : OkM G yX6_spokenAt mX6_spokenAt [rf G 28, .int (iI p), .int (iI q), .int (iI u)] K r (.int (iI (wd (gm 18 q.toNat) p u))) 0 s st kp t T := by
  obtain ⟨e1, e2, e3, e4, e5⟩ := hR
  subst e1
  subst e4
  exact ⟨_, c_X6_spokenAt G K r p hp q hq u hu hc hd, ⟨rfl, e2, e3, rfl, e5⟩, rfl, FM_of (fun q n1 n2 n3 n4 n5 => by simp only [kT, kS, Wd, WdZ, Wq, wkE, Wc, dgW, us_ne _ _ n1, us_ne _ _ n2, us_ne _ _ n3, us_ne _ _ n4, us_ne _ _ n5])⟩
set_option maxRecDepth 100000 in
set_option maxHeartbeats 4000000 in
theorem m1_X6_numberOf (G : GT) (K : Nat → Nat → Int) (r : Nat → Option Nat) (s : Nat → Int) (st : Nat) (kp : Int) (t : Nat → Int) (T : Nat) (hR : RH K s st kp t T) (hg : GI s st kp t T) (p : Int) (hp : -2147483648 ≤ p ∧ p < 2147483648) (hc : ¬ (0 ≤ p ∧ p ≤ 5)) : OkM G yX6_numberOf mX6_numberOf [rf G 28, .int (iI p)] K r (.int (iI 0)) 1 s st kp t T := by
  obtain ⟨e1, e2, e3, e4, e5⟩ := hR
  subst e1
  subst e4
  exact ⟨_, n_X6_numberOf G K r hg.1 p hp hc, ⟨rfl, e2, e3, rfl, e5⟩, rfl, FM_of (fun q n1 n2 n3 n4 n5 => by simp only [kT, kS, Wd, WdZ, Wq, wkE, Wc, dgW, us_ne _ _ n1, us_ne _ _ n2, us_ne _ _ n3, us_ne _ _ n4, us_ne _ _ n5])⟩
set_option maxRecDepth 100000 in
set_option maxHeartbeats 4000000 in
theorem m0_X6_numberOf (G : GT) (K : Nat → Nat → Int) (r : Nat → Option Nat) (s : Nat → Int) (st : Nat) (kp : Int) (t : Nat → Int) (T : Nat) (hR : RH K s st kp t T) (hg : GI s st kp t T) (p : Int) (hp : -2147483648 ≤ p ∧ p < 2147483648) (hc : 0 ≤ p ∧ p ≤ 5) : OkM G yX6_numberOf mX6_numberOf [rf G 28, .int (iI p)] K r (.int (iI (s p.toNat))) 0 s st kp t T := by
  obtain ⟨e1, e2, e3, e4, e5⟩ := hR
  subst e1
  subst e4
  exact ⟨_, c_X6_numberOf G K r hg.1 p hp hc, ⟨rfl, e2, e3, rfl, e5⟩, rfl, FM_of (fun q n1 n2 n3 n4 n5 => by simp only [kT, kS, Wd, WdZ, Wq, wkE, Wc, dgW, us_ne _ _ n1, us_ne _ _ n2, us_ne _ _ n3, us_ne _ _ n4, us_ne _ _ n5])⟩
set_option maxRecDepth 100000 in
set_option maxHeartbeats 4000000 in
theorem m1_X6_stepsOf (G : GT) (K : Nat → Nat → Int) (r : Nat → Option Nat) (s : Nat → Int) (st : Nat) (kp : Int) (t : Nat → Int) (T : Nat) (hR : RH K s st kp t T) (hg : GI s st kp t T) (p : Int) (hp : -2147483648 ≤ p ∧ p < 2147483648) (hc : ¬ (0 ≤ p ∧ p ≤ 5)) : OkM G yX6_stepsOf mX6_stepsOf [rf G 28, .int (iI p)] K r (.int (iI 0)) 1 s st kp t T := by
  obtain ⟨e1, e2, e3, e4, e5⟩ := hR
  subst e1
  subst e4
  exact ⟨_, n_X6_stepsOf G K r hg.1 p hp hc, ⟨rfl, e2, e3, rfl, e5⟩, rfl, FM_of (fun q n1 n2 n3 n4 n5 => by simp only [kT, kS, Wd, WdZ, Wq, wkE, Wc, dgW, us_ne _ _ n1, us_ne _ _ n2, us_ne _ _ n3, us_ne _ _ n4, us_ne _ _ n5])⟩
set_option maxRecDepth 100000 in
set_option maxHeartbeats 4000000 in
theorem m0_X6_stepsOf (G : GT) (K : Nat → Nat → Int) (r : Nat → Option Nat) (s : Nat → Int) (st : Nat) (kp : Int) (t : Nat → Int) (T : Nat) (hR : RH K s st kp t T) (hg : GI s st kp t T) (p : Int) (hp : -2147483648 ≤ p ∧ p < 2147483648) (hc : 0 ≤ p ∧ p ≤ 5) : OkM G yX6_stepsOf mX6_stepsOf [rf G 28, .int (iI p)] K r (.int (iI (cn 22 (gm 18 (s p.toNat).toNat) : Nat))) 0 s st kp t T := by
  obtain ⟨e1, e2, e3, e4, e5⟩ := hR
  subst e1
  subst e4
  exact ⟨_, c_X6_stepsOf G K r hg.1 p hp hc, ⟨rfl, e2, e3, rfl, e5⟩, rfl, FM_of (fun q n1 n2 n3 n4 n5 => by simp only [kT, kS, Wd, WdZ, Wq, wkE, Wc, dgW, us_ne _ _ n1, us_ne _ _ n2, us_ne _ _ n3, us_ne _ _ n4, us_ne _ _ n5])⟩
set_option maxRecDepth 100000 in
set_option maxHeartbeats 4000000 in
theorem m0_X6_total (G : GT) (K : Nat → Nat → Int) (r : Nat → Option Nat) (s : Nat → Int) (st : Nat) (kp : Int) (t : Nat → Int) (T : Nat) (hR : RH K s st kp t T) (hg : GI s st kp t T)   : OkM G yX6_total mX6_total [rf G 28] K r (.int (iI (su s 6))) 0 s st kp t T := by
  obtain ⟨e1, e2, e3, e4, e5⟩ := hR
  subst e1
  subst e4
  exact ⟨_, c_X6_total G K r , ⟨rfl, e2, e3, rfl, e5⟩, rfl, FM_of (fun q n1 n2 n3 n4 n5 => by simp only [kT, kS, Wd, WdZ, Wq, wkE, Wc, dgW, us_ne _ _ n1, us_ne _ _ n2, us_ne _ _ n3, us_ne _ _ n4, us_ne _ _ n5])⟩
set_option maxRecDepth 100000 in
set_option maxHeartbeats 4000000 in
theorem m0_X6_richest (G : GT) (K : Nat → Nat → Int) (r : Nat → Option Nat) (s : Nat → Int) (st : Nat) (kp : Int) (t : Nat → Int) (T : Nat) (hR : RH K s st kp t T) (hg : GI s st kp t T)   : OkM G yX6_richest mX6_richest [rf G 28] K r (.int (iI (ri s 5 : Nat))) 0 s st kp t T := by
  obtain ⟨e1, e2, e3, e4, e5⟩ := hR
  subst e1
  subst e4
  exact ⟨_, c_X6_richest G K r hg.1, ⟨rfl, e2, e3, rfl, e5⟩, rfl, FM_of (fun q n1 n2 n3 n4 n5 => by simp only [kT, kS, Wd, WdZ, Wq, wkE, Wc, dgW, us_ne _ _ n1, us_ne _ _ n2, us_ne _ _ n3, us_ne _ _ n4, us_ne _ _ n5])⟩
set_option maxRecDepth 100000 in
set_option maxHeartbeats 4000000 in
theorem m1_X6_sumByCarries (G : GT) (K : Nat → Nat → Int) (r : Nat → Option Nat) (s : Nat → Int) (st : Nat) (kp : Int) (t : Nat → Int) (T : Nat) (hR : RH K s st kp t T) (hg : GI s st kp t T) (p : Int) (hp : -2147483648 ≤ p ∧ p < 2147483648) (q : Int) (hq : -2147483648 ≤ q ∧ q < 2147483648) (hc : ¬ ((0 ≤ p ∧ p ≤ 5) ∧ 0 ≤ q ∧ q ≤ 5)) : OkM G yX6_sumByCarries mX6_sumByCarries [rf G 28, .int (iI p), .int (iI q)] K r (.int (iI 0)) 1 s st kp t T := by
  obtain ⟨e1, e2, e3, e4, e5⟩ := hR
  subst e1
  subst e4
  exact ⟨_, m_X6_sumByCarries G K r p hp q hq hc, ⟨rfl, e2, e3, rfl, e5⟩, rfl, FM_of (fun q n1 n2 n3 n4 n5 => by simp only [kT, kS, Wd, WdZ, Wq, wkE, Wc, dgW, us_ne _ _ n1, us_ne _ _ n2, us_ne _ _ n3, us_ne _ _ n4, us_ne _ _ n5])⟩
set_option maxRecDepth 100000 in
set_option maxHeartbeats 4000000 in
theorem m0_X6_sumByCarries (G : GT) (K : Nat → Nat → Int) (r : Nat → Option Nat) (s : Nat → Int) (st : Nat) (kp : Int) (t : Nat → Int) (T : Nat) (hR : RH K s st kp t T) (hg : GI s st kp t T) (p : Int) (hp : -2147483648 ≤ p ∧ p < 2147483648) (q : Int) (hq : -2147483648 ≤ q ∧ q < 2147483648) (hc : (0 ≤ p ∧ p ≤ 5) ∧ 0 ≤ q ∧ q ≤ 5) : OkM G yX6_sumByCarries mX6_sumByCarries [rf G 28, .int (iI p), .int (iI q)] K r (.int (iI (mkN (adE (gm 18 (s p.toNat).toNat) (gm 18 (s q.toNat).toNat)) 22 : Nat))) 0 s st kp t T := by
  obtain ⟨e1, e2, e3, e4, e5⟩ := hR
  subst e1
  subst e4
  exact ⟨_, c_X6_sumByCarries G K r hg.1 p hp q hq hc, ⟨rfl, e2, e3, rfl, e5⟩, rfl, FM_of (fun q n1 n2 n3 n4 n5 => by simp only [kT, kS, Wd, WdZ, Wq, wkE, Wc, dgW, us_ne _ _ n1, us_ne _ _ n2, us_ne _ _ n3, us_ne _ _ n4, us_ne _ _ n5])⟩
set_option maxRecDepth 100000 in
set_option maxHeartbeats 4000000 in
theorem m1_X6_carries (G : GT) (K : Nat → Nat → Int) (r : Nat → Option Nat) (s : Nat → Int) (st : Nat) (kp : Int) (t : Nat → Int) (T : Nat) (hR : RH K s st kp t T) (hg : GI s st kp t T) (p : Int) (hp : -2147483648 ≤ p ∧ p < 2147483648) (q : Int) (hq : -2147483648 ≤ q ∧ q < 2147483648) (hc : ¬ ((0 ≤ p ∧ p ≤ 5) ∧ 0 ≤ q ∧ q ≤ 5)) : OkM G yX6_carries mX6_carries [rf G 28, .int (iI p), .int (iI q)] K r (.int (iI 0)) 1 s st kp t T := by
  obtain ⟨e1, e2, e3, e4, e5⟩ := hR
  subst e1
  subst e4
  exact ⟨_, m_X6_carries G K r p hp q hq hc, ⟨rfl, e2, e3, rfl, e5⟩, rfl, FM_of (fun q n1 n2 n3 n4 n5 => by simp only [kT, kS, Wd, WdZ, Wq, wkE, Wc, dgW, us_ne _ _ n1, us_ne _ _ n2, us_ne _ _ n3, us_ne _ _ n4, us_ne _ _ n5])⟩
set_option maxRecDepth 100000 in
set_option maxHeartbeats 4000000 in
theorem m0_X6_carries (G : GT) (K : Nat → Nat → Int) (r : Nat → Option Nat) (s : Nat → Int) (st : Nat) (kp : Int) (t : Nat → Int) (T : Nat) (hR : RH K s st kp t T) (hg : GI s st kp t T) (p : Int) (hp : -2147483648 ≤ p ∧ p < 2147483648) (q : Int) (hq : -2147483648 ≤ q ∧ q < 2147483648) (hc : (0 ≤ p ∧ p ≤ 5) ∧ 0 ≤ q ∧ q ≤ 5) : OkM G yX6_carries mX6_carries [rf G 28, .int (iI p), .int (iI q)] K r (.int (iI (adC (gm 18 (s p.toNat).toNat) (gm 18 (s q.toNat).toNat) : Nat))) 0 s st kp t T := by
  obtain ⟨e1, e2, e3, e4, e5⟩ := hR
  subst e1
  subst e4
  exact ⟨_, c_X6_carries G K r hg.1 p hp q hq hc, ⟨rfl, e2, e3, rfl, e5⟩, rfl, FM_of (fun q n1 n2 n3 n4 n5 => by simp only [kT, kS, Wd, WdZ, Wq, wkE, Wc, dgW, us_ne _ _ n1, us_ne _ _ n2, us_ne _ _ n3, us_ne _ _ n4, us_ne _ _ n5])⟩
set_option maxRecDepth 100000 in
set_option maxHeartbeats 4000000 in
theorem m0_X6_streamLength (G : GT) (K : Nat → Nat → Int) (r : Nat → Option Nat) (s : Nat → Int) (st : Nat) (kp : Int) (t : Nat → Int) (T : Nat) (hR : RH K s st kp t T) (hg : GI s st kp t T)   : OkM G yX6_streamLength mX6_streamLength [rf G 28] K r (.int (iI (s 6))) 0 s st kp t T := by
  obtain ⟨e1, e2, e3, e4, e5⟩ := hR
  subst e1
  subst e4
  exact ⟨_, c_X6_streamLength G K r , ⟨rfl, e2, e3, rfl, e5⟩, rfl, FM_of (fun q n1 n2 n3 n4 n5 => by simp only [kT, kS, Wd, WdZ, Wq, wkE, Wc, dgW, us_ne _ _ n1, us_ne _ _ n2, us_ne _ _ n3, us_ne _ _ n4, us_ne _ _ n5])⟩
set_option maxRecDepth 100000 in
set_option maxHeartbeats 4000000 in
theorem m1_X6_digitAt (G : GT) (K : Nat → Nat → Int) (r : Nat → Option Nat) (s : Nat → Int) (st : Nat) (kp : Int) (t : Nat → Int) (T : Nat) (hR : RH K s st kp t T) (hg : GI s st kp t T) (p : Int) (hp : -2147483648 ≤ p ∧ p < 2147483648) (hc : ¬ (0 ≤ p ∧ p ≤ s 6 - 1)) : OkM G yX6_digitAt mX6_digitAt [rf G 28, .int (iI p)] K r (.int (iI 0)) 1 s st kp t T := by
  obtain ⟨e1, e2, e3, e4, e5⟩ := hR
  subst e1
  subst e4
  exact ⟨_, n_X6_digitAt G K r hg.1 p hp hc, ⟨rfl, e2, e3, rfl, e5⟩, rfl, FM_of (fun q n1 n2 n3 n4 n5 => by simp only [kT, kS, Wd, WdZ, Wq, wkE, Wc, dgW, us_ne _ _ n1, us_ne _ _ n2, us_ne _ _ n3, us_ne _ _ n4, us_ne _ _ n5])⟩
set_option maxRecDepth 100000 in
set_option maxHeartbeats 4000000 in
theorem m0_X6_digitAt (G : GT) (K : Nat → Nat → Int) (r : Nat → Option Nat) (s : Nat → Int) (st : Nat) (kp : Int) (t : Nat → Int) (T : Nat) (hR : RH K s st kp t T) (hg : GI s st kp t T) (p : Int) (hp : -2147483648 ≤ p ∧ p < 2147483648) (hc : 0 ≤ p ∧ p ≤ s 6 - 1) : OkM G yX6_digitAt mX6_digitAt [rf G 28, .int (iI p)] K r (.int (iI (s (7 + p.toNat)))) 0 s st kp t T := by
  obtain ⟨e1, e2, e3, e4, e5⟩ := hR
  subst e1
  subst e4
  exact ⟨_, c_X6_digitAt G K r hg.1 p hp hc, ⟨rfl, e2, e3, rfl, e5⟩, rfl, FM_of (fun q n1 n2 n3 n4 n5 => by simp only [kT, kS, Wd, WdZ, Wq, wkE, Wc, dgW, us_ne _ _ n1, us_ne _ _ n2, us_ne _ _ n3, us_ne _ _ n4, us_ne _ _ n5])⟩
set_option maxRecDepth 100000 in
set_option maxHeartbeats 4000000 in
theorem m0_X6_readNumbers (G : GT) (K : Nat → Nat → Int) (r : Nat → Option Nat) (s : Nat → Int) (st : Nat) (kp : Int) (t : Nat → Int) (T : Nat) (hR : RH K s st kp t T) (hg : GI s st kp t T)   : OkM G yX6_readNumbers mX6_readNumbers [rf G 28] K r (.int (iI ((rdZ s).2.2.2.length : Nat))) 0 s st kp t T := by
  obtain ⟨e1, e2, e3, e4, e5⟩ := hR
  subst e1
  subst e4
  exact ⟨_, c_X6_readNumbers G K r hg.1, ⟨rfl, e2, e3, rfl, e5⟩, rfl, FM_of (fun q n1 n2 n3 n4 n5 => by simp only [kT, kS, Wd, WdZ, Wq, wkE, Wc, dgW, us_ne _ _ n1, us_ne _ _ n2, us_ne _ _ n3, us_ne _ _ n4, us_ne _ _ n5])⟩
set_option maxRecDepth 100000 in
set_option maxHeartbeats 4000000 in
theorem m0_X6_errors (G : GT) (K : Nat → Nat → Int) (r : Nat → Option Nat) (s : Nat → Int) (st : Nat) (kp : Int) (t : Nat → Int) (T : Nat) (hR : RH K s st kp t T) (hg : GI s st kp t T)   : OkM G yX6_errors mX6_errors [rf G 28] K r (.int (iI ((rdZ s).2.2.1 : Nat))) 0 s st kp t T := by
  obtain ⟨e1, e2, e3, e4, e5⟩ := hR
  subst e1
  subst e4
  exact ⟨_, c_X6_errors G K r hg.1, ⟨rfl, e2, e3, rfl, e5⟩, rfl, FM_of (fun q n1 n2 n3 n4 n5 => by simp only [kT, kS, Wd, WdZ, Wq, wkE, Wc, dgW, us_ne _ _ n1, us_ne _ _ n2, us_ne _ _ n3, us_ne _ _ n4, us_ne _ _ n5])⟩
set_option maxRecDepth 100000 in
set_option maxHeartbeats 4000000 in
theorem m0_X6_looseDigits (G : GT) (K : Nat → Nat → Int) (r : Nat → Option Nat) (s : Nat → Int) (st : Nat) (kp : Int) (t : Nat → Int) (T : Nat) (hR : RH K s st kp t T) (hg : GI s st kp t T)   : OkM G yX6_looseDigits mX6_looseDigits [rf G 28] K r (.int (iI ((rdZ s).2.1 : Nat))) 0 s st kp t T := by
  obtain ⟨e1, e2, e3, e4, e5⟩ := hR
  subst e1
  subst e4
  exact ⟨_, c_X6_looseDigits G K r hg.1, ⟨rfl, e2, e3, rfl, e5⟩, rfl, FM_of (fun q n1 n2 n3 n4 n5 => by simp only [kT, kS, Wd, WdZ, Wq, wkE, Wc, dgW, us_ne _ _ n1, us_ne _ _ n2, us_ne _ _ n3, us_ne _ _ n4, us_ne _ _ n5])⟩
set_option maxRecDepth 100000 in
set_option maxHeartbeats 4000000 in
theorem m1_X6_readAt (G : GT) (K : Nat → Nat → Int) (r : Nat → Option Nat) (s : Nat → Int) (st : Nat) (kp : Int) (t : Nat → Int) (T : Nat) (hR : RH K s st kp t T) (hg : GI s st kp t T) (p : Int) (hp : -2147483648 ≤ p ∧ p < 2147483648) (hc : ¬ (0 ≤ p ∧ p < ((rdZ s).2.2.2.length : Nat))) : OkM G yX6_readAt mX6_readAt [rf G 28, .int (iI p)] K r (.int (iI 0)) 1 s st kp t T := by
  obtain ⟨e1, e2, e3, e4, e5⟩ := hR
  subst e1
  subst e4
  exact ⟨_, n_X6_readAt G K r hg.1 p hp hc, ⟨rfl, e2, e3, rfl, e5⟩, rfl, FM_of (fun q n1 n2 n3 n4 n5 => by simp only [kT, kS, Wd, WdZ, Wq, wkE, Wc, dgW, us_ne _ _ n1, us_ne _ _ n2, us_ne _ _ n3, us_ne _ _ n4, us_ne _ _ n5])⟩
set_option maxRecDepth 100000 in
set_option maxHeartbeats 4000000 in
theorem m0_X6_readAt (G : GT) (K : Nat → Nat → Int) (r : Nat → Option Nat) (s : Nat → Int) (st : Nat) (kp : Int) (t : Nat → Int) (T : Nat) (hR : RH K s st kp t T) (hg : GI s st kp t T) (p : Int) (hp : -2147483648 ≤ p ∧ p < 2147483648) (hc : 0 ≤ p ∧ p < ((rdZ s).2.2.2.length : Nat)) : OkM G yX6_readAt mX6_readAt [rf G 28, .int (iI p)] K r (.int (iI (((rdZ s).2.2.2.getD p.toNat 0 : Nat) : Int))) 0 s st kp t T := by
  obtain ⟨e1, e2, e3, e4, e5⟩ := hR
  subst e1
  subst e4
  exact ⟨_, c_X6_readAt G K r hg.1 p hp hc, ⟨rfl, e2, e3, rfl, e5⟩, rfl, FM_of (fun q n1 n2 n3 n4 n5 => by simp only [kT, kS, Wd, WdZ, Wq, wkE, Wc, dgW, us_ne _ _ n1, us_ne _ _ n2, us_ne _ _ n3, us_ne _ _ n4, us_ne _ _ n5])⟩
set_option maxRecDepth 100000 in
set_option maxHeartbeats 4000000 in
theorem m1_X6_readIfTurned (G : GT) (K : Nat → Nat → Int) (r : Nat → Option Nat) (s : Nat → Int) (st : Nat) (kp : Int) (t : Nat → Int) (T : Nat) (hR : RH K s st kp t T) (hg : GI s st kp t T) (p : Int) (hp : -2147483648 ≤ p ∧ p < 2147483648) (hc : ¬ (0 ≤ p ∧ p ≤ s 6 - 1)) : OkM G yX6_readIfTurned mX6_readIfTurned [rf G 28, .int (iI p)] K r (.int (iI 0)) 1 s st kp t T := by
  obtain ⟨e1, e2, e3, e4, e5⟩ := hR
  subst e1
  subst e4
  exact ⟨_, n_X6_readIfTurned G K r hg.1 p hp hc, ⟨rfl, e2, e3, rfl, e5⟩, rfl, FM_of (fun q n1 n2 n3 n4 n5 => by simp only [kT, kS, Wd, WdZ, Wq, wkE, Wc, dgW, us_ne _ _ n1, us_ne _ _ n2, us_ne _ _ n3, us_ne _ _ n4, us_ne _ _ n5])⟩
set_option maxRecDepth 100000 in
set_option maxHeartbeats 4000000 in
theorem m0_X6_readIfTurned (G : GT) (K : Nat → Nat → Int) (r : Nat → Option Nat) (s : Nat → Int) (st : Nat) (kp : Int) (t : Nat → Int) (T : Nat) (hR : RH K s st kp t T) (hg : GI s st kp t T) (p : Int) (hp : -2147483648 ≤ p ∧ p < 2147483648) (hc : 0 ≤ p ∧ p ≤ s 6 - 1) : OkM G yX6_readIfTurned mX6_readIfTurned [rf G 28, .int (iI p)] K r (.int (iI ((rdZ (tD s p.toNat)).2.2.2.length : Nat))) 0 s st kp t T := by
  obtain ⟨e1, e2, e3, e4, e5⟩ := hR
  subst e1
  subst e4
  exact ⟨_, c_X6_readIfTurned G K r hg.1 p hp hc, ⟨rfl, e2, e3, rfl, e5⟩, rfl, FM_of (fun q n1 n2 n3 n4 n5 => by simp only [kT, kS, Wd, WdZ, Wq, wkE, Wc, dgW, us_ne _ _ n1, us_ne _ _ n2, us_ne _ _ n3, us_ne _ _ n4, us_ne _ _ n5])⟩
set_option maxRecDepth 100000 in
set_option maxHeartbeats 4000000 in
theorem m0_X6_hasStopped (G : GT) (K : Nat → Nat → Int) (r : Nat → Option Nat) (s : Nat → Int) (st : Nat) (kp : Int) (t : Nat → Int) (T : Nat) (hR : RH K s st kp t T) (hg : GI s st kp t T)   : OkM G yX6_hasStopped mX6_hasStopped [rf G 28] K r (.int (iI (b2 (decide (s 71 = 1))))) 0 s st kp t T := by
  obtain ⟨e1, e2, e3, e4, e5⟩ := hR
  subst e1
  subst e4
  exact ⟨_, c_X6_hasStopped G K r hg.1, ⟨rfl, e2, e3, rfl, e5⟩, rfl, FM_of (fun q n1 n2 n3 n4 n5 => by simp only [kT, kS, Wd, WdZ, Wq, wkE, Wc, dgW, us_ne _ _ n1, us_ne _ _ n2, us_ne _ _ n3, us_ne _ _ n4, us_ne _ _ n5])⟩
set_option maxRecDepth 100000 in
set_option maxHeartbeats 4000000 in
theorem m1_X6_stoppedPart (G : GT) (K : Nat → Nat → Int) (r : Nat → Option Nat) (s : Nat → Int) (st : Nat) (kp : Int) (t : Nat → Int) (T : Nat) (hR : RH K s st kp t T) (hg : GI s st kp t T)  (hc : s 71 ≠ 1) : OkM G yX6_stoppedPart mX6_stoppedPart [rf G 28] K r (.int (iI 0)) 1 s st kp t T := by
  obtain ⟨e1, e2, e3, e4, e5⟩ := hR
  subst e1
  subst e4
  exact ⟨_, n_X6_stoppedPart G K r hg.1 hc, ⟨rfl, e2, e3, rfl, e5⟩, rfl, FM_of (fun q n1 n2 n3 n4 n5 => by simp only [kT, kS, Wd, WdZ, Wq, wkE, Wc, dgW, us_ne _ _ n1, us_ne _ _ n2, us_ne _ _ n3, us_ne _ _ n4, us_ne _ _ n5])⟩
set_option maxRecDepth 100000 in
set_option maxHeartbeats 4000000 in
theorem m0_X6_stoppedPart (G : GT) (K : Nat → Nat → Int) (r : Nat → Option Nat) (s : Nat → Int) (st : Nat) (kp : Int) (t : Nat → Int) (T : Nat) (hR : RH K s st kp t T) (hg : GI s st kp t T)  (hc : s 71 = 1) : OkM G yX6_stoppedPart mX6_stoppedPart [rf G 28] K r (.int (iI (s 72))) 0 s st kp t T := by
  obtain ⟨e1, e2, e3, e4, e5⟩ := hR
  subst e1
  subst e4
  exact ⟨_, c_X6_stoppedPart G K r hg.1 hc, ⟨rfl, e2, e3, rfl, e5⟩, rfl, FM_of (fun q n1 n2 n3 n4 n5 => by simp only [kT, kS, Wd, WdZ, Wq, wkE, Wc, dgW, us_ne _ _ n1, us_ne _ _ n2, us_ne _ _ n3, us_ne _ _ n4, us_ne _ _ n5])⟩
set_option maxRecDepth 100000 in
set_option maxHeartbeats 4000000 in
theorem m1_X6_whyStopped (G : GT) (K : Nat → Nat → Int) (r : Nat → Option Nat) (s : Nat → Int) (st : Nat) (kp : Int) (t : Nat → Int) (T : Nat) (hR : RH K s st kp t T) (hg : GI s st kp t T)  (hc : s 71 ≠ 1) : OkM G yX6_whyStopped mX6_whyStopped [rf G 28] K r (.int (iI 0)) 1 s st kp t T := by
  obtain ⟨e1, e2, e3, e4, e5⟩ := hR
  subst e1
  subst e4
  exact ⟨_, n_X6_whyStopped G K r hg.1 hc, ⟨rfl, e2, e3, rfl, e5⟩, rfl, FM_of (fun q n1 n2 n3 n4 n5 => by simp only [kT, kS, Wd, WdZ, Wq, wkE, Wc, dgW, us_ne _ _ n1, us_ne _ _ n2, us_ne _ _ n3, us_ne _ _ n4, us_ne _ _ n5])⟩
set_option maxRecDepth 100000 in
set_option maxHeartbeats 4000000 in
theorem m0_X6_whyStopped (G : GT) (K : Nat → Nat → Int) (r : Nat → Option Nat) (s : Nat → Int) (st : Nat) (kp : Int) (t : Nat → Int) (T : Nat) (hR : RH K s st kp t T) (hg : GI s st kp t T)  (hc : s 71 = 1) : OkM G yX6_whyStopped mX6_whyStopped [rf G 28] K r (.int (iI (s 73))) 0 s st kp t T := by
  obtain ⟨e1, e2, e3, e4, e5⟩ := hR
  subst e1
  subst e4
  exact ⟨_, c_X6_whyStopped G K r hg.1 hc, ⟨rfl, e2, e3, rfl, e5⟩, rfl, FM_of (fun q n1 n2 n3 n4 n5 => by simp only [kT, kS, Wd, WdZ, Wq, wkE, Wc, dgW, us_ne _ _ n1, us_ne _ _ n2, us_ne _ _ n3, us_ne _ _ n4, us_ne _ _ n5])⟩
set_option maxRecDepth 100000 in
set_option maxHeartbeats 4000000 in
theorem m0_X6_savedStates (G : GT) (K : Nat → Nat → Int) (r : Nat → Option Nat) (s : Nat → Int) (st : Nat) (kp : Int) (t : Nat → Int) (T : Nat) (hR : RH K s st kp t T) (hg : GI s st kp t T)   : OkM G yX6_savedStates mX6_savedStates [rf G 28] K r (.int (iI (st : Int))) 0 s st kp t T := by
  obtain ⟨e1, e2, e3, e4, e5⟩ := hR
  subst e1
  subst e4
  have hh := c_X6_savedStates G K r 
  rw [e2] at hh
  exact ⟨_, hh, ⟨rfl, e2, e3, rfl, e5⟩, rfl, FM_of (fun q n1 n2 n3 n4 n5 => by simp only [kT, kS, Wd, WdZ, Wq, wkE, Wc, dgW, us_ne _ _ n1, us_ne _ _ n2, us_ne _ _ n3, us_ne _ _ n4, us_ne _ _ n5])⟩
set_option maxRecDepth 100000 in
set_option maxHeartbeats 4000000 in
theorem m1_X6_set (G : GT) (K : Nat → Nat → Int) (r : Nat → Option Nat) (s : Nat → Int) (st : Nat) (kp : Int) (t : Nat → Int) (T : Nat) (hR : RH K s st kp t T) (hg : GI s st kp t T) (p : Int) (hp : -2147483648 ≤ p ∧ p < 2147483648) (q : Int) (hq : -2147483648 ≤ q ∧ q < 2147483648) (hc : ¬ (0 ≤ p ∧ p ≤ 5)) : OkM G yX6_set mX6_set [rf G 28, .int (iI p), .int (iI q)] K r (.int (iI 0)) 1 s st kp t T := by
  obtain ⟨e1, e2, e3, e4, e5⟩ := hR
  subst e1
  subst e4
  exact ⟨_, m_X6_set G K r p hp q hq hc, ⟨rfl, e2, e3, rfl, e5⟩, rfl, FM_of (fun q n1 n2 n3 n4 n5 => by simp only [kT, kS, Wd, WdZ, Wq, wkE, Wc, dgW, us_ne _ _ n1, us_ne _ _ n2, us_ne _ _ n3, us_ne _ _ n4, us_ne _ _ n5])⟩
set_option maxRecDepth 100000 in
set_option maxHeartbeats 4000000 in
theorem m2_X6_set (G : GT) (K : Nat → Nat → Int) (r : Nat → Option Nat) (s : Nat → Int) (st : Nat) (kp : Int) (t : Nat → Int) (T : Nat) (hR : RH K s st kp t T) (hg : GI s st kp t T) (p : Int) (hp : -2147483648 ≤ p ∧ p < 2147483648) (q : Int) (hq : -2147483648 ≤ q ∧ q < 2147483648) (hc : 0 ≤ p ∧ p ≤ 5) (hd : ¬ (0 ≤ q ∧ q ≤ 6764)) : OkM G yX6_set mX6_set [rf G 28, .int (iI p), .int (iI q)] K r (.int (iI 0)) 2 s st kp t T := by
  obtain ⟨e1, e2, e3, e4, e5⟩ := hR
  subst e1
  subst e4
  exact ⟨_, n_X6_set G K r p hp q hq hc hd, ⟨rfl, e2, e3, rfl, e5⟩, rfl, FM_of (fun q n1 n2 n3 n4 n5 => by simp only [kT, kS, Wd, WdZ, Wq, wkE, Wc, dgW, us_ne _ _ n1, us_ne _ _ n2, us_ne _ _ n3, us_ne _ _ n4, us_ne _ _ n5])⟩
set_option maxRecDepth 100000 in
set_option maxHeartbeats 4000000 in
theorem m0_X6_set (G : GT) (K : Nat → Nat → Int) (r : Nat → Option Nat) (s : Nat → Int) (st : Nat) (kp : Int) (t : Nat → Int) (T : Nat) (hR : RH K s st kp t T) (hg : GI s st kp t T) (p : Int) (hp : -2147483648 ≤ p ∧ p < 2147483648) (q : Int) (hq : -2147483648 ≤ q ∧ q < 2147483648) (hc : 0 ≤ p ∧ p ≤ 5) (hd : 0 ≤ q ∧ q ≤ 6764) : OkM G yX6_set mX6_set [rf G 28, .int (iI p), .int (iI q)] K r (.int (iI (s p.toNat))) 0 (us (svS s st) p.toNat q) (st1 st) kp t T := by
  obtain ⟨e1, e2, e3, e4, e5⟩ := hR
  subst e1
  subst e4
  exact ⟨_, c_X6_set G K r st hg.2.1 e2 p hp q hq hc hd, ⟨rfl, rfl, e3, rfl, e5⟩, rfl, FM_of (fun q n1 n2 n3 n4 n5 => by simp only [kT, kS, Wd, WdZ, Wq, wkE, Wc, dgW, us_ne _ _ n1, us_ne _ _ n2, us_ne _ _ n3, us_ne _ _ n4, us_ne _ _ n5])⟩
set_option maxRecDepth 100000 in
set_option maxHeartbeats 4000000 in
theorem m1_X6_add (G : GT) (K : Nat → Nat → Int) (r : Nat → Option Nat) (s : Nat → Int) (st : Nat) (kp : Int) (t : Nat → Int) (T : Nat) (hR : RH K s st kp t T) (hg : GI s st kp t T) (p : Int) (hp : -2147483648 ≤ p ∧ p < 2147483648) (q : Int) (hq : -2147483648 ≤ q ∧ q < 2147483648) (hc : ¬ ((0 ≤ p ∧ p ≤ 5) ∧ 0 ≤ q ∧ q ≤ 5)) : OkM G yX6_add mX6_add [rf G 28, .int (iI p), .int (iI q)] K r (.int (iI 0)) 1 s st kp t T := by
  obtain ⟨e1, e2, e3, e4, e5⟩ := hR
  subst e1
  subst e4
  exact ⟨_, m_X6_add G K r p hp q hq hc, ⟨rfl, e2, e3, rfl, e5⟩, rfl, FM_of (fun q n1 n2 n3 n4 n5 => by simp only [kT, kS, Wd, WdZ, Wq, wkE, Wc, dgW, us_ne _ _ n1, us_ne _ _ n2, us_ne _ _ n3, us_ne _ _ n4, us_ne _ _ n5])⟩
set_option maxRecDepth 100000 in
set_option maxHeartbeats 4000000 in
theorem m2_X6_add (G : GT) (K : Nat → Nat → Int) (r : Nat → Option Nat) (s : Nat → Int) (st : Nat) (kp : Int) (t : Nat → Int) (T : Nat) (hR : RH K s st kp t T) (hg : GI s st kp t T) (p : Int) (hp : -2147483648 ≤ p ∧ p < 2147483648) (q : Int) (hq : -2147483648 ≤ q ∧ q < 2147483648) (hc : (0 ≤ p ∧ p ≤ 5) ∧ 0 ≤ q ∧ q ≤ 5) (hd : ¬ (s p.toNat + s q.toNat ≤ 6764)) : OkM G yX6_add mX6_add [rf G 28, .int (iI p), .int (iI q)] K r (.int (iI 0)) 2 s st kp t T := by
  obtain ⟨e1, e2, e3, e4, e5⟩ := hR
  subst e1
  subst e4
  exact ⟨_, n_X6_add G K r hg.1 p hp q hq hc hd, ⟨rfl, e2, e3, rfl, e5⟩, rfl, FM_of (fun q n1 n2 n3 n4 n5 => by simp only [kT, kS, Wd, WdZ, Wq, wkE, Wc, dgW, us_ne _ _ n1, us_ne _ _ n2, us_ne _ _ n3, us_ne _ _ n4, us_ne _ _ n5])⟩
set_option maxRecDepth 100000 in
set_option maxHeartbeats 4000000 in
theorem m0_X6_add (G : GT) (K : Nat → Nat → Int) (r : Nat → Option Nat) (s : Nat → Int) (st : Nat) (kp : Int) (t : Nat → Int) (T : Nat) (hR : RH K s st kp t T) (hg : GI s st kp t T) (p : Int) (hp : -2147483648 ≤ p ∧ p < 2147483648) (q : Int) (hq : -2147483648 ≤ q ∧ q < 2147483648) (hc : (0 ≤ p ∧ p ≤ 5) ∧ 0 ≤ q ∧ q ≤ 5) (hd : s p.toNat + s q.toNat ≤ 6764) : OkM G yX6_add mX6_add [rf G 28, .int (iI p), .int (iI q)] K r (.int (iI (adC (gm 18 (s p.toNat).toNat) (gm 18 (s q.toNat).toNat) : Nat))) 0 (us (svS s st) p.toNat (s p.toNat + s q.toNat)) (st1 st) kp t T := by
  obtain ⟨e1, e2, e3, e4, e5⟩ := hR
  subst e1
  subst e4
  exact ⟨_, c_X6_add G K r st hg.2.1 e2 hg.1 p hp q hq hc hd, ⟨rfl, rfl, e3, rfl, e5⟩, rfl, FM_of (fun q n1 n2 n3 n4 n5 => by simp only [kT, kS, Wd, WdZ, Wq, wkE, Wc, dgW, us_ne _ _ n1, us_ne _ _ n2, us_ne _ _ n3, us_ne _ _ n4, us_ne _ _ n5])⟩
set_option maxRecDepth 100000 in
set_option maxHeartbeats 4000000 in
theorem m1_X6_takeAway (G : GT) (K : Nat → Nat → Int) (r : Nat → Option Nat) (s : Nat → Int) (st : Nat) (kp : Int) (t : Nat → Int) (T : Nat) (hR : RH K s st kp t T) (hg : GI s st kp t T) (p : Int) (hp : -2147483648 ≤ p ∧ p < 2147483648) (q : Int) (hq : -2147483648 ≤ q ∧ q < 2147483648) (hc : ¬ ((0 ≤ p ∧ p ≤ 5) ∧ 0 ≤ q ∧ q ≤ 5)) : OkM G yX6_takeAway mX6_takeAway [rf G 28, .int (iI p), .int (iI q)] K r (.int (iI 0)) 1 s st kp t T := by
  obtain ⟨e1, e2, e3, e4, e5⟩ := hR
  subst e1
  subst e4
  exact ⟨_, m_X6_takeAway G K r p hp q hq hc, ⟨rfl, e2, e3, rfl, e5⟩, rfl, FM_of (fun q n1 n2 n3 n4 n5 => by simp only [kT, kS, Wd, WdZ, Wq, wkE, Wc, dgW, us_ne _ _ n1, us_ne _ _ n2, us_ne _ _ n3, us_ne _ _ n4, us_ne _ _ n5])⟩
set_option maxRecDepth 100000 in
set_option maxHeartbeats 4000000 in
theorem m2_X6_takeAway (G : GT) (K : Nat → Nat → Int) (r : Nat → Option Nat) (s : Nat → Int) (st : Nat) (kp : Int) (t : Nat → Int) (T : Nat) (hR : RH K s st kp t T) (hg : GI s st kp t T) (p : Int) (hp : -2147483648 ≤ p ∧ p < 2147483648) (q : Int) (hq : -2147483648 ≤ q ∧ q < 2147483648) (hc : (0 ≤ p ∧ p ≤ 5) ∧ 0 ≤ q ∧ q ≤ 5) (hd : ¬ (s q.toNat ≤ s p.toNat)) : OkM G yX6_takeAway mX6_takeAway [rf G 28, .int (iI p), .int (iI q)] K r (.int (iI 0)) 2 s st kp t T := by
  obtain ⟨e1, e2, e3, e4, e5⟩ := hR
  subst e1
  subst e4
  exact ⟨_, n_X6_takeAway G K r hg.1 p hp q hq hc hd, ⟨rfl, e2, e3, rfl, e5⟩, rfl, FM_of (fun q n1 n2 n3 n4 n5 => by simp only [kT, kS, Wd, WdZ, Wq, wkE, Wc, dgW, us_ne _ _ n1, us_ne _ _ n2, us_ne _ _ n3, us_ne _ _ n4, us_ne _ _ n5])⟩
set_option maxRecDepth 100000 in
set_option maxHeartbeats 4000000 in
theorem m0_X6_takeAway (G : GT) (K : Nat → Nat → Int) (r : Nat → Option Nat) (s : Nat → Int) (st : Nat) (kp : Int) (t : Nat → Int) (T : Nat) (hR : RH K s st kp t T) (hg : GI s st kp t T) (p : Int) (hp : -2147483648 ≤ p ∧ p < 2147483648) (q : Int) (hq : -2147483648 ≤ q ∧ q < 2147483648) (hc : (0 ≤ p ∧ p ≤ 5) ∧ 0 ≤ q ∧ q ≤ 5) (hd : s q.toNat ≤ s p.toNat) : OkM G yX6_takeAway mX6_takeAway [rf G 28, .int (iI p), .int (iI q)] K r (.int (iI (s p.toNat - s q.toNat))) 0 (us (svS s st) p.toNat (s p.toNat - s q.toNat)) (st1 st) kp t T := by
  obtain ⟨e1, e2, e3, e4, e5⟩ := hR
  subst e1
  subst e4
  exact ⟨_, c_X6_takeAway G K r st hg.2.1 e2 hg.1 p hp q hq hc hd, ⟨rfl, rfl, e3, rfl, e5⟩, rfl, FM_of (fun q n1 n2 n3 n4 n5 => by simp only [kT, kS, Wd, WdZ, Wq, wkE, Wc, dgW, us_ne _ _ n1, us_ne _ _ n2, us_ne _ _ n3, us_ne _ _ n4, us_ne _ _ n5])⟩
set_option maxRecDepth 100000 in
set_option maxHeartbeats 4000000 in
theorem m1_X6_raise (G : GT) (K : Nat → Nat → Int) (r : Nat → Option Nat) (s : Nat → Int) (st : Nat) (kp : Int) (t : Nat → Int) (T : Nat) (hR : RH K s st kp t T) (hg : GI s st kp t T) (p : Int) (hp : -2147483648 ≤ p ∧ p < 2147483648) (hc : ¬ (0 ≤ p ∧ p ≤ 5)) : OkM G yX6_raise mX6_raise [rf G 28, .int (iI p)] K r (.int (iI 0)) 1 s st kp t T := by
  obtain ⟨e1, e2, e3, e4, e5⟩ := hR
  subst e1
  subst e4
  exact ⟨_, m_X6_raise G K r p hp hc, ⟨rfl, e2, e3, rfl, e5⟩, rfl, FM_of (fun q n1 n2 n3 n4 n5 => by simp only [kT, kS, Wd, WdZ, Wq, wkE, Wc, dgW, us_ne _ _ n1, us_ne _ _ n2, us_ne _ _ n3, us_ne _ _ n4, us_ne _ _ n5])⟩
set_option maxRecDepth 100000 in
set_option maxHeartbeats 4000000 in
theorem m2_X6_raise (G : GT) (K : Nat → Nat → Int) (r : Nat → Option Nat) (s : Nat → Int) (st : Nat) (kp : Int) (t : Nat → Int) (T : Nat) (hR : RH K s st kp t T) (hg : GI s st kp t T) (p : Int) (hp : -2147483648 ≤ p ∧ p < 2147483648) (hc : 0 ≤ p ∧ p ≤ 5) (hd : ¬ (gm 18 (s p.toNat).toNat < 131072)) : OkM G yX6_raise mX6_raise [rf G 28, .int (iI p)] K r (.int (iI 0)) 2 s st kp t T := by
  obtain ⟨e1, e2, e3, e4, e5⟩ := hR
  subst e1
  subst e4
  exact ⟨_, n_X6_raise G K r hg.1 p hp hc hd, ⟨rfl, e2, e3, rfl, e5⟩, rfl, FM_of (fun q n1 n2 n3 n4 n5 => by simp only [kT, kS, Wd, WdZ, Wq, wkE, Wc, dgW, us_ne _ _ n1, us_ne _ _ n2, us_ne _ _ n3, us_ne _ _ n4, us_ne _ _ n5])⟩
set_option maxRecDepth 100000 in
set_option maxHeartbeats 4000000 in
theorem m0_X6_raise (G : GT) (K : Nat → Nat → Int) (r : Nat → Option Nat) (s : Nat → Int) (st : Nat) (kp : Int) (t : Nat → Int) (T : Nat) (hR : RH K s st kp t T) (hg : GI s st kp t T) (p : Int) (hp : -2147483648 ≤ p ∧ p < 2147483648) (hc : 0 ≤ p ∧ p ≤ 5) (hd : gm 18 (s p.toNat).toNat < 131072) : OkM G yX6_raise mX6_raise [rf G 28, .int (iI p)] K r (.int (iI ((wo 22 (gm 18 (s p.toNat).toNat <<< 1) : Nat) : Int))) 0 (us (svS s st) p.toNat ((wo 22 (gm 18 (s p.toNat).toNat <<< 1) : Nat) : Int)) (st1 st) kp t T := by
  obtain ⟨e1, e2, e3, e4, e5⟩ := hR
  subst e1
  subst e4
  exact ⟨_, c_X6_raise G K r st hg.2.1 e2 hg.1 p hp hc hd, ⟨rfl, rfl, e3, rfl, e5⟩, rfl, FM_of (fun q n1 n2 n3 n4 n5 => by simp only [kT, kS, Wd, WdZ, Wq, wkE, Wc, dgW, us_ne _ _ n1, us_ne _ _ n2, us_ne _ _ n3, us_ne _ _ n4, us_ne _ _ n5])⟩
set_option maxRecDepth 100000 in
set_option maxHeartbeats 4000000 in
theorem m1_X6_pay (G : GT) (K : Nat → Nat → Int) (r : Nat → Option Nat) (s : Nat → Int) (st : Nat) (kp : Int) (t : Nat → Int) (T : Nat) (hR : RH K s st kp t T) (hg : GI s st kp t T) (p : Int) (hp : -2147483648 ≤ p ∧ p < 2147483648) (q : Int) (hq : -2147483648 ≤ q ∧ q < 2147483648) (u : Int) (hu : -2147483648 ≤ u ∧ u < 2147483648) (hc : ¬ ((0 ≤ p ∧ p ≤ 5) ∧ 0 ≤ q ∧ q ≤ 5)) : OkM G yX6_pay mX6_pay [rf G 28, .int (iI p), .int (iI q), .int (iI u)] K r (.int (iI 0)) 1 s st kp t T := by
  obtain ⟨e1, e2, e3, e4, e5⟩ := hR
  subst e1
  subst e4
  exact ⟨_, m_X6_pay G K r p hp q hq u hu hc, ⟨rfl, e2, e3, rfl, e5⟩, rfl, FM_of (fun q n1 n2 n3 n4 n5 => by simp only [kT, kS, Wd, WdZ, Wq, wkE, Wc, dgW, us_ne _ _ n1, us_ne _ _ n2, us_ne _ _ n3, us_ne _ _ n4, us_ne _ _ n5])⟩
set_option maxRecDepth 100000 in
set_option maxHeartbeats 4000000 in
theorem m2_X6_pay (G : GT) (K : Nat → Nat → Int) (r : Nat → Option Nat) (s : Nat → Int) (st : Nat) (kp : Int) (t : Nat → Int) (T : Nat) (hR : RH K s st kp t T) (hg : GI s st kp t T) (p : Int) (hp : -2147483648 ≤ p ∧ p < 2147483648) (q : Int) (hq : -2147483648 ≤ q ∧ q < 2147483648) (u : Int) (hu : -2147483648 ≤ u ∧ u < 2147483648) (hc : (0 ≤ p ∧ p ≤ 5) ∧ 0 ≤ q ∧ q ≤ 5) (hd : ¬ (p ≠ q ∧ 1 ≤ u ∧ u ≤ 6764)) : OkM G yX6_pay mX6_pay [rf G 28, .int (iI p), .int (iI q), .int (iI u)] K r (.int (iI 0)) 2 s st kp t T := by
  obtain ⟨e1, e2, e3, e4, e5⟩ := hR
  subst e1
  subst e4
  exact ⟨_, n_X6_pay G K r p hp q hq u hu hc hd, ⟨rfl, e2, e3, rfl, e5⟩, rfl, FM_of (fun q n1 n2 n3 n4 n5 => by simp only [kT, kS, Wd, WdZ, Wq, wkE, Wc, dgW, us_ne _ _ n1, us_ne _ _ n2, us_ne _ _ n3, us_ne _ _ n4, us_ne _ _ n5])⟩
set_option maxRecDepth 100000 in
set_option maxHeartbeats 4000000 in
theorem m3_X6_pay (G : GT) (K : Nat → Nat → Int) (r : Nat → Option Nat) (s : Nat → Int) (st : Nat) (kp : Int) (t : Nat → Int) (T : Nat) (hR : RH K s st kp t T) (hg : GI s st kp t T) (p : Int) (hp : -2147483648 ≤ p ∧ p < 2147483648) (q : Int) (hq : -2147483648 ≤ q ∧ q < 2147483648) (u : Int) (hu : -2147483648 ≤ u ∧ u < 2147483648) (hc : (0 ≤ p ∧ p ≤ 5) ∧ 0 ≤ q ∧ q ≤ 5) (hd : p ≠ q ∧ 1 ≤ u ∧ u ≤ 6764) (he : ¬ (u ≤ s p.toNat ∧ s q.toNat + u ≤ 6764)) : OkM G yX6_pay mX6_pay [rf G 28, .int (iI p), .int (iI q), .int (iI u)] K r (.int (iI 0)) 3 s st kp t T := by
  obtain ⟨e1, e2, e3, e4, e5⟩ := hR
  subst e1
  subst e4
  exact ⟨_, l_X6_pay G K r hg.1 p hp q hq u hu hc hd he, ⟨rfl, e2, e3, rfl, e5⟩, rfl, FM_of (fun q n1 n2 n3 n4 n5 => by simp only [kT, kS, Wd, WdZ, Wq, wkE, Wc, dgW, us_ne _ _ n1, us_ne _ _ n2, us_ne _ _ n3, us_ne _ _ n4, us_ne _ _ n5])⟩
set_option maxRecDepth 100000 in
set_option maxHeartbeats 4000000 in
theorem m0_X6_pay (G : GT) (K : Nat → Nat → Int) (r : Nat → Option Nat) (s : Nat → Int) (st : Nat) (kp : Int) (t : Nat → Int) (T : Nat) (hR : RH K s st kp t T) (hg : GI s st kp t T) (p : Int) (hp : -2147483648 ≤ p ∧ p < 2147483648) (q : Int) (hq : -2147483648 ≤ q ∧ q < 2147483648) (u : Int) (hu : -2147483648 ≤ u ∧ u < 2147483648) (hc : (0 ≤ p ∧ p ≤ 5) ∧ 0 ≤ q ∧ q ≤ 5) (hd : p ≠ q ∧ 1 ≤ u ∧ u ≤ 6764) (he : u ≤ s p.toNat ∧ s q.toNat + u ≤ 6764) : OkM G yX6_pay mX6_pay [rf G 28, .int (iI p), .int (iI q), .int (iI u)] K r (.int (iI (s p.toNat - u))) 0 (us (us (svS s st) p.toNat (s p.toNat - u)) q.toNat (s q.toNat + u)) (st1 st) kp t T := by
  obtain ⟨e1, e2, e3, e4, e5⟩ := hR
  subst e1
  subst e4
  exact ⟨_, c_X6_pay G K r st hg.2.1 e2 hg.1 p hp q hq u hu hc hd he, ⟨rfl, rfl, e3, rfl, e5⟩, rfl, FM_of (fun q n1 n2 n3 n4 n5 => by simp only [kT, kS, Wd, WdZ, Wq, wkE, Wc, dgW, us_ne _ _ n1, us_ne _ _ n2, us_ne _ _ n3, us_ne _ _ n4, us_ne _ _ n5])⟩
set_option maxRecDepth 100000 in
set_option maxHeartbeats 4000000 in
theorem m1_X6_send (G : GT) (K : Nat → Nat → Int) (r : Nat → Option Nat) (s : Nat → Int) (st : Nat) (kp : Int) (t : Nat → Int) (T : Nat) (hR : RH K s st kp t T) (hg : GI s st kp t T) (p : Int) (hp : -2147483648 ≤ p ∧ p < 2147483648) (hc : ¬ (1 ≤ p ∧ p ≤ 6764)) : OkM G yX6_send mX6_send [rf G 28, .int (iI p)] K r (.int (iI 0)) 1 s st kp t T := by
  obtain ⟨e1, e2, e3, e4, e5⟩ := hR
  subst e1
  subst e4
  exact ⟨_, m_X6_send G K r p hp hc, ⟨rfl, e2, e3, rfl, e5⟩, rfl, FM_of (fun q n1 n2 n3 n4 n5 => by simp only [kT, kS, Wd, WdZ, Wq, wkE, Wc, dgW, us_ne _ _ n1, us_ne _ _ n2, us_ne _ _ n3, us_ne _ _ n4, us_ne _ _ n5])⟩
set_option maxRecDepth 100000 in
set_option maxHeartbeats 4000000 in
theorem m2_X6_send (G : GT) (K : Nat → Nat → Int) (r : Nat → Option Nat) (s : Nat → Int) (st : Nat) (kp : Int) (t : Nat → Int) (T : Nat) (hR : RH K s st kp t T) (hg : GI s st kp t T) (p : Int) (hp : -2147483648 ≤ p ∧ p < 2147483648) (hc : 1 ≤ p ∧ p ≤ 6764) (hd : ¬ (s 6 + (cl p : Nat) ≤ 64)) : OkM G yX6_send mX6_send [rf G 28, .int (iI p)] K r (.int (iI 0)) 2 s st kp t T := by
  obtain ⟨e1, e2, e3, e4, e5⟩ := hR
  subst e1
  subst e4
  exact ⟨_, n_X6_send G K r hg.1 p hp hc hd, ⟨rfl, e2, e3, rfl, e5⟩, rfl, FM_of (fun q n1 n2 n3 n4 n5 => by simp only [kT, kS, Wd, WdZ, Wq, wkE, Wc, dgW, us_ne _ _ n1, us_ne _ _ n2, us_ne _ _ n3, us_ne _ _ n4, us_ne _ _ n5])⟩
set_option maxRecDepth 100000 in
set_option maxHeartbeats 4000000 in
theorem m0_X6_send (G : GT) (K : Nat → Nat → Int) (r : Nat → Option Nat) (s : Nat → Int) (st : Nat) (kp : Int) (t : Nat → Int) (T : Nat) (hR : RH K s st kp t T) (hg : GI s st kp t T) (p : Int) (hp : -2147483648 ≤ p ∧ p < 2147483648) (hc : 1 ≤ p ∧ p ≤ 6764) (hd : s 6 + (cl p : Nat) ≤ 64) : OkM G yX6_send mX6_send [rf G 28, .int (iI p)] K r (.int (iI (((s 6).toNat + cl p : Nat) : Int))) 0 (sdF (svS s st) (s 6).toNat (gm 18 p.toNat) (cl p) (cl p)) (st1 st) kp t T := by
  obtain ⟨e1, e2, e3, e4, e5⟩ := hR
  subst e1
  subst e4
  exact ⟨_, c_X6_send G K r st hg.2.1 e2 hg.1 p hp hc hd, ⟨rfl, rfl, e3, rfl, e5⟩, rfl, FM_of (fun q n1 n2 n3 n4 n5 => by simp only [kT, kS, Wd, WdZ, Wq, wkE, Wc, dgW, us_ne _ _ n1, us_ne _ _ n2, us_ne _ _ n3, us_ne _ _ n4, us_ne _ _ n5])⟩
set_option maxRecDepth 100000 in
set_option maxHeartbeats 4000000 in
theorem m1_X6_turn (G : GT) (K : Nat → Nat → Int) (r : Nat → Option Nat) (s : Nat → Int) (st : Nat) (kp : Int) (t : Nat → Int) (T : Nat) (hR : RH K s st kp t T) (hg : GI s st kp t T) (p : Int) (hp : -2147483648 ≤ p ∧ p < 2147483648) (hc : ¬ (0 ≤ p ∧ p ≤ s 6 - 1)) : OkM G yX6_turn mX6_turn [rf G 28, .int (iI p)] K r (.int (iI 0)) 1 s st kp t T := by
  obtain ⟨e1, e2, e3, e4, e5⟩ := hR
  subst e1
  subst e4
  exact ⟨_, n_X6_turn G K r hg.1 p hp hc, ⟨rfl, e2, e3, rfl, e5⟩, rfl, FM_of (fun q n1 n2 n3 n4 n5 => by simp only [kT, kS, Wd, WdZ, Wq, wkE, Wc, dgW, us_ne _ _ n1, us_ne _ _ n2, us_ne _ _ n3, us_ne _ _ n4, us_ne _ _ n5])⟩
set_option maxRecDepth 100000 in
set_option maxHeartbeats 4000000 in
theorem m0_X6_turn (G : GT) (K : Nat → Nat → Int) (r : Nat → Option Nat) (s : Nat → Int) (st : Nat) (kp : Int) (t : Nat → Int) (T : Nat) (hR : RH K s st kp t T) (hg : GI s st kp t T) (p : Int) (hp : -2147483648 ≤ p ∧ p < 2147483648) (hc : 0 ≤ p ∧ p ≤ s 6 - 1) : OkM G yX6_turn mX6_turn [rf G 28, .int (iI p)] K r (.int (iI (1 - s (7 + p.toNat)))) 0 (us (svS s st) (7 + p.toNat) (1 - s (7 + p.toNat))) (st1 st) kp t T := by
  obtain ⟨e1, e2, e3, e4, e5⟩ := hR
  subst e1
  subst e4
  exact ⟨_, c_X6_turn G K r st hg.2.1 e2 hg.1 p hp hc, ⟨rfl, rfl, e3, rfl, e5⟩, rfl, FM_of (fun q n1 n2 n3 n4 n5 => by simp only [kT, kS, Wd, WdZ, Wq, wkE, Wc, dgW, us_ne _ _ n1, us_ne _ _ n2, us_ne _ _ n3, us_ne _ _ n4, us_ne _ _ n5])⟩
set_option maxRecDepth 100000 in
set_option maxHeartbeats 4000000 in
theorem m1_X6_cut (G : GT) (K : Nat → Nat → Int) (r : Nat → Option Nat) (s : Nat → Int) (st : Nat) (kp : Int) (t : Nat → Int) (T : Nat) (hR : RH K s st kp t T) (hg : GI s st kp t T) (p : Int) (hp : -2147483648 ≤ p ∧ p < 2147483648) (hc : ¬ (1 ≤ p ∧ p ≤ 64)) : OkM G yX6_cut mX6_cut [rf G 28, .int (iI p)] K r (.int (iI 0)) 1 s st kp t T := by
  obtain ⟨e1, e2, e3, e4, e5⟩ := hR
  subst e1
  subst e4
  exact ⟨_, m_X6_cut G K r p hp hc, ⟨rfl, e2, e3, rfl, e5⟩, rfl, FM_of (fun q n1 n2 n3 n4 n5 => by simp only [kT, kS, Wd, WdZ, Wq, wkE, Wc, dgW, us_ne _ _ n1, us_ne _ _ n2, us_ne _ _ n3, us_ne _ _ n4, us_ne _ _ n5])⟩
set_option maxRecDepth 100000 in
set_option maxHeartbeats 4000000 in
theorem m2_X6_cut (G : GT) (K : Nat → Nat → Int) (r : Nat → Option Nat) (s : Nat → Int) (st : Nat) (kp : Int) (t : Nat → Int) (T : Nat) (hR : RH K s st kp t T) (hg : GI s st kp t T) (p : Int) (hp : -2147483648 ≤ p ∧ p < 2147483648) (hc : 1 ≤ p ∧ p ≤ 64) (hd : ¬ (p ≤ s 6)) : OkM G yX6_cut mX6_cut [rf G 28, .int (iI p)] K r (.int (iI 0)) 2 s st kp t T := by
  obtain ⟨e1, e2, e3, e4, e5⟩ := hR
  subst e1
  subst e4
  exact ⟨_, n_X6_cut G K r hg.1 p hp hc hd, ⟨rfl, e2, e3, rfl, e5⟩, rfl, FM_of (fun q n1 n2 n3 n4 n5 => by simp only [kT, kS, Wd, WdZ, Wq, wkE, Wc, dgW, us_ne _ _ n1, us_ne _ _ n2, us_ne _ _ n3, us_ne _ _ n4, us_ne _ _ n5])⟩
set_option maxRecDepth 100000 in
set_option maxHeartbeats 4000000 in
theorem m0_X6_cut (G : GT) (K : Nat → Nat → Int) (r : Nat → Option Nat) (s : Nat → Int) (st : Nat) (kp : Int) (t : Nat → Int) (T : Nat) (hR : RH K s st kp t T) (hg : GI s st kp t T) (p : Int) (hp : -2147483648 ≤ p ∧ p < 2147483648) (hc : 1 ≤ p ∧ p ≤ 64) (hd : p ≤ s 6) : OkM G yX6_cut mX6_cut [rf G 28, .int (iI p)] K r (.int (iI (s 6 - p))) 0 (ctF (svS s st) p.toNat (s 6 - p).toNat (s 6 - p).toNat) (st1 st) kp t T := by
  obtain ⟨e1, e2, e3, e4, e5⟩ := hR
  subst e1
  subst e4
  exact ⟨_, c_X6_cut G K r st hg.2.1 e2 hg.1 p hp hc hd, ⟨rfl, rfl, e3, rfl, e5⟩, rfl, FM_of (fun q n1 n2 n3 n4 n5 => by simp only [kT, kS, Wd, WdZ, Wq, wkE, Wc, dgW, us_ne _ _ n1, us_ne _ _ n2, us_ne _ _ n3, us_ne _ _ n4, us_ne _ _ n5])⟩
set_option maxRecDepth 100000 in
set_option maxHeartbeats 4000000 in
theorem m1_X6_append (G : GT) (K : Nat → Nat → Int) (r : Nat → Option Nat) (s : Nat → Int) (st : Nat) (kp : Int) (t : Nat → Int) (T : Nat) (hR : RH K s st kp t T) (hg : GI s st kp t T) (p : Int) (hp : -2147483648 ≤ p ∧ p < 2147483648) (hc : ¬ (33 ≤ p ∧ p ≤ 126)) : OkM G yX6_append mX6_append [rf G 28, .int (iI p)] K r (.int (iI 0)) 1 s st kp t T := by
  obtain ⟨e1, e2, e3, e4, e5⟩ := hR
  subst e1
  subst e4
  exact ⟨_, m_X6_append G K r T e5 hg.2.2.2.1 p hp hc, ⟨rfl, e2, e3, rfl, e5⟩, rfl, FM_of (fun q n1 n2 n3 n4 n5 => by simp only [kT, kS, Wd, WdZ, Wq, wkE, Wc, dgW, us_ne _ _ n1, us_ne _ _ n2, us_ne _ _ n3, us_ne _ _ n4, us_ne _ _ n5])⟩
set_option maxRecDepth 100000 in
set_option maxHeartbeats 4000000 in
theorem m2_X6_append (G : GT) (K : Nat → Nat → Int) (r : Nat → Option Nat) (s : Nat → Int) (st : Nat) (kp : Int) (t : Nat → Int) (T : Nat) (hR : RH K s st kp t T) (hg : GI s st kp t T) (p : Int) (hp : -2147483648 ≤ p ∧ p < 2147483648) (hc : 33 ≤ p ∧ p ≤ 126) (hd : ¬ (T < 60)) : OkM G yX6_append mX6_append [rf G 28, .int (iI p)] K r (.int (iI 0)) 2 s st kp t T := by
  obtain ⟨e1, e2, e3, e4, e5⟩ := hR
  subst e1
  subst e4
  exact ⟨_, n_X6_append G K r T e5 hg.2.2.2.1 p hp hc hd, ⟨rfl, e2, e3, rfl, e5⟩, rfl, FM_of (fun q n1 n2 n3 n4 n5 => by simp only [kT, kS, Wd, WdZ, Wq, wkE, Wc, dgW, us_ne _ _ n1, us_ne _ _ n2, us_ne _ _ n3, us_ne _ _ n4, us_ne _ _ n5])⟩
set_option maxRecDepth 100000 in
set_option maxHeartbeats 4000000 in
theorem m0_X6_append (G : GT) (K : Nat → Nat → Int) (r : Nat → Option Nat) (s : Nat → Int) (st : Nat) (kp : Int) (t : Nat → Int) (T : Nat) (hR : RH K s st kp t T) (hg : GI s st kp t T) (p : Int) (hp : -2147483648 ≤ p ∧ p < 2147483648) (hc : 33 ≤ p ∧ p ≤ 126) (hd : T < 60) : OkM G yX6_append mX6_append [rf G 28, .int (iI p)] K r (.int (iI ((T : Int) + 1))) 0 s st kp (us t T p) (T + 1) := by
  obtain ⟨e1, e2, e3, e4, e5⟩ := hR
  subst e1
  subst e4
  exact ⟨_, c_X6_append G K r T e5 hg.2.2.2.1 p hp hc hd, ⟨rfl, e2, e3, rfl, rfl⟩, rfl, FM_of (fun q n1 n2 n3 n4 n5 => by simp only [kT, kS, Wd, WdZ, Wq, wkE, Wc, dgW, us_ne _ _ n1, us_ne _ _ n2, us_ne _ _ n3, us_ne _ _ n4, us_ne _ _ n5])⟩
set_option maxRecDepth 100000 in
set_option maxHeartbeats 4000000 in
theorem m0_X6_clearBuffer (G : GT) (K : Nat → Nat → Int) (r : Nat → Option Nat) (s : Nat → Int) (st : Nat) (kp : Int) (t : Nat → Int) (T : Nat) (hR : RH K s st kp t T) (hg : GI s st kp t T)   : OkM G yX6_clearBuffer mX6_clearBuffer [rf G 28] K r (.int (iI (T : Int))) 0 s st kp t 0 := by
  obtain ⟨e1, e2, e3, e4, e5⟩ := hR
  subst e1
  subst e4
  have hh := c_X6_clearBuffer G K r 
  rw [e5] at hh
  exact ⟨_, hh, ⟨rfl, e2, e3, rfl, rfl⟩, rfl, FM_of (fun q n1 n2 n3 n4 n5 => by simp only [kT, kS, Wd, WdZ, Wq, wkE, Wc, dgW, us_ne _ _ n1, us_ne _ _ n2, us_ne _ _ n3, us_ne _ _ n4, us_ne _ _ n5])⟩
set_option maxRecDepth 100000 in
set_option maxHeartbeats 4000000 in
theorem m0_X6_firstError (G : GT) (K : Nat → Nat → Int) (r : Nat → Option Nat) (s : Nat → Int) (st : Nat) (kp : Int) (t : Nat → Int) (T : Nat) (hR : RH K s st kp t T) (hg : GI s st kp t T)   : OkM G yX6_firstError mX6_firstError [rf G 28] K r (.int (iI ((wh t T (T + 1) 0).2 : Nat))) 0 s st kp t T := by
  obtain ⟨e1, e2, e3, e4, e5⟩ := hR
  subst e1
  subst e4
  exact ⟨_, c_X6_firstError G K r T e5 hg.2.2.2.1 hg.2.2.2.2.1, ⟨rfl, e2, e3, rfl, e5⟩, rfl, FM_of (fun q n1 n2 n3 n4 n5 => by simp only [kT, kS, Wd, WdZ, Wq, wkE, Wc, dgW, us_ne _ _ n1, us_ne _ _ n2, us_ne _ _ n3, us_ne _ _ n4, us_ne _ _ n5])⟩
set_option maxRecDepth 100000 in
set_option maxHeartbeats 4000000 in
theorem m1_X6_work (G : GT) (K : Nat → Nat → Int) (r : Nat → Option Nat) (s : Nat → Int) (st : Nat) (kp : Int) (t : Nat → Int) (T : Nat) (hR : RH K s st kp t T) (hg : GI s st kp t T)  (hw : (wh t T (T + 1) 0).1 = false) : OkM G yX6_work mX6_work [rf G 28] K r (.int (iI 0)) 1 s st kp t T := by
  obtain ⟨e1, e2, e3, e4, e5⟩ := hR
  subst e1
  subst e4
  exact ⟨_, n_X6_work G K r T e5 hg.2.2.2.1 hg.2.2.2.2.1 hw, ⟨rfl, e2, e3, rfl, e5⟩, rfl, FM_of (fun q n1 n2 n3 n4 n5 => by simp only [kT, kS, Wd, WdZ, Wq, wkE, Wc, dgW, us_ne _ _ n1, us_ne _ _ n2, us_ne _ _ n3, us_ne _ _ n4, us_ne _ _ n5])⟩
set_option maxRecDepth 100000 in
set_option maxHeartbeats 4000000 in
theorem m0_X6_work (G : GT) (K : Nat → Nat → Int) (r : Nat → Option Nat) (s : Nat → Int) (st : Nat) (kp : Int) (t : Nat → Int) (T : Nat) (hR : RH K s st kp t T) (hg : GI s st kp t T)  (hw : (wh t T (T + 1) 0).1 = true) : OkM G yX6_work mX6_work [rf G 28] K r (.int (iI ((wk t T (T + 1) (svS s st) (whF t T (T + 1) (K 28 8) 0).1 (whF t T (T + 1) (K 28 8) 0).2 0 0).2.1 : Int))) 0 (stS (wk t T (T + 1) (svS s st) (whF t T (T + 1) (K 28 8) 0).1 (whF t T (T + 1) (K 28 8) 0).2 0 0).1 (wk t T (T + 1) (svS s st) (whF t T (T + 1) (K 28 8) 0).1 (whF t T (T + 1) (K 28 8) 0).2 0 0).2.2.1 (wk t T (T + 1) (svS s st) (whF t T (T + 1) (K 28 8) 0).1 (whF t T (T + 1) (K 28 8) 0).2 0 0).2.1) (st1 st) kp t 0 := by
  obtain ⟨e1, e2, e3, e4, e5⟩ := hR
  subst e1
  subst e4
  exact ⟨_, c_X6_work G K r T e5 hg.2.2.2.1 hg.2.2.2.2.1 hw hg.1 st hg.2.1 e2, ⟨rfl, rfl, e3, rfl, rfl⟩, rfl, FM_of (fun q n1 n2 n3 n4 n5 => by simp only [kT, kS, Wd, WdZ, Wq, wkE, Wc, dgW, us_ne _ _ n1, us_ne _ _ n2, us_ne _ _ n3, us_ne _ _ n4, us_ne _ _ n5])⟩
set_option maxRecDepth 100000 in
set_option maxHeartbeats 4000000 in
theorem m1_X6_undo (G : GT) (K : Nat → Nat → Int) (r : Nat → Option Nat) (s : Nat → Int) (st : Nat) (kp : Int) (t : Nat → Int) (T : Nat) (hR : RH K s st kp t T) (hg : GI s st kp t T)  (hc : st = 0) : OkM G yX6_undo mX6_undo [rf G 28] K r (.int (iI 0)) 1 s st kp t T := by
  obtain ⟨e1, e2, e3, e4, e5⟩ := hR
  subst e1
  subst e4
  exact ⟨_, n_X6_undo G K r st hg.2.1 e2 hc, ⟨rfl, e2, e3, rfl, e5⟩, rfl, FM_of (fun q n1 n2 n3 n4 n5 => by simp only [kT, kS, Wd, WdZ, Wq, wkE, Wc, dgW, us_ne _ _ n1, us_ne _ _ n2, us_ne _ _ n3, us_ne _ _ n4, us_ne _ _ n5])⟩
set_option maxRecDepth 100000 in
set_option maxHeartbeats 4000000 in
theorem m0_X6_undo (G : GT) (K : Nat → Nat → Int) (r : Nat → Option Nat) (s : Nat → Int) (st : Nat) (kp : Int) (t : Nat → Int) (T : Nat) (hR : RH K s st kp t T) (hg : GI s st kp t T)  (hc : 0 < st) : OkM G yX6_undo mX6_undo [rf G 28] K r (.int (iI ((st : Int) - 1))) 0 (cpS s st 0 74) (st - 1) kp t T := by
  obtain ⟨e1, e2, e3, e4, e5⟩ := hR
  subst e1
  subst e4
  exact ⟨_, c_X6_undo G K r st hg.2.1 e2 hc, ⟨rfl, (by show (st : Int) - 1 = ((st - 1 : Nat) : Int); omega), e3, rfl, e5⟩, rfl, FM_of (fun q n1 n2 n3 n4 n5 => by simp only [kT, kS, Wd, WdZ, Wq, wkE, Wc, dgW, us_ne _ _ n1, us_ne _ _ n2, us_ne _ _ n3, us_ne _ _ n4, us_ne _ _ n5])⟩
set_option maxRecDepth 100000 in
set_option maxHeartbeats 4000000 in
theorem m0_X6_keep (G : GT) (K : Nat → Nat → Int) (r : Nat → Option Nat) (s : Nat → Int) (st : Nat) (kp : Int) (t : Nat → Int) (T : Nat) (hR : RH K s st kp t T) (hg : GI s st kp t T)   : OkM G yX6_keep mX6_keep [rf G 28] K r (.int (iI (su s 6))) 0 (cpS s 0 6 74) st 1 t T := by
  obtain ⟨e1, e2, e3, e4, e5⟩ := hR
  subst e1
  subst e4
  exact ⟨_, c_X6_keep G K r hg.1, ⟨rfl, e2, rfl, rfl, e5⟩, rfl, FM_of (fun q n1 n2 n3 n4 n5 => by simp only [kT, kS, Wd, WdZ, Wq, wkE, Wc, dgW, us_ne _ _ n1, us_ne _ _ n2, us_ne _ _ n3, us_ne _ _ n4, us_ne _ _ n5])⟩
set_option maxRecDepth 100000 in
set_option maxHeartbeats 4000000 in
theorem m1_X6_restore (G : GT) (K : Nat → Nat → Int) (r : Nat → Option Nat) (s : Nat → Int) (st : Nat) (kp : Int) (t : Nat → Int) (T : Nat) (hR : RH K s st kp t T) (hg : GI s st kp t T)  (hc : kp = 0) : OkM G yX6_restore mX6_restore [rf G 28] K r (.int (iI 0)) 1 s st kp t T := by
  obtain ⟨e1, e2, e3, e4, e5⟩ := hR
  subst e1
  subst e4
  exact ⟨_, n_X6_restore G K r (e3.trans hc), ⟨rfl, e2, e3, rfl, e5⟩, rfl, FM_of (fun q n1 n2 n3 n4 n5 => by simp only [kT, kS, Wd, WdZ, Wq, wkE, Wc, dgW, us_ne _ _ n1, us_ne _ _ n2, us_ne _ _ n3, us_ne _ _ n4, us_ne _ _ n5])⟩
set_option maxRecDepth 100000 in
set_option maxHeartbeats 4000000 in
theorem m0_X6_restore (G : GT) (K : Nat → Nat → Int) (r : Nat → Option Nat) (s : Nat → Int) (st : Nat) (kp : Int) (t : Nat → Int) (T : Nat) (hR : RH K s st kp t T) (hg : GI s st kp t T)  (hc : kp = 1) : OkM G yX6_restore mX6_restore [rf G 28] K r (.int (iI (su (cpS (svS s st) 6 0 74) 6))) 0 (cpS (svS s st) 6 0 74) (st1 st) kp t T := by
  obtain ⟨e1, e2, e3, e4, e5⟩ := hR
  subst e1
  subst e4
  exact ⟨_, c_X6_restore G K r st hg.2.1 e2 (e3.trans hc), ⟨rfl, rfl, e3, rfl, e5⟩, rfl, FM_of (fun q n1 n2 n3 n4 n5 => by simp only [kT, kS, Wd, WdZ, Wq, wkE, Wc, dgW, us_ne _ _ n1, us_ne _ _ n2, us_ne _ _ n3, us_ne _ _ n4, us_ne _ _ n5])⟩
set_option maxRecDepth 100000 in
set_option maxHeartbeats 4000000 in
theorem m0_X6_sparseShare (G : GT) (K : Nat → Nat → Int) (r : Nat → Option Nat) (s : Nat → Int) (st : Nat) (kp : Int) (t : Nat → Int) (T : Nat) (hR : RH K s st kp t T) (hg : GI s st kp t T)   : OkM G yX6_sparseShare mX6_sparseShare [rf G 28] K r (.double (shV s)) 0 s st kp t T := by
  obtain ⟨e1, e2, e3, e4, e5⟩ := hR
  subst e1
  subst e4
  exact ⟨_, c_X6_sparseShare G K r hg.1, ⟨rfl, e2, e3, rfl, e5⟩, rfl, FM_of (fun q n1 n2 n3 n4 n5 => by simp only [kT, kS, Wd, WdZ, Wq, wkE, Wc, dgW, us_ne _ _ n1, us_ne _ _ n2, us_ne _ _ n3, us_ne _ _ n4, us_ne _ _ n5])⟩
set_option maxRecDepth 100000 in
set_option maxHeartbeats 4000000 in
theorem m0_X6_digest (G : GT) (K : Nat → Nat → Int) (r : Nat → Option Nat) (s : Nat → Int) (st : Nat) (kp : Int) (t : Nat → Int) (T : Nat) (hR : RH K s st kp t T) (hg : GI s st kp t T)   : OkM G yX6_digest mX6_digest [rf G 28] K r (.long (lL (dg s st t T))) 0 s st kp t T := by
  obtain ⟨e1, e2, e3, e4, e5⟩ := hR
  subst e1
  subst e4
  refine ⟨_, by rw [← e2]; exact c_X6_digest G K r T e5 hg.2.2.2.1 hg.2.2.2.2.1 (by rw [e2]; have := hg.2.1; omega) hg.1, ?_, ?_, ?_⟩
  · unfold dgK dgX
    split
    · exact ⟨rfl, e2, e3, rfl, e5⟩
    · exact ⟨rfl, e2, e3, rfl, e5⟩
  · unfold dgK; rw [us_at, us_at]
  · unfold dgK dgX
    split
    · exact FM_of (fun q n1 n2 n3 n4 n5 => by simp only [kT, kS, Wd, WdZ, Wq, wkE, Wc, dgW, us_ne _ _ n1, us_ne _ _ n2, us_ne _ _ n3, us_ne _ _ n4, us_ne _ _ n5])
    · exact FM_of (fun q n1 n2 n3 n4 n5 => by simp only [kT, kS, Wd, WdZ, Wq, wkE, Wc, dgW, us_ne _ _ n1, us_ne _ _ n2, us_ne _ _ n3, us_ne _ _ n4, us_ne _ _ n5])
