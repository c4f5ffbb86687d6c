/-! the rows of ways -/
def isR (a : Nat) : Bool := a == 12 || a == 15
theorem isR_c {a : Nat} (h : isR a = true) : a = 12 ∨ a = 15 := by
  simp only [isR, Bool.or_eq_true, beq_iff_eq] at h
  omega
theorem isR_lt {a : Nat} (h : isR a = true) : a < 28 := by rcases isR_c h with rfl | rfl <;> decide
theorem isR_lt1 {a : Nat} (h : isR a = true) : a + 1 < 28 := by rcases isR_c h with rfl | rfl <;> decide
theorem isR_lt2 {a : Nat} (h : isR a = true) : a + 2 < 28 := by rcases isR_c h with rfl | rfl <;> decide
theorem cO_ry {G : GT} {r : Nat → Option Nat} {a : Nat} (h : isR a = true) (f : Nat → Int) : cO G r a f = .inr (4, wyL G a f) := by rcases isR_c h with rfl | rfl <;> rfl
theorem cO_r1 {G : GT} {r : Nat → Option Nat} {a : Nat} (h : isR a = true) (f : Nat → Int) : cO G r (a + 1) f = aI G 4 f := by rcases isR_c h with rfl | rfl <;> rfl
theorem cO_r2 {G : GT} {r : Nat → Option Nat} {a : Nat} (h : isR a = true) (f : Nat → Int) : cO G r (a + 2) f = aI G 4 f := by rcases isR_c h with rfl | rfl <;> rfl
/-- the first place below n that holds x -/
def fnd (L : Nat → Int) (x : Int) : Nat → Option Nat
  | 0 => none
  | n + 1 => match fnd L x n with
    | some i => some i
    | none => if L n = x then some n else none
theorem fnd_none {L : Nat → Int} {x : Int} : ∀ {n : Nat}, fnd L x n = none → ∀ j, j < n → L j ≠ x
  | 0, _, j, hj => absurd hj (Nat.not_lt_zero j)
  | n + 1, h, j, hj => by
    simp only [fnd] at h
    split at h
    · cases h
    · rename_i h1
      split at h
      · cases h
      · rename_i h2
        by_cases e : j = n
        · subst e; exact h2
        · exact fnd_none h1 j (by omega)
theorem fnd_some {L : Nat → Int} {x : Int} : ∀ {n i : Nat}, fnd L x n = some i → i < n ∧ L i = x ∧ ∀ j, j < i → L j ≠ x
  | 0, _, h => by cases h
  | n + 1, i, h => by
    simp only [fnd] at h
    split at h
    · rename_i h1
      cases h
      obtain ⟨a, b, c⟩ := fnd_some h1
      exact ⟨by omega, b, c⟩
    · rename_i h1
      split at h
      · rename_i h2
        cases h
        exact ⟨by omega, h2, fun j hj => fnd_none h1 j hj⟩
      · cases h
def putW (a : Nat) (x c : Int) (K : Nat → Nat → Int) : Nat → Nat → Int :=
  match fnd (K (a + 1)) x (K a 2).toNat with
  | some i => us K (a + 2) (us (K (a + 2)) i (K (a + 2) i + c))
  | none => us (us (us K (a + 1) (us (K (a + 1)) (K a 2).toNat x)) (a + 2) (us (K (a + 2)) (K a 2).toNat c)) a (us (K a) 2 (K a 2 + 1))
def goS (b s : Nat) (y d : Int) (K : Nat → Nat → Int) : Nat → Nat → Int :=
  let K1 := if y ≤ (wS s : Nat) then putW b y d K else K
  if 0 ≤ y - (wN s : Nat) ∧ y - (wN s : Nat) ≤ (wS s : Nat) then putW b (y - (wN s : Nat)) d K1 else K1
def goW (a b s : Nat) (K : Nat → Nat → Int) : Nat → Nat → Nat → Int
  | 0 => K
  | j + 1 => goS b s (K (a + 1) j) (K (a + 2) j) (goW a b s K j)
def tbW : Nat → Nat → Nat → (Nat → Nat → Int) → Nat → Nat → Int
  | 0, _, _, K => K
  | k + 1, a, b, K => tbW k b a (goW a b k (us K b (us (K b) 2 0)) (K a 2).toNat)
theorem putW_ne {a q : Nat} {x c : Int} {K : Nat → Nat → Int} (h0 : q ≠ a) (h1 : q ≠ a + 1) (h2 : q ≠ a + 2) : putW a x c K q = K q := by
  unfold putW
  rcases fnd (K (a + 1)) x (K a 2).toNat with _ | i
  · dsimp only
    rw [us_ne _ _ h0, us_ne _ _ h2, us_ne _ _ h1]
  · dsimp only
    rw [us_ne _ _ h2]
theorem goS_ne {b s q : Nat} {y d : Int} {K : Nat → Nat → Int} (h0 : q ≠ b) (h1 : q ≠ b + 1) (h2 : q ≠ b + 2) : goS b s y d K q = K q := by
  unfold goS
  try dsimp only
  split
  · rw [putW_ne h0 h1 h2]
    split
    · rw [putW_ne h0 h1 h2]
    · rfl
  · split
    · rw [putW_ne h0 h1 h2]
    · rfl
theorem goW_ne {a b s q : Nat} {K : Nat → Nat → Int} (h0 : q ≠ b) (h1 : q ≠ b + 1) (h2 : q ≠ b + 2) : ∀ j, goW a b s K j q = K q
  | 0 => rfl
  | j + 1 => by simp only [goW]; rw [goS_ne h0 h1 h2, goW_ne h0 h1 h2 j]
theorem tbW_ne {q : Nat} (h : q < 12 ∨ 17 < q) : ∀ {k a b : Nat} {K : Nat → Nat → Int}, isR a = true → isR b = true → tbW k a b K q = K q
  | 0, _, _, _, _, _ => rfl
  | k + 1, a, b, K, ha, hb => by
    simp only [tbW]
    rw [tbW_ne h hb ha]
    have c := isR_c hb
    rw [goW_ne (by omega) (by omega) (by omega), us_ne _ _ (by omega)]
/-! the same by lists -/
def lfd (l : List (Nat × Nat)) (x : Nat) : Nat → Option Nat
  | 0 => none
  | n + 1 => match lfd l x n with
    | some i => some i
    | none => if (l.getD n (0, 0)).1 = x then some n else none
def rwP (x c : Nat) (l : List (Nat × Nat)) : List (Nat × Nat) := match lfd l x l.length with
  | some i => l.set i ((l.getD i (0, 0)).1, (l.getD i (0, 0)).2 + c)
  | none => l ++ [(x, c)]
def rwS (s : Nat) (q : Nat × Nat) (acc : List (Nat × Nat)) : List (Nat × Nat) :=
  let a1 := if q.1 ≤ wS s then rwP q.1 q.2 acc else acc
  if wN s ≤ q.1 ∧ q.1 - wN s ≤ wS s then rwP (q.1 - wN s) q.2 a1 else a1
def rwG (s : Nat) (l : List (Nat × Nat)) : Nat → List (Nat × Nat)
  | 0 => []
  | j + 1 => rwS s (l.getD j (0, 0)) (rwG s l j)
def tbOK (l : List (Nat × Nat)) : Bool := decide (l.length ≤ 2)
def tbC : Nat → List (Nat × Nat) → Option (List (Nat × Nat))
  | 0, l => if tbOK l then some l else none
  | k + 1, l => if tbOK l then tbC k (rwG k l l.length) else none
def lct (l : List (Nat × Nat)) : Nat := match lfd l 0 l.length with
  | some i => (l.getD i (0, 0)).2
  | none => 0
def RW (K : Nat → Nat → Int) (a : Nat) (l : List (Nat × Nat)) : Prop := K a 2 = (l.length : Nat) ∧ ∀ i, i < l.length → K (a + 1) i = ((l.getD i (0, 0)).1 : Nat) ∧ K (a + 2) i = ((l.getD i (0, 0)).2 : Nat)
theorem fnd_lfd {L : Nat → Int} {l : List (Nat × Nat)} {x : Nat} : ∀ {n : Nat}, (∀ i, i < n → L i = ((l.getD i (0, 0)).1 : Nat)) → fnd L x n = lfd l x n
  | 0, _ => rfl
  | n + 1, h => by
    simp only [fnd, lfd]
    rw [fnd_lfd (fun i hi => h i (by omega)), h n (by omega)]
    split
    · rfl
    · by_cases e : (l.getD n (0, 0)).1 = x
      · rw [if_pos e, if_pos (by omega)]
      · rw [if_neg e, if_neg (by omega)]
theorem lfd_lt {l : List (Nat × Nat)} {x : Nat} : ∀ {n i : Nat}, lfd l x n = some i → i < n
  | 0, _, h => by cases h
  | n + 1, i, h => by
    simp only [lfd] at h
    split at h
    · rename_i h1
      cases h
      have := lfd_lt h1
      omega
    · split at h
      · cases h; omega
      · cases h
theorem RW_fnd {K : Nat → Nat → Int} {a : Nat} {l : List (Nat × Nat)} (h : RW K a l) (x : Nat) : fnd (K (a + 1)) x (K a 2).toNat = lfd l x l.length := by
  rw [h.1, show ((l.length : Nat) : Int).toNat = l.length from rfl]
  exact fnd_lfd (fun i hi => (h.2 i hi).1)
theorem RW_put {K : Nat → Nat → Int} {a : Nat} {l : List (Nat × Nat)} (h : RW K a l) (x c : Nat) : RW (putW a x c K) a (rwP x c l) := by
  unfold putW rwP
  rw [RW_fnd h]
  split
  · rename_i i hi
    have hl := lfd_lt hi
    refine ⟨?_, fun j hj => ?_⟩
    · rw [us_ne _ _ (by omega), h.1, List.length_set]
    · rw [List.length_set] at hj
      rw [us_ne _ _ (by omega), us_at]
      by_cases e : j = i
      · subst e
        rw [us_at, (h.2 j hj).1, (h.2 j hj).2]
        simp [hj]
      · rw [us_ne _ _ e, (h.2 j hj).1, (h.2 j hj).2]
        simp [List.getElem?_set_ne (Ne.symm e)]
  · refine ⟨?_, fun j hj => ?_⟩
    · rw [us_at, us_at, h.1]; simp
    · rw [List.length_append, List.length_singleton] at hj
      rw [us_ne _ _ (show a + 1 ≠ a by omega), us_ne _ _ (show a + 1 ≠ a + 2 by omega), us_at, us_ne _ _ (show a + 2 ≠ a by omega), us_at, h.1, show ((l.length : Nat) : Int).toNat = l.length from rfl]
      by_cases e : j = l.length
      · subst e
        rw [us_at, us_at]
        simp
      · rw [us_ne _ _ e, us_ne _ _ e, (h.2 j (by omega)).1, (h.2 j (by omega)).2]
        simp [List.getElem?_append_left (show j < l.length by omega)]
theorem rwP_len (x c : Nat) (l : List (Nat × Nat)) : (rwP x c l).length ≤ l.length + 1 := by
  unfold rwP
  split
  · simp
  · simp
theorem RW_goS {K : Nat → Nat → Int} {b s : Nat} {acc : List (Nat × Nat)} (h : RW K b acc) (q : Nat × Nat) : RW (goS b s (q.1 : Nat) (q.2 : Nat) K) b (rwS s q acc) := by
  unfold goS rwS
  try dsimp only
  by_cases c1 : q.1 ≤ wS s
  · rw [if_pos (show ((q.1 : Nat) : Int) ≤ (wS s : Nat) by omega), if_pos c1]
    by_cases c2 : wN s ≤ q.1 ∧ q.1 - wN s ≤ wS s
    · rw [if_pos (show 0 ≤ ((q.1 : Nat) : Int) - (wN s : Nat) ∧ ((q.1 : Nat) : Int) - (wN s : Nat) ≤ (wS s : Nat) by omega), if_pos c2, show ((q.1 : Nat) : Int) - (wN s : Nat) = ((q.1 - wN s : Nat) : Int) by omega]
      exact RW_put (RW_put h _ _) _ _
    · rw [if_neg (show ¬ (0 ≤ ((q.1 : Nat) : Int) - (wN s : Nat) ∧ ((q.1 : Nat) : Int) - (wN s : Nat) ≤ (wS s : Nat)) by omega), if_neg c2]
      exact RW_put h _ _
  · rw [if_neg (show ¬ ((q.1 : Nat) : Int) ≤ (wS s : Nat) by omega), if_neg c1]
    by_cases c2 : wN s ≤ q.1 ∧ q.1 - wN s ≤ wS s
    · rw [if_pos (show 0 ≤ ((q.1 : Nat) : Int) - (wN s : Nat) ∧ ((q.1 : Nat) : Int) - (wN s : Nat) ≤ (wS s : Nat) by omega), if_pos c2, show ((q.1 : Nat) : Int) - (wN s : Nat) = ((q.1 - wN s : Nat) : Int) by omega]
      exact RW_put h _ _
    · rw [if_neg (show ¬ (0 ≤ ((q.1 : Nat) : Int) - (wN s : Nat) ∧ ((q.1 : Nat) : Int) - (wN s : Nat) ≤ (wS s : Nat)) by omega), if_neg c2]
      exact h
theorem rwS_len (s : Nat) (q : Nat × Nat) (acc : List (Nat × Nat)) : (rwS s q acc).length ≤ acc.length + 2 := by
  unfold rwS
  try dsimp only
  have h1 := rwP_len q.1 q.2 acc
  have h2 := rwP_len (q.1 - wN s) q.2 (rwP q.1 q.2 acc)
  have h3 := rwP_len (q.1 - wN s) q.2 acc
  split <;> split <;> omega
theorem rwG_len (s : Nat) (l : List (Nat × Nat)) : ∀ j, (rwG s l j).length ≤ 2 * j
  | 0 => Nat.le_refl _
  | j + 1 => by
    have h1 := rwS_len s (l.getD j (0, 0)) (rwG s l j)
    have h2 := rwG_len s l j
    simp only [rwG]
    omega
theorem RW_goW {K : Nat → Nat → Int} {a b s : Nat} {l : List (Nat × Nat)} (h : RW K a l) (hb : RW K b []) : ∀ j, j ≤ l.length → RW (goW a b s K j) b (rwG s l j)
  | 0, _ => hb
  | j + 1, hj => by
    simp only [goW, rwG]
    rw [(h.2 j (by omega)).1, (h.2 j (by omega)).2]
    exact RW_goS (RW_goW h hb j (by omega)) _
theorem tbOK_r {l : List (Nat × Nat)} (h : tbOK l = true) : l.length ≤ 2 := of_decide_eq_true h
/-! the same, for the kernel -/
def eP (x c : Nat) : List (Nat × Nat) → List (Nat × Nat)
  | [] => [(x, c)]
  | q :: t => bif Nat.beq q.1 x then (q.1, q.2 + c) :: t else q :: eP x c t
def eG (W S : Nat) : List (Nat × Nat) → List (Nat × Nat) → List (Nat × Nat)
  | [], acc => acc
  | q :: t, acc => eG W S t (bif Nat.ble W q.1 && Nat.ble (q.1 - W) S then eP (q.1 - W) q.2 (bif Nat.ble q.1 S then eP q.1 q.2 acc else acc) else bif Nat.ble q.1 S then eP q.1 q.2 acc else acc)
def e2 : List (Nat × Nat) → Bool
  | [] => true
  | [_] => true
  | [_, _] => true
  | _ :: _ :: _ :: _ => false
def eR : List (Nat × Nat) → List (Nat × Nat) → Option (List (Nat × Nat))
  | [], l => bif e2 l then some l else none
  | q :: r, l => bif e2 l then eR r (eG q.1 q.2 l []) else none
def eV : List (Nat × Nat) → Nat
  | [] => 0
  | q :: t => bif Nat.beq q.1 0 then q.2 else eV t
theorem e2_eq (l : List (Nat × Nat)) : tbOK l = e2 l := by
  match l with
  | [] => rfl
  | [_] => rfl
  | [_, _] => rfl
  | a :: b :: c :: t => exact decide_eq_false (by simp only [List.length_cons]; omega)
theorem lfd_cons (q : Nat × Nat) (l : List (Nat × Nat)) (x : Nat) : ∀ n, lfd (q :: l) x (n + 1) = if q.1 = x then some 0 else (lfd l x n).map (· + 1)
  | 0 => by
    show (if q.1 = x then some 0 else none) = _
    by_cases e : q.1 = x
    · rw [if_pos e, if_pos e]
    · rw [if_neg e, if_neg e]; rfl
  | n + 1 => by
    have ih := lfd_cons q l x n
    rw [lfd, ih]
    by_cases e : q.1 = x
    · rw [if_pos e, if_pos e]
    · rw [if_neg e, if_neg e]
      simp only [lfd]
      rcases lfd l x n with _ | i
      · show (if (l.getD n (0, 0)).1 = x then some (n + 1) else none) = Option.map (· + 1) (if (l.getD n (0, 0)).1 = x then some n else none)
        by_cases g : (l.getD n (0, 0)).1 = x
        · rw [if_pos g, if_pos g]; rfl
        · rw [if_neg g, if_neg g]; rfl
      · rfl
theorem beq_if {α : Type} (a b : Nat) (x y : α) : (bif Nat.beq a b then x else y) = if a = b then x else y := by
  by_cases e : a = b
  · rw [if_pos e, e, show Nat.beq b b = true from Nat.beq_refl b]; rfl
  · rw [if_neg e]
    rcases h : Nat.beq a b with _ | _
    · rfl
    · exact absurd (Nat.eq_of_beq_eq_true h) e
theorem ble_if {α : Type} (a b : Nat) (x y : α) : (bif Nat.ble a b then x else y) = if a ≤ b then x else y := by
  by_cases e : a ≤ b
  · rw [if_pos e, Nat.ble_eq_true_of_le e]; rfl
  · rw [if_neg e]
    rcases h : Nat.ble a b with _ | _
    · rfl
    · exact absurd (Nat.le_of_ble_eq_true h) e
theorem eP_eq (x c : Nat) : ∀ l, rwP x c l = eP x c l
  | [] => rfl
  | q :: t => by
    have ih := eP_eq x c t
    unfold rwP at ih ⊢
    simp only [eP]
    rw [beq_if, List.length_cons, lfd_cons]
    by_cases e : q.1 = x
    · rw [if_pos e, if_pos e]; rfl
    · rw [if_neg e, if_neg e, ← ih]
      rcases lfd t x t.length with _ | i
      · rfl
      · rfl
theorem eS_eq (s : Nat) (q : Nat × Nat) (acc : List (Nat × Nat)) : rwS s q acc = bif Nat.ble (wN s) q.1 && Nat.ble (q.1 - wN s) (wS s) then eP (q.1 - wN s) q.2 (bif Nat.ble q.1 (wS s) then eP q.1 q.2 acc else acc) else bif Nat.ble q.1 (wS s) then eP q.1 q.2 acc else acc := by
  unfold rwS
  try dsimp only
  rw [eP_eq, eP_eq, ble_if]
  by_cases c : wN s ≤ q.1 ∧ q.1 - wN s ≤ wS s
  · rw [if_pos c, Nat.ble_eq_true_of_le c.1, Nat.ble_eq_true_of_le c.2]; rfl
  · rw [if_neg c]
    rcases h1 : Nat.ble (wN s) q.1 with _ | _
    · rfl
    · rcases h2 : Nat.ble (q.1 - wN s) (wS s) with _ | _
      · rfl
      · exact absurd ⟨Nat.le_of_ble_eq_true h1, Nat.le_of_ble_eq_true h2⟩ c
theorem eG_eq (s : Nat) : ∀ (l2 l1 : List (Nat × Nat)), rwG s (l1 ++ l2) (l1 ++ l2).length = eG (wN s) (wS s) l2 (rwG s (l1 ++ l2) l1.length)
  | [], l1 => by rw [List.append_nil]; rfl
  | q :: t, l1 => by
    have ih := eG_eq s t (l1 ++ [q])
    rw [List.append_assoc, List.singleton_append] at ih
    rw [ih, List.length_append, List.length_singleton]
    simp only [eG, rwG]
    rw [← eS_eq]
    congr 2
    rw [List.getD_eq_getElem?_getD, List.getElem?_append_right (Nat.le_refl _), Nat.sub_self]; rfl
theorem eG_0 (s : Nat) (l : List (Nat × Nat)) : rwG s l l.length = eG (wN s) (wS s) l [] := eG_eq s l []
def wsK : Nat → List (Nat × Nat)
  | 0 => []
  | k + 1 => (wN k, wS k) :: wsK k
theorem eR_eq : ∀ (k : Nat) (l : List (Nat × Nat)), tbC k l = eR (wsK k) l
  | 0, l => by
    simp only [tbC, wsK, eR]
    rw [e2_eq]
    rcases e2 l with _ | _
    · rfl
    · rfl
  | k + 1, l => by
    simp only [tbC, wsK, eR]
    rw [e2_eq, eR_eq k, eG_0]
    rcases e2 l with _ | _
    · rfl
    · rfl
theorem eV_eq : ∀ l, lct l = eV l
  | [] => rfl
  | q :: t => by
    have ih := eV_eq t
    unfold lct at ih ⊢
    simp only [eV]
    rw [beq_if, List.length_cons, lfd_cons]
    by_cases e : q.1 = 0
    · rw [if_pos e, if_pos e]; rfl
    · rw [if_neg e, if_neg e, ← ih]
      rcases lfd t 0 t.length with _ | i
      · rfl
      · rfl
def wsL : List (Nat × Nat) := [(4181, 6763), (2584, 4179), (1597, 2582), (987, 1595), (610, 985), (377, 608), (233, 375), (144, 231), (89, 142), (55, 87), (34, 53), (21, 32), (13, 19), (8, 11), (5, 6), (3, 3), (2, 1), (1, 0)]
theorem wsK_L : wsK 18 = wsL := by decide +kernel
def tbP (n : Nat) : Bool := match eR wsL [(n, 1)] with
  | some l => Nat.beq (eV l) ((woS (gm 18 n) 18).1 + (woS (gm 18 n) 18).2.1)
  | none => false
theorem chk6_0 : allB (fun k => tbP (0 + k)) 500 = true := by decide +kernel
theorem chk6_1 : allB (fun k => tbP (500 + k)) 500 = true := by decide +kernel
theorem chk6_2 : allB (fun k => tbP (1000 + k)) 500 = true := by decide +kernel
theorem chk6_3 : allB (fun k => tbP (1500 + k)) 500 = true := by decide +kernel
theorem chk6_4 : allB (fun k => tbP (2000 + k)) 500 = true := by decide +kernel
theorem chk6_5 : allB (fun k => tbP (2500 + k)) 500 = true := by decide +kernel
theorem chk6_6 : allB (fun k => tbP (3000 + k)) 500 = true := by decide +kernel
theorem chk6_7 : allB (fun k => tbP (3500 + k)) 500 = true := by decide +kernel
theorem chk6_8 : allB (fun k => tbP (4000 + k)) 500 = true := by decide +kernel
theorem chk6_9 : allB (fun k => tbP (4500 + k)) 500 = true := by decide +kernel
theorem chk6_10 : allB (fun k => tbP (5000 + k)) 500 = true := by decide +kernel
theorem chk6_11 : allB (fun k => tbP (5500 + k)) 500 = true := by decide +kernel
theorem chk6_12 : allB (fun k => tbP (6000 + k)) 500 = true := by decide +kernel
theorem chk6_13 : allB (fun k => tbP (6500 + k)) 265 = true := by decide +kernel
theorem chk6 {n : Nat} (h : n < 6765) : tbP n = true := by
  by_cases c0 : n < 500
  · have := allB_of chk6_0 (n - 0) (by omega)
    rwa [show 0 + (n - 0) = n by omega] at this
  by_cases c1 : n < 1000
  · have := allB_of chk6_1 (n - 500) (by omega)
    rwa [show 500 + (n - 500) = n by omega] at this
  by_cases c2 : n < 1500
  · have := allB_of chk6_2 (n - 1000) (by omega)
    rwa [show 1000 + (n - 1000) = n by omega] at this
  by_cases c3 : n < 2000
  · have := allB_of chk6_3 (n - 1500) (by omega)
    rwa [show 1500 + (n - 1500) = n by omega] at this
  by_cases c4 : n < 2500
  · have := allB_of chk6_4 (n - 2000) (by omega)
    rwa [show 2000 + (n - 2000) = n by omega] at this
  by_cases c5 : n < 3000
  · have := allB_of chk6_5 (n - 2500) (by omega)
    rwa [show 2500 + (n - 2500) = n by omega] at this
  by_cases c6 : n < 3500
  · have := allB_of chk6_6 (n - 3000) (by omega)
    rwa [show 3000 + (n - 3000) = n by omega] at this
  by_cases c7 : n < 4000
  · have := allB_of chk6_7 (n - 3500) (by omega)
    rwa [show 3500 + (n - 3500) = n by omega] at this
  by_cases c8 : n < 4500
  · have := allB_of chk6_8 (n - 4000) (by omega)
    rwa [show 4000 + (n - 4000) = n by omega] at this
  by_cases c9 : n < 5000
  · have := allB_of chk6_9 (n - 4500) (by omega)
    rwa [show 4500 + (n - 4500) = n by omega] at this
  by_cases c10 : n < 5500
  · have := allB_of chk6_10 (n - 5000) (by omega)
    rwa [show 5000 + (n - 5000) = n by omega] at this
  by_cases c11 : n < 6000
  · have := allB_of chk6_11 (n - 5500) (by omega)
    rwa [show 5500 + (n - 5500) = n by omega] at this
  by_cases c12 : n < 6500
  · have := allB_of chk6_12 (n - 6000) (by omega)
    rwa [show 6000 + (n - 6000) = n by omega] at this
  by_cases c13 : n < 6765
  · have := allB_of chk6_13 (n - 6500) (by omega)
    rwa [show 6500 + (n - 6500) = n by omega] at this
  omega
theorem tb_ways {n : Nat} (h : n ≤ 6764) : ∃ l, tbC 18 [(n, 1)] = some l ∧ ((lct l : Nat) : Int) = cw (gm 18 n) := by
  have h1 := chk6 (n := n) (by omega)
  unfold tbP at h1
  rw [eR_eq, wsK_L]
  rcases he : eR wsL [(n, 1)] with _ | l
  · rw [he] at h1; cases h1
  · rw [he] at h1
    refine ⟨l, rfl, ?_⟩
    rw [cw_woS, woS_18 (gm_18 n), eV_eq, Nat.eq_of_beq_eq_true h1]
theorem RW_rng {K : Nat → Nat → Int} {a : Nat} {l : List (Nat × Nat)} (h : RW K a l) (hv : ∀ i, i < l.length → (l.getD i (0, 0)).1 ≤ 6764) : ∀ i, i < (K a 2).toNat → 0 ≤ K (a + 1) i ∧ K (a + 1) i ≤ 100000 := by
  intro i hi
  rw [h.1, show ((l.length : Nat) : Int).toNat = l.length from rfl] at hi
  have := hv i hi
  rw [(h.2 i hi).1]
  omega
theorem rwP_v (x c : Nat) (l : List (Nat × Nat)) (hx : x ≤ 6764) (hv : ∀ i, i < l.length → (l.getD i (0, 0)).1 ≤ 6764) : ∀ i, i < (rwP x c l).length → ((rwP x c l).getD i (0, 0)).1 ≤ 6764 := by
  unfold rwP
  split
  · rename_i k hk
    have hl := lfd_lt hk
    intro i hi
    rw [List.length_set] at hi
    by_cases e : i = k
    · subst e
      have := hv i hi
      simpa [hi] using this
    · have := hv i hi
      simpa [List.getElem?_set_ne (Ne.symm e)] using this
  · intro i hi
    rw [List.length_append, List.length_singleton] at hi
    by_cases e : i = l.length
    · subst e; simpa using hx
    · have := hv i (by omega)
      simpa [List.getElem?_append_left (show i < l.length by omega)] using this
theorem rwS_v (s : Nat) (q : Nat × Nat) (acc : List (Nat × Nat)) (hq : q.1 ≤ 6764) (hv : ∀ i, i < acc.length → (acc.getD i (0, 0)).1 ≤ 6764) : ∀ i, i < (rwS s q acc).length → ((rwS s q acc).getD i (0, 0)).1 ≤ 6764 := by
  unfold rwS
  try dsimp only
  by_cases c1 : q.1 ≤ wS s
  · rw [if_pos c1]
    by_cases c2 : wN s ≤ q.1 ∧ q.1 - wN s ≤ wS s
    · rw [if_pos c2]; exact rwP_v _ _ _ (by omega) (rwP_v _ _ _ hq hv)
    · rw [if_neg c2]; exact rwP_v _ _ _ hq hv
  · rw [if_neg c1]
    by_cases c2 : wN s ≤ q.1 ∧ q.1 - wN s ≤ wS s
    · rw [if_pos c2]; exact rwP_v _ _ _ (by omega) hv
    · rw [if_neg c2]; exact hv
theorem rwG_v (s : Nat) (l : List (Nat × Nat)) (hv : ∀ i, i < l.length → (l.getD i (0, 0)).1 ≤ 6764) : ∀ j, j ≤ l.length → ∀ i, i < (rwG s l j).length → ((rwG s l j).getD i (0, 0)).1 ≤ 6764
  | 0, _ => fun i hi => absurd hi (Nat.not_lt_zero i)
  | j + 1, hj => by
    simp only [rwG]
    exact rwS_v _ _ _ (hv j (by omega)) (rwG_v s l hv j (by omega))
