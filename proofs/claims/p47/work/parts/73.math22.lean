/-! what is read: each number's code, the errors and the loose digits are the whole stream -/
def clS : List Nat → Nat
  | [] => 0
  | x :: t => cl (x : Int) + clS t
theorem clS_app (x : Nat) : ∀ l, clS (l ++ [x]) = clS l + cl (x : Int)
  | [] => by show cl (x : Int) + 0 = 0 + cl (x : Int); omega
  | y :: t => by
    show cl (y : Int) + clS (t ++ [x]) = cl (y : Int) + clS t + cl (x : Int)
    rw [clS_app x t]; omega
theorem rdS_cg {d e : Nat → Int} : ∀ {k : Nat}, (∀ j, j < k → d j = e j) → rdS d k = rdS e k
  | 0, _ => rfl
  | k + 1, h => by
    have ih := rdS_cg (d := d) (e := e) (k := k) (fun j hj => h j (by omega))
    have hk := h k (by omega)
    have h1 : 0 < (rdS e k).2.1 → d (k - 1) = e (k - 1) := fun q => h (k - 1) (by omega)
    by_cases c : e k = 1 ∧ 0 < (rdS e k).2.1 ∧ e (k - 1) = 1
    · rw [rdS_e c, rdS_e (by rw [ih, hk, h1 c.2.1]; exact c), ih]
    · rw [rdS_n c, rdS_n (by rw [ih, hk]; intro w; exact c ⟨w.1, w.2.1, by rw [← h1 w.2.1]; exact w.2.2⟩), ih, hk]
theorem cl_n (x : Nat) : cl (x : Int) = hl 18 (gm 18 x) + 1 := rfl
theorem rd_end {d : Nat → Int} {k : Nat} (hA : ∀ i, i + 1 < (rdS d k).2.1 → ¬ (d (k - (rdS d k).2.1 + i) = 1 ∧ d (k - (rdS d k).2.1 + i + 1) = 1)) (h0 : 0 < (rdS d k).2.1) (h18 : (rdS d k).2.1 ≤ 18) (hd : d (k - 1) = 1) : cl ((wo 22 (rdS d k).1 : Nat) : Int) = (rdS d k).2.1 + 1 ∧ 1 ≤ wo 22 (rdS d k).1 ∧ wo 22 (rdS d k).1 ≤ 6764 := by
  have ht := rdS_tb d k
  have hk := rdS_lo d k
  have hM := rdS_mk d k
  have hN : NA (rdS d k).1 := by
    intro i hi
    rw [ht] at hi ⊢
    simp only [Bool.and_eq_true, decide_eq_true_eq] at hi
    by_cases c : i + 1 < (rdS d k).2.1
    · have := hA i c
      rw [decide_eq_false (show ¬ d (k - (rdS d k).2.1 + (i + 1)) = 1 from fun w => this ⟨hi.2, w⟩)]; simp
    · rw [decide_eq_false c]; simp
  have hb : (rdS d k).1.testBit ((rdS d k).2.1 - 1) = true := by
    rw [ht, decide_eq_true (show (rdS d k).2.1 - 1 < 18 by omega), decide_eq_true (show (rdS d k).2.1 - 1 < (rdS d k).2.1 by omega), show k - (rdS d k).2.1 + ((rdS d k).2.1 - 1) = k - 1 by omega, decide_eq_true hd]; rfl
  have hh : hl 18 (rdS d k).1 = (rdS d k).2.1 := by
    rw [hl_eq (j := (rdS d k).2.1 - 1) (by omega) hb (fun i hi => by rw [ht, decide_eq_false (show ¬ i < (rdS d k).2.1 by omega)]; simp)]
    omega
  obtain ⟨g1, g2⟩ := gm_of hN hM
  rw [wo_18 hM]
  exact ⟨by rw [cl_n, g1, hh], wo_pos hb (by omega), g2⟩
def RI (d : Nat → Int) (k : Nat) : Prop := (∀ i, i + 1 < (rdS d k).2.1 → ¬ (d (k - (rdS d k).2.1 + i) = 1 ∧ d (k - (rdS d k).2.1 + i + 1) = 1)) ∧ clS (rdS d k).2.2.2 + (rdS d k).2.1 ≤ k ∧ ((rdS d k).2.2.1 = 0 → clS (rdS d k).2.2.2 + (rdS d k).2.1 = k) ∧ ∀ x, x ∈ (rdS d k).2.2.2 → 1 ≤ x ∧ x ≤ 6764
theorem rd_RI (d : Nat → Int) : ∀ k, RI d k
  | 0 => ⟨fun i hi => absurd hi (Nat.not_lt_zero _), Nat.le_refl _, fun _ => rfl, fun x hx => absurd hx List.not_mem_nil⟩
  | k + 1 => by
    obtain ⟨hA, hB, hC, hD⟩ := rd_RI d k
    have hk := rdS_lo d k
    by_cases h : d k = 1 ∧ 0 < (rdS d k).2.1 ∧ d (k - 1) = 1
    · unfold RI
      rw [rdS_e h]
      dsimp only
      by_cases c : (rdS d k).2.1 ≤ 18
      · obtain ⟨e1, e2, e3⟩ := rd_end hA h.2.1 c h.2.2
        rw [if_pos c, if_pos c, clS_app, e1]
        refine ⟨fun i hi => absurd hi (Nat.not_lt_zero _), by omega, fun w => by have := hC w; omega, fun x hx => ?_⟩
        rcases List.mem_append.mp hx with hx | hx
        · exact hD x hx
        · rw [List.mem_singleton.mp hx]; exact ⟨e2, e3⟩
      · rw [if_neg c, if_neg c]
        exact ⟨fun i hi => absurd hi (Nat.not_lt_zero _), by omega, fun w => by omega, hD⟩
    · unfold RI
      rw [rdS_n h]
      dsimp only
      refine ⟨fun i hi => ?_, by omega, fun w => by have := hC w; omega, hD⟩
      rw [show k + 1 - ((rdS d k).2.1 + 1) = k - (rdS d k).2.1 by omega]
      by_cases c : i + 1 < (rdS d k).2.1
      · exact hA i c
      · intro w
        rw [show k - (rdS d k).2.1 + i = k - 1 by omega] at w
        rw [show k - 1 + 1 = k by omega] at w
        exact h ⟨w.2, by omega, w.1⟩
/-- the first of the numbers that are read -/
def clT (l : List Nat) : Nat → Nat
  | 0 => 0
  | k + 1 => clT l k + cl ((l.getD k 0 : Nat) : Int)
theorem clT_cons (x : Nat) (l : List Nat) : ∀ k, clT (x :: l) (k + 1) = cl (x : Int) + clT l k
  | 0 => by show 0 + cl (x : Int) = cl (x : Int) + 0; omega
  | k + 1 => by
    have ih := clT_cons x l k
    show clT (x :: l) (k + 1) + cl ((l.getD k 0 : Nat) : Int) = cl (x : Int) + (clT l k + cl ((l.getD k 0 : Nat) : Int))
    rw [ih]; omega
theorem clT_all : ∀ l : List Nat, clT l l.length = clS l
  | [] => rfl
  | x :: t => by
    show clT (x :: t) (t.length + 1) = cl (x : Int) + clS t
    rw [clT_cons, clT_all t]
theorem cl_19 (z : Int) : cl z ≤ 19 := by
  have := hl_le 18 (gm 18 z.toNat)
  unfold cl; omega
theorem clT_r (l : List Nat) : ∀ k, clT l k ≤ 19 * k
  | 0 => Nat.le_refl _
  | k + 1 => by
    have h1 := clT_r l k
    have h2 := cl_19 ((l.getD k 0 : Nat) : Int)
    simp only [clT]; omega
theorem rd_get {d : Nat → Int} {k i : Nat} (h : i < (rdS d k).2.2.2.length) : 1 ≤ (rdS d k).2.2.2.getD i 0 ∧ (rdS d k).2.2.2.getD i 0 ≤ 6764 := by
  have hm : (rdS d k).2.2.2.getD i 0 ∈ (rdS d k).2.2.2 := by
    rw [List.getD_eq_getElem?_getD, List.getElem?_eq_getElem h]
    exact List.getElem_mem h
  exact (rd_RI d k).2.2.2 _ hm
/-- a code that is sent behind no loose digits is the next number that is read -/
theorem rd_send {z w : Nat → Int} {p : Nat} (h1 : 1 ≤ p) (h2 : p ≤ 6764) (hw : ∀ j, j < 74 → w j = z j) (hlo : (rdZ z).2.1 = 0) (hL : (z 6).toNat + cl (p : Int) ≤ 64) : (rdZ (sdF w (z 6).toNat (gm 18 p) (cl (p : Int)) (cl (p : Int)))).2 = (0, (rdZ z).2.2.1, (rdZ z).2.2.2 ++ [p]) := by
  have hc := cl_n p
  have hN := NA_gm h2
  have hm := gm_18 p
  have hp := hl_pos (k := 18) (m := gm 18 p) (by rw [← cn_18 hm]; exact cn_gm h2 h1)
  have hle := hl_le 18 (gm 18 p)
  have hb := hl_bit (k := 18) (m := gm 18 p) (by omega)
  obtain ⟨L, eL⟩ : ∃ L, L = (z 6).toNat := ⟨_, rfl⟩
  obtain ⟨H, eH⟩ : ∃ H, H = hl 18 (gm 18 p) := ⟨_, rfl⟩
  obtain ⟨m, em⟩ : ∃ m, m = gm 18 p := ⟨_, rfl⟩
  rw [← eH] at hc hp hle hb
  rw [hc] at hL ⊢
  rw [← eL] at hL ⊢
  have hup : ∀ i, H ≤ i → m.testBit i = false := fun i hi => by
    by_cases c : i < 18
    · rw [em]; exact hl_up (k := 18) (by omega) c
    · rw [em]
      exact Nat.testBit_lt_two_pow (Nat.lt_of_lt_of_le hm (Nat.pow_le_pow_right (n := 2) (by decide) (show 18 ≤ i by omega)))
  rw [← em] at hN hb ⊢
  obtain ⟨d, ed⟩ : ∃ d : Nat → Int, d = fun j => sdF w L m (H + 1) (H + 1) (7 + j) := ⟨_, rfl⟩
  have e6 : sdF w L m (H + 1) (H + 1) 6 = ((L + (H + 1) : Nat) : Int) := by simp only [sdF]; rw [if_pos trivial]; omega
  have eR : rdZ (sdF w L m (H + 1) (H + 1)) = rdS d (L + (H + 1)) := by
    unfold rdZ
    rw [e6, ed]; rfl
  have d1 : ∀ j, j < L → d j = z (7 + j) := fun j hj => by
    rw [ed]; simp only [sdF]
    rw [if_neg (by omega), if_neg (by omega)]
    exact hw _ (by omega)
  have d2 : ∀ i, i < H → d (L + i) = ((m >>> i &&& 1 : Nat) : Int) := fun i hi => by
    rw [ed]; simp only [sdF]
    rw [if_neg (by omega), if_pos (by omega), show 7 + (L + i) - 7 - L = i by omega, if_neg (by omega)]
  have d3 : d (L + H) = 1 := by
    rw [ed]; simp only [sdF]
    rw [if_neg (by omega), if_pos (by omega), show 7 + (L + H) - 7 - L = H by omega, if_pos rfl]
  have s0 : rdS d L = rdZ z := by
    unfold rdZ
    rw [← eL]
    exact rdS_cg d1
  have st : ∀ i, i ≤ H → (rdS d (L + i)).2 = (i, (rdZ z).2.2.1, (rdZ z).2.2.2) := by
    intro i
    induction i with
    | zero => intro _; rw [Nat.add_zero, s0, ← hlo]
    | succ i ih =>
      intro hi
      have ih := ih (by omega)
      have b1 := d2 i (by omega)
      have hn : ¬ (d (L + i) = 1 ∧ 0 < (rdS d (L + i)).2.1 ∧ d (L + i - 1) = 1) := by
        rw [ih]
        rintro ⟨w1, w2, w3⟩
        have w2 : 0 < i := w2
        rw [show L + i - 1 = L + (i - 1) by omega, d2 (i - 1) (by omega)] at w3
        rw [b1] at w1
        have t1 : m.testBit (i - 1) = true := by
          rcases e : m.testBit (i - 1) with _ | _
          · exact absurd w3 (bit_f e)
          · rfl
        have t2 := hN (i - 1) t1
        rw [show i - 1 + 1 = i by omega] at t2
        exact absurd w1 (bit_f t2)
      rw [← Nat.add_assoc, rdS_n hn]
      dsimp only
      rw [ih]
  have sH := st H (Nat.le_refl _)
  have he : d (L + H) = 1 ∧ 0 < (rdS d (L + H)).2.1 ∧ d (L + H - 1) = 1 := by
    refine ⟨d3, by rw [sH]; exact hp, ?_⟩
    rw [show L + H - 1 = L + (H - 1) by omega, d2 (H - 1) (by omega)]
    exact bit_t hb
  have hM : (rdS d (L + H)).1 = m := by
    apply Nat.eq_of_testBit_eq
    intro i
    rw [rdS_tb, sH]
    dsimp only
    by_cases c : i < H
    · rw [decide_eq_true c, decide_eq_true (show i < 18 by omega), show L + H - H + i = L + i by omega, d2 i c]
      rcases e : m.testBit i with _ | _
      · rw [decide_eq_false (bit_f e)]; rfl
      · rw [decide_eq_true (bit_t e)]; rfl
    · rw [decide_eq_false c, hup i (by omega)]; simp
  rw [eR, ← Nat.add_assoc, rdS_e he, sH, hM]
  dsimp only
  rw [if_pos hle, if_pos hle, em, wo_18 hm, wo_gm h2]
