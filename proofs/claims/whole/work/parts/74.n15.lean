/-! the law's loop -/
def LW (G : GT) (x : CxT) (sa L : Nat) (xs : Nat → Int32) : Prop := Cx G mL_law x ∧ va_X sa L xs x.2.2.2.1 x.2.2.2.1.heap ∧ sa < x.2.2.2.1.heap.size ∧ ¬ gA G sa ∧ L ≤ 2048
def LL (G : GT) (x : CxT) (sa pc : Nat) (i : Int) (K : Nat → Nat → Int) (r : Nat → Option Nat) (n : Nat) : Prop :=
  ∀ (o5 o6 o7 o8 : Option Value), V G mL_law x pc [some (.ref sa), some (rf G 0), some (rf G 28), some (rf G 33), some (.int (iI i)), o5, o6, o7, o8] [] 34 false (HP G K r) n (6 * n)
def GG (K : Nat → Nat → Int) (r : Nat → Option Nat) : Prop := ∃ s st kp t T, IC K r s st kp t T ∧ GI s st kp t T ∧ RH K s st kp t T
theorem RH_FR {K K1 : Nat → Nat → Int} {s : Nat → Int} {st : Nat} {kp : Int} {t : Nat → Int} {T : Nat} (h : RH K s st kp t T) (hf : FR K K1) : RH K1 s st kp t T := by
  unfold RH at *
  rw [hf 29 (by decide), hf 28 (by decide), hf 30 (by decide)]
  exact h
theorem RH_33 {K : Nat → Nat → Int} {s : Nat → Int} {st : Nat} {kp : Int} {t : Nat → Int} {T : Nat} {v : Nat → Int} (h : RH K s st kp t T) : RH (us K 33 v) s st kp t T := by
  unfold RH at *
  rw [us_ne _ _ (show (29 : Nat) ≠ 33 by decide), us_ne _ _ (show (28 : Nat) ≠ 33 by decide), us_ne _ _ (show (30 : Nat) ≠ 33 by decide)]
  exact h
set_option maxRecDepth 100000 in
set_option maxHeartbeats 4000000 in
theorem w_set {G : GT} {x : CxT} {sa L : Nat} {xs : Nat → Int32} (hW : LW G x sa L xs) {i : Int} (hi : 0 ≤ i ∧ i + 3 < L) {n : Nat} {p : Int} (ep : xs (i + 1).toNat = iI p) {q : Int} (eq : xs (i + 2).toNat = iI q) {K K1 K2 : Nat → Nat → Int} {r r1 : Nat → Option Nat} {k b : Int} (hk : 0 ≤ k ∧ k ≤ 3) (hb : -2147483648 ≤ b ∧ b < 2147483648) (hh : CtH G yL_set mL_set [rf G 0, .int (iI p), .int (iI q), rf G 33] 34 false (HP G K r) 1 6 (some (.int (iI k))) 34 false (HP G K1 r1)) (hm : CtO G yX6_set mX6_set [rf G 28, .int (iI p), .int (iI q)] K1 r1 (some (.int (iI b))) K2 r1) (h3 : K2 28 3 = k) (h33 : k = 0 → K2 33 0 = b) (cont : LL G x sa 23 (i + 4) K2 r1 n) : LL G x sa 228 i K r (n + 1) := by
  intro o5 o6 o7 o8
  obtain ⟨C, hX, hsz, hA, hL⟩ := hW
  by_cases k0 : k = 0
  · skip
    refine V_aload_n C dL_law_228 rfl rfl ?_
    refine V_aload_nq C dL_law_229 rfl rfl ?_
    refine V_iload C dL_law_230 rfl ?_
    refine V_iconst C dL_law_232 ?_
    refine V_iadd C dL_law_233 ?_
    refine V_sld C dL_law_234 hX hsz hA (by omega) (by omega) ?_
    rw [ep]
    refine V_aload_nq C dL_law_235 rfl rfl ?_
    refine V_iload C dL_law_236 rfl ?_
    refine V_iconst C dL_law_238 ?_
    refine V_iadd C dL_law_239 ?_
    refine V_sld C dL_law_240 hX hsz hA (by omega) (by omega) ?_
    rw [eq]
    refine V_aload_n C dL_law_241 rfl rfl ?_
    refine V_SH1 (k2 := n) (s2 := 6 * n) C dL_law_242 lL_116 kL_set (hh) rfl rfl ⟨Nat.le_of_ble_eq_true rfl, Nat.le_of_ble_eq_true rfl⟩ (Nat.le_of_ble_eq_true rfl) (by omega) (by omega) ?_
    refine V_istore C dL_law_245 (Nat.le_of_ble_eq_true rfl) rfl ?_
    refine V_aload_n C dL_law_247 rfl rfl ?_
    refine V_aload_nq C dL_law_248 rfl rfl ?_
    refine V_iload C dL_law_249 rfl ?_
    refine V_iconst C dL_law_251 ?_
    refine V_iadd C dL_law_252 ?_
    refine V_sld C dL_law_253 hX hsz hA (by omega) (by omega) ?_
    rw [ep]
    refine V_aload_nq C dL_law_254 rfl rfl ?_
    refine V_iload C dL_law_255 rfl ?_
    refine V_iconst C dL_law_257 ?_
    refine V_iadd C dL_law_258 ?_
    refine V_sld C dL_law_259 hX hsz hA (by omega) (by omega) ?_
    rw [eq]
    refine V_V1 (k2 := n) (s2 := 6 * n) C dL_law_260 lL_121 kX6_set (hm) (by decide) (rfl) rfl rfl rfl ⟨Nat.le_of_ble_eq_true rfl, Nat.le_of_ble_eq_true rfl⟩ (Nat.le_of_ble_eq_true rfl) (by omega) (by omega) ?_
    refine V_istore C dL_law_263 (Nat.le_of_ble_eq_true rfl) rfl ?_
    refine V_aload_n C dL_law_265 rfl rfl ?_
    refine V_V1 (k2 := n) (s2 := 6 * n) C dL_law_266 lL_122 kX6_thrown (c_X6_thrown G K2 r1) (by decide) (rfl) rfl rfl rfl ⟨Nat.le_of_ble_eq_true rfl, Nat.le_of_ble_eq_true rfl⟩ (Nat.le_of_ble_eq_true rfl) (by omega) (by omega) ?_
    rw [h3]
    refine V_iload C dL_law_269 rfl ?_
    refine V_icmp_eq (tgt := 276) C dL_law_271 (by decide) (by omega) (by omega) (fun q271 => ?_) (fun q271 => by exfalso; omega)
    refine V_iload C dL_law_276 rfl ?_
    refine V_if_ne (tgt := 293) C dL_law_278 (by decide) (by omega) (fun q278 => by exfalso; omega) (fun q278 => ?_)
    refine V_aload_n C dL_law_281 rfl rfl ?_
    refine V_iconst C dL_law_282 ?_
    refine V_laldH C dL_law_283 (by decide) (fun _ => rfl) (by omega) (by decide) ?_
    rw [show K2 33 (0 : Int).toNat = b from h33 k0]
    refine V_iload C dL_law_284 rfl ?_
    refine V_i2l C dL_law_286 (by omega) ?_
    refine V_lcmp C dL_law_287 ?_
    rw [lcmp_eq]
    refine V_if_eq (tgt := 293) C dL_law_288 (by decide) (by omega) (fun q288 => ?_) (fun q288 => by exfalso; omega)
    refine V_goto (tgt := 2222) C dL_law_293 (by decide) ?_
    refine V_iinc C dL_law_2222 rfl (Nat.le_of_ble_eq_true rfl) rfl ?_
    refine V_goto (tgt := 23) C dL_law_2225 (by decide) ?_
    exact cont _ _ _ _
  · skip
    refine V_aload_n C dL_law_228 rfl rfl ?_
    refine V_aload_nq C dL_law_229 rfl rfl ?_
    refine V_iload C dL_law_230 rfl ?_
    refine V_iconst C dL_law_232 ?_
    refine V_iadd C dL_law_233 ?_
    refine V_sld C dL_law_234 hX hsz hA (by omega) (by omega) ?_
    rw [ep]
    refine V_aload_nq C dL_law_235 rfl rfl ?_
    refine V_iload C dL_law_236 rfl ?_
    refine V_iconst C dL_law_238 ?_
    refine V_iadd C dL_law_239 ?_
    refine V_sld C dL_law_240 hX hsz hA (by omega) (by omega) ?_
    rw [eq]
    refine V_aload_n C dL_law_241 rfl rfl ?_
    refine V_SH1 (k2 := n) (s2 := 6 * n) C dL_law_242 lL_116 kL_set (hh) rfl rfl ⟨Nat.le_of_ble_eq_true rfl, Nat.le_of_ble_eq_true rfl⟩ (Nat.le_of_ble_eq_true rfl) (by omega) (by omega) ?_
    refine V_istore C dL_law_245 (Nat.le_of_ble_eq_true rfl) rfl ?_
    refine V_aload_n C dL_law_247 rfl rfl ?_
    refine V_aload_nq C dL_law_248 rfl rfl ?_
    refine V_iload C dL_law_249 rfl ?_
    refine V_iconst C dL_law_251 ?_
    refine V_iadd C dL_law_252 ?_
    refine V_sld C dL_law_253 hX hsz hA (by omega) (by omega) ?_
    rw [ep]
    refine V_aload_nq C dL_law_254 rfl rfl ?_
    refine V_iload C dL_law_255 rfl ?_
    refine V_iconst C dL_law_257 ?_
    refine V_iadd C dL_law_258 ?_
    refine V_sld C dL_law_259 hX hsz hA (by omega) (by omega) ?_
    rw [eq]
    refine V_V1 (k2 := n) (s2 := 6 * n) C dL_law_260 lL_121 kX6_set (hm) (by decide) (rfl) rfl rfl rfl ⟨Nat.le_of_ble_eq_true rfl, Nat.le_of_ble_eq_true rfl⟩ (Nat.le_of_ble_eq_true rfl) (by omega) (by omega) ?_
    refine V_istore C dL_law_263 (Nat.le_of_ble_eq_true rfl) rfl ?_
    refine V_aload_n C dL_law_265 rfl rfl ?_
    refine V_V1 (k2 := n) (s2 := 6 * n) C dL_law_266 lL_122 kX6_thrown (c_X6_thrown G K2 r1) (by decide) (rfl) rfl rfl rfl ⟨Nat.le_of_ble_eq_true rfl, Nat.le_of_ble_eq_true rfl⟩ (Nat.le_of_ble_eq_true rfl) (by omega) (by omega) ?_
    rw [h3]
    refine V_iload C dL_law_269 rfl ?_
    refine V_icmp_eq (tgt := 276) C dL_law_271 (by decide) (by omega) (by omega) (fun q271 => ?_) (fun q271 => by exfalso; omega)
    refine V_iload C dL_law_276 rfl ?_
    refine V_if_ne (tgt := 293) C dL_law_278 (by decide) (by omega) (fun q278 => ?_) (fun q278 => by exfalso; omega)
    refine V_goto (tgt := 2222) C dL_law_293 (by decide) ?_
    refine V_iinc C dL_law_2222 rfl (Nat.le_of_ble_eq_true rfl) rfl ?_
    refine V_goto (tgt := 23) C dL_law_2225 (by decide) ?_
    exact cont _ _ _ _
set_option maxRecDepth 100000 in
set_option maxHeartbeats 4000000 in
theorem w_add {G : GT} {x : CxT} {sa L : Nat} {xs : Nat → Int32} (hW : LW G x sa L xs) {i : Int} (hi : 0 ≤ i ∧ i + 3 < L) {n : Nat} {p : Int} (ep : xs (i + 1).toNat = iI p) {q : Int} (eq : xs (i + 2).toNat = iI q) {K K1 K2 : Nat → Nat → Int} {r r1 : Nat → Option Nat} {k b : Int} (hk : 0 ≤ k ∧ k ≤ 3) (hb : -2147483648 ≤ b ∧ b < 2147483648) (hh : CtH G yL_add mL_add [rf G 0, .int (iI p), .int (iI q), rf G 33] 34 false (HP G K r) 1 6 (some (.int (iI k))) 34 false (HP G K1 r1)) (hm : CtO G yX6_add mX6_add [rf G 28, .int (iI p), .int (iI q)] K1 r1 (some (.int (iI b))) K2 r1) (h3 : K2 28 3 = k) (h33 : k = 0 → K2 33 0 = b) (cont : LL G x sa 23 (i + 4) K2 r1 n) : LL G x sa 296 i K r (n + 1) := by
  intro o5 o6 o7 o8
  obtain ⟨C, hX, hsz, hA, hL⟩ := hW
  by_cases k0 : k = 0
  · skip
    refine V_aload_n C dL_law_296 rfl rfl ?_
    refine V_aload_nq C dL_law_297 rfl rfl ?_
    refine V_iload C dL_law_298 rfl ?_
    refine V_iconst C dL_law_300 ?_
    refine V_iadd C dL_law_301 ?_
    refine V_sld C dL_law_302 hX hsz hA (by omega) (by omega) ?_
    rw [ep]
    refine V_aload_nq C dL_law_303 rfl rfl ?_
    refine V_iload C dL_law_304 rfl ?_
    refine V_iconst C dL_law_306 ?_
    refine V_iadd C dL_law_307 ?_
    refine V_sld C dL_law_308 hX hsz hA (by omega) (by omega) ?_
    rw [eq]
    refine V_aload_n C dL_law_309 rfl rfl ?_
    refine V_SH1 (k2 := n) (s2 := 6 * n) C dL_law_310 lL_125 kL_add (hh) rfl rfl ⟨Nat.le_of_ble_eq_true rfl, Nat.le_of_ble_eq_true rfl⟩ (Nat.le_of_ble_eq_true rfl) (by omega) (by omega) ?_
    refine V_istore C dL_law_313 (Nat.le_of_ble_eq_true rfl) rfl ?_
    refine V_aload_n C dL_law_315 rfl rfl ?_
    refine V_aload_nq C dL_law_316 rfl rfl ?_
    refine V_iload C dL_law_317 rfl ?_
    refine V_iconst C dL_law_319 ?_
    refine V_iadd C dL_law_320 ?_
    refine V_sld C dL_law_321 hX hsz hA (by omega) (by omega) ?_
    rw [ep]
    refine V_aload_nq C dL_law_322 rfl rfl ?_
    refine V_iload C dL_law_323 rfl ?_
    refine V_iconst C dL_law_325 ?_
    refine V_iadd C dL_law_326 ?_
    refine V_sld C dL_law_327 hX hsz hA (by omega) (by omega) ?_
    rw [eq]
    refine V_V1 (k2 := n) (s2 := 6 * n) C dL_law_328 lL_127 kX6_add (hm) (by decide) (rfl) rfl rfl rfl ⟨Nat.le_of_ble_eq_true rfl, Nat.le_of_ble_eq_true rfl⟩ (Nat.le_of_ble_eq_true rfl) (by omega) (by omega) ?_
    refine V_istore C dL_law_331 (Nat.le_of_ble_eq_true rfl) rfl ?_
    refine V_aload_n C dL_law_333 rfl rfl ?_
    refine V_V1 (k2 := n) (s2 := 6 * n) C dL_law_334 lL_122 kX6_thrown (c_X6_thrown G K2 r1) (by decide) (rfl) rfl rfl rfl ⟨Nat.le_of_ble_eq_true rfl, Nat.le_of_ble_eq_true rfl⟩ (Nat.le_of_ble_eq_true rfl) (by omega) (by omega) ?_
    rw [h3]
    refine V_iload C dL_law_337 rfl ?_
    refine V_icmp_eq (tgt := 344) C dL_law_339 (by decide) (by omega) (by omega) (fun q339 => ?_) (fun q339 => by exfalso; omega)
    refine V_iload C dL_law_344 rfl ?_
    refine V_if_ne (tgt := 361) C dL_law_346 (by decide) (by omega) (fun q346 => by exfalso; omega) (fun q346 => ?_)
    refine V_aload_n C dL_law_349 rfl rfl ?_
    refine V_iconst C dL_law_350 ?_
    refine V_laldH C dL_law_351 (by decide) (fun _ => rfl) (by omega) (by decide) ?_
    rw [show K2 33 (0 : Int).toNat = b from h33 k0]
    refine V_iload C dL_law_352 rfl ?_
    refine V_i2l C dL_law_354 (by omega) ?_
    refine V_lcmp C dL_law_355 ?_
    rw [lcmp_eq]
    refine V_if_eq (tgt := 361) C dL_law_356 (by decide) (by omega) (fun q356 => ?_) (fun q356 => by exfalso; omega)
    refine V_goto (tgt := 2222) C dL_law_361 (by decide) ?_
    refine V_iinc C dL_law_2222 rfl (Nat.le_of_ble_eq_true rfl) rfl ?_
    refine V_goto (tgt := 23) C dL_law_2225 (by decide) ?_
    exact cont _ _ _ _
  · skip
    refine V_aload_n C dL_law_296 rfl rfl ?_
    refine V_aload_nq C dL_law_297 rfl rfl ?_
    refine V_iload C dL_law_298 rfl ?_
    refine V_iconst C dL_law_300 ?_
    refine V_iadd C dL_law_301 ?_
    refine V_sld C dL_law_302 hX hsz hA (by omega) (by omega) ?_
    rw [ep]
    refine V_aload_nq C dL_law_303 rfl rfl ?_
    refine V_iload C dL_law_304 rfl ?_
    refine V_iconst C dL_law_306 ?_
    refine V_iadd C dL_law_307 ?_
    refine V_sld C dL_law_308 hX hsz hA (by omega) (by omega) ?_
    rw [eq]
    refine V_aload_n C dL_law_309 rfl rfl ?_
    refine V_SH1 (k2 := n) (s2 := 6 * n) C dL_law_310 lL_125 kL_add (hh) rfl rfl ⟨Nat.le_of_ble_eq_true rfl, Nat.le_of_ble_eq_true rfl⟩ (Nat.le_of_ble_eq_true rfl) (by omega) (by omega) ?_
    refine V_istore C dL_law_313 (Nat.le_of_ble_eq_true rfl) rfl ?_
    refine V_aload_n C dL_law_315 rfl rfl ?_
    refine V_aload_nq C dL_law_316 rfl rfl ?_
    refine V_iload C dL_law_317 rfl ?_
    refine V_iconst C dL_law_319 ?_
    refine V_iadd C dL_law_320 ?_
    refine V_sld C dL_law_321 hX hsz hA (by omega) (by omega) ?_
    rw [ep]
    refine V_aload_nq C dL_law_322 rfl rfl ?_
    refine V_iload C dL_law_323 rfl ?_
    refine V_iconst C dL_law_325 ?_
    refine V_iadd C dL_law_326 ?_
    refine V_sld C dL_law_327 hX hsz hA (by omega) (by omega) ?_
    rw [eq]
    refine V_V1 (k2 := n) (s2 := 6 * n) C dL_law_328 lL_127 kX6_add (hm) (by decide) (rfl) rfl rfl rfl ⟨Nat.le_of_ble_eq_true rfl, Nat.le_of_ble_eq_true rfl⟩ (Nat.le_of_ble_eq_true rfl) (by omega) (by omega) ?_
    refine V_istore C dL_law_331 (Nat.le_of_ble_eq_true rfl) rfl ?_
    refine V_aload_n C dL_law_333 rfl rfl ?_
    refine V_V1 (k2 := n) (s2 := 6 * n) C dL_law_334 lL_122 kX6_thrown (c_X6_thrown G K2 r1) (by decide) (rfl) rfl rfl rfl ⟨Nat.le_of_ble_eq_true rfl, Nat.le_of_ble_eq_true rfl⟩ (Nat.le_of_ble_eq_true rfl) (by omega) (by omega) ?_
    rw [h3]
    refine V_iload C dL_law_337 rfl ?_
    refine V_icmp_eq (tgt := 344) C dL_law_339 (by decide) (by omega) (by omega) (fun q339 => ?_) (fun q339 => by exfalso; omega)
    refine V_iload C dL_law_344 rfl ?_
    refine V_if_ne (tgt := 361) C dL_law_346 (by decide) (by omega) (fun q346 => ?_) (fun q346 => by exfalso; omega)
    refine V_goto (tgt := 2222) C dL_law_361 (by decide) ?_
    refine V_iinc C dL_law_2222 rfl (Nat.le_of_ble_eq_true rfl) rfl ?_
    refine V_goto (tgt := 23) C dL_law_2225 (by decide) ?_
    exact cont _ _ _ _
set_option maxRecDepth 100000 in
set_option maxHeartbeats 4000000 in
theorem w_takeAway {G : GT} {x : CxT} {sa L : Nat} {xs : Nat → Int32} (hW : LW G x sa L xs) {i : Int} (hi : 0 ≤ i ∧ i + 3 < L) {n : Nat} {p : Int} (ep : xs (i + 1).toNat = iI p) {q : Int} (eq : xs (i + 2).toNat = iI q) {K K1 K2 : Nat → Nat → Int} {r r1 : Nat → Option Nat} {k b : Int} (hk : 0 ≤ k ∧ k ≤ 3) (hb : -2147483648 ≤ b ∧ b < 2147483648) (hh : CtH G yL_takeAway mL_takeAway [rf G 0, .int (iI p), .int (iI q), rf G 33] 34 false (HP G K r) 1 6 (some (.int (iI k))) 34 false (HP G K1 r1)) (hm : CtO G yX6_takeAway mX6_takeAway [rf G 28, .int (iI p), .int (iI q)] K1 r1 (some (.int (iI b))) K2 r1) (h3 : K2 28 3 = k) (h33 : k = 0 → K2 33 0 = b) (cont : LL G x sa 23 (i + 4) K2 r1 n) : LL G x sa 364 i K r (n + 1) := by
  intro o5 o6 o7 o8
  obtain ⟨C, hX, hsz, hA, hL⟩ := hW
  by_cases k0 : k = 0
  · skip
    refine V_aload_n C dL_law_364 rfl rfl ?_
    refine V_aload_nq C dL_law_365 rfl rfl ?_
    refine V_iload C dL_law_366 rfl ?_
    refine V_iconst C dL_law_368 ?_
    refine V_iadd C dL_law_369 ?_
    refine V_sld C dL_law_370 hX hsz hA (by omega) (by omega) ?_
    rw [ep]
    refine V_aload_nq C dL_law_371 rfl rfl ?_
    refine V_iload C dL_law_372 rfl ?_
    refine V_iconst C dL_law_374 ?_
    refine V_iadd C dL_law_375 ?_
    refine V_sld C dL_law_376 hX hsz hA (by omega) (by omega) ?_
    rw [eq]
    refine V_aload_n C dL_law_377 rfl rfl ?_
    refine V_SH1 (k2 := n) (s2 := 6 * n) C dL_law_378 lL_128 kL_takeAway (hh) rfl rfl ⟨Nat.le_of_ble_eq_true rfl, Nat.le_of_ble_eq_true rfl⟩ (Nat.le_of_ble_eq_true rfl) (by omega) (by omega) ?_
    refine V_istore C dL_law_381 (Nat.le_of_ble_eq_true rfl) rfl ?_
    refine V_aload_n C dL_law_383 rfl rfl ?_
    refine V_aload_nq C dL_law_384 rfl rfl ?_
    refine V_iload C dL_law_385 rfl ?_
    refine V_iconst C dL_law_387 ?_
    refine V_iadd C dL_law_388 ?_
    refine V_sld C dL_law_389 hX hsz hA (by omega) (by omega) ?_
    rw [ep]
    refine V_aload_nq C dL_law_390 rfl rfl ?_
    refine V_iload C dL_law_391 rfl ?_
    refine V_iconst C dL_law_393 ?_
    refine V_iadd C dL_law_394 ?_
    refine V_sld C dL_law_395 hX hsz hA (by omega) (by omega) ?_
    rw [eq]
    refine V_V1 (k2 := n) (s2 := 6 * n) C dL_law_396 lL_130 kX6_takeAway (hm) (by decide) (rfl) rfl rfl rfl ⟨Nat.le_of_ble_eq_true rfl, Nat.le_of_ble_eq_true rfl⟩ (Nat.le_of_ble_eq_true rfl) (by omega) (by omega) ?_
    refine V_istore C dL_law_399 (Nat.le_of_ble_eq_true rfl) rfl ?_
    refine V_aload_n C dL_law_401 rfl rfl ?_
    refine V_V1 (k2 := n) (s2 := 6 * n) C dL_law_402 lL_122 kX6_thrown (c_X6_thrown G K2 r1) (by decide) (rfl) rfl rfl rfl ⟨Nat.le_of_ble_eq_true rfl, Nat.le_of_ble_eq_true rfl⟩ (Nat.le_of_ble_eq_true rfl) (by omega) (by omega) ?_
    rw [h3]
    refine V_iload C dL_law_405 rfl ?_
    refine V_icmp_eq (tgt := 412) C dL_law_407 (by decide) (by omega) (by omega) (fun q407 => ?_) (fun q407 => by exfalso; omega)
    refine V_iload C dL_law_412 rfl ?_
    refine V_if_ne (tgt := 429) C dL_law_414 (by decide) (by omega) (fun q414 => by exfalso; omega) (fun q414 => ?_)
    refine V_aload_n C dL_law_417 rfl rfl ?_
    refine V_iconst C dL_law_418 ?_
    refine V_laldH C dL_law_419 (by decide) (fun _ => rfl) (by omega) (by decide) ?_
    rw [show K2 33 (0 : Int).toNat = b from h33 k0]
    refine V_iload C dL_law_420 rfl ?_
    refine V_i2l C dL_law_422 (by omega) ?_
    refine V_lcmp C dL_law_423 ?_
    rw [lcmp_eq]
    refine V_if_eq (tgt := 429) C dL_law_424 (by decide) (by omega) (fun q424 => ?_) (fun q424 => by exfalso; omega)
    refine V_goto (tgt := 2222) C dL_law_429 (by decide) ?_
    refine V_iinc C dL_law_2222 rfl (Nat.le_of_ble_eq_true rfl) rfl ?_
    refine V_goto (tgt := 23) C dL_law_2225 (by decide) ?_
    exact cont _ _ _ _
  · skip
    refine V_aload_n C dL_law_364 rfl rfl ?_
    refine V_aload_nq C dL_law_365 rfl rfl ?_
    refine V_iload C dL_law_366 rfl ?_
    refine V_iconst C dL_law_368 ?_
    refine V_iadd C dL_law_369 ?_
    refine V_sld C dL_law_370 hX hsz hA (by omega) (by omega) ?_
    rw [ep]
    refine V_aload_nq C dL_law_371 rfl rfl ?_
    refine V_iload C dL_law_372 rfl ?_
    refine V_iconst C dL_law_374 ?_
    refine V_iadd C dL_law_375 ?_
    refine V_sld C dL_law_376 hX hsz hA (by omega) (by omega) ?_
    rw [eq]
    refine V_aload_n C dL_law_377 rfl rfl ?_
    refine V_SH1 (k2 := n) (s2 := 6 * n) C dL_law_378 lL_128 kL_takeAway (hh) rfl rfl ⟨Nat.le_of_ble_eq_true rfl, Nat.le_of_ble_eq_true rfl⟩ (Nat.le_of_ble_eq_true rfl) (by omega) (by omega) ?_
    refine V_istore C dL_law_381 (Nat.le_of_ble_eq_true rfl) rfl ?_
    refine V_aload_n C dL_law_383 rfl rfl ?_
    refine V_aload_nq C dL_law_384 rfl rfl ?_
    refine V_iload C dL_law_385 rfl ?_
    refine V_iconst C dL_law_387 ?_
    refine V_iadd C dL_law_388 ?_
    refine V_sld C dL_law_389 hX hsz hA (by omega) (by omega) ?_
    rw [ep]
    refine V_aload_nq C dL_law_390 rfl rfl ?_
    refine V_iload C dL_law_391 rfl ?_
    refine V_iconst C dL_law_393 ?_
    refine V_iadd C dL_law_394 ?_
    refine V_sld C dL_law_395 hX hsz hA (by omega) (by omega) ?_
    rw [eq]
    refine V_V1 (k2 := n) (s2 := 6 * n) C dL_law_396 lL_130 kX6_takeAway (hm) (by decide) (rfl) rfl rfl rfl ⟨Nat.le_of_ble_eq_true rfl, Nat.le_of_ble_eq_true rfl⟩ (Nat.le_of_ble_eq_true rfl) (by omega) (by omega) ?_
    refine V_istore C dL_law_399 (Nat.le_of_ble_eq_true rfl) rfl ?_
    refine V_aload_n C dL_law_401 rfl rfl ?_
    refine V_V1 (k2 := n) (s2 := 6 * n) C dL_law_402 lL_122 kX6_thrown (c_X6_thrown G K2 r1) (by decide) (rfl) rfl rfl rfl ⟨Nat.le_of_ble_eq_true rfl, Nat.le_of_ble_eq_true rfl⟩ (Nat.le_of_ble_eq_true rfl) (by omega) (by omega) ?_
    rw [h3]
    refine V_iload C dL_law_405 rfl ?_
    refine V_icmp_eq (tgt := 412) C dL_law_407 (by decide) (by omega) (by omega) (fun q407 => ?_) (fun q407 => by exfalso; omega)
    refine V_iload C dL_law_412 rfl ?_
    refine V_if_ne (tgt := 429) C dL_law_414 (by decide) (by omega) (fun q414 => ?_) (fun q414 => by exfalso; omega)
    refine V_goto (tgt := 2222) C dL_law_429 (by decide) ?_
    refine V_iinc C dL_law_2222 rfl (Nat.le_of_ble_eq_true rfl) rfl ?_
    refine V_goto (tgt := 23) C dL_law_2225 (by decide) ?_
    exact cont _ _ _ _
set_option maxRecDepth 100000 in
set_option maxHeartbeats 4000000 in
theorem w_raise {G : GT} {x : CxT} {sa L : Nat} {xs : Nat → Int32} (hW : LW G x sa L xs) {i : Int} (hi : 0 ≤ i ∧ i + 3 < L) {n : Nat} {p : Int} (ep : xs (i + 1).toNat = iI p) {K K1 K2 : Nat → Nat → Int} {r r1 : Nat → Option Nat} {k b : Int} (hk : 0 ≤ k ∧ k ≤ 3) (hb : -2147483648 ≤ b ∧ b < 2147483648) (hh : CtH G yL_raise mL_raise [rf G 0, .int (iI p), rf G 33] 34 false (HP G K r) 1 6 (some (.int (iI k))) 34 false (HP G K1 r1)) (hm : CtO G yX6_raise mX6_raise [rf G 28, .int (iI p)] K1 r1 (some (.int (iI b))) K2 r1) (h3 : K2 28 3 = k) (h33 : k = 0 → K2 33 0 = b) (cont : LL G x sa 23 (i + 4) K2 r1 n) : LL G x sa 432 i K r (n + 1) := by
  intro o5 o6 o7 o8
  obtain ⟨C, hX, hsz, hA, hL⟩ := hW
  by_cases k0 : k = 0
  · skip
    refine V_aload_n C dL_law_432 rfl rfl ?_
    refine V_aload_nq C dL_law_433 rfl rfl ?_
    refine V_iload C dL_law_434 rfl ?_
    refine V_iconst C dL_law_436 ?_
    refine V_iadd C dL_law_437 ?_
    refine V_sld C dL_law_438 hX hsz hA (by omega) (by omega) ?_
    rw [ep]
    refine V_aload_n C dL_law_439 rfl rfl ?_
    refine V_SH1 (k2 := n) (s2 := 6 * n) C dL_law_440 lL_131 kL_raise (hh) rfl rfl ⟨Nat.le_of_ble_eq_true rfl, Nat.le_of_ble_eq_true rfl⟩ (Nat.le_of_ble_eq_true rfl) (by omega) (by omega) ?_
    refine V_istore C dL_law_443 (Nat.le_of_ble_eq_true rfl) rfl ?_
    refine V_aload_n C dL_law_445 rfl rfl ?_
    refine V_aload_nq C dL_law_446 rfl rfl ?_
    refine V_iload C dL_law_447 rfl ?_
    refine V_iconst C dL_law_449 ?_
    refine V_iadd C dL_law_450 ?_
    refine V_sld C dL_law_451 hX hsz hA (by omega) (by omega) ?_
    rw [ep]
    refine V_V1 (k2 := n) (s2 := 6 * n) C dL_law_452 lL_134 kX6_raise (hm) (by decide) (rfl) rfl rfl rfl ⟨Nat.le_of_ble_eq_true rfl, Nat.le_of_ble_eq_true rfl⟩ (Nat.le_of_ble_eq_true rfl) (by omega) (by omega) ?_
    refine V_istore C dL_law_455 (Nat.le_of_ble_eq_true rfl) rfl ?_
    refine V_aload_n C dL_law_457 rfl rfl ?_
    refine V_V1 (k2 := n) (s2 := 6 * n) C dL_law_458 lL_122 kX6_thrown (c_X6_thrown G K2 r1) (by decide) (rfl) rfl rfl rfl ⟨Nat.le_of_ble_eq_true rfl, Nat.le_of_ble_eq_true rfl⟩ (Nat.le_of_ble_eq_true rfl) (by omega) (by omega) ?_
    rw [h3]
    refine V_iload C dL_law_461 rfl ?_
    refine V_icmp_eq (tgt := 468) C dL_law_463 (by decide) (by omega) (by omega) (fun q463 => ?_) (fun q463 => by exfalso; omega)
    refine V_iload C dL_law_468 rfl ?_
    refine V_if_ne (tgt := 485) C dL_law_470 (by decide) (by omega) (fun q470 => by exfalso; omega) (fun q470 => ?_)
    refine V_aload_n C dL_law_473 rfl rfl ?_
    refine V_iconst C dL_law_474 ?_
    refine V_laldH C dL_law_475 (by decide) (fun _ => rfl) (by omega) (by decide) ?_
    rw [show K2 33 (0 : Int).toNat = b from h33 k0]
    refine V_iload C dL_law_476 rfl ?_
    refine V_i2l C dL_law_478 (by omega) ?_
    refine V_lcmp C dL_law_479 ?_
    rw [lcmp_eq]
    refine V_if_eq (tgt := 485) C dL_law_480 (by decide) (by omega) (fun q480 => ?_) (fun q480 => by exfalso; omega)
    refine V_goto (tgt := 2222) C dL_law_485 (by decide) ?_
    refine V_iinc C dL_law_2222 rfl (Nat.le_of_ble_eq_true rfl) rfl ?_
    refine V_goto (tgt := 23) C dL_law_2225 (by decide) ?_
    exact cont _ _ _ _
  · skip
    refine V_aload_n C dL_law_432 rfl rfl ?_
    refine V_aload_nq C dL_law_433 rfl rfl ?_
    refine V_iload C dL_law_434 rfl ?_
    refine V_iconst C dL_law_436 ?_
    refine V_iadd C dL_law_437 ?_
    refine V_sld C dL_law_438 hX hsz hA (by omega) (by omega) ?_
    rw [ep]
    refine V_aload_n C dL_law_439 rfl rfl ?_
    refine V_SH1 (k2 := n) (s2 := 6 * n) C dL_law_440 lL_131 kL_raise (hh) rfl rfl ⟨Nat.le_of_ble_eq_true rfl, Nat.le_of_ble_eq_true rfl⟩ (Nat.le_of_ble_eq_true rfl) (by omega) (by omega) ?_
    refine V_istore C dL_law_443 (Nat.le_of_ble_eq_true rfl) rfl ?_
    refine V_aload_n C dL_law_445 rfl rfl ?_
    refine V_aload_nq C dL_law_446 rfl rfl ?_
    refine V_iload C dL_law_447 rfl ?_
    refine V_iconst C dL_law_449 ?_
    refine V_iadd C dL_law_450 ?_
    refine V_sld C dL_law_451 hX hsz hA (by omega) (by omega) ?_
    rw [ep]
    refine V_V1 (k2 := n) (s2 := 6 * n) C dL_law_452 lL_134 kX6_raise (hm) (by decide) (rfl) rfl rfl rfl ⟨Nat.le_of_ble_eq_true rfl, Nat.le_of_ble_eq_true rfl⟩ (Nat.le_of_ble_eq_true rfl) (by omega) (by omega) ?_
    refine V_istore C dL_law_455 (Nat.le_of_ble_eq_true rfl) rfl ?_
    refine V_aload_n C dL_law_457 rfl rfl ?_
    refine V_V1 (k2 := n) (s2 := 6 * n) C dL_law_458 lL_122 kX6_thrown (c_X6_thrown G K2 r1) (by decide) (rfl) rfl rfl rfl ⟨Nat.le_of_ble_eq_true rfl, Nat.le_of_ble_eq_true rfl⟩ (Nat.le_of_ble_eq_true rfl) (by omega) (by omega) ?_
    rw [h3]
    refine V_iload C dL_law_461 rfl ?_
    refine V_icmp_eq (tgt := 468) C dL_law_463 (by decide) (by omega) (by omega) (fun q463 => ?_) (fun q463 => by exfalso; omega)
    refine V_iload C dL_law_468 rfl ?_
    refine V_if_ne (tgt := 485) C dL_law_470 (by decide) (by omega) (fun q470 => ?_) (fun q470 => by exfalso; omega)
    refine V_goto (tgt := 2222) C dL_law_485 (by decide) ?_
    refine V_iinc C dL_law_2222 rfl (Nat.le_of_ble_eq_true rfl) rfl ?_
    refine V_goto (tgt := 23) C dL_law_2225 (by decide) ?_
    exact cont _ _ _ _
set_option maxRecDepth 100000 in
set_option maxHeartbeats 4000000 in
theorem w_pay {G : GT} {x : CxT} {sa L : Nat} {xs : Nat → Int32} (hW : LW G x sa L xs) {i : Int} (hi : 0 ≤ i ∧ i + 3 < L) {n : Nat} {p : Int} (ep : xs (i + 1).toNat = iI p) {q : Int} (eq : xs (i + 2).toNat = iI q) {u : Int} (eu : xs (i + 3).toNat = iI u) {K K1 K2 : Nat → Nat → Int} {r r1 : Nat → Option Nat} {k b : Int} (hk : 0 ≤ k ∧ k ≤ 3) (hb : -2147483648 ≤ b ∧ b < 2147483648) (hh : CtH G yL_pay mL_pay [rf G 0, .int (iI p), .int (iI q), .int (iI u), rf G 33] 34 false (HP G K r) 1 6 (some (.int (iI k))) 34 false (HP G K1 r1)) (hm : CtO G yX6_pay mX6_pay [rf G 28, .int (iI p), .int (iI q), .int (iI u)] K1 r1 (some (.int (iI b))) K2 r1) (h3 : K2 28 3 = k) (h33 : k = 0 → K2 33 0 = b) (cont : LL G x sa 23 (i + 4) K2 r1 n) : LL G x sa 488 i K r (n + 1) := by
  intro o5 o6 o7 o8
  obtain ⟨C, hX, hsz, hA, hL⟩ := hW
  by_cases k0 : k = 0
  · skip
    refine V_aload_n C dL_law_488 rfl rfl ?_
    refine V_aload_nq C dL_law_489 rfl rfl ?_
    refine V_iload C dL_law_490 rfl ?_
    refine V_iconst C dL_law_492 ?_
    refine V_iadd C dL_law_493 ?_
    refine V_sld C dL_law_494 hX hsz hA (by omega) (by omega) ?_
    rw [ep]
    refine V_aload_nq C dL_law_495 rfl rfl ?_
    refine V_iload C dL_law_496 rfl ?_
    refine V_iconst C dL_law_498 ?_
    refine V_iadd C dL_law_499 ?_
    refine V_sld C dL_law_500 hX hsz hA (by omega) (by omega) ?_
    rw [eq]
    refine V_aload_nq C dL_law_501 rfl rfl ?_
    refine V_iload C dL_law_502 rfl ?_
    refine V_iconst C dL_law_504 ?_
    refine V_iadd C dL_law_505 ?_
    refine V_sld C dL_law_506 hX hsz hA (by omega) (by omega) ?_
    rw [eu]
    refine V_aload_n C dL_law_507 rfl rfl ?_
    refine V_SH1 (k2 := n) (s2 := 6 * n) C dL_law_508 lL_135 kL_pay (hh) rfl rfl ⟨Nat.le_of_ble_eq_true rfl, Nat.le_of_ble_eq_true rfl⟩ (Nat.le_of_ble_eq_true rfl) (by omega) (by omega) ?_
    refine V_istore C dL_law_511 (Nat.le_of_ble_eq_true rfl) rfl ?_
    refine V_aload_n C dL_law_513 rfl rfl ?_
    refine V_aload_nq C dL_law_514 rfl rfl ?_
    refine V_iload C dL_law_515 rfl ?_
    refine V_iconst C dL_law_517 ?_
    refine V_iadd C dL_law_518 ?_
    refine V_sld C dL_law_519 hX hsz hA (by omega) (by omega) ?_
    rw [ep]
    refine V_aload_nq C dL_law_520 rfl rfl ?_
    refine V_iload C dL_law_521 rfl ?_
    refine V_iconst C dL_law_523 ?_
    refine V_iadd C dL_law_524 ?_
    refine V_sld C dL_law_525 hX hsz hA (by omega) (by omega) ?_
    rw [eq]
    refine V_aload_nq C dL_law_526 rfl rfl ?_
    refine V_iload C dL_law_527 rfl ?_
    refine V_iconst C dL_law_529 ?_
    refine V_iadd C dL_law_530 ?_
    refine V_sld C dL_law_531 hX hsz hA (by omega) (by omega) ?_
    rw [eu]
    refine V_V1 (k2 := n) (s2 := 6 * n) C dL_law_532 lL_138 kX6_pay (hm) (by decide) (rfl) rfl rfl rfl ⟨Nat.le_of_ble_eq_true rfl, Nat.le_of_ble_eq_true rfl⟩ (Nat.le_of_ble_eq_true rfl) (by omega) (by omega) ?_
    refine V_istore C dL_law_535 (Nat.le_of_ble_eq_true rfl) rfl ?_
    refine V_aload_n C dL_law_537 rfl rfl ?_
    refine V_V1 (k2 := n) (s2 := 6 * n) C dL_law_538 lL_122 kX6_thrown (c_X6_thrown G K2 r1) (by decide) (rfl) rfl rfl rfl ⟨Nat.le_of_ble_eq_true rfl, Nat.le_of_ble_eq_true rfl⟩ (Nat.le_of_ble_eq_true rfl) (by omega) (by omega) ?_
    rw [h3]
    refine V_iload C dL_law_541 rfl ?_
    refine V_icmp_eq (tgt := 548) C dL_law_543 (by decide) (by omega) (by omega) (fun q543 => ?_) (fun q543 => by exfalso; omega)
    refine V_iload C dL_law_548 rfl ?_
    refine V_if_ne (tgt := 565) C dL_law_550 (by decide) (by omega) (fun q550 => by exfalso; omega) (fun q550 => ?_)
    refine V_aload_n C dL_law_553 rfl rfl ?_
    refine V_iconst C dL_law_554 ?_
    refine V_laldH C dL_law_555 (by decide) (fun _ => rfl) (by omega) (by decide) ?_
    rw [show K2 33 (0 : Int).toNat = b from h33 k0]
    refine V_iload C dL_law_556 rfl ?_
    refine V_i2l C dL_law_558 (by omega) ?_
    refine V_lcmp C dL_law_559 ?_
    rw [lcmp_eq]
    refine V_if_eq (tgt := 565) C dL_law_560 (by decide) (by omega) (fun q560 => ?_) (fun q560 => by exfalso; omega)
    refine V_goto (tgt := 2222) C dL_law_565 (by decide) ?_
    refine V_iinc C dL_law_2222 rfl (Nat.le_of_ble_eq_true rfl) rfl ?_
    refine V_goto (tgt := 23) C dL_law_2225 (by decide) ?_
    exact cont _ _ _ _
  · skip
    refine V_aload_n C dL_law_488 rfl rfl ?_
    refine V_aload_nq C dL_law_489 rfl rfl ?_
    refine V_iload C dL_law_490 rfl ?_
    refine V_iconst C dL_law_492 ?_
    refine V_iadd C dL_law_493 ?_
    refine V_sld C dL_law_494 hX hsz hA (by omega) (by omega) ?_
    rw [ep]
    refine V_aload_nq C dL_law_495 rfl rfl ?_
    refine V_iload C dL_law_496 rfl ?_
    refine V_iconst C dL_law_498 ?_
    refine V_iadd C dL_law_499 ?_
    refine V_sld C dL_law_500 hX hsz hA (by omega) (by omega) ?_
    rw [eq]
    refine V_aload_nq C dL_law_501 rfl rfl ?_
    refine V_iload C dL_law_502 rfl ?_
    refine V_iconst C dL_law_504 ?_
    refine V_iadd C dL_law_505 ?_
    refine V_sld C dL_law_506 hX hsz hA (by omega) (by omega) ?_
    rw [eu]
    refine V_aload_n C dL_law_507 rfl rfl ?_
    refine V_SH1 (k2 := n) (s2 := 6 * n) C dL_law_508 lL_135 kL_pay (hh) rfl rfl ⟨Nat.le_of_ble_eq_true rfl, Nat.le_of_ble_eq_true rfl⟩ (Nat.le_of_ble_eq_true rfl) (by omega) (by omega) ?_
    refine V_istore C dL_law_511 (Nat.le_of_ble_eq_true rfl) rfl ?_
    refine V_aload_n C dL_law_513 rfl rfl ?_
    refine V_aload_nq C dL_law_514 rfl rfl ?_
    refine V_iload C dL_law_515 rfl ?_
    refine V_iconst C dL_law_517 ?_
    refine V_iadd C dL_law_518 ?_
    refine V_sld C dL_law_519 hX hsz hA (by omega) (by omega) ?_
    rw [ep]
    refine V_aload_nq C dL_law_520 rfl rfl ?_
    refine V_iload C dL_law_521 rfl ?_
    refine V_iconst C dL_law_523 ?_
    refine V_iadd C dL_law_524 ?_
    refine V_sld C dL_law_525 hX hsz hA (by omega) (by omega) ?_
    rw [eq]
    refine V_aload_nq C dL_law_526 rfl rfl ?_
    refine V_iload C dL_law_527 rfl ?_
    refine V_iconst C dL_law_529 ?_
    refine V_iadd C dL_law_530 ?_
    refine V_sld C dL_law_531 hX hsz hA (by omega) (by omega) ?_
    rw [eu]
    refine V_V1 (k2 := n) (s2 := 6 * n) C dL_law_532 lL_138 kX6_pay (hm) (by decide) (rfl) rfl rfl rfl ⟨Nat.le_of_ble_eq_true rfl, Nat.le_of_ble_eq_true rfl⟩ (Nat.le_of_ble_eq_true rfl) (by omega) (by omega) ?_
    refine V_istore C dL_law_535 (Nat.le_of_ble_eq_true rfl) rfl ?_
    refine V_aload_n C dL_law_537 rfl rfl ?_
    refine V_V1 (k2 := n) (s2 := 6 * n) C dL_law_538 lL_122 kX6_thrown (c_X6_thrown G K2 r1) (by decide) (rfl) rfl rfl rfl ⟨Nat.le_of_ble_eq_true rfl, Nat.le_of_ble_eq_true rfl⟩ (Nat.le_of_ble_eq_true rfl) (by omega) (by omega) ?_
    rw [h3]
    refine V_iload C dL_law_541 rfl ?_
    refine V_icmp_eq (tgt := 548) C dL_law_543 (by decide) (by omega) (by omega) (fun q543 => ?_) (fun q543 => by exfalso; omega)
    refine V_iload C dL_law_548 rfl ?_
    refine V_if_ne (tgt := 565) C dL_law_550 (by decide) (by omega) (fun q550 => ?_) (fun q550 => by exfalso; omega)
    refine V_goto (tgt := 2222) C dL_law_565 (by decide) ?_
    refine V_iinc C dL_law_2222 rfl (Nat.le_of_ble_eq_true rfl) rfl ?_
    refine V_goto (tgt := 23) C dL_law_2225 (by decide) ?_
    exact cont _ _ _ _
set_option maxRecDepth 100000 in
set_option maxHeartbeats 4000000 in
theorem w_send {G : GT} {x : CxT} {sa L : Nat} {xs : Nat → Int32} (hW : LW G x sa L xs) {i : Int} (hi : 0 ≤ i ∧ i + 3 < L) {n : Nat} {p : Int} (ep : xs (i + 1).toNat = iI p) {K K1 K2 : Nat → Nat → Int} {r r1 : Nat → Option Nat} {k b : Int} (hk : 0 ≤ k ∧ k ≤ 3) (hb : -2147483648 ≤ b ∧ b < 2147483648) (hh : CtH G yL_send mL_send [rf G 0, .int (iI p), rf G 33] 34 false (HP G K r) 1 6 (some (.int (iI k))) 34 false (HP G K1 r1)) (hm : CtO G yX6_send mX6_send [rf G 28, .int (iI p)] K1 r1 (some (.int (iI b))) K2 r1) (h3 : K2 28 3 = k) (h33 : k = 0 → K2 33 0 = b) (cont : LL G x sa 23 (i + 4) K2 r1 n) : LL G x sa 568 i K r (n + 1) := by
  intro o5 o6 o7 o8
  obtain ⟨C, hX, hsz, hA, hL⟩ := hW
  by_cases k0 : k = 0
  · skip
    refine V_aload_n C dL_law_568 rfl rfl ?_
    refine V_aload_nq C dL_law_569 rfl rfl ?_
    refine V_iload C dL_law_570 rfl ?_
    refine V_iconst C dL_law_572 ?_
    refine V_iadd C dL_law_573 ?_
    refine V_sld C dL_law_574 hX hsz hA (by omega) (by omega) ?_
    rw [ep]
    refine V_aload_n C dL_law_575 rfl rfl ?_
    refine V_SH1 (k2 := n) (s2 := 6 * n) C dL_law_576 lL_139 kL_send (hh) rfl rfl ⟨Nat.le_of_ble_eq_true rfl, Nat.le_of_ble_eq_true rfl⟩ (Nat.le_of_ble_eq_true rfl) (by omega) (by omega) ?_
    refine V_istore C dL_law_579 (Nat.le_of_ble_eq_true rfl) rfl ?_
    refine V_aload_n C dL_law_581 rfl rfl ?_
    refine V_aload_nq C dL_law_582 rfl rfl ?_
    refine V_iload C dL_law_583 rfl ?_
    refine V_iconst C dL_law_585 ?_
    refine V_iadd C dL_law_586 ?_
    refine V_sld C dL_law_587 hX hsz hA (by omega) (by omega) ?_
    rw [ep]
    refine V_V1 (k2 := n) (s2 := 6 * n) C dL_law_588 lL_141 kX6_send (hm) (by decide) (rfl) rfl rfl rfl ⟨Nat.le_of_ble_eq_true rfl, Nat.le_of_ble_eq_true rfl⟩ (Nat.le_of_ble_eq_true rfl) (by omega) (by omega) ?_
    refine V_istore C dL_law_591 (Nat.le_of_ble_eq_true rfl) rfl ?_
    refine V_aload_n C dL_law_593 rfl rfl ?_
    refine V_V1 (k2 := n) (s2 := 6 * n) C dL_law_594 lL_122 kX6_thrown (c_X6_thrown G K2 r1) (by decide) (rfl) rfl rfl rfl ⟨Nat.le_of_ble_eq_true rfl, Nat.le_of_ble_eq_true rfl⟩ (Nat.le_of_ble_eq_true rfl) (by omega) (by omega) ?_
    rw [h3]
    refine V_iload C dL_law_597 rfl ?_
    refine V_icmp_eq (tgt := 604) C dL_law_599 (by decide) (by omega) (by omega) (fun q599 => ?_) (fun q599 => by exfalso; omega)
    refine V_iload C dL_law_604 rfl ?_
    refine V_if_ne (tgt := 621) C dL_law_606 (by decide) (by omega) (fun q606 => by exfalso; omega) (fun q606 => ?_)
    refine V_aload_n C dL_law_609 rfl rfl ?_
    refine V_iconst C dL_law_610 ?_
    refine V_laldH C dL_law_611 (by decide) (fun _ => rfl) (by omega) (by decide) ?_
    rw [show K2 33 (0 : Int).toNat = b from h33 k0]
    refine V_iload C dL_law_612 rfl ?_
    refine V_i2l C dL_law_614 (by omega) ?_
    refine V_lcmp C dL_law_615 ?_
    rw [lcmp_eq]
    refine V_if_eq (tgt := 621) C dL_law_616 (by decide) (by omega) (fun q616 => ?_) (fun q616 => by exfalso; omega)
    refine V_goto (tgt := 2222) C dL_law_621 (by decide) ?_
    refine V_iinc C dL_law_2222 rfl (Nat.le_of_ble_eq_true rfl) rfl ?_
    refine V_goto (tgt := 23) C dL_law_2225 (by decide) ?_
    exact cont _ _ _ _
  · skip
    refine V_aload_n C dL_law_568 rfl rfl ?_
    refine V_aload_nq C dL_law_569 rfl rfl ?_
    refine V_iload C dL_law_570 rfl ?_
    refine V_iconst C dL_law_572 ?_
    refine V_iadd C dL_law_573 ?_
    refine V_sld C dL_law_574 hX hsz hA (by omega) (by omega) ?_
    rw [ep]
    refine V_aload_n C dL_law_575 rfl rfl ?_
    refine V_SH1 (k2 := n) (s2 := 6 * n) C dL_law_576 lL_139 kL_send (hh) rfl rfl ⟨Nat.le_of_ble_eq_true rfl, Nat.le_of_ble_eq_true rfl⟩ (Nat.le_of_ble_eq_true rfl) (by omega) (by omega) ?_
    refine V_istore C dL_law_579 (Nat.le_of_ble_eq_true rfl) rfl ?_
    refine V_aload_n C dL_law_581 rfl rfl ?_
    refine V_aload_nq C dL_law_582 rfl rfl ?_
    refine V_iload C dL_law_583 rfl ?_
    refine V_iconst C dL_law_585 ?_
    refine V_iadd C dL_law_586 ?_
    refine V_sld C dL_law_587 hX hsz hA (by omega) (by omega) ?_
    rw [ep]
    refine V_V1 (k2 := n) (s2 := 6 * n) C dL_law_588 lL_141 kX6_send (hm) (by decide) (rfl) rfl rfl rfl ⟨Nat.le_of_ble_eq_true rfl, Nat.le_of_ble_eq_true rfl⟩ (Nat.le_of_ble_eq_true rfl) (by omega) (by omega) ?_
    refine V_istore C dL_law_591 (Nat.le_of_ble_eq_true rfl) rfl ?_
    refine V_aload_n C dL_law_593 rfl rfl ?_
    refine V_V1 (k2 := n) (s2 := 6 * n) C dL_law_594 lL_122 kX6_thrown (c_X6_thrown G K2 r1) (by decide) (rfl) rfl rfl rfl ⟨Nat.le_of_ble_eq_true rfl, Nat.le_of_ble_eq_true rfl⟩ (Nat.le_of_ble_eq_true rfl) (by omega) (by omega) ?_
    rw [h3]
    refine V_iload C dL_law_597 rfl ?_
    refine V_icmp_eq (tgt := 604) C dL_law_599 (by decide) (by omega) (by omega) (fun q599 => ?_) (fun q599 => by exfalso; omega)
    refine V_iload C dL_law_604 rfl ?_
    refine V_if_ne (tgt := 621) C dL_law_606 (by decide) (by omega) (fun q606 => ?_) (fun q606 => by exfalso; omega)
    refine V_goto (tgt := 2222) C dL_law_621 (by decide) ?_
    refine V_iinc C dL_law_2222 rfl (Nat.le_of_ble_eq_true rfl) rfl ?_
    refine V_goto (tgt := 23) C dL_law_2225 (by decide) ?_
    exact cont _ _ _ _
set_option maxRecDepth 100000 in
set_option maxHeartbeats 4000000 in
theorem w_turn {G : GT} {x : CxT} {sa L : Nat} {xs : Nat → Int32} (hW : LW G x sa L xs) {i : Int} (hi : 0 ≤ i ∧ i + 3 < L) {n : Nat} {p : Int} (ep : xs (i + 1).toNat = iI p) {K K1 K2 : Nat → Nat → Int} {r r1 : Nat → Option Nat} {k b : Int} (hk : 0 ≤ k ∧ k ≤ 3) (hb : -2147483648 ≤ b ∧ b < 2147483648) (hh : CtH G yL_turn mL_turn [rf G 0, .int (iI p), rf G 33] 34 false (HP G K r) 1 6 (some (.int (iI k))) 34 false (HP G K1 r1)) (hm : CtO G yX6_turn mX6_turn [rf G 28, .int (iI p)] K1 r1 (some (.int (iI b))) K2 r1) (h3 : K2 28 3 = k) (h33 : k = 0 → K2 33 0 = b) (cont : LL G x sa 23 (i + 4) K2 r1 n) : LL G x sa 624 i K r (n + 1) := by
  intro o5 o6 o7 o8
  obtain ⟨C, hX, hsz, hA, hL⟩ := hW
  by_cases k0 : k = 0
  · skip
    refine V_aload_n C dL_law_624 rfl rfl ?_
    refine V_aload_nq C dL_law_625 rfl rfl ?_
    refine V_iload C dL_law_626 rfl ?_
    refine V_iconst C dL_law_628 ?_
    refine V_iadd C dL_law_629 ?_
    refine V_sld C dL_law_630 hX hsz hA (by omega) (by omega) ?_
    rw [ep]
    refine V_aload_n C dL_law_631 rfl rfl ?_
    refine V_SH1 (k2 := n) (s2 := 6 * n) C dL_law_632 lL_142 kL_turn (hh) rfl rfl ⟨Nat.le_of_ble_eq_true rfl, Nat.le_of_ble_eq_true rfl⟩ (Nat.le_of_ble_eq_true rfl) (by omega) (by omega) ?_
    refine V_istore C dL_law_635 (Nat.le_of_ble_eq_true rfl) rfl ?_
    refine V_aload_n C dL_law_637 rfl rfl ?_
    refine V_aload_nq C dL_law_638 rfl rfl ?_
    refine V_iload C dL_law_639 rfl ?_
    refine V_iconst C dL_law_641 ?_
    refine V_iadd C dL_law_642 ?_
    refine V_sld C dL_law_643 hX hsz hA (by omega) (by omega) ?_
    rw [ep]
    refine V_V1 (k2 := n) (s2 := 6 * n) C dL_law_644 lL_144 kX6_turn (hm) (by decide) (rfl) rfl rfl rfl ⟨Nat.le_of_ble_eq_true rfl, Nat.le_of_ble_eq_true rfl⟩ (Nat.le_of_ble_eq_true rfl) (by omega) (by omega) ?_
    refine V_istore C dL_law_647 (Nat.le_of_ble_eq_true rfl) rfl ?_
    refine V_aload_n C dL_law_649 rfl rfl ?_
    refine V_V1 (k2 := n) (s2 := 6 * n) C dL_law_650 lL_122 kX6_thrown (c_X6_thrown G K2 r1) (by decide) (rfl) rfl rfl rfl ⟨Nat.le_of_ble_eq_true rfl, Nat.le_of_ble_eq_true rfl⟩ (Nat.le_of_ble_eq_true rfl) (by omega) (by omega) ?_
    rw [h3]
    refine V_iload C dL_law_653 rfl ?_
    refine V_icmp_eq (tgt := 660) C dL_law_655 (by decide) (by omega) (by omega) (fun q655 => ?_) (fun q655 => by exfalso; omega)
    refine V_iload C dL_law_660 rfl ?_
    refine V_if_ne (tgt := 677) C dL_law_662 (by decide) (by omega) (fun q662 => by exfalso; omega) (fun q662 => ?_)
    refine V_aload_n C dL_law_665 rfl rfl ?_
    refine V_iconst C dL_law_666 ?_
    refine V_laldH C dL_law_667 (by decide) (fun _ => rfl) (by omega) (by decide) ?_
    rw [show K2 33 (0 : Int).toNat = b from h33 k0]
    refine V_iload C dL_law_668 rfl ?_
    refine V_i2l C dL_law_670 (by omega) ?_
    refine V_lcmp C dL_law_671 ?_
    rw [lcmp_eq]
    refine V_if_eq (tgt := 677) C dL_law_672 (by decide) (by omega) (fun q672 => ?_) (fun q672 => by exfalso; omega)
    refine V_goto (tgt := 2222) C dL_law_677 (by decide) ?_
    refine V_iinc C dL_law_2222 rfl (Nat.le_of_ble_eq_true rfl) rfl ?_
    refine V_goto (tgt := 23) C dL_law_2225 (by decide) ?_
    exact cont _ _ _ _
  · skip
    refine V_aload_n C dL_law_624 rfl rfl ?_
    refine V_aload_nq C dL_law_625 rfl rfl ?_
    refine V_iload C dL_law_626 rfl ?_
    refine V_iconst C dL_law_628 ?_
    refine V_iadd C dL_law_629 ?_
    refine V_sld C dL_law_630 hX hsz hA (by omega) (by omega) ?_
    rw [ep]
    refine V_aload_n C dL_law_631 rfl rfl ?_
    refine V_SH1 (k2 := n) (s2 := 6 * n) C dL_law_632 lL_142 kL_turn (hh) rfl rfl ⟨Nat.le_of_ble_eq_true rfl, Nat.le_of_ble_eq_true rfl⟩ (Nat.le_of_ble_eq_true rfl) (by omega) (by omega) ?_
    refine V_istore C dL_law_635 (Nat.le_of_ble_eq_true rfl) rfl ?_
    refine V_aload_n C dL_law_637 rfl rfl ?_
    refine V_aload_nq C dL_law_638 rfl rfl ?_
    refine V_iload C dL_law_639 rfl ?_
    refine V_iconst C dL_law_641 ?_
    refine V_iadd C dL_law_642 ?_
    refine V_sld C dL_law_643 hX hsz hA (by omega) (by omega) ?_
    rw [ep]
    refine V_V1 (k2 := n) (s2 := 6 * n) C dL_law_644 lL_144 kX6_turn (hm) (by decide) (rfl) rfl rfl rfl ⟨Nat.le_of_ble_eq_true rfl, Nat.le_of_ble_eq_true rfl⟩ (Nat.le_of_ble_eq_true rfl) (by omega) (by omega) ?_
    refine V_istore C dL_law_647 (Nat.le_of_ble_eq_true rfl) rfl ?_
    refine V_aload_n C dL_law_649 rfl rfl ?_
    refine V_V1 (k2 := n) (s2 := 6 * n) C dL_law_650 lL_122 kX6_thrown (c_X6_thrown G K2 r1) (by decide) (rfl) rfl rfl rfl ⟨Nat.le_of_ble_eq_true rfl, Nat.le_of_ble_eq_true rfl⟩ (Nat.le_of_ble_eq_true rfl) (by omega) (by omega) ?_
    rw [h3]
    refine V_iload C dL_law_653 rfl ?_
    refine V_icmp_eq (tgt := 660) C dL_law_655 (by decide) (by omega) (by omega) (fun q655 => ?_) (fun q655 => by exfalso; omega)
    refine V_iload C dL_law_660 rfl ?_
    refine V_if_ne (tgt := 677) C dL_law_662 (by decide) (by omega) (fun q662 => ?_) (fun q662 => by exfalso; omega)
    refine V_goto (tgt := 2222) C dL_law_677 (by decide) ?_
    refine V_iinc C dL_law_2222 rfl (Nat.le_of_ble_eq_true rfl) rfl ?_
    refine V_goto (tgt := 23) C dL_law_2225 (by decide) ?_
    exact cont _ _ _ _
set_option maxRecDepth 100000 in
set_option maxHeartbeats 4000000 in
theorem w_cut {G : GT} {x : CxT} {sa L : Nat} {xs : Nat → Int32} (hW : LW G x sa L xs) {i : Int} (hi : 0 ≤ i ∧ i + 3 < L) {n : Nat} {p : Int} (ep : xs (i + 1).toNat = iI p) {K K1 K2 : Nat → Nat → Int} {r r1 : Nat → Option Nat} {k b : Int} (hk : 0 ≤ k ∧ k ≤ 3) (hb : -2147483648 ≤ b ∧ b < 2147483648) (hh : CtH G yL_cut mL_cut [rf G 0, .int (iI p), rf G 33] 34 false (HP G K r) 1 6 (some (.int (iI k))) 34 false (HP G K1 r1)) (hm : CtO G yX6_cut mX6_cut [rf G 28, .int (iI p)] K1 r1 (some (.int (iI b))) K2 r1) (h3 : K2 28 3 = k) (h33 : k = 0 → K2 33 0 = b) (cont : LL G x sa 23 (i + 4) K2 r1 n) : LL G x sa 680 i K r (n + 1) := by
  intro o5 o6 o7 o8
  obtain ⟨C, hX, hsz, hA, hL⟩ := hW
  by_cases k0 : k = 0
  · skip
    refine V_aload_n C dL_law_680 rfl rfl ?_
    refine V_aload_nq C dL_law_681 rfl rfl ?_
    refine V_iload C dL_law_682 rfl ?_
    refine V_iconst C dL_law_684 ?_
    refine V_iadd C dL_law_685 ?_
    refine V_sld C dL_law_686 hX hsz hA (by omega) (by omega) ?_
    rw [ep]
    refine V_aload_n C dL_law_687 rfl rfl ?_
    refine V_SH1 (k2 := n) (s2 := 6 * n) C dL_law_688 lL_145 kL_cut (hh) rfl rfl ⟨Nat.le_of_ble_eq_true rfl, Nat.le_of_ble_eq_true rfl⟩ (Nat.le_of_ble_eq_true rfl) (by omega) (by omega) ?_
    refine V_istore C dL_law_691 (Nat.le_of_ble_eq_true rfl) rfl ?_
    refine V_aload_n C dL_law_693 rfl rfl ?_
    refine V_aload_nq C dL_law_694 rfl rfl ?_
    refine V_iload C dL_law_695 rfl ?_
    refine V_iconst C dL_law_697 ?_
    refine V_iadd C dL_law_698 ?_
    refine V_sld C dL_law_699 hX hsz hA (by omega) (by omega) ?_
    rw [ep]
    refine V_V1 (k2 := n) (s2 := 6 * n) C dL_law_700 lL_147 kX6_cut (hm) (by decide) (rfl) rfl rfl rfl ⟨Nat.le_of_ble_eq_true rfl, Nat.le_of_ble_eq_true rfl⟩ (Nat.le_of_ble_eq_true rfl) (by omega) (by omega) ?_
    refine V_istore C dL_law_703 (Nat.le_of_ble_eq_true rfl) rfl ?_
    refine V_aload_n C dL_law_705 rfl rfl ?_
    refine V_V1 (k2 := n) (s2 := 6 * n) C dL_law_706 lL_122 kX6_thrown (c_X6_thrown G K2 r1) (by decide) (rfl) rfl rfl rfl ⟨Nat.le_of_ble_eq_true rfl, Nat.le_of_ble_eq_true rfl⟩ (Nat.le_of_ble_eq_true rfl) (by omega) (by omega) ?_
    rw [h3]
    refine V_iload C dL_law_709 rfl ?_
    refine V_icmp_eq (tgt := 716) C dL_law_711 (by decide) (by omega) (by omega) (fun q711 => ?_) (fun q711 => by exfalso; omega)
    refine V_iload C dL_law_716 rfl ?_
    refine V_if_ne (tgt := 733) C dL_law_718 (by decide) (by omega) (fun q718 => by exfalso; omega) (fun q718 => ?_)
    refine V_aload_n C dL_law_721 rfl rfl ?_
    refine V_iconst C dL_law_722 ?_
    refine V_laldH C dL_law_723 (by decide) (fun _ => rfl) (by omega) (by decide) ?_
    rw [show K2 33 (0 : Int).toNat = b from h33 k0]
    refine V_iload C dL_law_724 rfl ?_
    refine V_i2l C dL_law_726 (by omega) ?_
    refine V_lcmp C dL_law_727 ?_
    rw [lcmp_eq]
    refine V_if_eq (tgt := 733) C dL_law_728 (by decide) (by omega) (fun q728 => ?_) (fun q728 => by exfalso; omega)
    refine V_goto (tgt := 2222) C dL_law_733 (by decide) ?_
    refine V_iinc C dL_law_2222 rfl (Nat.le_of_ble_eq_true rfl) rfl ?_
    refine V_goto (tgt := 23) C dL_law_2225 (by decide) ?_
    exact cont _ _ _ _
  · skip
    refine V_aload_n C dL_law_680 rfl rfl ?_
    refine V_aload_nq C dL_law_681 rfl rfl ?_
    refine V_iload C dL_law_682 rfl ?_
    refine V_iconst C dL_law_684 ?_
    refine V_iadd C dL_law_685 ?_
    refine V_sld C dL_law_686 hX hsz hA (by omega) (by omega) ?_
    rw [ep]
    refine V_aload_n C dL_law_687 rfl rfl ?_
    refine V_SH1 (k2 := n) (s2 := 6 * n) C dL_law_688 lL_145 kL_cut (hh) rfl rfl ⟨Nat.le_of_ble_eq_true rfl, Nat.le_of_ble_eq_true rfl⟩ (Nat.le_of_ble_eq_true rfl) (by omega) (by omega) ?_
    refine V_istore C dL_law_691 (Nat.le_of_ble_eq_true rfl) rfl ?_
    refine V_aload_n C dL_law_693 rfl rfl ?_
    refine V_aload_nq C dL_law_694 rfl rfl ?_
    refine V_iload C dL_law_695 rfl ?_
    refine V_iconst C dL_law_697 ?_
    refine V_iadd C dL_law_698 ?_
    refine V_sld C dL_law_699 hX hsz hA (by omega) (by omega) ?_
    rw [ep]
    refine V_V1 (k2 := n) (s2 := 6 * n) C dL_law_700 lL_147 kX6_cut (hm) (by decide) (rfl) rfl rfl rfl ⟨Nat.le_of_ble_eq_true rfl, Nat.le_of_ble_eq_true rfl⟩ (Nat.le_of_ble_eq_true rfl) (by omega) (by omega) ?_
    refine V_istore C dL_law_703 (Nat.le_of_ble_eq_true rfl) rfl ?_
    refine V_aload_n C dL_law_705 rfl rfl ?_
    refine V_V1 (k2 := n) (s2 := 6 * n) C dL_law_706 lL_122 kX6_thrown (c_X6_thrown G K2 r1) (by decide) (rfl) rfl rfl rfl ⟨Nat.le_of_ble_eq_true rfl, Nat.le_of_ble_eq_true rfl⟩ (Nat.le_of_ble_eq_true rfl) (by omega) (by omega) ?_
    rw [h3]
    refine V_iload C dL_law_709 rfl ?_
    refine V_icmp_eq (tgt := 716) C dL_law_711 (by decide) (by omega) (by omega) (fun q711 => ?_) (fun q711 => by exfalso; omega)
    refine V_iload C dL_law_716 rfl ?_
    refine V_if_ne (tgt := 733) C dL_law_718 (by decide) (by omega) (fun q718 => ?_) (fun q718 => by exfalso; omega)
    refine V_goto (tgt := 2222) C dL_law_733 (by decide) ?_
    refine V_iinc C dL_law_2222 rfl (Nat.le_of_ble_eq_true rfl) rfl ?_
    refine V_goto (tgt := 23) C dL_law_2225 (by decide) ?_
    exact cont _ _ _ _
set_option maxRecDepth 100000 in
set_option maxHeartbeats 4000000 in
theorem w_append {G : GT} {x : CxT} {sa L : Nat} {xs : Nat → Int32} (hW : LW G x sa L xs) {i : Int} (hi : 0 ≤ i ∧ i + 3 < L) {n : Nat} {p : Int} (ep : xs (i + 1).toNat = iI p) {K K1 K2 : Nat → Nat → Int} {r r1 : Nat → Option Nat} {k b : Int} (hk : 0 ≤ k ∧ k ≤ 3) (hb : -2147483648 ≤ b ∧ b < 2147483648) (hh : CtH G yL_append mL_append [rf G 0, .int (iI p), rf G 33] 34 false (HP G K r) 1 6 (some (.int (iI k))) 34 false (HP G K1 r1)) (hm : CtO G yX6_append mX6_append [rf G 28, .int (iI p)] K1 r1 (some (.int (iI b))) K2 r1) (h3 : K2 28 3 = k) (h33 : k = 0 → K2 33 0 = b) (cont : LL G x sa 23 (i + 4) K2 r1 n) : LL G x sa 736 i K r (n + 1) := by
  intro o5 o6 o7 o8
  obtain ⟨C, hX, hsz, hA, hL⟩ := hW
  by_cases k0 : k = 0
  · skip
    refine V_aload_n C dL_law_736 rfl rfl ?_
    refine V_aload_nq C dL_law_737 rfl rfl ?_
    refine V_iload C dL_law_738 rfl ?_
    refine V_iconst C dL_law_740 ?_
    refine V_iadd C dL_law_741 ?_
    refine V_sld C dL_law_742 hX hsz hA (by omega) (by omega) ?_
    rw [ep]
    refine V_aload_n C dL_law_743 rfl rfl ?_
    refine V_SH1 (k2 := n) (s2 := 6 * n) C dL_law_744 lL_148 kL_append (hh) rfl rfl ⟨Nat.le_of_ble_eq_true rfl, Nat.le_of_ble_eq_true rfl⟩ (Nat.le_of_ble_eq_true rfl) (by omega) (by omega) ?_
    refine V_istore C dL_law_747 (Nat.le_of_ble_eq_true rfl) rfl ?_
    refine V_aload_n C dL_law_749 rfl rfl ?_
    refine V_aload_nq C dL_law_750 rfl rfl ?_
    refine V_iload C dL_law_751 rfl ?_
    refine V_iconst C dL_law_753 ?_
    refine V_iadd C dL_law_754 ?_
    refine V_sld C dL_law_755 hX hsz hA (by omega) (by omega) ?_
    rw [ep]
    refine V_V1 (k2 := n) (s2 := 6 * n) C dL_law_756 lL_150 kX6_append (hm) (by decide) (rfl) rfl rfl rfl ⟨Nat.le_of_ble_eq_true rfl, Nat.le_of_ble_eq_true rfl⟩ (Nat.le_of_ble_eq_true rfl) (by omega) (by omega) ?_
    refine V_istore C dL_law_759 (Nat.le_of_ble_eq_true rfl) rfl ?_
    refine V_aload_n C dL_law_761 rfl rfl ?_
    refine V_V1 (k2 := n) (s2 := 6 * n) C dL_law_762 lL_122 kX6_thrown (c_X6_thrown G K2 r1) (by decide) (rfl) rfl rfl rfl ⟨Nat.le_of_ble_eq_true rfl, Nat.le_of_ble_eq_true rfl⟩ (Nat.le_of_ble_eq_true rfl) (by omega) (by omega) ?_
    rw [h3]
    refine V_iload C dL_law_765 rfl ?_
    refine V_icmp_eq (tgt := 772) C dL_law_767 (by decide) (by omega) (by omega) (fun q767 => ?_) (fun q767 => by exfalso; omega)
    refine V_iload C dL_law_772 rfl ?_
    refine V_if_ne (tgt := 789) C dL_law_774 (by decide) (by omega) (fun q774 => by exfalso; omega) (fun q774 => ?_)
    refine V_aload_n C dL_law_777 rfl rfl ?_
    refine V_iconst C dL_law_778 ?_
    refine V_laldH C dL_law_779 (by decide) (fun _ => rfl) (by omega) (by decide) ?_
    rw [show K2 33 (0 : Int).toNat = b from h33 k0]
    refine V_iload C dL_law_780 rfl ?_
    refine V_i2l C dL_law_782 (by omega) ?_
    refine V_lcmp C dL_law_783 ?_
    rw [lcmp_eq]
    refine V_if_eq (tgt := 789) C dL_law_784 (by decide) (by omega) (fun q784 => ?_) (fun q784 => by exfalso; omega)
    refine V_goto (tgt := 2222) C dL_law_789 (by decide) ?_
    refine V_iinc C dL_law_2222 rfl (Nat.le_of_ble_eq_true rfl) rfl ?_
    refine V_goto (tgt := 23) C dL_law_2225 (by decide) ?_
    exact cont _ _ _ _
  · skip
    refine V_aload_n C dL_law_736 rfl rfl ?_
    refine V_aload_nq C dL_law_737 rfl rfl ?_
    refine V_iload C dL_law_738 rfl ?_
    refine V_iconst C dL_law_740 ?_
    refine V_iadd C dL_law_741 ?_
    refine V_sld C dL_law_742 hX hsz hA (by omega) (by omega) ?_
    rw [ep]
    refine V_aload_n C dL_law_743 rfl rfl ?_
    refine V_SH1 (k2 := n) (s2 := 6 * n) C dL_law_744 lL_148 kL_append (hh) rfl rfl ⟨Nat.le_of_ble_eq_true rfl, Nat.le_of_ble_eq_true rfl⟩ (Nat.le_of_ble_eq_true rfl) (by omega) (by omega) ?_
    refine V_istore C dL_law_747 (Nat.le_of_ble_eq_true rfl) rfl ?_
    refine V_aload_n C dL_law_749 rfl rfl ?_
    refine V_aload_nq C dL_law_750 rfl rfl ?_
    refine V_iload C dL_law_751 rfl ?_
    refine V_iconst C dL_law_753 ?_
    refine V_iadd C dL_law_754 ?_
    refine V_sld C dL_law_755 hX hsz hA (by omega) (by omega) ?_
    rw [ep]
    refine V_V1 (k2 := n) (s2 := 6 * n) C dL_law_756 lL_150 kX6_append (hm) (by decide) (rfl) rfl rfl rfl ⟨Nat.le_of_ble_eq_true rfl, Nat.le_of_ble_eq_true rfl⟩ (Nat.le_of_ble_eq_true rfl) (by omega) (by omega) ?_
    refine V_istore C dL_law_759 (Nat.le_of_ble_eq_true rfl) rfl ?_
    refine V_aload_n C dL_law_761 rfl rfl ?_
    refine V_V1 (k2 := n) (s2 := 6 * n) C dL_law_762 lL_122 kX6_thrown (c_X6_thrown G K2 r1) (by decide) (rfl) rfl rfl rfl ⟨Nat.le_of_ble_eq_true rfl, Nat.le_of_ble_eq_true rfl⟩ (Nat.le_of_ble_eq_true rfl) (by omega) (by omega) ?_
    rw [h3]
    refine V_iload C dL_law_765 rfl ?_
    refine V_icmp_eq (tgt := 772) C dL_law_767 (by decide) (by omega) (by omega) (fun q767 => ?_) (fun q767 => by exfalso; omega)
    refine V_iload C dL_law_772 rfl ?_
    refine V_if_ne (tgt := 789) C dL_law_774 (by decide) (by omega) (fun q774 => ?_) (fun q774 => by exfalso; omega)
    refine V_goto (tgt := 2222) C dL_law_789 (by decide) ?_
    refine V_iinc C dL_law_2222 rfl (Nat.le_of_ble_eq_true rfl) rfl ?_
    refine V_goto (tgt := 23) C dL_law_2225 (by decide) ?_
    exact cont _ _ _ _
set_option maxRecDepth 100000 in
set_option maxHeartbeats 4000000 in
theorem w_clearBuffer {G : GT} {x : CxT} {sa L : Nat} {xs : Nat → Int32} (hW : LW G x sa L xs) {i : Int} (hi : 0 ≤ i ∧ i + 3 < L) {n : Nat} {K K1 K2 : Nat → Nat → Int} {r r1 : Nat → Option Nat} {v : Int} (hv : -2147483648 ≤ v ∧ v < 2147483648) (hc : CtO G yX5_clearBuffer mX5_clearBuffer [rf G 0] K r (some (.int (iI v))) K1 r1) (hm : CtO G yX6_clearBuffer mX6_clearBuffer [rf G 28] K1 r1 (some (.int (iI v))) K2 r1) (cont : LL G x sa 23 (i + 4) K2 r1 n) : LL G x sa 792 i K r (n + 1) := by
  intro o5 o6 o7 o8
  obtain ⟨C, hX, hsz, hA, hL⟩ := hW
  refine V_aload_n C dL_law_792 rfl rfl ?_
  refine V_V1 (k2 := n) (s2 := 6 * n) C dL_law_793 lL_151 kX5_clearBuffer (hc) (by decide) (rfl) rfl rfl rfl ⟨Nat.le_of_ble_eq_true rfl, Nat.le_of_ble_eq_true rfl⟩ (Nat.le_of_ble_eq_true rfl) (by omega) (by omega) ?_
  refine V_aload_n C dL_law_796 rfl rfl ?_
  refine V_V1 (k2 := n) (s2 := 6 * n) C dL_law_797 lL_154 kX6_clearBuffer (hm) (by decide) (rfl) rfl rfl rfl ⟨Nat.le_of_ble_eq_true rfl, Nat.le_of_ble_eq_true rfl⟩ (Nat.le_of_ble_eq_true rfl) (by omega) (by omega) ?_
  refine V_icmp_eq (tgt := 2222) C dL_law_800 (by decide) (by omega) (by omega) (fun q800 => ?_) (fun q800 => by exfalso; omega)
  refine V_iinc C dL_law_2222 rfl (Nat.le_of_ble_eq_true rfl) rfl ?_
  refine V_goto (tgt := 23) C dL_law_2225 (by decide) ?_
  exact cont _ _ _ _
set_option maxRecDepth 100000 in
set_option maxHeartbeats 4000000 in
theorem w_firstError {G : GT} {x : CxT} {sa L : Nat} {xs : Nat → Int32} (hW : LW G x sa L xs) {i : Int} (hi : 0 ≤ i ∧ i + 3 < L) {n : Nat} {K K1 K2 : Nat → Nat → Int} {r r1 : Nat → Option Nat} {v : Int} (hv : -2147483648 ≤ v ∧ v < 2147483648) (hc : CtO G yX5_firstError mX5_firstError [rf G 0] K r (some (.int (iI v))) K1 r1) (hm : CtO G yX6_firstError mX6_firstError [rf G 28] K1 r1 (some (.int (iI v))) K2 r1) (cont : LL G x sa 23 (i + 4) K2 r1 n) : LL G x sa 805 i K r (n + 1) := by
  intro o5 o6 o7 o8
  obtain ⟨C, hX, hsz, hA, hL⟩ := hW
  refine V_aload_n C dL_law_805 rfl rfl ?_
  refine V_V1 (k2 := n) (s2 := 6 * n) C dL_law_806 lL_155 kX5_firstError (hc) (by decide) (rfl) rfl rfl rfl ⟨Nat.le_of_ble_eq_true rfl, Nat.le_of_ble_eq_true rfl⟩ (Nat.le_of_ble_eq_true rfl) (by omega) (by omega) ?_
  refine V_aload_n C dL_law_809 rfl rfl ?_
  refine V_V1 (k2 := n) (s2 := 6 * n) C dL_law_810 lL_158 kX6_firstError (hm) (by decide) (rfl) rfl rfl rfl ⟨Nat.le_of_ble_eq_true rfl, Nat.le_of_ble_eq_true rfl⟩ (Nat.le_of_ble_eq_true rfl) (by omega) (by omega) ?_
  refine V_icmp_eq (tgt := 2222) C dL_law_813 (by decide) (by omega) (by omega) (fun q813 => ?_) (fun q813 => by exfalso; omega)
  refine V_iinc C dL_law_2222 rfl (Nat.le_of_ble_eq_true rfl) rfl ?_
  refine V_goto (tgt := 23) C dL_law_2225 (by decide) ?_
  exact cont _ _ _ _
set_option maxRecDepth 100000 in
set_option maxHeartbeats 4000000 in
theorem w_work {G : GT} {x : CxT} {sa L : Nat} {xs : Nat → Int32} (hW : LW G x sa L xs) {i : Int} (hi : 0 ≤ i ∧ i + 3 < L) {n : Nat}  {K K1 K2 : Nat → Nat → Int} {r r1 : Nat → Option Nat} {k b : Int} (hk : 0 ≤ k ∧ k ≤ 3) (hb : -2147483648 ≤ b ∧ b < 2147483648) (hh : CtH G yL_work mL_work [rf G 0, rf G 33] 34 false (HP G K r) 1 6 (some (.int (iI k))) 34 false (HP G K1 r1)) (hm : CtO G yX6_work mX6_work [rf G 28] K1 r1 (some (.int (iI b))) K2 r1) (h3 : K2 28 3 = k) (h33 : k = 0 → K2 33 0 = b) (cont : LL G x sa 23 (i + 4) K2 r1 n) : LL G x sa 818 i K r (n + 1) := by
  intro o5 o6 o7 o8
  obtain ⟨C, hX, hsz, hA, hL⟩ := hW
  by_cases k0 : k = 0
  · skip
    refine V_aload_n C dL_law_818 rfl rfl ?_
    refine V_aload_n C dL_law_819 rfl rfl ?_
    refine V_SH1 (k2 := n) (s2 := 6 * n) C dL_law_820 lL_159 kL_work (hh) rfl rfl ⟨Nat.le_of_ble_eq_true rfl, Nat.le_of_ble_eq_true rfl⟩ (Nat.le_of_ble_eq_true rfl) (by omega) (by omega) ?_
    refine V_istore C dL_law_823 (Nat.le_of_ble_eq_true rfl) rfl ?_
    refine V_aload_n C dL_law_825 rfl rfl ?_
    refine V_V1 (k2 := n) (s2 := 6 * n) C dL_law_826 lL_162 kX6_work (hm) (by decide) (rfl) rfl rfl rfl ⟨Nat.le_of_ble_eq_true rfl, Nat.le_of_ble_eq_true rfl⟩ (Nat.le_of_ble_eq_true rfl) (by omega) (by omega) ?_
    refine V_istore C dL_law_829 (Nat.le_of_ble_eq_true rfl) rfl ?_
    refine V_aload_n C dL_law_831 rfl rfl ?_
    refine V_V1 (k2 := n) (s2 := 6 * n) C dL_law_832 lL_122 kX6_thrown (c_X6_thrown G K2 r1) (by decide) (rfl) rfl rfl rfl ⟨Nat.le_of_ble_eq_true rfl, Nat.le_of_ble_eq_true rfl⟩ (Nat.le_of_ble_eq_true rfl) (by omega) (by omega) ?_
    rw [h3]
    refine V_iload C dL_law_835 rfl ?_
    refine V_icmp_eq (tgt := 842) C dL_law_837 (by decide) (by omega) (by omega) (fun q837 => ?_) (fun q837 => by exfalso; omega)
    refine V_iload C dL_law_842 rfl ?_
    refine V_if_ne (tgt := 859) C dL_law_844 (by decide) (by omega) (fun q844 => by exfalso; omega) (fun q844 => ?_)
    refine V_aload_n C dL_law_847 rfl rfl ?_
    refine V_iconst C dL_law_848 ?_
    refine V_laldH C dL_law_849 (by decide) (fun _ => rfl) (by omega) (by decide) ?_
    rw [show K2 33 (0 : Int).toNat = b from h33 k0]
    refine V_iload C dL_law_850 rfl ?_
    refine V_i2l C dL_law_852 (by omega) ?_
    refine V_lcmp C dL_law_853 ?_
    rw [lcmp_eq]
    refine V_if_eq (tgt := 859) C dL_law_854 (by decide) (by omega) (fun q854 => ?_) (fun q854 => by exfalso; omega)
    refine V_goto (tgt := 2222) C dL_law_859 (by decide) ?_
    refine V_iinc C dL_law_2222 rfl (Nat.le_of_ble_eq_true rfl) rfl ?_
    refine V_goto (tgt := 23) C dL_law_2225 (by decide) ?_
    exact cont _ _ _ _
  · skip
    refine V_aload_n C dL_law_818 rfl rfl ?_
    refine V_aload_n C dL_law_819 rfl rfl ?_
    refine V_SH1 (k2 := n) (s2 := 6 * n) C dL_law_820 lL_159 kL_work (hh) rfl rfl ⟨Nat.le_of_ble_eq_true rfl, Nat.le_of_ble_eq_true rfl⟩ (Nat.le_of_ble_eq_true rfl) (by omega) (by omega) ?_
    refine V_istore C dL_law_823 (Nat.le_of_ble_eq_true rfl) rfl ?_
    refine V_aload_n C dL_law_825 rfl rfl ?_
    refine V_V1 (k2 := n) (s2 := 6 * n) C dL_law_826 lL_162 kX6_work (hm) (by decide) (rfl) rfl rfl rfl ⟨Nat.le_of_ble_eq_true rfl, Nat.le_of_ble_eq_true rfl⟩ (Nat.le_of_ble_eq_true rfl) (by omega) (by omega) ?_
    refine V_istore C dL_law_829 (Nat.le_of_ble_eq_true rfl) rfl ?_
    refine V_aload_n C dL_law_831 rfl rfl ?_
    refine V_V1 (k2 := n) (s2 := 6 * n) C dL_law_832 lL_122 kX6_thrown (c_X6_thrown G K2 r1) (by decide) (rfl) rfl rfl rfl ⟨Nat.le_of_ble_eq_true rfl, Nat.le_of_ble_eq_true rfl⟩ (Nat.le_of_ble_eq_true rfl) (by omega) (by omega) ?_
    rw [h3]
    refine V_iload C dL_law_835 rfl ?_
    refine V_icmp_eq (tgt := 842) C dL_law_837 (by decide) (by omega) (by omega) (fun q837 => ?_) (fun q837 => by exfalso; omega)
    refine V_iload C dL_law_842 rfl ?_
    refine V_if_ne (tgt := 859) C dL_law_844 (by decide) (by omega) (fun q844 => ?_) (fun q844 => by exfalso; omega)
    refine V_goto (tgt := 2222) C dL_law_859 (by decide) ?_
    refine V_iinc C dL_law_2222 rfl (Nat.le_of_ble_eq_true rfl) rfl ?_
    refine V_goto (tgt := 23) C dL_law_2225 (by decide) ?_
    exact cont _ _ _ _
set_option maxRecDepth 100000 in
set_option maxHeartbeats 4000000 in
theorem w_hasStopped {G : GT} {x : CxT} {sa L : Nat} {xs : Nat → Int32} (hW : LW G x sa L xs) {i : Int} (hi : 0 ≤ i ∧ i + 3 < L) {n : Nat} {K K1 K2 : Nat → Nat → Int} {r r1 : Nat → Option Nat} {v : Int} (hv : -2147483648 ≤ v ∧ v < 2147483648) (hc : CtO G yX5_hasStopped mX5_hasStopped [rf G 0] K r (some (.int (iI v))) K1 r1) (hm : CtO G yX6_hasStopped mX6_hasStopped [rf G 28] K1 r1 (some (.int (iI v))) K2 r1) (cont : LL G x sa 23 (i + 4) K2 r1 n) : LL G x sa 862 i K r (n + 1) := by
  intro o5 o6 o7 o8
  obtain ⟨C, hX, hsz, hA, hL⟩ := hW
  refine V_aload_n C dL_law_862 rfl rfl ?_
  refine V_V1 (k2 := n) (s2 := 6 * n) C dL_law_863 lL_163 kX5_hasStopped (hc) (by decide) (rfl) rfl rfl rfl ⟨Nat.le_of_ble_eq_true rfl, Nat.le_of_ble_eq_true rfl⟩ (Nat.le_of_ble_eq_true rfl) (by omega) (by omega) ?_
  refine V_aload_n C dL_law_866 rfl rfl ?_
  refine V_V1 (k2 := n) (s2 := 6 * n) C dL_law_867 lL_167 kX6_hasStopped (hm) (by decide) (rfl) rfl rfl rfl ⟨Nat.le_of_ble_eq_true rfl, Nat.le_of_ble_eq_true rfl⟩ (Nat.le_of_ble_eq_true rfl) (by omega) (by omega) ?_
  refine V_icmp_eq (tgt := 2222) C dL_law_870 (by decide) (by omega) (by omega) (fun q870 => ?_) (fun q870 => by exfalso; omega)
  refine V_iinc C dL_law_2222 rfl (Nat.le_of_ble_eq_true rfl) rfl ?_
  refine V_goto (tgt := 23) C dL_law_2225 (by decide) ?_
  exact cont _ _ _ _
set_option maxRecDepth 100000 in
set_option maxHeartbeats 4000000 in
theorem w_stoppedPart {G : GT} {x : CxT} {sa L : Nat} {xs : Nat → Int32} (hW : LW G x sa L xs) {i : Int} (hi : 0 ≤ i ∧ i + 3 < L) {n : Nat}  {K K1 K2 : Nat → Nat → Int} {r r1 : Nat → Option Nat} {k b : Int} (hk : 0 ≤ k ∧ k ≤ 3) (hb : -2147483648 ≤ b ∧ b < 2147483648) (hh : CtH G yL_stoppedPart mL_stoppedPart [rf G 0, rf G 33] 34 false (HP G K r) 1 6 (some (.int (iI k))) 34 false (HP G K1 r1)) (hm : CtO G yX6_stoppedPart mX6_stoppedPart [rf G 28] K1 r1 (some (.int (iI b))) K2 r1) (h3 : K2 28 3 = k) (h33 : k = 0 → K2 33 0 = b) (cont : LL G x sa 23 (i + 4) K2 r1 n) : LL G x sa 875 i K r (n + 1) := by
  intro o5 o6 o7 o8
  obtain ⟨C, hX, hsz, hA, hL⟩ := hW
  by_cases k0 : k = 0
  · skip
    refine V_aload_n C dL_law_875 rfl rfl ?_
    refine V_aload_n C dL_law_876 rfl rfl ?_
    refine V_SH1 (k2 := n) (s2 := 6 * n) C dL_law_877 lL_168 kL_stoppedPart (hh) rfl rfl ⟨Nat.le_of_ble_eq_true rfl, Nat.le_of_ble_eq_true rfl⟩ (Nat.le_of_ble_eq_true rfl) (by omega) (by omega) ?_
    refine V_istore C dL_law_880 (Nat.le_of_ble_eq_true rfl) rfl ?_
    refine V_aload_n C dL_law_882 rfl rfl ?_
    refine V_V1 (k2 := n) (s2 := 6 * n) C dL_law_883 lL_170 kX6_stoppedPart (hm) (by decide) (rfl) rfl rfl rfl ⟨Nat.le_of_ble_eq_true rfl, Nat.le_of_ble_eq_true rfl⟩ (Nat.le_of_ble_eq_true rfl) (by omega) (by omega) ?_
    refine V_istore C dL_law_886 (Nat.le_of_ble_eq_true rfl) rfl ?_
    refine V_aload_n C dL_law_888 rfl rfl ?_
    refine V_V1 (k2 := n) (s2 := 6 * n) C dL_law_889 lL_122 kX6_thrown (c_X6_thrown G K2 r1) (by decide) (rfl) rfl rfl rfl ⟨Nat.le_of_ble_eq_true rfl, Nat.le_of_ble_eq_true rfl⟩ (Nat.le_of_ble_eq_true rfl) (by omega) (by omega) ?_
    rw [h3]
    refine V_iload C dL_law_892 rfl ?_
    refine V_icmp_eq (tgt := 899) C dL_law_894 (by decide) (by omega) (by omega) (fun q894 => ?_) (fun q894 => by exfalso; omega)
    refine V_iload C dL_law_899 rfl ?_
    refine V_if_ne (tgt := 916) C dL_law_901 (by decide) (by omega) (fun q901 => by exfalso; omega) (fun q901 => ?_)
    refine V_aload_n C dL_law_904 rfl rfl ?_
    refine V_iconst C dL_law_905 ?_
    refine V_laldH C dL_law_906 (by decide) (fun _ => rfl) (by omega) (by decide) ?_
    rw [show K2 33 (0 : Int).toNat = b from h33 k0]
    refine V_iload C dL_law_907 rfl ?_
    refine V_i2l C dL_law_909 (by omega) ?_
    refine V_lcmp C dL_law_910 ?_
    rw [lcmp_eq]
    refine V_if_eq (tgt := 916) C dL_law_911 (by decide) (by omega) (fun q911 => ?_) (fun q911 => by exfalso; omega)
    refine V_goto (tgt := 2222) C dL_law_916 (by decide) ?_
    refine V_iinc C dL_law_2222 rfl (Nat.le_of_ble_eq_true rfl) rfl ?_
    refine V_goto (tgt := 23) C dL_law_2225 (by decide) ?_
    exact cont _ _ _ _
  · skip
    refine V_aload_n C dL_law_875 rfl rfl ?_
    refine V_aload_n C dL_law_876 rfl rfl ?_
    refine V_SH1 (k2 := n) (s2 := 6 * n) C dL_law_877 lL_168 kL_stoppedPart (hh) rfl rfl ⟨Nat.le_of_ble_eq_true rfl, Nat.le_of_ble_eq_true rfl⟩ (Nat.le_of_ble_eq_true rfl) (by omega) (by omega) ?_
    refine V_istore C dL_law_880 (Nat.le_of_ble_eq_true rfl) rfl ?_
    refine V_aload_n C dL_law_882 rfl rfl ?_
    refine V_V1 (k2 := n) (s2 := 6 * n) C dL_law_883 lL_170 kX6_stoppedPart (hm) (by decide) (rfl) rfl rfl rfl ⟨Nat.le_of_ble_eq_true rfl, Nat.le_of_ble_eq_true rfl⟩ (Nat.le_of_ble_eq_true rfl) (by omega) (by omega) ?_
    refine V_istore C dL_law_886 (Nat.le_of_ble_eq_true rfl) rfl ?_
    refine V_aload_n C dL_law_888 rfl rfl ?_
    refine V_V1 (k2 := n) (s2 := 6 * n) C dL_law_889 lL_122 kX6_thrown (c_X6_thrown G K2 r1) (by decide) (rfl) rfl rfl rfl ⟨Nat.le_of_ble_eq_true rfl, Nat.le_of_ble_eq_true rfl⟩ (Nat.le_of_ble_eq_true rfl) (by omega) (by omega) ?_
    rw [h3]
    refine V_iload C dL_law_892 rfl ?_
    refine V_icmp_eq (tgt := 899) C dL_law_894 (by decide) (by omega) (by omega) (fun q894 => ?_) (fun q894 => by exfalso; omega)
    refine V_iload C dL_law_899 rfl ?_
    refine V_if_ne (tgt := 916) C dL_law_901 (by decide) (by omega) (fun q901 => ?_) (fun q901 => by exfalso; omega)
    refine V_goto (tgt := 2222) C dL_law_916 (by decide) ?_
    refine V_iinc C dL_law_2222 rfl (Nat.le_of_ble_eq_true rfl) rfl ?_
    refine V_goto (tgt := 23) C dL_law_2225 (by decide) ?_
    exact cont _ _ _ _
set_option maxRecDepth 100000 in
set_option maxHeartbeats 4000000 in
theorem w_whyStopped {G : GT} {x : CxT} {sa L : Nat} {xs : Nat → Int32} (hW : LW G x sa L xs) {i : Int} (hi : 0 ≤ i ∧ i + 3 < L) {n : Nat}  {K K1 K2 : Nat → Nat → Int} {r r1 : Nat → Option Nat} {k b : Int} (hk : 0 ≤ k ∧ k ≤ 3) (hb : -2147483648 ≤ b ∧ b < 2147483648) (hh : CtH G yL_whyStopped mL_whyStopped [rf G 0, rf G 33] 34 false (HP G K r) 1 6 (some (.int (iI k))) 34 false (HP G K1 r1)) (hm : CtO G yX6_whyStopped mX6_whyStopped [rf G 28] K1 r1 (some (.int (iI b))) K2 r1) (h3 : K2 28 3 = k) (h33 : k = 0 → K2 33 0 = b) (cont : LL G x sa 23 (i + 4) K2 r1 n) : LL G x sa 919 i K r (n + 1) := by
  intro o5 o6 o7 o8
  obtain ⟨C, hX, hsz, hA, hL⟩ := hW
  by_cases k0 : k = 0
  · skip
    refine V_aload_n C dL_law_919 rfl rfl ?_
    refine V_aload_n C dL_law_920 rfl rfl ?_
    refine V_SH1 (k2 := n) (s2 := 6 * n) C dL_law_921 lL_171 kL_whyStopped (hh) rfl rfl ⟨Nat.le_of_ble_eq_true rfl, Nat.le_of_ble_eq_true rfl⟩ (Nat.le_of_ble_eq_true rfl) (by omega) (by omega) ?_
    refine V_istore C dL_law_924 (Nat.le_of_ble_eq_true rfl) rfl ?_
    refine V_aload_n C dL_law_926 rfl rfl ?_
    refine V_V1 (k2 := n) (s2 := 6 * n) C dL_law_927 lL_173 kX6_whyStopped (hm) (by decide) (rfl) rfl rfl rfl ⟨Nat.le_of_ble_eq_true rfl, Nat.le_of_ble_eq_true rfl⟩ (Nat.le_of_ble_eq_true rfl) (by omega) (by omega) ?_
    refine V_istore C dL_law_930 (Nat.le_of_ble_eq_true rfl) rfl ?_
    refine V_aload_n C dL_law_932 rfl rfl ?_
    refine V_V1 (k2 := n) (s2 := 6 * n) C dL_law_933 lL_122 kX6_thrown (c_X6_thrown G K2 r1) (by decide) (rfl) rfl rfl rfl ⟨Nat.le_of_ble_eq_true rfl, Nat.le_of_ble_eq_true rfl⟩ (Nat.le_of_ble_eq_true rfl) (by omega) (by omega) ?_
    rw [h3]
    refine V_iload C dL_law_936 rfl ?_
    refine V_icmp_eq (tgt := 943) C dL_law_938 (by decide) (by omega) (by omega) (fun q938 => ?_) (fun q938 => by exfalso; omega)
    refine V_iload C dL_law_943 rfl ?_
    refine V_if_ne (tgt := 960) C dL_law_945 (by decide) (by omega) (fun q945 => by exfalso; omega) (fun q945 => ?_)
    refine V_aload_n C dL_law_948 rfl rfl ?_
    refine V_iconst C dL_law_949 ?_
    refine V_laldH C dL_law_950 (by decide) (fun _ => rfl) (by omega) (by decide) ?_
    rw [show K2 33 (0 : Int).toNat = b from h33 k0]
    refine V_iload C dL_law_951 rfl ?_
    refine V_i2l C dL_law_953 (by omega) ?_
    refine V_lcmp C dL_law_954 ?_
    rw [lcmp_eq]
    refine V_if_eq (tgt := 960) C dL_law_955 (by decide) (by omega) (fun q955 => ?_) (fun q955 => by exfalso; omega)
    refine V_goto (tgt := 2222) C dL_law_960 (by decide) ?_
    refine V_iinc C dL_law_2222 rfl (Nat.le_of_ble_eq_true rfl) rfl ?_
    refine V_goto (tgt := 23) C dL_law_2225 (by decide) ?_
    exact cont _ _ _ _
  · skip
    refine V_aload_n C dL_law_919 rfl rfl ?_
    refine V_aload_n C dL_law_920 rfl rfl ?_
    refine V_SH1 (k2 := n) (s2 := 6 * n) C dL_law_921 lL_171 kL_whyStopped (hh) rfl rfl ⟨Nat.le_of_ble_eq_true rfl, Nat.le_of_ble_eq_true rfl⟩ (Nat.le_of_ble_eq_true rfl) (by omega) (by omega) ?_
    refine V_istore C dL_law_924 (Nat.le_of_ble_eq_true rfl) rfl ?_
    refine V_aload_n C dL_law_926 rfl rfl ?_
    refine V_V1 (k2 := n) (s2 := 6 * n) C dL_law_927 lL_173 kX6_whyStopped (hm) (by decide) (rfl) rfl rfl rfl ⟨Nat.le_of_ble_eq_true rfl, Nat.le_of_ble_eq_true rfl⟩ (Nat.le_of_ble_eq_true rfl) (by omega) (by omega) ?_
    refine V_istore C dL_law_930 (Nat.le_of_ble_eq_true rfl) rfl ?_
    refine V_aload_n C dL_law_932 rfl rfl ?_
    refine V_V1 (k2 := n) (s2 := 6 * n) C dL_law_933 lL_122 kX6_thrown (c_X6_thrown G K2 r1) (by decide) (rfl) rfl rfl rfl ⟨Nat.le_of_ble_eq_true rfl, Nat.le_of_ble_eq_true rfl⟩ (Nat.le_of_ble_eq_true rfl) (by omega) (by omega) ?_
    rw [h3]
    refine V_iload C dL_law_936 rfl ?_
    refine V_icmp_eq (tgt := 943) C dL_law_938 (by decide) (by omega) (by omega) (fun q938 => ?_) (fun q938 => by exfalso; omega)
    refine V_iload C dL_law_943 rfl ?_
    refine V_if_ne (tgt := 960) C dL_law_945 (by decide) (by omega) (fun q945 => ?_) (fun q945 => by exfalso; omega)
    refine V_goto (tgt := 2222) C dL_law_960 (by decide) ?_
    refine V_iinc C dL_law_2222 rfl (Nat.le_of_ble_eq_true rfl) rfl ?_
    refine V_goto (tgt := 23) C dL_law_2225 (by decide) ?_
    exact cont _ _ _ _
set_option maxRecDepth 100000 in
set_option maxHeartbeats 4000000 in
theorem w_undo {G : GT} {x : CxT} {sa L : Nat} {xs : Nat → Int32} (hW : LW G x sa L xs) {i : Int} (hi : 0 ≤ i ∧ i + 3 < L) {n : Nat}  {K K1 K2 : Nat → Nat → Int} {r r1 : Nat → Option Nat} {k b : Int} (hk : 0 ≤ k ∧ k ≤ 3) (hb : -2147483648 ≤ b ∧ b < 2147483648) (hh : CtH G yL_undo mL_undo [rf G 0, rf G 33] 34 false (HP G K r) 1 6 (some (.int (iI k))) 34 false (HP G K1 r1)) (hm : CtO G yX6_undo mX6_undo [rf G 28] K1 r1 (some (.int (iI b))) K2 r1) (h3 : K2 28 3 = k) (h33 : k = 0 → K2 33 0 = b) (cont : LL G x sa 23 (i + 4) K2 r1 n) : LL G x sa 963 i K r (n + 1) := by
  intro o5 o6 o7 o8
  obtain ⟨C, hX, hsz, hA, hL⟩ := hW
  by_cases k0 : k = 0
  · skip
    refine V_aload_n C dL_law_963 rfl rfl ?_
    refine V_aload_n C dL_law_964 rfl rfl ?_
    refine V_SH1 (k2 := n) (s2 := 6 * n) C dL_law_965 lL_174 kL_undo (hh) rfl rfl ⟨Nat.le_of_ble_eq_true rfl, Nat.le_of_ble_eq_true rfl⟩ (Nat.le_of_ble_eq_true rfl) (by omega) (by omega) ?_
    refine V_istore C dL_law_968 (Nat.le_of_ble_eq_true rfl) rfl ?_
    refine V_aload_n C dL_law_970 rfl rfl ?_
    refine V_V1 (k2 := n) (s2 := 6 * n) C dL_law_971 lL_176 kX6_undo (hm) (by decide) (rfl) rfl rfl rfl ⟨Nat.le_of_ble_eq_true rfl, Nat.le_of_ble_eq_true rfl⟩ (Nat.le_of_ble_eq_true rfl) (by omega) (by omega) ?_
    refine V_istore C dL_law_974 (Nat.le_of_ble_eq_true rfl) rfl ?_
    refine V_aload_n C dL_law_976 rfl rfl ?_
    refine V_V1 (k2 := n) (s2 := 6 * n) C dL_law_977 lL_122 kX6_thrown (c_X6_thrown G K2 r1) (by decide) (rfl) rfl rfl rfl ⟨Nat.le_of_ble_eq_true rfl, Nat.le_of_ble_eq_true rfl⟩ (Nat.le_of_ble_eq_true rfl) (by omega) (by omega) ?_
    rw [h3]
    refine V_iload C dL_law_980 rfl ?_
    refine V_icmp_eq (tgt := 987) C dL_law_982 (by decide) (by omega) (by omega) (fun q982 => ?_) (fun q982 => by exfalso; omega)
    refine V_iload C dL_law_987 rfl ?_
    refine V_if_ne (tgt := 1004) C dL_law_989 (by decide) (by omega) (fun q989 => by exfalso; omega) (fun q989 => ?_)
    refine V_aload_n C dL_law_992 rfl rfl ?_
    refine V_iconst C dL_law_993 ?_
    refine V_laldH C dL_law_994 (by decide) (fun _ => rfl) (by omega) (by decide) ?_
    rw [show K2 33 (0 : Int).toNat = b from h33 k0]
    refine V_iload C dL_law_995 rfl ?_
    refine V_i2l C dL_law_997 (by omega) ?_
    refine V_lcmp C dL_law_998 ?_
    rw [lcmp_eq]
    refine V_if_eq (tgt := 1004) C dL_law_999 (by decide) (by omega) (fun q999 => ?_) (fun q999 => by exfalso; omega)
    refine V_goto (tgt := 2222) C dL_law_1004 (by decide) ?_
    refine V_iinc C dL_law_2222 rfl (Nat.le_of_ble_eq_true rfl) rfl ?_
    refine V_goto (tgt := 23) C dL_law_2225 (by decide) ?_
    exact cont _ _ _ _
  · skip
    refine V_aload_n C dL_law_963 rfl rfl ?_
    refine V_aload_n C dL_law_964 rfl rfl ?_
    refine V_SH1 (k2 := n) (s2 := 6 * n) C dL_law_965 lL_174 kL_undo (hh) rfl rfl ⟨Nat.le_of_ble_eq_true rfl, Nat.le_of_ble_eq_true rfl⟩ (Nat.le_of_ble_eq_true rfl) (by omega) (by omega) ?_
    refine V_istore C dL_law_968 (Nat.le_of_ble_eq_true rfl) rfl ?_
    refine V_aload_n C dL_law_970 rfl rfl ?_
    refine V_V1 (k2 := n) (s2 := 6 * n) C dL_law_971 lL_176 kX6_undo (hm) (by decide) (rfl) rfl rfl rfl ⟨Nat.le_of_ble_eq_true rfl, Nat.le_of_ble_eq_true rfl⟩ (Nat.le_of_ble_eq_true rfl) (by omega) (by omega) ?_
    refine V_istore C dL_law_974 (Nat.le_of_ble_eq_true rfl) rfl ?_
    refine V_aload_n C dL_law_976 rfl rfl ?_
    refine V_V1 (k2 := n) (s2 := 6 * n) C dL_law_977 lL_122 kX6_thrown (c_X6_thrown G K2 r1) (by decide) (rfl) rfl rfl rfl ⟨Nat.le_of_ble_eq_true rfl, Nat.le_of_ble_eq_true rfl⟩ (Nat.le_of_ble_eq_true rfl) (by omega) (by omega) ?_
    rw [h3]
    refine V_iload C dL_law_980 rfl ?_
    refine V_icmp_eq (tgt := 987) C dL_law_982 (by decide) (by omega) (by omega) (fun q982 => ?_) (fun q982 => by exfalso; omega)
    refine V_iload C dL_law_987 rfl ?_
    refine V_if_ne (tgt := 1004) C dL_law_989 (by decide) (by omega) (fun q989 => ?_) (fun q989 => by exfalso; omega)
    refine V_goto (tgt := 2222) C dL_law_1004 (by decide) ?_
    refine V_iinc C dL_law_2222 rfl (Nat.le_of_ble_eq_true rfl) rfl ?_
    refine V_goto (tgt := 23) C dL_law_2225 (by decide) ?_
    exact cont _ _ _ _
set_option maxRecDepth 100000 in
set_option maxHeartbeats 4000000 in
theorem w_keep {G : GT} {x : CxT} {sa L : Nat} {xs : Nat → Int32} (hW : LW G x sa L xs) {i : Int} (hi : 0 ≤ i ∧ i + 3 < L) {n : Nat} {K K1 K2 : Nat → Nat → Int} {r r1 : Nat → Option Nat} {v : Int} (hv : -2147483648 ≤ v ∧ v < 2147483648) (hc : CtO G yX5_keep mX5_keep [rf G 0] K r (some (.int (iI v))) K1 r1) (hm : CtO G yX6_keep mX6_keep [rf G 28] K1 r1 (some (.int (iI v))) K2 r1) (cont : LL G x sa 23 (i + 4) K2 r1 n) : LL G x sa 1007 i K r (n + 1) := by
  intro o5 o6 o7 o8
  obtain ⟨C, hX, hsz, hA, hL⟩ := hW
  refine V_aload_n C dL_law_1007 rfl rfl ?_
  refine V_V1 (k2 := n) (s2 := 6 * n) C dL_law_1008 lL_177 kX5_keep (hc) (by decide) (rfl) rfl rfl rfl ⟨Nat.le_of_ble_eq_true rfl, Nat.le_of_ble_eq_true rfl⟩ (Nat.le_of_ble_eq_true rfl) (by omega) (by omega) ?_
  refine V_aload_n C dL_law_1011 rfl rfl ?_
  refine V_V1 (k2 := n) (s2 := 6 * n) C dL_law_1012 lL_180 kX6_keep (hm) (by decide) (rfl) rfl rfl rfl ⟨Nat.le_of_ble_eq_true rfl, Nat.le_of_ble_eq_true rfl⟩ (Nat.le_of_ble_eq_true rfl) (by omega) (by omega) ?_
  refine V_icmp_eq (tgt := 2222) C dL_law_1015 (by decide) (by omega) (by omega) (fun q1015 => ?_) (fun q1015 => by exfalso; omega)
  refine V_iinc C dL_law_2222 rfl (Nat.le_of_ble_eq_true rfl) rfl ?_
  refine V_goto (tgt := 23) C dL_law_2225 (by decide) ?_
  exact cont _ _ _ _
set_option maxRecDepth 100000 in
set_option maxHeartbeats 4000000 in
theorem w_restore {G : GT} {x : CxT} {sa L : Nat} {xs : Nat → Int32} (hW : LW G x sa L xs) {i : Int} (hi : 0 ≤ i ∧ i + 3 < L) {n : Nat}  {K K1 K2 : Nat → Nat → Int} {r r1 : Nat → Option Nat} {k b : Int} (hk : 0 ≤ k ∧ k ≤ 3) (hb : -2147483648 ≤ b ∧ b < 2147483648) (hh : CtH G yL_restore mL_restore [rf G 0, rf G 33] 34 false (HP G K r) 1 6 (some (.int (iI k))) 34 false (HP G K1 r1)) (hm : CtO G yX6_restore mX6_restore [rf G 28] K1 r1 (some (.int (iI b))) K2 r1) (h3 : K2 28 3 = k) (h33 : k = 0 → K2 33 0 = b) (cont : LL G x sa 23 (i + 4) K2 r1 n) : LL G x sa 1020 i K r (n + 1) := by
  intro o5 o6 o7 o8
  obtain ⟨C, hX, hsz, hA, hL⟩ := hW
  by_cases k0 : k = 0
  · skip
    refine V_aload_n C dL_law_1020 rfl rfl ?_
    refine V_aload_n C dL_law_1021 rfl rfl ?_
    refine V_SH1 (k2 := n) (s2 := 6 * n) C dL_law_1022 lL_181 kL_restore (hh) rfl rfl ⟨Nat.le_of_ble_eq_true rfl, Nat.le_of_ble_eq_true rfl⟩ (Nat.le_of_ble_eq_true rfl) (by omega) (by omega) ?_
    refine V_istore C dL_law_1025 (Nat.le_of_ble_eq_true rfl) rfl ?_
    refine V_aload_n C dL_law_1027 rfl rfl ?_
    refine V_V1 (k2 := n) (s2 := 6 * n) C dL_law_1028 lL_183 kX6_restore (hm) (by decide) (rfl) rfl rfl rfl ⟨Nat.le_of_ble_eq_true rfl, Nat.le_of_ble_eq_true rfl⟩ (Nat.le_of_ble_eq_true rfl) (by omega) (by omega) ?_
    refine V_istore C dL_law_1031 (Nat.le_of_ble_eq_true rfl) rfl ?_
    refine V_aload_n C dL_law_1033 rfl rfl ?_
    refine V_V1 (k2 := n) (s2 := 6 * n) C dL_law_1034 lL_122 kX6_thrown (c_X6_thrown G K2 r1) (by decide) (rfl) rfl rfl rfl ⟨Nat.le_of_ble_eq_true rfl, Nat.le_of_ble_eq_true rfl⟩ (Nat.le_of_ble_eq_true rfl) (by omega) (by omega) ?_
    rw [h3]
    refine V_iload C dL_law_1037 rfl ?_
    refine V_icmp_eq (tgt := 1044) C dL_law_1039 (by decide) (by omega) (by omega) (fun q1039 => ?_) (fun q1039 => by exfalso; omega)
    refine V_iload C dL_law_1044 rfl ?_
    refine V_if_ne (tgt := 1061) C dL_law_1046 (by decide) (by omega) (fun q1046 => by exfalso; omega) (fun q1046 => ?_)
    refine V_aload_n C dL_law_1049 rfl rfl ?_
    refine V_iconst C dL_law_1050 ?_
    refine V_laldH C dL_law_1051 (by decide) (fun _ => rfl) (by omega) (by decide) ?_
    rw [show K2 33 (0 : Int).toNat = b from h33 k0]
    refine V_iload C dL_law_1052 rfl ?_
    refine V_i2l C dL_law_1054 (by omega) ?_
    refine V_lcmp C dL_law_1055 ?_
    rw [lcmp_eq]
    refine V_if_eq (tgt := 1061) C dL_law_1056 (by decide) (by omega) (fun q1056 => ?_) (fun q1056 => by exfalso; omega)
    refine V_goto (tgt := 2222) C dL_law_1061 (by decide) ?_
    refine V_iinc C dL_law_2222 rfl (Nat.le_of_ble_eq_true rfl) rfl ?_
    refine V_goto (tgt := 23) C dL_law_2225 (by decide) ?_
    exact cont _ _ _ _
  · skip
    refine V_aload_n C dL_law_1020 rfl rfl ?_
    refine V_aload_n C dL_law_1021 rfl rfl ?_
    refine V_SH1 (k2 := n) (s2 := 6 * n) C dL_law_1022 lL_181 kL_restore (hh) rfl rfl ⟨Nat.le_of_ble_eq_true rfl, Nat.le_of_ble_eq_true rfl⟩ (Nat.le_of_ble_eq_true rfl) (by omega) (by omega) ?_
    refine V_istore C dL_law_1025 (Nat.le_of_ble_eq_true rfl) rfl ?_
    refine V_aload_n C dL_law_1027 rfl rfl ?_
    refine V_V1 (k2 := n) (s2 := 6 * n) C dL_law_1028 lL_183 kX6_restore (hm) (by decide) (rfl) rfl rfl rfl ⟨Nat.le_of_ble_eq_true rfl, Nat.le_of_ble_eq_true rfl⟩ (Nat.le_of_ble_eq_true rfl) (by omega) (by omega) ?_
    refine V_istore C dL_law_1031 (Nat.le_of_ble_eq_true rfl) rfl ?_
    refine V_aload_n C dL_law_1033 rfl rfl ?_
    refine V_V1 (k2 := n) (s2 := 6 * n) C dL_law_1034 lL_122 kX6_thrown (c_X6_thrown G K2 r1) (by decide) (rfl) rfl rfl rfl ⟨Nat.le_of_ble_eq_true rfl, Nat.le_of_ble_eq_true rfl⟩ (Nat.le_of_ble_eq_true rfl) (by omega) (by omega) ?_
    rw [h3]
    refine V_iload C dL_law_1037 rfl ?_
    refine V_icmp_eq (tgt := 1044) C dL_law_1039 (by decide) (by omega) (by omega) (fun q1039 => ?_) (fun q1039 => by exfalso; omega)
    refine V_iload C dL_law_1044 rfl ?_
    refine V_if_ne (tgt := 1061) C dL_law_1046 (by decide) (by omega) (fun q1046 => ?_) (fun q1046 => by exfalso; omega)
    refine V_goto (tgt := 2222) C dL_law_1061 (by decide) ?_
    refine V_iinc C dL_law_2222 rfl (Nat.le_of_ble_eq_true rfl) rfl ?_
    refine V_goto (tgt := 23) C dL_law_2225 (by decide) ?_
    exact cont _ _ _ _
set_option maxRecDepth 100000 in
set_option maxHeartbeats 4000000 in
theorem w_savedStates {G : GT} {x : CxT} {sa L : Nat} {xs : Nat → Int32} (hW : LW G x sa L xs) {i : Int} (hi : 0 ≤ i ∧ i + 3 < L) {n : Nat} {K K1 K2 : Nat → Nat → Int} {r r1 : Nat → Option Nat} {v : Int} (hv : -2147483648 ≤ v ∧ v < 2147483648) (hc : CtO G yX5_savedStates mX5_savedStates [rf G 0] K r (some (.int (iI v))) K1 r1) (hm : CtO G yX6_savedStates mX6_savedStates [rf G 28] K1 r1 (some (.int (iI v))) K2 r1) (cont : LL G x sa 23 (i + 4) K2 r1 n) : LL G x sa 1064 i K r (n + 1) := by
  intro o5 o6 o7 o8
  obtain ⟨C, hX, hsz, hA, hL⟩ := hW
  refine V_aload_n C dL_law_1064 rfl rfl ?_
  refine V_V1 (k2 := n) (s2 := 6 * n) C dL_law_1065 lL_184 kX5_savedStates (hc) (by decide) (rfl) rfl rfl rfl ⟨Nat.le_of_ble_eq_true rfl, Nat.le_of_ble_eq_true rfl⟩ (Nat.le_of_ble_eq_true rfl) (by omega) (by omega) ?_
  refine V_aload_n C dL_law_1068 rfl rfl ?_
  refine V_V1 (k2 := n) (s2 := 6 * n) C dL_law_1069 lL_187 kX6_savedStates (hm) (by decide) (rfl) rfl rfl rfl ⟨Nat.le_of_ble_eq_true rfl, Nat.le_of_ble_eq_true rfl⟩ (Nat.le_of_ble_eq_true rfl) (by omega) (by omega) ?_
  refine V_icmp_eq (tgt := 2222) C dL_law_1072 (by decide) (by omega) (by omega) (fun q1072 => ?_) (fun q1072 => by exfalso; omega)
  refine V_iinc C dL_law_2222 rfl (Nat.le_of_ble_eq_true rfl) rfl ?_
  refine V_goto (tgt := 23) C dL_law_2225 (by decide) ?_
  exact cont _ _ _ _
set_option maxRecDepth 100000 in
set_option maxHeartbeats 4000000 in
theorem w_worthOf {G : GT} {x : CxT} {sa L : Nat} {xs : Nat → Int32} (hW : LW G x sa L xs) {i : Int} (hi : 0 ≤ i ∧ i + 3 < L) {n : Nat} {p : Int} (ep : xs (i + 1).toNat = iI p) {K K1 K2 : Nat → Nat → Int} {r r1 : Nat → Option Nat} {k b : Int} (hk : 0 ≤ k ∧ k ≤ 3) (hb : -2147483648 ≤ b ∧ b < 2147483648) (hh : CtH G yL_worthOf mL_worthOf [rf G 0, .int (iI p), rf G 33] 34 false (HP G K r) 1 6 (some (.int (iI k))) 34 false (HP G K1 r1)) (hm : CtO G yX6_worthOf mX6_worthOf [rf G 28, .int (iI p)] K1 r1 (some (.int (iI b))) K2 r1) (h3 : K2 28 3 = k) (h33 : k = 0 → K2 33 0 = b) (cont : LL G x sa 23 (i + 4) K2 r1 n) : LL G x sa 1077 i K r (n + 1) := by
  intro o5 o6 o7 o8
  obtain ⟨C, hX, hsz, hA, hL⟩ := hW
  by_cases k0 : k = 0
  · skip
    refine V_aload_n C dL_law_1077 rfl rfl ?_
    refine V_aload_nq C dL_law_1078 rfl rfl ?_
    refine V_iload C dL_law_1079 rfl ?_
    refine V_iconst C dL_law_1081 ?_
    refine V_iadd C dL_law_1082 ?_
    refine V_sld C dL_law_1083 hX hsz hA (by omega) (by omega) ?_
    rw [ep]
    refine V_aload_n C dL_law_1084 rfl rfl ?_
    refine V_SH1 (k2 := n) (s2 := 6 * n) C dL_law_1085 lL_188 kL_worthOf (hh) rfl rfl ⟨Nat.le_of_ble_eq_true rfl, Nat.le_of_ble_eq_true rfl⟩ (Nat.le_of_ble_eq_true rfl) (by omega) (by omega) ?_
    refine V_istore C dL_law_1088 (Nat.le_of_ble_eq_true rfl) rfl ?_
    refine V_aload_n C dL_law_1090 rfl rfl ?_
    refine V_aload_nq C dL_law_1091 rfl rfl ?_
    refine V_iload C dL_law_1092 rfl ?_
    refine V_iconst C dL_law_1094 ?_
    refine V_iadd C dL_law_1095 ?_
    refine V_sld C dL_law_1096 hX hsz hA (by omega) (by omega) ?_
    rw [ep]
    refine V_V1 (k2 := n) (s2 := 6 * n) C dL_law_1097 lL_190 kX6_worthOf (hm) (by decide) (rfl) rfl rfl rfl ⟨Nat.le_of_ble_eq_true rfl, Nat.le_of_ble_eq_true rfl⟩ (Nat.le_of_ble_eq_true rfl) (by omega) (by omega) ?_
    refine V_istore C dL_law_1100 (Nat.le_of_ble_eq_true rfl) rfl ?_
    refine V_aload_n C dL_law_1102 rfl rfl ?_
    refine V_V1 (k2 := n) (s2 := 6 * n) C dL_law_1103 lL_122 kX6_thrown (c_X6_thrown G K2 r1) (by decide) (rfl) rfl rfl rfl ⟨Nat.le_of_ble_eq_true rfl, Nat.le_of_ble_eq_true rfl⟩ (Nat.le_of_ble_eq_true rfl) (by omega) (by omega) ?_
    rw [h3]
    refine V_iload C dL_law_1106 rfl ?_
    refine V_icmp_eq (tgt := 1113) C dL_law_1108 (by decide) (by omega) (by omega) (fun q1108 => ?_) (fun q1108 => by exfalso; omega)
    refine V_iload C dL_law_1113 rfl ?_
    refine V_if_ne (tgt := 1130) C dL_law_1115 (by decide) (by omega) (fun q1115 => by exfalso; omega) (fun q1115 => ?_)
    refine V_aload_n C dL_law_1118 rfl rfl ?_
    refine V_iconst C dL_law_1119 ?_
    refine V_laldH C dL_law_1120 (by decide) (fun _ => rfl) (by omega) (by decide) ?_
    rw [show K2 33 (0 : Int).toNat = b from h33 k0]
    refine V_iload C dL_law_1121 rfl ?_
    refine V_i2l C dL_law_1123 (by omega) ?_
    refine V_lcmp C dL_law_1124 ?_
    rw [lcmp_eq]
    refine V_if_eq (tgt := 1130) C dL_law_1125 (by decide) (by omega) (fun q1125 => ?_) (fun q1125 => by exfalso; omega)
    refine V_goto (tgt := 2222) C dL_law_1130 (by decide) ?_
    refine V_iinc C dL_law_2222 rfl (Nat.le_of_ble_eq_true rfl) rfl ?_
    refine V_goto (tgt := 23) C dL_law_2225 (by decide) ?_
    exact cont _ _ _ _
  · skip
    refine V_aload_n C dL_law_1077 rfl rfl ?_
    refine V_aload_nq C dL_law_1078 rfl rfl ?_
    refine V_iload C dL_law_1079 rfl ?_
    refine V_iconst C dL_law_1081 ?_
    refine V_iadd C dL_law_1082 ?_
    refine V_sld C dL_law_1083 hX hsz hA (by omega) (by omega) ?_
    rw [ep]
    refine V_aload_n C dL_law_1084 rfl rfl ?_
    refine V_SH1 (k2 := n) (s2 := 6 * n) C dL_law_1085 lL_188 kL_worthOf (hh) rfl rfl ⟨Nat.le_of_ble_eq_true rfl, Nat.le_of_ble_eq_true rfl⟩ (Nat.le_of_ble_eq_true rfl) (by omega) (by omega) ?_
    refine V_istore C dL_law_1088 (Nat.le_of_ble_eq_true rfl) rfl ?_
    refine V_aload_n C dL_law_1090 rfl rfl ?_
    refine V_aload_nq C dL_law_1091 rfl rfl ?_
    refine V_iload C dL_law_1092 rfl ?_
    refine V_iconst C dL_law_1094 ?_
    refine V_iadd C dL_law_1095 ?_
    refine V_sld C dL_law_1096 hX hsz hA (by omega) (by omega) ?_
    rw [ep]
    refine V_V1 (k2 := n) (s2 := 6 * n) C dL_law_1097 lL_190 kX6_worthOf (hm) (by decide) (rfl) rfl rfl rfl ⟨Nat.le_of_ble_eq_true rfl, Nat.le_of_ble_eq_true rfl⟩ (Nat.le_of_ble_eq_true rfl) (by omega) (by omega) ?_
    refine V_istore C dL_law_1100 (Nat.le_of_ble_eq_true rfl) rfl ?_
    refine V_aload_n C dL_law_1102 rfl rfl ?_
    refine V_V1 (k2 := n) (s2 := 6 * n) C dL_law_1103 lL_122 kX6_thrown (c_X6_thrown G K2 r1) (by decide) (rfl) rfl rfl rfl ⟨Nat.le_of_ble_eq_true rfl, Nat.le_of_ble_eq_true rfl⟩ (Nat.le_of_ble_eq_true rfl) (by omega) (by omega) ?_
    rw [h3]
    refine V_iload C dL_law_1106 rfl ?_
    refine V_icmp_eq (tgt := 1113) C dL_law_1108 (by decide) (by omega) (by omega) (fun q1108 => ?_) (fun q1108 => by exfalso; omega)
    refine V_iload C dL_law_1113 rfl ?_
    refine V_if_ne (tgt := 1130) C dL_law_1115 (by decide) (by omega) (fun q1115 => ?_) (fun q1115 => by exfalso; omega)
    refine V_goto (tgt := 2222) C dL_law_1130 (by decide) ?_
    refine V_iinc C dL_law_2222 rfl (Nat.le_of_ble_eq_true rfl) rfl ?_
    refine V_goto (tgt := 23) C dL_law_2225 (by decide) ?_
    exact cont _ _ _ _
set_option maxRecDepth 100000 in
set_option maxHeartbeats 4000000 in
theorem w_worthOfSet {G : GT} {x : CxT} {sa L : Nat} {xs : Nat → Int32} (hW : LW G x sa L xs) {i : Int} (hi : 0 ≤ i ∧ i + 3 < L) {n : Nat} {p : Int} (ep : xs (i + 1).toNat = iI p) {K K1 K2 : Nat → Nat → Int} {r r1 : Nat → Option Nat} {k b : Int} (hk : 0 ≤ k ∧ k ≤ 3) (hb : -2147483648 ≤ b ∧ b < 2147483648) (hh : CtH G yL_worthOfSet mL_worthOfSet [rf G 0, .int (iI p), rf G 33] 34 false (HP G K r) 1 6 (some (.int (iI k))) 34 false (HP G K1 r1)) (hm : CtO G yX6_worthOfSet mX6_worthOfSet [rf G 28, .int (iI p)] K1 r1 (some (.int (iI b))) K2 r1) (h3 : K2 28 3 = k) (h33 : k = 0 → K2 33 0 = b) (cont : LL G x sa 23 (i + 4) K2 r1 n) : LL G x sa 1133 i K r (n + 1) := by
  intro o5 o6 o7 o8
  obtain ⟨C, hX, hsz, hA, hL⟩ := hW
  by_cases k0 : k = 0
  · skip
    refine V_aload_n C dL_law_1133 rfl rfl ?_
    refine V_aload_nq C dL_law_1134 rfl rfl ?_
    refine V_iload C dL_law_1135 rfl ?_
    refine V_iconst C dL_law_1137 ?_
    refine V_iadd C dL_law_1138 ?_
    refine V_sld C dL_law_1139 hX hsz hA (by omega) (by omega) ?_
    rw [ep]
    refine V_aload_n C dL_law_1140 rfl rfl ?_
    refine V_SH1 (k2 := n) (s2 := 6 * n) C dL_law_1141 lL_191 kL_worthOfSet (hh) rfl rfl ⟨Nat.le_of_ble_eq_true rfl, Nat.le_of_ble_eq_true rfl⟩ (Nat.le_of_ble_eq_true rfl) (by omega) (by omega) ?_
    refine V_istore C dL_law_1144 (Nat.le_of_ble_eq_true rfl) rfl ?_
    refine V_aload_n C dL_law_1146 rfl rfl ?_
    refine V_aload_nq C dL_law_1147 rfl rfl ?_
    refine V_iload C dL_law_1148 rfl ?_
    refine V_iconst C dL_law_1150 ?_
    refine V_iadd C dL_law_1151 ?_
    refine V_sld C dL_law_1152 hX hsz hA (by omega) (by omega) ?_
    rw [ep]
    refine V_V1 (k2 := n) (s2 := 6 * n) C dL_law_1153 lL_193 kX6_worthOfSet (hm) (by decide) (rfl) rfl rfl rfl ⟨Nat.le_of_ble_eq_true rfl, Nat.le_of_ble_eq_true rfl⟩ (Nat.le_of_ble_eq_true rfl) (by omega) (by omega) ?_
    refine V_istore C dL_law_1156 (Nat.le_of_ble_eq_true rfl) rfl ?_
    refine V_aload_n C dL_law_1158 rfl rfl ?_
    refine V_V1 (k2 := n) (s2 := 6 * n) C dL_law_1159 lL_122 kX6_thrown (c_X6_thrown G K2 r1) (by decide) (rfl) rfl rfl rfl ⟨Nat.le_of_ble_eq_true rfl, Nat.le_of_ble_eq_true rfl⟩ (Nat.le_of_ble_eq_true rfl) (by omega) (by omega) ?_
    rw [h3]
    refine V_iload C dL_law_1162 rfl ?_
    refine V_icmp_eq (tgt := 1169) C dL_law_1164 (by decide) (by omega) (by omega) (fun q1164 => ?_) (fun q1164 => by exfalso; omega)
    refine V_iload C dL_law_1169 rfl ?_
    refine V_if_ne (tgt := 1186) C dL_law_1171 (by decide) (by omega) (fun q1171 => by exfalso; omega) (fun q1171 => ?_)
    refine V_aload_n C dL_law_1174 rfl rfl ?_
    refine V_iconst C dL_law_1175 ?_
    refine V_laldH C dL_law_1176 (by decide) (fun _ => rfl) (by omega) (by decide) ?_
    rw [show K2 33 (0 : Int).toNat = b from h33 k0]
    refine V_iload C dL_law_1177 rfl ?_
    refine V_i2l C dL_law_1179 (by omega) ?_
    refine V_lcmp C dL_law_1180 ?_
    rw [lcmp_eq]
    refine V_if_eq (tgt := 1186) C dL_law_1181 (by decide) (by omega) (fun q1181 => ?_) (fun q1181 => by exfalso; omega)
    refine V_goto (tgt := 2222) C dL_law_1186 (by decide) ?_
    refine V_iinc C dL_law_2222 rfl (Nat.le_of_ble_eq_true rfl) rfl ?_
    refine V_goto (tgt := 23) C dL_law_2225 (by decide) ?_
    exact cont _ _ _ _
  · skip
    refine V_aload_n C dL_law_1133 rfl rfl ?_
    refine V_aload_nq C dL_law_1134 rfl rfl ?_
    refine V_iload C dL_law_1135 rfl ?_
    refine V_iconst C dL_law_1137 ?_
    refine V_iadd C dL_law_1138 ?_
    refine V_sld C dL_law_1139 hX hsz hA (by omega) (by omega) ?_
    rw [ep]
    refine V_aload_n C dL_law_1140 rfl rfl ?_
    refine V_SH1 (k2 := n) (s2 := 6 * n) C dL_law_1141 lL_191 kL_worthOfSet (hh) rfl rfl ⟨Nat.le_of_ble_eq_true rfl, Nat.le_of_ble_eq_true rfl⟩ (Nat.le_of_ble_eq_true rfl) (by omega) (by omega) ?_
    refine V_istore C dL_law_1144 (Nat.le_of_ble_eq_true rfl) rfl ?_
    refine V_aload_n C dL_law_1146 rfl rfl ?_
    refine V_aload_nq C dL_law_1147 rfl rfl ?_
    refine V_iload C dL_law_1148 rfl ?_
    refine V_iconst C dL_law_1150 ?_
    refine V_iadd C dL_law_1151 ?_
    refine V_sld C dL_law_1152 hX hsz hA (by omega) (by omega) ?_
    rw [ep]
    refine V_V1 (k2 := n) (s2 := 6 * n) C dL_law_1153 lL_193 kX6_worthOfSet (hm) (by decide) (rfl) rfl rfl rfl ⟨Nat.le_of_ble_eq_true rfl, Nat.le_of_ble_eq_true rfl⟩ (Nat.le_of_ble_eq_true rfl) (by omega) (by omega) ?_
    refine V_istore C dL_law_1156 (Nat.le_of_ble_eq_true rfl) rfl ?_
    refine V_aload_n C dL_law_1158 rfl rfl ?_
    refine V_V1 (k2 := n) (s2 := 6 * n) C dL_law_1159 lL_122 kX6_thrown (c_X6_thrown G K2 r1) (by decide) (rfl) rfl rfl rfl ⟨Nat.le_of_ble_eq_true rfl, Nat.le_of_ble_eq_true rfl⟩ (Nat.le_of_ble_eq_true rfl) (by omega) (by omega) ?_
    rw [h3]
    refine V_iload C dL_law_1162 rfl ?_
    refine V_icmp_eq (tgt := 1169) C dL_law_1164 (by decide) (by omega) (by omega) (fun q1164 => ?_) (fun q1164 => by exfalso; omega)
    refine V_iload C dL_law_1169 rfl ?_
    refine V_if_ne (tgt := 1186) C dL_law_1171 (by decide) (by omega) (fun q1171 => ?_) (fun q1171 => by exfalso; omega)
    refine V_goto (tgt := 2222) C dL_law_1186 (by decide) ?_
    refine V_iinc C dL_law_2222 rfl (Nat.le_of_ble_eq_true rfl) rfl ?_
    refine V_goto (tgt := 23) C dL_law_2225 (by decide) ?_
    exact cont _ _ _ _
set_option maxRecDepth 100000 in
set_option maxHeartbeats 4000000 in
theorem w_say {G : GT} {x : CxT} {sa L : Nat} {xs : Nat → Int32} (hW : LW G x sa L xs) {i : Int} (hi : 0 ≤ i ∧ i + 3 < L) {n : Nat} {p : Int} (ep : xs (i + 1).toNat = iI p) {K K1 K2 : Nat → Nat → Int} {r r1 : Nat → Option Nat} {k b : Int} (hk : 0 ≤ k ∧ k ≤ 3) (hb : -2147483648 ≤ b ∧ b < 2147483648) (hh : CtH G yL_say mL_say [rf G 0, .int (iI p), rf G 33] 34 false (HP G K r) 1 6 (some (.int (iI k))) 34 false (HP G K1 r1)) (hm : CtO G yX6_say mX6_say [rf G 28, .int (iI p)] K1 r1 (some (.int (iI b))) K2 r1) (h3 : K2 28 3 = k) (h33 : k = 0 → K2 33 0 = b) (cont : LL G x sa 23 (i + 4) K2 r1 n) : LL G x sa 1189 i K r (n + 1) := by
  intro o5 o6 o7 o8
  obtain ⟨C, hX, hsz, hA, hL⟩ := hW
  by_cases k0 : k = 0
  · skip
    refine V_aload_n C dL_law_1189 rfl rfl ?_
    refine V_aload_nq C dL_law_1190 rfl rfl ?_
    refine V_iload C dL_law_1191 rfl ?_
    refine V_iconst C dL_law_1193 ?_
    refine V_iadd C dL_law_1194 ?_
    refine V_sld C dL_law_1195 hX hsz hA (by omega) (by omega) ?_
    rw [ep]
    refine V_aload_n C dL_law_1196 rfl rfl ?_
    refine V_SH1 (k2 := n) (s2 := 6 * n) C dL_law_1197 lL_194 kL_say (hh) rfl rfl ⟨Nat.le_of_ble_eq_true rfl, Nat.le_of_ble_eq_true rfl⟩ (Nat.le_of_ble_eq_true rfl) (by omega) (by omega) ?_
    refine V_istore C dL_law_1200 (Nat.le_of_ble_eq_true rfl) rfl ?_
    refine V_aload_n C dL_law_1202 rfl rfl ?_
    refine V_aload_nq C dL_law_1203 rfl rfl ?_
    refine V_iload C dL_law_1204 rfl ?_
    refine V_iconst C dL_law_1206 ?_
    refine V_iadd C dL_law_1207 ?_
    refine V_sld C dL_law_1208 hX hsz hA (by omega) (by omega) ?_
    rw [ep]
    refine V_V1 (k2 := n) (s2 := 6 * n) C dL_law_1209 lL_196 kX6_say (hm) (by decide) (rfl) rfl rfl rfl ⟨Nat.le_of_ble_eq_true rfl, Nat.le_of_ble_eq_true rfl⟩ (Nat.le_of_ble_eq_true rfl) (by omega) (by omega) ?_
    refine V_istore C dL_law_1212 (Nat.le_of_ble_eq_true rfl) rfl ?_
    refine V_aload_n C dL_law_1214 rfl rfl ?_
    refine V_V1 (k2 := n) (s2 := 6 * n) C dL_law_1215 lL_122 kX6_thrown (c_X6_thrown G K2 r1) (by decide) (rfl) rfl rfl rfl ⟨Nat.le_of_ble_eq_true rfl, Nat.le_of_ble_eq_true rfl⟩ (Nat.le_of_ble_eq_true rfl) (by omega) (by omega) ?_
    rw [h3]
    refine V_iload C dL_law_1218 rfl ?_
    refine V_icmp_eq (tgt := 1225) C dL_law_1220 (by decide) (by omega) (by omega) (fun q1220 => ?_) (fun q1220 => by exfalso; omega)
    refine V_iload C dL_law_1225 rfl ?_
    refine V_if_ne (tgt := 1242) C dL_law_1227 (by decide) (by omega) (fun q1227 => by exfalso; omega) (fun q1227 => ?_)
    refine V_aload_n C dL_law_1230 rfl rfl ?_
    refine V_iconst C dL_law_1231 ?_
    refine V_laldH C dL_law_1232 (by decide) (fun _ => rfl) (by omega) (by decide) ?_
    rw [show K2 33 (0 : Int).toNat = b from h33 k0]
    refine V_iload C dL_law_1233 rfl ?_
    refine V_i2l C dL_law_1235 (by omega) ?_
    refine V_lcmp C dL_law_1236 ?_
    rw [lcmp_eq]
    refine V_if_eq (tgt := 1242) C dL_law_1237 (by decide) (by omega) (fun q1237 => ?_) (fun q1237 => by exfalso; omega)
    refine V_goto (tgt := 2222) C dL_law_1242 (by decide) ?_
    refine V_iinc C dL_law_2222 rfl (Nat.le_of_ble_eq_true rfl) rfl ?_
    refine V_goto (tgt := 23) C dL_law_2225 (by decide) ?_
    exact cont _ _ _ _
  · skip
    refine V_aload_n C dL_law_1189 rfl rfl ?_
    refine V_aload_nq C dL_law_1190 rfl rfl ?_
    refine V_iload C dL_law_1191 rfl ?_
    refine V_iconst C dL_law_1193 ?_
    refine V_iadd C dL_law_1194 ?_
    refine V_sld C dL_law_1195 hX hsz hA (by omega) (by omega) ?_
    rw [ep]
    refine V_aload_n C dL_law_1196 rfl rfl ?_
    refine V_SH1 (k2 := n) (s2 := 6 * n) C dL_law_1197 lL_194 kL_say (hh) rfl rfl ⟨Nat.le_of_ble_eq_true rfl, Nat.le_of_ble_eq_true rfl⟩ (Nat.le_of_ble_eq_true rfl) (by omega) (by omega) ?_
    refine V_istore C dL_law_1200 (Nat.le_of_ble_eq_true rfl) rfl ?_
    refine V_aload_n C dL_law_1202 rfl rfl ?_
    refine V_aload_nq C dL_law_1203 rfl rfl ?_
    refine V_iload C dL_law_1204 rfl ?_
    refine V_iconst C dL_law_1206 ?_
    refine V_iadd C dL_law_1207 ?_
    refine V_sld C dL_law_1208 hX hsz hA (by omega) (by omega) ?_
    rw [ep]
    refine V_V1 (k2 := n) (s2 := 6 * n) C dL_law_1209 lL_196 kX6_say (hm) (by decide) (rfl) rfl rfl rfl ⟨Nat.le_of_ble_eq_true rfl, Nat.le_of_ble_eq_true rfl⟩ (Nat.le_of_ble_eq_true rfl) (by omega) (by omega) ?_
    refine V_istore C dL_law_1212 (Nat.le_of_ble_eq_true rfl) rfl ?_
    refine V_aload_n C dL_law_1214 rfl rfl ?_
    refine V_V1 (k2 := n) (s2 := 6 * n) C dL_law_1215 lL_122 kX6_thrown (c_X6_thrown G K2 r1) (by decide) (rfl) rfl rfl rfl ⟨Nat.le_of_ble_eq_true rfl, Nat.le_of_ble_eq_true rfl⟩ (Nat.le_of_ble_eq_true rfl) (by omega) (by omega) ?_
    rw [h3]
    refine V_iload C dL_law_1218 rfl ?_
    refine V_icmp_eq (tgt := 1225) C dL_law_1220 (by decide) (by omega) (by omega) (fun q1220 => ?_) (fun q1220 => by exfalso; omega)
    refine V_iload C dL_law_1225 rfl ?_
    refine V_if_ne (tgt := 1242) C dL_law_1227 (by decide) (by omega) (fun q1227 => ?_) (fun q1227 => by exfalso; omega)
    refine V_goto (tgt := 2222) C dL_law_1242 (by decide) ?_
    refine V_iinc C dL_law_2222 rfl (Nat.le_of_ble_eq_true rfl) rfl ?_
    refine V_goto (tgt := 23) C dL_law_2225 (by decide) ?_
    exact cont _ _ _ _
set_option maxRecDepth 100000 in
set_option maxHeartbeats 4000000 in
theorem w_sayByCounting {G : GT} {x : CxT} {sa L : Nat} {xs : Nat → Int32} (hW : LW G x sa L xs) {i : Int} (hi : 0 ≤ i ∧ i + 3 < L) {n : Nat} {p : Int} (ep : xs (i + 1).toNat = iI p) {K K1 K2 : Nat → Nat → Int} {r r1 : Nat → Option Nat} {k b : Int} (hk : 0 ≤ k ∧ k ≤ 3) (hb : -2147483648 ≤ b ∧ b < 2147483648) (hh : CtH G yL_sayByCounting mL_sayByCounting [rf G 0, .int (iI p), rf G 33] 34 false (HP G K r) 1 6 (some (.int (iI k))) 34 false (HP G K1 r1)) (hm : CtO G yX6_sayByCounting mX6_sayByCounting [rf G 28, .int (iI p)] K1 r1 (some (.int (iI b))) K2 r1) (h3 : K2 28 3 = k) (h33 : k = 0 → K2 33 0 = b) (cont : LL G x sa 23 (i + 4) K2 r1 n) : LL G x sa 1245 i K r (n + 1) := by
  intro o5 o6 o7 o8
  obtain ⟨C, hX, hsz, hA, hL⟩ := hW
  by_cases k0 : k = 0
  · skip
    refine V_aload_n C dL_law_1245 rfl rfl ?_
    refine V_aload_nq C dL_law_1246 rfl rfl ?_
    refine V_iload C dL_law_1247 rfl ?_
    refine V_iconst C dL_law_1249 ?_
    refine V_iadd C dL_law_1250 ?_
    refine V_sld C dL_law_1251 hX hsz hA (by omega) (by omega) ?_
    rw [ep]
    refine V_aload_n C dL_law_1252 rfl rfl ?_
    refine V_SH1 (k2 := n) (s2 := 6 * n) C dL_law_1253 lL_197 kL_sayByCounting (hh) rfl rfl ⟨Nat.le_of_ble_eq_true rfl, Nat.le_of_ble_eq_true rfl⟩ (Nat.le_of_ble_eq_true rfl) (by omega) (by omega) ?_
    refine V_istore C dL_law_1256 (Nat.le_of_ble_eq_true rfl) rfl ?_
    refine V_aload_n C dL_law_1258 rfl rfl ?_
    refine V_aload_nq C dL_law_1259 rfl rfl ?_
    refine V_iload C dL_law_1260 rfl ?_
    refine V_iconst C dL_law_1262 ?_
    refine V_iadd C dL_law_1263 ?_
    refine V_sld C dL_law_1264 hX hsz hA (by omega) (by omega) ?_
    rw [ep]
    refine V_V1 (k2 := n) (s2 := 6 * n) C dL_law_1265 lL_199 kX6_sayByCounting (hm) (by decide) (rfl) rfl rfl rfl ⟨Nat.le_of_ble_eq_true rfl, Nat.le_of_ble_eq_true rfl⟩ (Nat.le_of_ble_eq_true rfl) (by omega) (by omega) ?_
    refine V_istore C dL_law_1268 (Nat.le_of_ble_eq_true rfl) rfl ?_
    refine V_aload_n C dL_law_1270 rfl rfl ?_
    refine V_V1 (k2 := n) (s2 := 6 * n) C dL_law_1271 lL_122 kX6_thrown (c_X6_thrown G K2 r1) (by decide) (rfl) rfl rfl rfl ⟨Nat.le_of_ble_eq_true rfl, Nat.le_of_ble_eq_true rfl⟩ (Nat.le_of_ble_eq_true rfl) (by omega) (by omega) ?_
    rw [h3]
    refine V_iload C dL_law_1274 rfl ?_
    refine V_icmp_eq (tgt := 1281) C dL_law_1276 (by decide) (by omega) (by omega) (fun q1276 => ?_) (fun q1276 => by exfalso; omega)
    refine V_iload C dL_law_1281 rfl ?_
    refine V_if_ne (tgt := 1298) C dL_law_1283 (by decide) (by omega) (fun q1283 => by exfalso; omega) (fun q1283 => ?_)
    refine V_aload_n C dL_law_1286 rfl rfl ?_
    refine V_iconst C dL_law_1287 ?_
    refine V_laldH C dL_law_1288 (by decide) (fun _ => rfl) (by omega) (by decide) ?_
    rw [show K2 33 (0 : Int).toNat = b from h33 k0]
    refine V_iload C dL_law_1289 rfl ?_
    refine V_i2l C dL_law_1291 (by omega) ?_
    refine V_lcmp C dL_law_1292 ?_
    rw [lcmp_eq]
    refine V_if_eq (tgt := 1298) C dL_law_1293 (by decide) (by omega) (fun q1293 => ?_) (fun q1293 => by exfalso; omega)
    refine V_goto (tgt := 2222) C dL_law_1298 (by decide) ?_
    refine V_iinc C dL_law_2222 rfl (Nat.le_of_ble_eq_true rfl) rfl ?_
    refine V_goto (tgt := 23) C dL_law_2225 (by decide) ?_
    exact cont _ _ _ _
  · skip
    refine V_aload_n C dL_law_1245 rfl rfl ?_
    refine V_aload_nq C dL_law_1246 rfl rfl ?_
    refine V_iload C dL_law_1247 rfl ?_
    refine V_iconst C dL_law_1249 ?_
    refine V_iadd C dL_law_1250 ?_
    refine V_sld C dL_law_1251 hX hsz hA (by omega) (by omega) ?_
    rw [ep]
    refine V_aload_n C dL_law_1252 rfl rfl ?_
    refine V_SH1 (k2 := n) (s2 := 6 * n) C dL_law_1253 lL_197 kL_sayByCounting (hh) rfl rfl ⟨Nat.le_of_ble_eq_true rfl, Nat.le_of_ble_eq_true rfl⟩ (Nat.le_of_ble_eq_true rfl) (by omega) (by omega) ?_
    refine V_istore C dL_law_1256 (Nat.le_of_ble_eq_true rfl) rfl ?_
    refine V_aload_n C dL_law_1258 rfl rfl ?_
    refine V_aload_nq C dL_law_1259 rfl rfl ?_
    refine V_iload C dL_law_1260 rfl ?_
    refine V_iconst C dL_law_1262 ?_
    refine V_iadd C dL_law_1263 ?_
    refine V_sld C dL_law_1264 hX hsz hA (by omega) (by omega) ?_
    rw [ep]
    refine V_V1 (k2 := n) (s2 := 6 * n) C dL_law_1265 lL_199 kX6_sayByCounting (hm) (by decide) (rfl) rfl rfl rfl ⟨Nat.le_of_ble_eq_true rfl, Nat.le_of_ble_eq_true rfl⟩ (Nat.le_of_ble_eq_true rfl) (by omega) (by omega) ?_
    refine V_istore C dL_law_1268 (Nat.le_of_ble_eq_true rfl) rfl ?_
    refine V_aload_n C dL_law_1270 rfl rfl ?_
    refine V_V1 (k2 := n) (s2 := 6 * n) C dL_law_1271 lL_122 kX6_thrown (c_X6_thrown G K2 r1) (by decide) (rfl) rfl rfl rfl ⟨Nat.le_of_ble_eq_true rfl, Nat.le_of_ble_eq_true rfl⟩ (Nat.le_of_ble_eq_true rfl) (by omega) (by omega) ?_
    rw [h3]
    refine V_iload C dL_law_1274 rfl ?_
    refine V_icmp_eq (tgt := 1281) C dL_law_1276 (by decide) (by omega) (by omega) (fun q1276 => ?_) (fun q1276 => by exfalso; omega)
    refine V_iload C dL_law_1281 rfl ?_
    refine V_if_ne (tgt := 1298) C dL_law_1283 (by decide) (by omega) (fun q1283 => ?_) (fun q1283 => by exfalso; omega)
    refine V_goto (tgt := 2222) C dL_law_1298 (by decide) ?_
    refine V_iinc C dL_law_2222 rfl (Nat.le_of_ble_eq_true rfl) rfl ?_
    refine V_goto (tgt := 23) C dL_law_2225 (by decide) ?_
    exact cont _ _ _ _
set_option maxRecDepth 100000 in
set_option maxHeartbeats 4000000 in
theorem w_fullSet {G : GT} {x : CxT} {sa L : Nat} {xs : Nat → Int32} (hW : LW G x sa L xs) {i : Int} (hi : 0 ≤ i ∧ i + 3 < L) {n : Nat} {p : Int} (ep : xs (i + 1).toNat = iI p) {K K1 K2 : Nat → Nat → Int} {r r1 : Nat → Option Nat} {k b : Int} (hk : 0 ≤ k ∧ k ≤ 3) (hb : -2147483648 ≤ b ∧ b < 2147483648) (hh : CtH G yL_fullSet mL_fullSet [rf G 0, .int (iI p), rf G 33] 34 false (HP G K r) 1 6 (some (.int (iI k))) 34 false (HP G K1 r1)) (hm : CtO G yX6_fullSet mX6_fullSet [rf G 28, .int (iI p)] K1 r1 (some (.int (iI b))) K2 r1) (h3 : K2 28 3 = k) (h33 : k = 0 → K2 33 0 = b) (cont : LL G x sa 23 (i + 4) K2 r1 n) : LL G x sa 1301 i K r (n + 1) := by
  intro o5 o6 o7 o8
  obtain ⟨C, hX, hsz, hA, hL⟩ := hW
  by_cases k0 : k = 0
  · skip
    refine V_aload_n C dL_law_1301 rfl rfl ?_
    refine V_aload_nq C dL_law_1302 rfl rfl ?_
    refine V_iload C dL_law_1303 rfl ?_
    refine V_iconst C dL_law_1305 ?_
    refine V_iadd C dL_law_1306 ?_
    refine V_sld C dL_law_1307 hX hsz hA (by omega) (by omega) ?_
    rw [ep]
    refine V_aload_n C dL_law_1308 rfl rfl ?_
    refine V_SH1 (k2 := n) (s2 := 6 * n) C dL_law_1309 lL_200 kL_fullSet (hh) rfl rfl ⟨Nat.le_of_ble_eq_true rfl, Nat.le_of_ble_eq_true rfl⟩ (Nat.le_of_ble_eq_true rfl) (by omega) (by omega) ?_
    refine V_istore C dL_law_1312 (Nat.le_of_ble_eq_true rfl) rfl ?_
    refine V_aload_n C dL_law_1314 rfl rfl ?_
    refine V_aload_nq C dL_law_1315 rfl rfl ?_
    refine V_iload C dL_law_1316 rfl ?_
    refine V_iconst C dL_law_1318 ?_
    refine V_iadd C dL_law_1319 ?_
    refine V_sld C dL_law_1320 hX hsz hA (by omega) (by omega) ?_
    rw [ep]
    refine V_V1 (k2 := n) (s2 := 6 * n) C dL_law_1321 lL_202 kX6_fullSet (hm) (by decide) (rfl) rfl rfl rfl ⟨Nat.le_of_ble_eq_true rfl, Nat.le_of_ble_eq_true rfl⟩ (Nat.le_of_ble_eq_true rfl) (by omega) (by omega) ?_
    refine V_istore C dL_law_1324 (Nat.le_of_ble_eq_true rfl) rfl ?_
    refine V_aload_n C dL_law_1326 rfl rfl ?_
    refine V_V1 (k2 := n) (s2 := 6 * n) C dL_law_1327 lL_122 kX6_thrown (c_X6_thrown G K2 r1) (by decide) (rfl) rfl rfl rfl ⟨Nat.le_of_ble_eq_true rfl, Nat.le_of_ble_eq_true rfl⟩ (Nat.le_of_ble_eq_true rfl) (by omega) (by omega) ?_
    rw [h3]
    refine V_iload C dL_law_1330 rfl ?_
    refine V_icmp_eq (tgt := 1337) C dL_law_1332 (by decide) (by omega) (by omega) (fun q1332 => ?_) (fun q1332 => by exfalso; omega)
    refine V_iload C dL_law_1337 rfl ?_
    refine V_if_ne (tgt := 1354) C dL_law_1339 (by decide) (by omega) (fun q1339 => by exfalso; omega) (fun q1339 => ?_)
    refine V_aload_n C dL_law_1342 rfl rfl ?_
    refine V_iconst C dL_law_1343 ?_
    refine V_laldH C dL_law_1344 (by decide) (fun _ => rfl) (by omega) (by decide) ?_
    rw [show K2 33 (0 : Int).toNat = b from h33 k0]
    refine V_iload C dL_law_1345 rfl ?_
    refine V_i2l C dL_law_1347 (by omega) ?_
    refine V_lcmp C dL_law_1348 ?_
    rw [lcmp_eq]
    refine V_if_eq (tgt := 1354) C dL_law_1349 (by decide) (by omega) (fun q1349 => ?_) (fun q1349 => by exfalso; omega)
    refine V_goto (tgt := 2222) C dL_law_1354 (by decide) ?_
    refine V_iinc C dL_law_2222 rfl (Nat.le_of_ble_eq_true rfl) rfl ?_
    refine V_goto (tgt := 23) C dL_law_2225 (by decide) ?_
    exact cont _ _ _ _
  · skip
    refine V_aload_n C dL_law_1301 rfl rfl ?_
    refine V_aload_nq C dL_law_1302 rfl rfl ?_
    refine V_iload C dL_law_1303 rfl ?_
    refine V_iconst C dL_law_1305 ?_
    refine V_iadd C dL_law_1306 ?_
    refine V_sld C dL_law_1307 hX hsz hA (by omega) (by omega) ?_
    rw [ep]
    refine V_aload_n C dL_law_1308 rfl rfl ?_
    refine V_SH1 (k2 := n) (s2 := 6 * n) C dL_law_1309 lL_200 kL_fullSet (hh) rfl rfl ⟨Nat.le_of_ble_eq_true rfl, Nat.le_of_ble_eq_true rfl⟩ (Nat.le_of_ble_eq_true rfl) (by omega) (by omega) ?_
    refine V_istore C dL_law_1312 (Nat.le_of_ble_eq_true rfl) rfl ?_
    refine V_aload_n C dL_law_1314 rfl rfl ?_
    refine V_aload_nq C dL_law_1315 rfl rfl ?_
    refine V_iload C dL_law_1316 rfl ?_
    refine V_iconst C dL_law_1318 ?_
    refine V_iadd C dL_law_1319 ?_
    refine V_sld C dL_law_1320 hX hsz hA (by omega) (by omega) ?_
    rw [ep]
    refine V_V1 (k2 := n) (s2 := 6 * n) C dL_law_1321 lL_202 kX6_fullSet (hm) (by decide) (rfl) rfl rfl rfl ⟨Nat.le_of_ble_eq_true rfl, Nat.le_of_ble_eq_true rfl⟩ (Nat.le_of_ble_eq_true rfl) (by omega) (by omega) ?_
    refine V_istore C dL_law_1324 (Nat.le_of_ble_eq_true rfl) rfl ?_
    refine V_aload_n C dL_law_1326 rfl rfl ?_
    refine V_V1 (k2 := n) (s2 := 6 * n) C dL_law_1327 lL_122 kX6_thrown (c_X6_thrown G K2 r1) (by decide) (rfl) rfl rfl rfl ⟨Nat.le_of_ble_eq_true rfl, Nat.le_of_ble_eq_true rfl⟩ (Nat.le_of_ble_eq_true rfl) (by omega) (by omega) ?_
    rw [h3]
    refine V_iload C dL_law_1330 rfl ?_
    refine V_icmp_eq (tgt := 1337) C dL_law_1332 (by decide) (by omega) (by omega) (fun q1332 => ?_) (fun q1332 => by exfalso; omega)
    refine V_iload C dL_law_1337 rfl ?_
    refine V_if_ne (tgt := 1354) C dL_law_1339 (by decide) (by omega) (fun q1339 => ?_) (fun q1339 => by exfalso; omega)
    refine V_goto (tgt := 2222) C dL_law_1354 (by decide) ?_
    refine V_iinc C dL_law_2222 rfl (Nat.le_of_ble_eq_true rfl) rfl ?_
    refine V_goto (tgt := 23) C dL_law_2225 (by decide) ?_
    exact cont _ _ _ _
set_option maxRecDepth 100000 in
set_option maxHeartbeats 4000000 in
theorem w_ways {G : GT} {x : CxT} {sa L : Nat} {xs : Nat → Int32} (hW : LW G x sa L xs) {i : Int} (hi : 0 ≤ i ∧ i + 3 < L) {n : Nat} {p : Int} (ep : xs (i + 1).toNat = iI p) {K K1 K2 : Nat → Nat → Int} {r r1 : Nat → Option Nat} {k b : Int} (hk : 0 ≤ k ∧ k ≤ 3) (hb : -2147483648 ≤ b ∧ b < 2147483648) (hh : CtH G yL_ways mL_ways [rf G 0, .int (iI p), rf G 33] 34 false (HP G K r) 1 6 (some (.int (iI k))) 34 false (HP G K1 r1)) (hm : CtO G yX6_ways mX6_ways [rf G 28, .int (iI p)] K1 r1 (some (.int (iI b))) K2 r1) (h3 : K2 28 3 = k) (h33 : k = 0 → K2 33 0 = b) (cont : LL G x sa 23 (i + 4) K2 r1 n) : LL G x sa 1357 i K r (n + 1) := by
  intro o5 o6 o7 o8
  obtain ⟨C, hX, hsz, hA, hL⟩ := hW
  by_cases k0 : k = 0
  · skip
    refine V_aload_n C dL_law_1357 rfl rfl ?_
    refine V_aload_nq C dL_law_1358 rfl rfl ?_
    refine V_iload C dL_law_1359 rfl ?_
    refine V_iconst C dL_law_1361 ?_
    refine V_iadd C dL_law_1362 ?_
    refine V_sld C dL_law_1363 hX hsz hA (by omega) (by omega) ?_
    rw [ep]
    refine V_aload_n C dL_law_1364 rfl rfl ?_
    refine V_SH1 (k2 := n) (s2 := 6 * n) C dL_law_1365 lL_203 kL_ways (hh) rfl rfl ⟨Nat.le_of_ble_eq_true rfl, Nat.le_of_ble_eq_true rfl⟩ (Nat.le_of_ble_eq_true rfl) (by omega) (by omega) ?_
    refine V_istore C dL_law_1368 (Nat.le_of_ble_eq_true rfl) rfl ?_
    refine V_aload_n C dL_law_1370 rfl rfl ?_
    refine V_aload_nq C dL_law_1371 rfl rfl ?_
    refine V_iload C dL_law_1372 rfl ?_
    refine V_iconst C dL_law_1374 ?_
    refine V_iadd C dL_law_1375 ?_
    refine V_sld C dL_law_1376 hX hsz hA (by omega) (by omega) ?_
    rw [ep]
    refine V_V1 (k2 := n) (s2 := 6 * n) C dL_law_1377 lL_205 kX6_ways (hm) (by decide) (rfl) rfl rfl rfl ⟨Nat.le_of_ble_eq_true rfl, Nat.le_of_ble_eq_true rfl⟩ (Nat.le_of_ble_eq_true rfl) (by omega) (by omega) ?_
    refine V_istore C dL_law_1380 (Nat.le_of_ble_eq_true rfl) rfl ?_
    refine V_aload_n C dL_law_1382 rfl rfl ?_
    refine V_V1 (k2 := n) (s2 := 6 * n) C dL_law_1383 lL_122 kX6_thrown (c_X6_thrown G K2 r1) (by decide) (rfl) rfl rfl rfl ⟨Nat.le_of_ble_eq_true rfl, Nat.le_of_ble_eq_true rfl⟩ (Nat.le_of_ble_eq_true rfl) (by omega) (by omega) ?_
    rw [h3]
    refine V_iload C dL_law_1386 rfl ?_
    refine V_icmp_eq (tgt := 1393) C dL_law_1388 (by decide) (by omega) (by omega) (fun q1388 => ?_) (fun q1388 => by exfalso; omega)
    refine V_iload C dL_law_1393 rfl ?_
    refine V_if_ne (tgt := 1410) C dL_law_1395 (by decide) (by omega) (fun q1395 => by exfalso; omega) (fun q1395 => ?_)
    refine V_aload_n C dL_law_1398 rfl rfl ?_
    refine V_iconst C dL_law_1399 ?_
    refine V_laldH C dL_law_1400 (by decide) (fun _ => rfl) (by omega) (by decide) ?_
    rw [show K2 33 (0 : Int).toNat = b from h33 k0]
    refine V_iload C dL_law_1401 rfl ?_
    refine V_i2l C dL_law_1403 (by omega) ?_
    refine V_lcmp C dL_law_1404 ?_
    rw [lcmp_eq]
    refine V_if_eq (tgt := 1410) C dL_law_1405 (by decide) (by omega) (fun q1405 => ?_) (fun q1405 => by exfalso; omega)
    refine V_goto (tgt := 2222) C dL_law_1410 (by decide) ?_
    refine V_iinc C dL_law_2222 rfl (Nat.le_of_ble_eq_true rfl) rfl ?_
    refine V_goto (tgt := 23) C dL_law_2225 (by decide) ?_
    exact cont _ _ _ _
  · skip
    refine V_aload_n C dL_law_1357 rfl rfl ?_
    refine V_aload_nq C dL_law_1358 rfl rfl ?_
    refine V_iload C dL_law_1359 rfl ?_
    refine V_iconst C dL_law_1361 ?_
    refine V_iadd C dL_law_1362 ?_
    refine V_sld C dL_law_1363 hX hsz hA (by omega) (by omega) ?_
    rw [ep]
    refine V_aload_n C dL_law_1364 rfl rfl ?_
    refine V_SH1 (k2 := n) (s2 := 6 * n) C dL_law_1365 lL_203 kL_ways (hh) rfl rfl ⟨Nat.le_of_ble_eq_true rfl, Nat.le_of_ble_eq_true rfl⟩ (Nat.le_of_ble_eq_true rfl) (by omega) (by omega) ?_
    refine V_istore C dL_law_1368 (Nat.le_of_ble_eq_true rfl) rfl ?_
    refine V_aload_n C dL_law_1370 rfl rfl ?_
    refine V_aload_nq C dL_law_1371 rfl rfl ?_
    refine V_iload C dL_law_1372 rfl ?_
    refine V_iconst C dL_law_1374 ?_
    refine V_iadd C dL_law_1375 ?_
    refine V_sld C dL_law_1376 hX hsz hA (by omega) (by omega) ?_
    rw [ep]
    refine V_V1 (k2 := n) (s2 := 6 * n) C dL_law_1377 lL_205 kX6_ways (hm) (by decide) (rfl) rfl rfl rfl ⟨Nat.le_of_ble_eq_true rfl, Nat.le_of_ble_eq_true rfl⟩ (Nat.le_of_ble_eq_true rfl) (by omega) (by omega) ?_
    refine V_istore C dL_law_1380 (Nat.le_of_ble_eq_true rfl) rfl ?_
    refine V_aload_n C dL_law_1382 rfl rfl ?_
    refine V_V1 (k2 := n) (s2 := 6 * n) C dL_law_1383 lL_122 kX6_thrown (c_X6_thrown G K2 r1) (by decide) (rfl) rfl rfl rfl ⟨Nat.le_of_ble_eq_true rfl, Nat.le_of_ble_eq_true rfl⟩ (Nat.le_of_ble_eq_true rfl) (by omega) (by omega) ?_
    rw [h3]
    refine V_iload C dL_law_1386 rfl ?_
    refine V_icmp_eq (tgt := 1393) C dL_law_1388 (by decide) (by omega) (by omega) (fun q1388 => ?_) (fun q1388 => by exfalso; omega)
    refine V_iload C dL_law_1393 rfl ?_
    refine V_if_ne (tgt := 1410) C dL_law_1395 (by decide) (by omega) (fun q1395 => ?_) (fun q1395 => by exfalso; omega)
    refine V_goto (tgt := 2222) C dL_law_1410 (by decide) ?_
    refine V_iinc C dL_law_2222 rfl (Nat.le_of_ble_eq_true rfl) rfl ?_
    refine V_goto (tgt := 23) C dL_law_2225 (by decide) ?_
    exact cont _ _ _ _
set_option maxRecDepth 100000 in
set_option maxHeartbeats 4000000 in
theorem w_waysByGaps {G : GT} {x : CxT} {sa L : Nat} {xs : Nat → Int32} (hW : LW G x sa L xs) {i : Int} (hi : 0 ≤ i ∧ i + 3 < L) {n : Nat} {p : Int} (ep : xs (i + 1).toNat = iI p) {K K1 K2 : Nat → Nat → Int} {r r1 : Nat → Option Nat} {k b : Int} (hk : 0 ≤ k ∧ k ≤ 3) (hb : -2147483648 ≤ b ∧ b < 2147483648) (hh : CtH G yL_waysByGaps mL_waysByGaps [rf G 0, .int (iI p), rf G 33] 34 false (HP G K r) 1 6 (some (.int (iI k))) 34 false (HP G K1 r1)) (hm : CtO G yX6_waysByGaps mX6_waysByGaps [rf G 28, .int (iI p)] K1 r1 (some (.int (iI b))) K2 r1) (h3 : K2 28 3 = k) (h33 : k = 0 → K2 33 0 = b) (cont : LL G x sa 23 (i + 4) K2 r1 n) : LL G x sa 1413 i K r (n + 1) := by
  intro o5 o6 o7 o8
  obtain ⟨C, hX, hsz, hA, hL⟩ := hW
  by_cases k0 : k = 0
  · skip
    refine V_aload_n C dL_law_1413 rfl rfl ?_
    refine V_aload_nq C dL_law_1414 rfl rfl ?_
    refine V_iload C dL_law_1415 rfl ?_
    refine V_iconst C dL_law_1417 ?_
    refine V_iadd C dL_law_1418 ?_
    refine V_sld C dL_law_1419 hX hsz hA (by omega) (by omega) ?_
    rw [ep]
    refine V_aload_n C dL_law_1420 rfl rfl ?_
    refine V_SH1 (k2 := n) (s2 := 6 * n) C dL_law_1421 lL_206 kL_waysByGaps (hh) rfl rfl ⟨Nat.le_of_ble_eq_true rfl, Nat.le_of_ble_eq_true rfl⟩ (Nat.le_of_ble_eq_true rfl) (by omega) (by omega) ?_
    refine V_istore C dL_law_1424 (Nat.le_of_ble_eq_true rfl) rfl ?_
    refine V_aload_n C dL_law_1426 rfl rfl ?_
    refine V_aload_nq C dL_law_1427 rfl rfl ?_
    refine V_iload C dL_law_1428 rfl ?_
    refine V_iconst C dL_law_1430 ?_
    refine V_iadd C dL_law_1431 ?_
    refine V_sld C dL_law_1432 hX hsz hA (by omega) (by omega) ?_
    rw [ep]
    refine V_V1 (k2 := n) (s2 := 6 * n) C dL_law_1433 lL_208 kX6_waysByGaps (hm) (by decide) (rfl) rfl rfl rfl ⟨Nat.le_of_ble_eq_true rfl, Nat.le_of_ble_eq_true rfl⟩ (Nat.le_of_ble_eq_true rfl) (by omega) (by omega) ?_
    refine V_istore C dL_law_1436 (Nat.le_of_ble_eq_true rfl) rfl ?_
    refine V_aload_n C dL_law_1438 rfl rfl ?_
    refine V_V1 (k2 := n) (s2 := 6 * n) C dL_law_1439 lL_122 kX6_thrown (c_X6_thrown G K2 r1) (by decide) (rfl) rfl rfl rfl ⟨Nat.le_of_ble_eq_true rfl, Nat.le_of_ble_eq_true rfl⟩ (Nat.le_of_ble_eq_true rfl) (by omega) (by omega) ?_
    rw [h3]
    refine V_iload C dL_law_1442 rfl ?_
    refine V_icmp_eq (tgt := 1449) C dL_law_1444 (by decide) (by omega) (by omega) (fun q1444 => ?_) (fun q1444 => by exfalso; omega)
    refine V_iload C dL_law_1449 rfl ?_
    refine V_if_ne (tgt := 1466) C dL_law_1451 (by decide) (by omega) (fun q1451 => by exfalso; omega) (fun q1451 => ?_)
    refine V_aload_n C dL_law_1454 rfl rfl ?_
    refine V_iconst C dL_law_1455 ?_
    refine V_laldH C dL_law_1456 (by decide) (fun _ => rfl) (by omega) (by decide) ?_
    rw [show K2 33 (0 : Int).toNat = b from h33 k0]
    refine V_iload C dL_law_1457 rfl ?_
    refine V_i2l C dL_law_1459 (by omega) ?_
    refine V_lcmp C dL_law_1460 ?_
    rw [lcmp_eq]
    refine V_if_eq (tgt := 1466) C dL_law_1461 (by decide) (by omega) (fun q1461 => ?_) (fun q1461 => by exfalso; omega)
    refine V_goto (tgt := 2222) C dL_law_1466 (by decide) ?_
    refine V_iinc C dL_law_2222 rfl (Nat.le_of_ble_eq_true rfl) rfl ?_
    refine V_goto (tgt := 23) C dL_law_2225 (by decide) ?_
    exact cont _ _ _ _
  · skip
    refine V_aload_n C dL_law_1413 rfl rfl ?_
    refine V_aload_nq C dL_law_1414 rfl rfl ?_
    refine V_iload C dL_law_1415 rfl ?_
    refine V_iconst C dL_law_1417 ?_
    refine V_iadd C dL_law_1418 ?_
    refine V_sld C dL_law_1419 hX hsz hA (by omega) (by omega) ?_
    rw [ep]
    refine V_aload_n C dL_law_1420 rfl rfl ?_
    refine V_SH1 (k2 := n) (s2 := 6 * n) C dL_law_1421 lL_206 kL_waysByGaps (hh) rfl rfl ⟨Nat.le_of_ble_eq_true rfl, Nat.le_of_ble_eq_true rfl⟩ (Nat.le_of_ble_eq_true rfl) (by omega) (by omega) ?_
    refine V_istore C dL_law_1424 (Nat.le_of_ble_eq_true rfl) rfl ?_
    refine V_aload_n C dL_law_1426 rfl rfl ?_
    refine V_aload_nq C dL_law_1427 rfl rfl ?_
    refine V_iload C dL_law_1428 rfl ?_
    refine V_iconst C dL_law_1430 ?_
    refine V_iadd C dL_law_1431 ?_
    refine V_sld C dL_law_1432 hX hsz hA (by omega) (by omega) ?_
    rw [ep]
    refine V_V1 (k2 := n) (s2 := 6 * n) C dL_law_1433 lL_208 kX6_waysByGaps (hm) (by decide) (rfl) rfl rfl rfl ⟨Nat.le_of_ble_eq_true rfl, Nat.le_of_ble_eq_true rfl⟩ (Nat.le_of_ble_eq_true rfl) (by omega) (by omega) ?_
    refine V_istore C dL_law_1436 (Nat.le_of_ble_eq_true rfl) rfl ?_
    refine V_aload_n C dL_law_1438 rfl rfl ?_
    refine V_V1 (k2 := n) (s2 := 6 * n) C dL_law_1439 lL_122 kX6_thrown (c_X6_thrown G K2 r1) (by decide) (rfl) rfl rfl rfl ⟨Nat.le_of_ble_eq_true rfl, Nat.le_of_ble_eq_true rfl⟩ (Nat.le_of_ble_eq_true rfl) (by omega) (by omega) ?_
    rw [h3]
    refine V_iload C dL_law_1442 rfl ?_
    refine V_icmp_eq (tgt := 1449) C dL_law_1444 (by decide) (by omega) (by omega) (fun q1444 => ?_) (fun q1444 => by exfalso; omega)
    refine V_iload C dL_law_1449 rfl ?_
    refine V_if_ne (tgt := 1466) C dL_law_1451 (by decide) (by omega) (fun q1451 => ?_) (fun q1451 => by exfalso; omega)
    refine V_goto (tgt := 2222) C dL_law_1466 (by decide) ?_
    refine V_iinc C dL_law_2222 rfl (Nat.le_of_ble_eq_true rfl) rfl ?_
    refine V_goto (tgt := 23) C dL_law_2225 (by decide) ?_
    exact cont _ _ _ _
set_option maxRecDepth 100000 in
set_option maxHeartbeats 4000000 in
theorem w_spokenLength {G : GT} {x : CxT} {sa L : Nat} {xs : Nat → Int32} (hW : LW G x sa L xs) {i : Int} (hi : 0 ≤ i ∧ i + 3 < L) {n : Nat} {p : Int} (ep : xs (i + 1).toNat = iI p) {q : Int} (eq : xs (i + 2).toNat = iI q) {K K1 K2 : Nat → Nat → Int} {r r1 : Nat → Option Nat} {k b : Int} (hk : 0 ≤ k ∧ k ≤ 3) (hb : -2147483648 ≤ b ∧ b < 2147483648) (hh : CtH G yL_spokenLength mL_spokenLength [rf G 0, .int (iI p), .int (iI q), rf G 33] 34 false (HP G K r) 1 6 (some (.int (iI k))) 34 false (HP G K1 r1)) (hm : CtO G yX6_spokenLength mX6_spokenLength [rf G 28, .int (iI p), .int (iI q)] K1 r1 (some (.int (iI b))) K2 r1) (h3 : K2 28 3 = k) (h33 : k = 0 → K2 33 0 = b) (cont : LL G x sa 23 (i + 4) K2 r1 n) : LL G x sa 1469 i K r (n + 1) := by
  intro o5 o6 o7 o8
  obtain ⟨C, hX, hsz, hA, hL⟩ := hW
  by_cases k0 : k = 0
  · skip
    refine V_aload_n C dL_law_1469 rfl rfl ?_
    refine V_aload_nq C dL_law_1470 rfl rfl ?_
    refine V_iload C dL_law_1471 rfl ?_
    refine V_iconst C dL_law_1473 ?_
    refine V_iadd C dL_law_1474 ?_
    refine V_sld C dL_law_1475 hX hsz hA (by omega) (by omega) ?_
    rw [ep]
    refine V_aload_nq C dL_law_1476 rfl rfl ?_
    refine V_iload C dL_law_1477 rfl ?_
    refine V_iconst C dL_law_1479 ?_
    refine V_iadd C dL_law_1480 ?_
    refine V_sld C dL_law_1481 hX hsz hA (by omega) (by omega) ?_
    rw [eq]
    refine V_aload_n C dL_law_1482 rfl rfl ?_
    refine V_SH1 (k2 := n) (s2 := 6 * n) C dL_law_1483 lL_209 kL_spokenLength (hh) rfl rfl ⟨Nat.le_of_ble_eq_true rfl, Nat.le_of_ble_eq_true rfl⟩ (Nat.le_of_ble_eq_true rfl) (by omega) (by omega) ?_
    refine V_istore C dL_law_1486 (Nat.le_of_ble_eq_true rfl) rfl ?_
    refine V_aload_n C dL_law_1488 rfl rfl ?_
    refine V_aload_nq C dL_law_1489 rfl rfl ?_
    refine V_iload C dL_law_1490 rfl ?_
    refine V_iconst C dL_law_1492 ?_
    refine V_iadd C dL_law_1493 ?_
    refine V_sld C dL_law_1494 hX hsz hA (by omega) (by omega) ?_
    rw [ep]
    refine V_aload_nq C dL_law_1495 rfl rfl ?_
    refine V_iload C dL_law_1496 rfl ?_
    refine V_iconst C dL_law_1498 ?_
    refine V_iadd C dL_law_1499 ?_
    refine V_sld C dL_law_1500 hX hsz hA (by omega) (by omega) ?_
    rw [eq]
    refine V_V1 (k2 := n) (s2 := 6 * n) C dL_law_1501 lL_211 kX6_spokenLength (hm) (by decide) (rfl) rfl rfl rfl ⟨Nat.le_of_ble_eq_true rfl, Nat.le_of_ble_eq_true rfl⟩ (Nat.le_of_ble_eq_true rfl) (by omega) (by omega) ?_
    refine V_istore C dL_law_1504 (Nat.le_of_ble_eq_true rfl) rfl ?_
    refine V_aload_n C dL_law_1506 rfl rfl ?_
    refine V_V1 (k2 := n) (s2 := 6 * n) C dL_law_1507 lL_122 kX6_thrown (c_X6_thrown G K2 r1) (by decide) (rfl) rfl rfl rfl ⟨Nat.le_of_ble_eq_true rfl, Nat.le_of_ble_eq_true rfl⟩ (Nat.le_of_ble_eq_true rfl) (by omega) (by omega) ?_
    rw [h3]
    refine V_iload C dL_law_1510 rfl ?_
    refine V_icmp_eq (tgt := 1517) C dL_law_1512 (by decide) (by omega) (by omega) (fun q1512 => ?_) (fun q1512 => by exfalso; omega)
    refine V_iload C dL_law_1517 rfl ?_
    refine V_if_ne (tgt := 1534) C dL_law_1519 (by decide) (by omega) (fun q1519 => by exfalso; omega) (fun q1519 => ?_)
    refine V_aload_n C dL_law_1522 rfl rfl ?_
    refine V_iconst C dL_law_1523 ?_
    refine V_laldH C dL_law_1524 (by decide) (fun _ => rfl) (by omega) (by decide) ?_
    rw [show K2 33 (0 : Int).toNat = b from h33 k0]
    refine V_iload C dL_law_1525 rfl ?_
    refine V_i2l C dL_law_1527 (by omega) ?_
    refine V_lcmp C dL_law_1528 ?_
    rw [lcmp_eq]
    refine V_if_eq (tgt := 1534) C dL_law_1529 (by decide) (by omega) (fun q1529 => ?_) (fun q1529 => by exfalso; omega)
    refine V_goto (tgt := 2222) C dL_law_1534 (by decide) ?_
    refine V_iinc C dL_law_2222 rfl (Nat.le_of_ble_eq_true rfl) rfl ?_
    refine V_goto (tgt := 23) C dL_law_2225 (by decide) ?_
    exact cont _ _ _ _
  · skip
    refine V_aload_n C dL_law_1469 rfl rfl ?_
    refine V_aload_nq C dL_law_1470 rfl rfl ?_
    refine V_iload C dL_law_1471 rfl ?_
    refine V_iconst C dL_law_1473 ?_
    refine V_iadd C dL_law_1474 ?_
    refine V_sld C dL_law_1475 hX hsz hA (by omega) (by omega) ?_
    rw [ep]
    refine V_aload_nq C dL_law_1476 rfl rfl ?_
    refine V_iload C dL_law_1477 rfl ?_
    refine V_iconst C dL_law_1479 ?_
    refine V_iadd C dL_law_1480 ?_
    refine V_sld C dL_law_1481 hX hsz hA (by omega) (by omega) ?_
    rw [eq]
    refine V_aload_n C dL_law_1482 rfl rfl ?_
    refine V_SH1 (k2 := n) (s2 := 6 * n) C dL_law_1483 lL_209 kL_spokenLength (hh) rfl rfl ⟨Nat.le_of_ble_eq_true rfl, Nat.le_of_ble_eq_true rfl⟩ (Nat.le_of_ble_eq_true rfl) (by omega) (by omega) ?_
    refine V_istore C dL_law_1486 (Nat.le_of_ble_eq_true rfl) rfl ?_
    refine V_aload_n C dL_law_1488 rfl rfl ?_
    refine V_aload_nq C dL_law_1489 rfl rfl ?_
    refine V_iload C dL_law_1490 rfl ?_
    refine V_iconst C dL_law_1492 ?_
    refine V_iadd C dL_law_1493 ?_
    refine V_sld C dL_law_1494 hX hsz hA (by omega) (by omega) ?_
    rw [ep]
    refine V_aload_nq C dL_law_1495 rfl rfl ?_
    refine V_iload C dL_law_1496 rfl ?_
    refine V_iconst C dL_law_1498 ?_
    refine V_iadd C dL_law_1499 ?_
    refine V_sld C dL_law_1500 hX hsz hA (by omega) (by omega) ?_
    rw [eq]
    refine V_V1 (k2 := n) (s2 := 6 * n) C dL_law_1501 lL_211 kX6_spokenLength (hm) (by decide) (rfl) rfl rfl rfl ⟨Nat.le_of_ble_eq_true rfl, Nat.le_of_ble_eq_true rfl⟩ (Nat.le_of_ble_eq_true rfl) (by omega) (by omega) ?_
    refine V_istore C dL_law_1504 (Nat.le_of_ble_eq_true rfl) rfl ?_
    refine V_aload_n C dL_law_1506 rfl rfl ?_
    refine V_V1 (k2 := n) (s2 := 6 * n) C dL_law_1507 lL_122 kX6_thrown (c_X6_thrown G K2 r1) (by decide) (rfl) rfl rfl rfl ⟨Nat.le_of_ble_eq_true rfl, Nat.le_of_ble_eq_true rfl⟩ (Nat.le_of_ble_eq_true rfl) (by omega) (by omega) ?_
    rw [h3]
    refine V_iload C dL_law_1510 rfl ?_
    refine V_icmp_eq (tgt := 1517) C dL_law_1512 (by decide) (by omega) (by omega) (fun q1512 => ?_) (fun q1512 => by exfalso; omega)
    refine V_iload C dL_law_1517 rfl ?_
    refine V_if_ne (tgt := 1534) C dL_law_1519 (by decide) (by omega) (fun q1519 => ?_) (fun q1519 => by exfalso; omega)
    refine V_goto (tgt := 2222) C dL_law_1534 (by decide) ?_
    refine V_iinc C dL_law_2222 rfl (Nat.le_of_ble_eq_true rfl) rfl ?_
    refine V_goto (tgt := 23) C dL_law_2225 (by decide) ?_
    exact cont _ _ _ _
set_option maxRecDepth 100000 in
set_option maxHeartbeats 4000000 in
theorem w_spokenAt {G : GT} {x : CxT} {sa L : Nat} {xs : Nat → Int32} (hW : LW G x sa L xs) {i : Int} (hi : 0 ≤ i ∧ i + 3 < L) {n : Nat} {p : Int} (ep : xs (i + 1).toNat = iI p) {q : Int} (eq : xs (i + 2).toNat = iI q) {u : Int} (eu : xs (i + 3).toNat = iI u) {K K1 K2 : Nat → Nat → Int} {r r1 : Nat → Option Nat} {k b : Int} (hk : 0 ≤ k ∧ k ≤ 3) (hb : -2147483648 ≤ b ∧ b < 2147483648) (hh : CtH G yL_spokenAt mL_spokenAt [rf G 0, .int (iI p), .int (iI q), .int (iI u), rf G 33] 34 false (HP G K r) 1 6 (some (.int (iI k))) 34 false (HP G K1 r1)) (hm : CtO G yX6_spokenAt mX6_spokenAt [rf G 28, .int (iI p), .int (iI q), .int (iI u)] K1 r1 (some (.int (iI b))) K2 r1) (h3 : K2 28 3 = k) (h33 : k = 0 → K2 33 0 = b) (cont : LL G x sa 23 (i + 4) K2 r1 n) : LL G x sa 1537 i K r (n + 1) := by
  intro o5 o6 o7 o8
  obtain ⟨C, hX, hsz, hA, hL⟩ := hW
  by_cases k0 : k = 0
  · skip
    refine V_aload_n C dL_law_1537 rfl rfl ?_
    refine V_aload_nq C dL_law_1538 rfl rfl ?_
    refine V_iload C dL_law_1539 rfl ?_
    refine V_iconst C dL_law_1541 ?_
    refine V_iadd C dL_law_1542 ?_
    refine V_sld C dL_law_1543 hX hsz hA (by omega) (by omega) ?_
    rw [ep]
    refine V_aload_nq C dL_law_1544 rfl rfl ?_
    refine V_iload C dL_law_1545 rfl ?_
    refine V_iconst C dL_law_1547 ?_
    refine V_iadd C dL_law_1548 ?_
    refine V_sld C dL_law_1549 hX hsz hA (by omega) (by omega) ?_
    rw [eq]
    refine V_aload_nq C dL_law_1550 rfl rfl ?_
    refine V_iload C dL_law_1551 rfl ?_
    refine V_iconst C dL_law_1553 ?_
    refine V_iadd C dL_law_1554 ?_
    refine V_sld C dL_law_1555 hX hsz hA (by omega) (by omega) ?_
    rw [eu]
    refine V_aload_n C dL_law_1556 rfl rfl ?_
    refine V_SH1 (k2 := n) (s2 := 6 * n) C dL_law_1557 lL_212 kL_spokenAt (hh) rfl rfl ⟨Nat.le_of_ble_eq_true rfl, Nat.le_of_ble_eq_true rfl⟩ (Nat.le_of_ble_eq_true rfl) (by omega) (by omega) ?_
    refine V_istore C dL_law_1560 (Nat.le_of_ble_eq_true rfl) rfl ?_
    refine V_aload_n C dL_law_1562 rfl rfl ?_
    refine V_aload_nq C dL_law_1563 rfl rfl ?_
    refine V_iload C dL_law_1564 rfl ?_
    refine V_iconst C dL_law_1566 ?_
    refine V_iadd C dL_law_1567 ?_
    refine V_sld C dL_law_1568 hX hsz hA (by omega) (by omega) ?_
    rw [ep]
    refine V_aload_nq C dL_law_1569 rfl rfl ?_
    refine V_iload C dL_law_1570 rfl ?_
    refine V_iconst C dL_law_1572 ?_
    refine V_iadd C dL_law_1573 ?_
    refine V_sld C dL_law_1574 hX hsz hA (by omega) (by omega) ?_
    rw [eq]
    refine V_aload_nq C dL_law_1575 rfl rfl ?_
    refine V_iload C dL_law_1576 rfl ?_
    refine V_iconst C dL_law_1578 ?_
    refine V_iadd C dL_law_1579 ?_
    refine V_sld C dL_law_1580 hX hsz hA (by omega) (by omega) ?_
    rw [eu]
    refine V_V1 (k2 := n) (s2 := 6 * n) C dL_law_1581 lL_214 kX6_spokenAt (hm) (by decide) (rfl) rfl rfl rfl ⟨Nat.le_of_ble_eq_true rfl, Nat.le_of_ble_eq_true rfl⟩ (Nat.le_of_ble_eq_true rfl) (by omega) (by omega) ?_
    refine V_istore C dL_law_1584 (Nat.le_of_ble_eq_true rfl) rfl ?_
    refine V_aload_n C dL_law_1586 rfl rfl ?_
    refine V_V1 (k2 := n) (s2 := 6 * n) C dL_law_1587 lL_122 kX6_thrown (c_X6_thrown G K2 r1) (by decide) (rfl) rfl rfl rfl ⟨Nat.le_of_ble_eq_true rfl, Nat.le_of_ble_eq_true rfl⟩ (Nat.le_of_ble_eq_true rfl) (by omega) (by omega) ?_
    rw [h3]
    refine V_iload C dL_law_1590 rfl ?_
    refine V_icmp_eq (tgt := 1597) C dL_law_1592 (by decide) (by omega) (by omega) (fun q1592 => ?_) (fun q1592 => by exfalso; omega)
    refine V_iload C dL_law_1597 rfl ?_
    refine V_if_ne (tgt := 1614) C dL_law_1599 (by decide) (by omega) (fun q1599 => by exfalso; omega) (fun q1599 => ?_)
    refine V_aload_n C dL_law_1602 rfl rfl ?_
    refine V_iconst C dL_law_1603 ?_
    refine V_laldH C dL_law_1604 (by decide) (fun _ => rfl) (by omega) (by decide) ?_
    rw [show K2 33 (0 : Int).toNat = b from h33 k0]
    refine V_iload C dL_law_1605 rfl ?_
    refine V_i2l C dL_law_1607 (by omega) ?_
    refine V_lcmp C dL_law_1608 ?_
    rw [lcmp_eq]
    refine V_if_eq (tgt := 1614) C dL_law_1609 (by decide) (by omega) (fun q1609 => ?_) (fun q1609 => by exfalso; omega)
    refine V_goto (tgt := 2222) C dL_law_1614 (by decide) ?_
    refine V_iinc C dL_law_2222 rfl (Nat.le_of_ble_eq_true rfl) rfl ?_
    refine V_goto (tgt := 23) C dL_law_2225 (by decide) ?_
    exact cont _ _ _ _
  · skip
    refine V_aload_n C dL_law_1537 rfl rfl ?_
    refine V_aload_nq C dL_law_1538 rfl rfl ?_
    refine V_iload C dL_law_1539 rfl ?_
    refine V_iconst C dL_law_1541 ?_
    refine V_iadd C dL_law_1542 ?_
    refine V_sld C dL_law_1543 hX hsz hA (by omega) (by omega) ?_
    rw [ep]
    refine V_aload_nq C dL_law_1544 rfl rfl ?_
    refine V_iload C dL_law_1545 rfl ?_
    refine V_iconst C dL_law_1547 ?_
    refine V_iadd C dL_law_1548 ?_
    refine V_sld C dL_law_1549 hX hsz hA (by omega) (by omega) ?_
    rw [eq]
    refine V_aload_nq C dL_law_1550 rfl rfl ?_
    refine V_iload C dL_law_1551 rfl ?_
    refine V_iconst C dL_law_1553 ?_
    refine V_iadd C dL_law_1554 ?_
    refine V_sld C dL_law_1555 hX hsz hA (by omega) (by omega) ?_
    rw [eu]
    refine V_aload_n C dL_law_1556 rfl rfl ?_
    refine V_SH1 (k2 := n) (s2 := 6 * n) C dL_law_1557 lL_212 kL_spokenAt (hh) rfl rfl ⟨Nat.le_of_ble_eq_true rfl, Nat.le_of_ble_eq_true rfl⟩ (Nat.le_of_ble_eq_true rfl) (by omega) (by omega) ?_
    refine V_istore C dL_law_1560 (Nat.le_of_ble_eq_true rfl) rfl ?_
    refine V_aload_n C dL_law_1562 rfl rfl ?_
    refine V_aload_nq C dL_law_1563 rfl rfl ?_
    refine V_iload C dL_law_1564 rfl ?_
    refine V_iconst C dL_law_1566 ?_
    refine V_iadd C dL_law_1567 ?_
    refine V_sld C dL_law_1568 hX hsz hA (by omega) (by omega) ?_
    rw [ep]
    refine V_aload_nq C dL_law_1569 rfl rfl ?_
    refine V_iload C dL_law_1570 rfl ?_
    refine V_iconst C dL_law_1572 ?_
    refine V_iadd C dL_law_1573 ?_
    refine V_sld C dL_law_1574 hX hsz hA (by omega) (by omega) ?_
    rw [eq]
    refine V_aload_nq C dL_law_1575 rfl rfl ?_
    refine V_iload C dL_law_1576 rfl ?_
    refine V_iconst C dL_law_1578 ?_
    refine V_iadd C dL_law_1579 ?_
    refine V_sld C dL_law_1580 hX hsz hA (by omega) (by omega) ?_
    rw [eu]
    refine V_V1 (k2 := n) (s2 := 6 * n) C dL_law_1581 lL_214 kX6_spokenAt (hm) (by decide) (rfl) rfl rfl rfl ⟨Nat.le_of_ble_eq_true rfl, Nat.le_of_ble_eq_true rfl⟩ (Nat.le_of_ble_eq_true rfl) (by omega) (by omega) ?_
    refine V_istore C dL_law_1584 (Nat.le_of_ble_eq_true rfl) rfl ?_
    refine V_aload_n C dL_law_1586 rfl rfl ?_
    refine V_V1 (k2 := n) (s2 := 6 * n) C dL_law_1587 lL_122 kX6_thrown (c_X6_thrown G K2 r1) (by decide) (rfl) rfl rfl rfl ⟨Nat.le_of_ble_eq_true rfl, Nat.le_of_ble_eq_true rfl⟩ (Nat.le_of_ble_eq_true rfl) (by omega) (by omega) ?_
    rw [h3]
    refine V_iload C dL_law_1590 rfl ?_
    refine V_icmp_eq (tgt := 1597) C dL_law_1592 (by decide) (by omega) (by omega) (fun q1592 => ?_) (fun q1592 => by exfalso; omega)
    refine V_iload C dL_law_1597 rfl ?_
    refine V_if_ne (tgt := 1614) C dL_law_1599 (by decide) (by omega) (fun q1599 => ?_) (fun q1599 => by exfalso; omega)
    refine V_goto (tgt := 2222) C dL_law_1614 (by decide) ?_
    refine V_iinc C dL_law_2222 rfl (Nat.le_of_ble_eq_true rfl) rfl ?_
    refine V_goto (tgt := 23) C dL_law_2225 (by decide) ?_
    exact cont _ _ _ _
set_option maxRecDepth 100000 in
set_option maxHeartbeats 4000000 in
theorem w_numberOf {G : GT} {x : CxT} {sa L : Nat} {xs : Nat → Int32} (hW : LW G x sa L xs) {i : Int} (hi : 0 ≤ i ∧ i + 3 < L) {n : Nat} {p : Int} (ep : xs (i + 1).toNat = iI p) {K K1 K2 : Nat → Nat → Int} {r r1 : Nat → Option Nat} {k b : Int} (hk : 0 ≤ k ∧ k ≤ 3) (hb : -2147483648 ≤ b ∧ b < 2147483648) (hh : CtH G yL_numberOf mL_numberOf [rf G 0, .int (iI p), rf G 33] 34 false (HP G K r) 1 6 (some (.int (iI k))) 34 false (HP G K1 r1)) (hm : CtO G yX6_numberOf mX6_numberOf [rf G 28, .int (iI p)] K1 r1 (some (.int (iI b))) K2 r1) (h3 : K2 28 3 = k) (h33 : k = 0 → K2 33 0 = b) (cont : LL G x sa 23 (i + 4) K2 r1 n) : LL G x sa 1617 i K r (n + 1) := by
  intro o5 o6 o7 o8
  obtain ⟨C, hX, hsz, hA, hL⟩ := hW
  by_cases k0 : k = 0
  · skip
    refine V_aload_n C dL_law_1617 rfl rfl ?_
    refine V_aload_nq C dL_law_1618 rfl rfl ?_
    refine V_iload C dL_law_1619 rfl ?_
    refine V_iconst C dL_law_1621 ?_
    refine V_iadd C dL_law_1622 ?_
    refine V_sld C dL_law_1623 hX hsz hA (by omega) (by omega) ?_
    rw [ep]
    refine V_aload_n C dL_law_1624 rfl rfl ?_
    refine V_SH1 (k2 := n) (s2 := 6 * n) C dL_law_1625 lL_215 kL_numberOf (hh) rfl rfl ⟨Nat.le_of_ble_eq_true rfl, Nat.le_of_ble_eq_true rfl⟩ (Nat.le_of_ble_eq_true rfl) (by omega) (by omega) ?_
    refine V_istore C dL_law_1628 (Nat.le_of_ble_eq_true rfl) rfl ?_
    refine V_aload_n C dL_law_1630 rfl rfl ?_
    refine V_aload_nq C dL_law_1631 rfl rfl ?_
    refine V_iload C dL_law_1632 rfl ?_
    refine V_iconst C dL_law_1634 ?_
    refine V_iadd C dL_law_1635 ?_
    refine V_sld C dL_law_1636 hX hsz hA (by omega) (by omega) ?_
    rw [ep]
    refine V_V1 (k2 := n) (s2 := 6 * n) C dL_law_1637 lL_217 kX6_numberOf (hm) (by decide) (rfl) rfl rfl rfl ⟨Nat.le_of_ble_eq_true rfl, Nat.le_of_ble_eq_true rfl⟩ (Nat.le_of_ble_eq_true rfl) (by omega) (by omega) ?_
    refine V_istore C dL_law_1640 (Nat.le_of_ble_eq_true rfl) rfl ?_
    refine V_aload_n C dL_law_1642 rfl rfl ?_
    refine V_V1 (k2 := n) (s2 := 6 * n) C dL_law_1643 lL_122 kX6_thrown (c_X6_thrown G K2 r1) (by decide) (rfl) rfl rfl rfl ⟨Nat.le_of_ble_eq_true rfl, Nat.le_of_ble_eq_true rfl⟩ (Nat.le_of_ble_eq_true rfl) (by omega) (by omega) ?_
    rw [h3]
    refine V_iload C dL_law_1646 rfl ?_
    refine V_icmp_eq (tgt := 1653) C dL_law_1648 (by decide) (by omega) (by omega) (fun q1648 => ?_) (fun q1648 => by exfalso; omega)
    refine V_iload C dL_law_1653 rfl ?_
    refine V_if_ne (tgt := 1670) C dL_law_1655 (by decide) (by omega) (fun q1655 => by exfalso; omega) (fun q1655 => ?_)
    refine V_aload_n C dL_law_1658 rfl rfl ?_
    refine V_iconst C dL_law_1659 ?_
    refine V_laldH C dL_law_1660 (by decide) (fun _ => rfl) (by omega) (by decide) ?_
    rw [show K2 33 (0 : Int).toNat = b from h33 k0]
    refine V_iload C dL_law_1661 rfl ?_
    refine V_i2l C dL_law_1663 (by omega) ?_
    refine V_lcmp C dL_law_1664 ?_
    rw [lcmp_eq]
    refine V_if_eq (tgt := 1670) C dL_law_1665 (by decide) (by omega) (fun q1665 => ?_) (fun q1665 => by exfalso; omega)
    refine V_goto (tgt := 2222) C dL_law_1670 (by decide) ?_
    refine V_iinc C dL_law_2222 rfl (Nat.le_of_ble_eq_true rfl) rfl ?_
    refine V_goto (tgt := 23) C dL_law_2225 (by decide) ?_
    exact cont _ _ _ _
  · skip
    refine V_aload_n C dL_law_1617 rfl rfl ?_
    refine V_aload_nq C dL_law_1618 rfl rfl ?_
    refine V_iload C dL_law_1619 rfl ?_
    refine V_iconst C dL_law_1621 ?_
    refine V_iadd C dL_law_1622 ?_
    refine V_sld C dL_law_1623 hX hsz hA (by omega) (by omega) ?_
    rw [ep]
    refine V_aload_n C dL_law_1624 rfl rfl ?_
    refine V_SH1 (k2 := n) (s2 := 6 * n) C dL_law_1625 lL_215 kL_numberOf (hh) rfl rfl ⟨Nat.le_of_ble_eq_true rfl, Nat.le_of_ble_eq_true rfl⟩ (Nat.le_of_ble_eq_true rfl) (by omega) (by omega) ?_
    refine V_istore C dL_law_1628 (Nat.le_of_ble_eq_true rfl) rfl ?_
    refine V_aload_n C dL_law_1630 rfl rfl ?_
    refine V_aload_nq C dL_law_1631 rfl rfl ?_
    refine V_iload C dL_law_1632 rfl ?_
    refine V_iconst C dL_law_1634 ?_
    refine V_iadd C dL_law_1635 ?_
    refine V_sld C dL_law_1636 hX hsz hA (by omega) (by omega) ?_
    rw [ep]
    refine V_V1 (k2 := n) (s2 := 6 * n) C dL_law_1637 lL_217 kX6_numberOf (hm) (by decide) (rfl) rfl rfl rfl ⟨Nat.le_of_ble_eq_true rfl, Nat.le_of_ble_eq_true rfl⟩ (Nat.le_of_ble_eq_true rfl) (by omega) (by omega) ?_
    refine V_istore C dL_law_1640 (Nat.le_of_ble_eq_true rfl) rfl ?_
    refine V_aload_n C dL_law_1642 rfl rfl ?_
    refine V_V1 (k2 := n) (s2 := 6 * n) C dL_law_1643 lL_122 kX6_thrown (c_X6_thrown G K2 r1) (by decide) (rfl) rfl rfl rfl ⟨Nat.le_of_ble_eq_true rfl, Nat.le_of_ble_eq_true rfl⟩ (Nat.le_of_ble_eq_true rfl) (by omega) (by omega) ?_
    rw [h3]
    refine V_iload C dL_law_1646 rfl ?_
    refine V_icmp_eq (tgt := 1653) C dL_law_1648 (by decide) (by omega) (by omega) (fun q1648 => ?_) (fun q1648 => by exfalso; omega)
    refine V_iload C dL_law_1653 rfl ?_
    refine V_if_ne (tgt := 1670) C dL_law_1655 (by decide) (by omega) (fun q1655 => ?_) (fun q1655 => by exfalso; omega)
    refine V_goto (tgt := 2222) C dL_law_1670 (by decide) ?_
    refine V_iinc C dL_law_2222 rfl (Nat.le_of_ble_eq_true rfl) rfl ?_
    refine V_goto (tgt := 23) C dL_law_2225 (by decide) ?_
    exact cont _ _ _ _
set_option maxRecDepth 100000 in
set_option maxHeartbeats 4000000 in
theorem w_stepsOf {G : GT} {x : CxT} {sa L : Nat} {xs : Nat → Int32} (hW : LW G x sa L xs) {i : Int} (hi : 0 ≤ i ∧ i + 3 < L) {n : Nat} {p : Int} (ep : xs (i + 1).toNat = iI p) {K K1 K2 : Nat → Nat → Int} {r r1 : Nat → Option Nat} {k b : Int} (hk : 0 ≤ k ∧ k ≤ 3) (hb : -2147483648 ≤ b ∧ b < 2147483648) (hh : CtH G yL_stepsOf mL_stepsOf [rf G 0, .int (iI p), rf G 33] 34 false (HP G K r) 1 6 (some (.int (iI k))) 34 false (HP G K1 r1)) (hm : CtO G yX6_stepsOf mX6_stepsOf [rf G 28, .int (iI p)] K1 r1 (some (.int (iI b))) K2 r1) (h3 : K2 28 3 = k) (h33 : k = 0 → K2 33 0 = b) (cont : LL G x sa 23 (i + 4) K2 r1 n) : LL G x sa 1673 i K r (n + 1) := by
  intro o5 o6 o7 o8
  obtain ⟨C, hX, hsz, hA, hL⟩ := hW
  by_cases k0 : k = 0
  · skip
    refine V_aload_n C dL_law_1673 rfl rfl ?_
    refine V_aload_nq C dL_law_1674 rfl rfl ?_
    refine V_iload C dL_law_1675 rfl ?_
    refine V_iconst C dL_law_1677 ?_
    refine V_iadd C dL_law_1678 ?_
    refine V_sld C dL_law_1679 hX hsz hA (by omega) (by omega) ?_
    rw [ep]
    refine V_aload_n C dL_law_1680 rfl rfl ?_
    refine V_SH1 (k2 := n) (s2 := 6 * n) C dL_law_1681 lL_218 kL_stepsOf (hh) rfl rfl ⟨Nat.le_of_ble_eq_true rfl, Nat.le_of_ble_eq_true rfl⟩ (Nat.le_of_ble_eq_true rfl) (by omega) (by omega) ?_
    refine V_istore C dL_law_1684 (Nat.le_of_ble_eq_true rfl) rfl ?_
    refine V_aload_n C dL_law_1686 rfl rfl ?_
    refine V_aload_nq C dL_law_1687 rfl rfl ?_
    refine V_iload C dL_law_1688 rfl ?_
    refine V_iconst C dL_law_1690 ?_
    refine V_iadd C dL_law_1691 ?_
    refine V_sld C dL_law_1692 hX hsz hA (by omega) (by omega) ?_
    rw [ep]
    refine V_V1 (k2 := n) (s2 := 6 * n) C dL_law_1693 lL_220 kX6_stepsOf (hm) (by decide) (rfl) rfl rfl rfl ⟨Nat.le_of_ble_eq_true rfl, Nat.le_of_ble_eq_true rfl⟩ (Nat.le_of_ble_eq_true rfl) (by omega) (by omega) ?_
    refine V_istore C dL_law_1696 (Nat.le_of_ble_eq_true rfl) rfl ?_
    refine V_aload_n C dL_law_1698 rfl rfl ?_
    refine V_V1 (k2 := n) (s2 := 6 * n) C dL_law_1699 lL_122 kX6_thrown (c_X6_thrown G K2 r1) (by decide) (rfl) rfl rfl rfl ⟨Nat.le_of_ble_eq_true rfl, Nat.le_of_ble_eq_true rfl⟩ (Nat.le_of_ble_eq_true rfl) (by omega) (by omega) ?_
    rw [h3]
    refine V_iload C dL_law_1702 rfl ?_
    refine V_icmp_eq (tgt := 1709) C dL_law_1704 (by decide) (by omega) (by omega) (fun q1704 => ?_) (fun q1704 => by exfalso; omega)
    refine V_iload C dL_law_1709 rfl ?_
    refine V_if_ne (tgt := 1726) C dL_law_1711 (by decide) (by omega) (fun q1711 => by exfalso; omega) (fun q1711 => ?_)
    refine V_aload_n C dL_law_1714 rfl rfl ?_
    refine V_iconst C dL_law_1715 ?_
    refine V_laldH C dL_law_1716 (by decide) (fun _ => rfl) (by omega) (by decide) ?_
    rw [show K2 33 (0 : Int).toNat = b from h33 k0]
    refine V_iload C dL_law_1717 rfl ?_
    refine V_i2l C dL_law_1719 (by omega) ?_
    refine V_lcmp C dL_law_1720 ?_
    rw [lcmp_eq]
    refine V_if_eq (tgt := 1726) C dL_law_1721 (by decide) (by omega) (fun q1721 => ?_) (fun q1721 => by exfalso; omega)
    refine V_goto (tgt := 2222) C dL_law_1726 (by decide) ?_
    refine V_iinc C dL_law_2222 rfl (Nat.le_of_ble_eq_true rfl) rfl ?_
    refine V_goto (tgt := 23) C dL_law_2225 (by decide) ?_
    exact cont _ _ _ _
  · skip
    refine V_aload_n C dL_law_1673 rfl rfl ?_
    refine V_aload_nq C dL_law_1674 rfl rfl ?_
    refine V_iload C dL_law_1675 rfl ?_
    refine V_iconst C dL_law_1677 ?_
    refine V_iadd C dL_law_1678 ?_
    refine V_sld C dL_law_1679 hX hsz hA (by omega) (by omega) ?_
    rw [ep]
    refine V_aload_n C dL_law_1680 rfl rfl ?_
    refine V_SH1 (k2 := n) (s2 := 6 * n) C dL_law_1681 lL_218 kL_stepsOf (hh) rfl rfl ⟨Nat.le_of_ble_eq_true rfl, Nat.le_of_ble_eq_true rfl⟩ (Nat.le_of_ble_eq_true rfl) (by omega) (by omega) ?_
    refine V_istore C dL_law_1684 (Nat.le_of_ble_eq_true rfl) rfl ?_
    refine V_aload_n C dL_law_1686 rfl rfl ?_
    refine V_aload_nq C dL_law_1687 rfl rfl ?_
    refine V_iload C dL_law_1688 rfl ?_
    refine V_iconst C dL_law_1690 ?_
    refine V_iadd C dL_law_1691 ?_
    refine V_sld C dL_law_1692 hX hsz hA (by omega) (by omega) ?_
    rw [ep]
    refine V_V1 (k2 := n) (s2 := 6 * n) C dL_law_1693 lL_220 kX6_stepsOf (hm) (by decide) (rfl) rfl rfl rfl ⟨Nat.le_of_ble_eq_true rfl, Nat.le_of_ble_eq_true rfl⟩ (Nat.le_of_ble_eq_true rfl) (by omega) (by omega) ?_
    refine V_istore C dL_law_1696 (Nat.le_of_ble_eq_true rfl) rfl ?_
    refine V_aload_n C dL_law_1698 rfl rfl ?_
    refine V_V1 (k2 := n) (s2 := 6 * n) C dL_law_1699 lL_122 kX6_thrown (c_X6_thrown G K2 r1) (by decide) (rfl) rfl rfl rfl ⟨Nat.le_of_ble_eq_true rfl, Nat.le_of_ble_eq_true rfl⟩ (Nat.le_of_ble_eq_true rfl) (by omega) (by omega) ?_
    rw [h3]
    refine V_iload C dL_law_1702 rfl ?_
    refine V_icmp_eq (tgt := 1709) C dL_law_1704 (by decide) (by omega) (by omega) (fun q1704 => ?_) (fun q1704 => by exfalso; omega)
    refine V_iload C dL_law_1709 rfl ?_
    refine V_if_ne (tgt := 1726) C dL_law_1711 (by decide) (by omega) (fun q1711 => ?_) (fun q1711 => by exfalso; omega)
    refine V_goto (tgt := 2222) C dL_law_1726 (by decide) ?_
    refine V_iinc C dL_law_2222 rfl (Nat.le_of_ble_eq_true rfl) rfl ?_
    refine V_goto (tgt := 23) C dL_law_2225 (by decide) ?_
    exact cont _ _ _ _
set_option maxRecDepth 100000 in
set_option maxHeartbeats 4000000 in
theorem w_total {G : GT} {x : CxT} {sa L : Nat} {xs : Nat → Int32} (hW : LW G x sa L xs) {i : Int} (hi : 0 ≤ i ∧ i + 3 < L) {n : Nat} {K K1 K2 : Nat → Nat → Int} {r r1 : Nat → Option Nat} {v : Int} (hv : -2147483648 ≤ v ∧ v < 2147483648) (hc : CtO G yX5_total mX5_total [rf G 0] K r (some (.int (iI v))) K1 r1) (hm : CtO G yX6_total mX6_total [rf G 28] K1 r1 (some (.int (iI v))) K2 r1) (cont : LL G x sa 23 (i + 4) K2 r1 n) : LL G x sa 1729 i K r (n + 1) := by
  intro o5 o6 o7 o8
  obtain ⟨C, hX, hsz, hA, hL⟩ := hW
  refine V_aload_n C dL_law_1729 rfl rfl ?_
  refine V_V1 (k2 := n) (s2 := 6 * n) C dL_law_1730 lL_221 kX5_total (hc) (by decide) (rfl) rfl rfl rfl ⟨Nat.le_of_ble_eq_true rfl, Nat.le_of_ble_eq_true rfl⟩ (Nat.le_of_ble_eq_true rfl) (by omega) (by omega) ?_
  refine V_aload_n C dL_law_1733 rfl rfl ?_
  refine V_V1 (k2 := n) (s2 := 6 * n) C dL_law_1734 lL_224 kX6_total (hm) (by decide) (rfl) rfl rfl rfl ⟨Nat.le_of_ble_eq_true rfl, Nat.le_of_ble_eq_true rfl⟩ (Nat.le_of_ble_eq_true rfl) (by omega) (by omega) ?_
  refine V_icmp_eq (tgt := 2222) C dL_law_1737 (by decide) (by omega) (by omega) (fun q1737 => ?_) (fun q1737 => by exfalso; omega)
  refine V_iinc C dL_law_2222 rfl (Nat.le_of_ble_eq_true rfl) rfl ?_
  refine V_goto (tgt := 23) C dL_law_2225 (by decide) ?_
  exact cont _ _ _ _
set_option maxRecDepth 100000 in
set_option maxHeartbeats 4000000 in
theorem w_richest {G : GT} {x : CxT} {sa L : Nat} {xs : Nat → Int32} (hW : LW G x sa L xs) {i : Int} (hi : 0 ≤ i ∧ i + 3 < L) {n : Nat} {K K1 K2 : Nat → Nat → Int} {r r1 : Nat → Option Nat} {v : Int} (hv : -2147483648 ≤ v ∧ v < 2147483648) (hc : CtO G yX5_richest mX5_richest [rf G 0] K r (some (.int (iI v))) K1 r1) (hm : CtO G yX6_richest mX6_richest [rf G 28] K1 r1 (some (.int (iI v))) K2 r1) (cont : LL G x sa 23 (i + 4) K2 r1 n) : LL G x sa 1742 i K r (n + 1) := by
  intro o5 o6 o7 o8
  obtain ⟨C, hX, hsz, hA, hL⟩ := hW
  refine V_aload_n C dL_law_1742 rfl rfl ?_
  refine V_V1 (k2 := n) (s2 := 6 * n) C dL_law_1743 lL_225 kX5_richest (hc) (by decide) (rfl) rfl rfl rfl ⟨Nat.le_of_ble_eq_true rfl, Nat.le_of_ble_eq_true rfl⟩ (Nat.le_of_ble_eq_true rfl) (by omega) (by omega) ?_
  refine V_aload_n C dL_law_1746 rfl rfl ?_
  refine V_V1 (k2 := n) (s2 := 6 * n) C dL_law_1747 lL_228 kX6_richest (hm) (by decide) (rfl) rfl rfl rfl ⟨Nat.le_of_ble_eq_true rfl, Nat.le_of_ble_eq_true rfl⟩ (Nat.le_of_ble_eq_true rfl) (by omega) (by omega) ?_
  refine V_icmp_eq (tgt := 2222) C dL_law_1750 (by decide) (by omega) (by omega) (fun q1750 => ?_) (fun q1750 => by exfalso; omega)
  refine V_iinc C dL_law_2222 rfl (Nat.le_of_ble_eq_true rfl) rfl ?_
  refine V_goto (tgt := 23) C dL_law_2225 (by decide) ?_
  exact cont _ _ _ _
set_option maxRecDepth 100000 in
set_option maxHeartbeats 4000000 in
theorem w_sumByCarries {G : GT} {x : CxT} {sa L : Nat} {xs : Nat → Int32} (hW : LW G x sa L xs) {i : Int} (hi : 0 ≤ i ∧ i + 3 < L) {n : Nat} {p : Int} (ep : xs (i + 1).toNat = iI p) {q : Int} (eq : xs (i + 2).toNat = iI q) {K K1 K2 : Nat → Nat → Int} {r r1 : Nat → Option Nat} {k b : Int} (hk : 0 ≤ k ∧ k ≤ 3) (hb : -2147483648 ≤ b ∧ b < 2147483648) (hh : CtH G yL_sumByCarries mL_sumByCarries [rf G 0, .int (iI p), .int (iI q), rf G 33] 34 false (HP G K r) 1 6 (some (.int (iI k))) 34 false (HP G K1 r1)) (hm : CtO G yX6_sumByCarries mX6_sumByCarries [rf G 28, .int (iI p), .int (iI q)] K1 r1 (some (.int (iI b))) K2 r1) (h3 : K2 28 3 = k) (h33 : k = 0 → K2 33 0 = b) (cont : LL G x sa 23 (i + 4) K2 r1 n) : LL G x sa 1755 i K r (n + 1) := by
  intro o5 o6 o7 o8
  obtain ⟨C, hX, hsz, hA, hL⟩ := hW
  by_cases k0 : k = 0
  · skip
    refine V_aload_n C dL_law_1755 rfl rfl ?_
    refine V_aload_nq C dL_law_1756 rfl rfl ?_
    refine V_iload C dL_law_1757 rfl ?_
    refine V_iconst C dL_law_1759 ?_
    refine V_iadd C dL_law_1760 ?_
    refine V_sld C dL_law_1761 hX hsz hA (by omega) (by omega) ?_
    rw [ep]
    refine V_aload_nq C dL_law_1762 rfl rfl ?_
    refine V_iload C dL_law_1763 rfl ?_
    refine V_iconst C dL_law_1765 ?_
    refine V_iadd C dL_law_1766 ?_
    refine V_sld C dL_law_1767 hX hsz hA (by omega) (by omega) ?_
    rw [eq]
    refine V_aload_n C dL_law_1768 rfl rfl ?_
    refine V_SH1 (k2 := n) (s2 := 6 * n) C dL_law_1769 lL_229 kL_sumByCarries (hh) rfl rfl ⟨Nat.le_of_ble_eq_true rfl, Nat.le_of_ble_eq_true rfl⟩ (Nat.le_of_ble_eq_true rfl) (by omega) (by omega) ?_
    refine V_istore C dL_law_1772 (Nat.le_of_ble_eq_true rfl) rfl ?_
    refine V_aload_n C dL_law_1774 rfl rfl ?_
    refine V_aload_nq C dL_law_1775 rfl rfl ?_
    refine V_iload C dL_law_1776 rfl ?_
    refine V_iconst C dL_law_1778 ?_
    refine V_iadd C dL_law_1779 ?_
    refine V_sld C dL_law_1780 hX hsz hA (by omega) (by omega) ?_
    rw [ep]
    refine V_aload_nq C dL_law_1781 rfl rfl ?_
    refine V_iload C dL_law_1782 rfl ?_
    refine V_iconst C dL_law_1784 ?_
    refine V_iadd C dL_law_1785 ?_
    refine V_sld C dL_law_1786 hX hsz hA (by omega) (by omega) ?_
    rw [eq]
    refine V_V1 (k2 := n) (s2 := 6 * n) C dL_law_1787 lL_231 kX6_sumByCarries (hm) (by decide) (rfl) rfl rfl rfl ⟨Nat.le_of_ble_eq_true rfl, Nat.le_of_ble_eq_true rfl⟩ (Nat.le_of_ble_eq_true rfl) (by omega) (by omega) ?_
    refine V_istore C dL_law_1790 (Nat.le_of_ble_eq_true rfl) rfl ?_
    refine V_aload_n C dL_law_1792 rfl rfl ?_
    refine V_V1 (k2 := n) (s2 := 6 * n) C dL_law_1793 lL_122 kX6_thrown (c_X6_thrown G K2 r1) (by decide) (rfl) rfl rfl rfl ⟨Nat.le_of_ble_eq_true rfl, Nat.le_of_ble_eq_true rfl⟩ (Nat.le_of_ble_eq_true rfl) (by omega) (by omega) ?_
    rw [h3]
    refine V_iload C dL_law_1796 rfl ?_
    refine V_icmp_eq (tgt := 1803) C dL_law_1798 (by decide) (by omega) (by omega) (fun q1798 => ?_) (fun q1798 => by exfalso; omega)
    refine V_iload C dL_law_1803 rfl ?_
    refine V_if_ne (tgt := 1820) C dL_law_1805 (by decide) (by omega) (fun q1805 => by exfalso; omega) (fun q1805 => ?_)
    refine V_aload_n C dL_law_1808 rfl rfl ?_
    refine V_iconst C dL_law_1809 ?_
    refine V_laldH C dL_law_1810 (by decide) (fun _ => rfl) (by omega) (by decide) ?_
    rw [show K2 33 (0 : Int).toNat = b from h33 k0]
    refine V_iload C dL_law_1811 rfl ?_
    refine V_i2l C dL_law_1813 (by omega) ?_
    refine V_lcmp C dL_law_1814 ?_
    rw [lcmp_eq]
    refine V_if_eq (tgt := 1820) C dL_law_1815 (by decide) (by omega) (fun q1815 => ?_) (fun q1815 => by exfalso; omega)
    refine V_goto (tgt := 2222) C dL_law_1820 (by decide) ?_
    refine V_iinc C dL_law_2222 rfl (Nat.le_of_ble_eq_true rfl) rfl ?_
    refine V_goto (tgt := 23) C dL_law_2225 (by decide) ?_
    exact cont _ _ _ _
  · skip
    refine V_aload_n C dL_law_1755 rfl rfl ?_
    refine V_aload_nq C dL_law_1756 rfl rfl ?_
    refine V_iload C dL_law_1757 rfl ?_
    refine V_iconst C dL_law_1759 ?_
    refine V_iadd C dL_law_1760 ?_
    refine V_sld C dL_law_1761 hX hsz hA (by omega) (by omega) ?_
    rw [ep]
    refine V_aload_nq C dL_law_1762 rfl rfl ?_
    refine V_iload C dL_law_1763 rfl ?_
    refine V_iconst C dL_law_1765 ?_
    refine V_iadd C dL_law_1766 ?_
    refine V_sld C dL_law_1767 hX hsz hA (by omega) (by omega) ?_
    rw [eq]
    refine V_aload_n C dL_law_1768 rfl rfl ?_
    refine V_SH1 (k2 := n) (s2 := 6 * n) C dL_law_1769 lL_229 kL_sumByCarries (hh) rfl rfl ⟨Nat.le_of_ble_eq_true rfl, Nat.le_of_ble_eq_true rfl⟩ (Nat.le_of_ble_eq_true rfl) (by omega) (by omega) ?_
    refine V_istore C dL_law_1772 (Nat.le_of_ble_eq_true rfl) rfl ?_
    refine V_aload_n C dL_law_1774 rfl rfl ?_
    refine V_aload_nq C dL_law_1775 rfl rfl ?_
    refine V_iload C dL_law_1776 rfl ?_
    refine V_iconst C dL_law_1778 ?_
    refine V_iadd C dL_law_1779 ?_
    refine V_sld C dL_law_1780 hX hsz hA (by omega) (by omega) ?_
    rw [ep]
    refine V_aload_nq C dL_law_1781 rfl rfl ?_
    refine V_iload C dL_law_1782 rfl ?_
    refine V_iconst C dL_law_1784 ?_
    refine V_iadd C dL_law_1785 ?_
    refine V_sld C dL_law_1786 hX hsz hA (by omega) (by omega) ?_
    rw [eq]
    refine V_V1 (k2 := n) (s2 := 6 * n) C dL_law_1787 lL_231 kX6_sumByCarries (hm) (by decide) (rfl) rfl rfl rfl ⟨Nat.le_of_ble_eq_true rfl, Nat.le_of_ble_eq_true rfl⟩ (Nat.le_of_ble_eq_true rfl) (by omega) (by omega) ?_
    refine V_istore C dL_law_1790 (Nat.le_of_ble_eq_true rfl) rfl ?_
    refine V_aload_n C dL_law_1792 rfl rfl ?_
    refine V_V1 (k2 := n) (s2 := 6 * n) C dL_law_1793 lL_122 kX6_thrown (c_X6_thrown G K2 r1) (by decide) (rfl) rfl rfl rfl ⟨Nat.le_of_ble_eq_true rfl, Nat.le_of_ble_eq_true rfl⟩ (Nat.le_of_ble_eq_true rfl) (by omega) (by omega) ?_
    rw [h3]
    refine V_iload C dL_law_1796 rfl ?_
    refine V_icmp_eq (tgt := 1803) C dL_law_1798 (by decide) (by omega) (by omega) (fun q1798 => ?_) (fun q1798 => by exfalso; omega)
    refine V_iload C dL_law_1803 rfl ?_
    refine V_if_ne (tgt := 1820) C dL_law_1805 (by decide) (by omega) (fun q1805 => ?_) (fun q1805 => by exfalso; omega)
    refine V_goto (tgt := 2222) C dL_law_1820 (by decide) ?_
    refine V_iinc C dL_law_2222 rfl (Nat.le_of_ble_eq_true rfl) rfl ?_
    refine V_goto (tgt := 23) C dL_law_2225 (by decide) ?_
    exact cont _ _ _ _
set_option maxRecDepth 100000 in
set_option maxHeartbeats 4000000 in
theorem w_carries {G : GT} {x : CxT} {sa L : Nat} {xs : Nat → Int32} (hW : LW G x sa L xs) {i : Int} (hi : 0 ≤ i ∧ i + 3 < L) {n : Nat} {p : Int} (ep : xs (i + 1).toNat = iI p) {q : Int} (eq : xs (i + 2).toNat = iI q) {K K1 K2 : Nat → Nat → Int} {r r1 : Nat → Option Nat} {k b : Int} (hk : 0 ≤ k ∧ k ≤ 3) (hb : -2147483648 ≤ b ∧ b < 2147483648) (hh : CtH G yL_carries mL_carries [rf G 0, .int (iI p), .int (iI q), rf G 33] 34 false (HP G K r) 1 6 (some (.int (iI k))) 34 false (HP G K1 r1)) (hm : CtO G yX6_carries mX6_carries [rf G 28, .int (iI p), .int (iI q)] K1 r1 (some (.int (iI b))) K2 r1) (h3 : K2 28 3 = k) (h33 : k = 0 → K2 33 0 = b) (cont : LL G x sa 23 (i + 4) K2 r1 n) : LL G x sa 1823 i K r (n + 1) := by
  intro o5 o6 o7 o8
  obtain ⟨C, hX, hsz, hA, hL⟩ := hW
  by_cases k0 : k = 0
  · skip
    refine V_aload_n C dL_law_1823 rfl rfl ?_
    refine V_aload_nq C dL_law_1824 rfl rfl ?_
    refine V_iload C dL_law_1825 rfl ?_
    refine V_iconst C dL_law_1827 ?_
    refine V_iadd C dL_law_1828 ?_
    refine V_sld C dL_law_1829 hX hsz hA (by omega) (by omega) ?_
    rw [ep]
    refine V_aload_nq C dL_law_1830 rfl rfl ?_
    refine V_iload C dL_law_1831 rfl ?_
    refine V_iconst C dL_law_1833 ?_
    refine V_iadd C dL_law_1834 ?_
    refine V_sld C dL_law_1835 hX hsz hA (by omega) (by omega) ?_
    rw [eq]
    refine V_aload_n C dL_law_1836 rfl rfl ?_
    refine V_SH1 (k2 := n) (s2 := 6 * n) C dL_law_1837 lL_232 kL_carries (hh) rfl rfl ⟨Nat.le_of_ble_eq_true rfl, Nat.le_of_ble_eq_true rfl⟩ (Nat.le_of_ble_eq_true rfl) (by omega) (by omega) ?_
    refine V_istore C dL_law_1840 (Nat.le_of_ble_eq_true rfl) rfl ?_
    refine V_aload_n C dL_law_1842 rfl rfl ?_
    refine V_aload_nq C dL_law_1843 rfl rfl ?_
    refine V_iload C dL_law_1844 rfl ?_
    refine V_iconst C dL_law_1846 ?_
    refine V_iadd C dL_law_1847 ?_
    refine V_sld C dL_law_1848 hX hsz hA (by omega) (by omega) ?_
    rw [ep]
    refine V_aload_nq C dL_law_1849 rfl rfl ?_
    refine V_iload C dL_law_1850 rfl ?_
    refine V_iconst C dL_law_1852 ?_
    refine V_iadd C dL_law_1853 ?_
    refine V_sld C dL_law_1854 hX hsz hA (by omega) (by omega) ?_
    rw [eq]
    refine V_V1 (k2 := n) (s2 := 6 * n) C dL_law_1855 lL_234 kX6_carries (hm) (by decide) (rfl) rfl rfl rfl ⟨Nat.le_of_ble_eq_true rfl, Nat.le_of_ble_eq_true rfl⟩ (Nat.le_of_ble_eq_true rfl) (by omega) (by omega) ?_
    refine V_istore C dL_law_1858 (Nat.le_of_ble_eq_true rfl) rfl ?_
    refine V_aload_n C dL_law_1860 rfl rfl ?_
    refine V_V1 (k2 := n) (s2 := 6 * n) C dL_law_1861 lL_122 kX6_thrown (c_X6_thrown G K2 r1) (by decide) (rfl) rfl rfl rfl ⟨Nat.le_of_ble_eq_true rfl, Nat.le_of_ble_eq_true rfl⟩ (Nat.le_of_ble_eq_true rfl) (by omega) (by omega) ?_
    rw [h3]
    refine V_iload C dL_law_1864 rfl ?_
    refine V_icmp_eq (tgt := 1871) C dL_law_1866 (by decide) (by omega) (by omega) (fun q1866 => ?_) (fun q1866 => by exfalso; omega)
    refine V_iload C dL_law_1871 rfl ?_
    refine V_if_ne (tgt := 1888) C dL_law_1873 (by decide) (by omega) (fun q1873 => by exfalso; omega) (fun q1873 => ?_)
    refine V_aload_n C dL_law_1876 rfl rfl ?_
    refine V_iconst C dL_law_1877 ?_
    refine V_laldH C dL_law_1878 (by decide) (fun _ => rfl) (by omega) (by decide) ?_
    rw [show K2 33 (0 : Int).toNat = b from h33 k0]
    refine V_iload C dL_law_1879 rfl ?_
    refine V_i2l C dL_law_1881 (by omega) ?_
    refine V_lcmp C dL_law_1882 ?_
    rw [lcmp_eq]
    refine V_if_eq (tgt := 1888) C dL_law_1883 (by decide) (by omega) (fun q1883 => ?_) (fun q1883 => by exfalso; omega)
    refine V_goto (tgt := 2222) C dL_law_1888 (by decide) ?_
    refine V_iinc C dL_law_2222 rfl (Nat.le_of_ble_eq_true rfl) rfl ?_
    refine V_goto (tgt := 23) C dL_law_2225 (by decide) ?_
    exact cont _ _ _ _
  · skip
    refine V_aload_n C dL_law_1823 rfl rfl ?_
    refine V_aload_nq C dL_law_1824 rfl rfl ?_
    refine V_iload C dL_law_1825 rfl ?_
    refine V_iconst C dL_law_1827 ?_
    refine V_iadd C dL_law_1828 ?_
    refine V_sld C dL_law_1829 hX hsz hA (by omega) (by omega) ?_
    rw [ep]
    refine V_aload_nq C dL_law_1830 rfl rfl ?_
    refine V_iload C dL_law_1831 rfl ?_
    refine V_iconst C dL_law_1833 ?_
    refine V_iadd C dL_law_1834 ?_
    refine V_sld C dL_law_1835 hX hsz hA (by omega) (by omega) ?_
    rw [eq]
    refine V_aload_n C dL_law_1836 rfl rfl ?_
    refine V_SH1 (k2 := n) (s2 := 6 * n) C dL_law_1837 lL_232 kL_carries (hh) rfl rfl ⟨Nat.le_of_ble_eq_true rfl, Nat.le_of_ble_eq_true rfl⟩ (Nat.le_of_ble_eq_true rfl) (by omega) (by omega) ?_
    refine V_istore C dL_law_1840 (Nat.le_of_ble_eq_true rfl) rfl ?_
    refine V_aload_n C dL_law_1842 rfl rfl ?_
    refine V_aload_nq C dL_law_1843 rfl rfl ?_
    refine V_iload C dL_law_1844 rfl ?_
    refine V_iconst C dL_law_1846 ?_
    refine V_iadd C dL_law_1847 ?_
    refine V_sld C dL_law_1848 hX hsz hA (by omega) (by omega) ?_
    rw [ep]
    refine V_aload_nq C dL_law_1849 rfl rfl ?_
    refine V_iload C dL_law_1850 rfl ?_
    refine V_iconst C dL_law_1852 ?_
    refine V_iadd C dL_law_1853 ?_
    refine V_sld C dL_law_1854 hX hsz hA (by omega) (by omega) ?_
    rw [eq]
    refine V_V1 (k2 := n) (s2 := 6 * n) C dL_law_1855 lL_234 kX6_carries (hm) (by decide) (rfl) rfl rfl rfl ⟨Nat.le_of_ble_eq_true rfl, Nat.le_of_ble_eq_true rfl⟩ (Nat.le_of_ble_eq_true rfl) (by omega) (by omega) ?_
    refine V_istore C dL_law_1858 (Nat.le_of_ble_eq_true rfl) rfl ?_
    refine V_aload_n C dL_law_1860 rfl rfl ?_
    refine V_V1 (k2 := n) (s2 := 6 * n) C dL_law_1861 lL_122 kX6_thrown (c_X6_thrown G K2 r1) (by decide) (rfl) rfl rfl rfl ⟨Nat.le_of_ble_eq_true rfl, Nat.le_of_ble_eq_true rfl⟩ (Nat.le_of_ble_eq_true rfl) (by omega) (by omega) ?_
    rw [h3]
    refine V_iload C dL_law_1864 rfl ?_
    refine V_icmp_eq (tgt := 1871) C dL_law_1866 (by decide) (by omega) (by omega) (fun q1866 => ?_) (fun q1866 => by exfalso; omega)
    refine V_iload C dL_law_1871 rfl ?_
    refine V_if_ne (tgt := 1888) C dL_law_1873 (by decide) (by omega) (fun q1873 => ?_) (fun q1873 => by exfalso; omega)
    refine V_goto (tgt := 2222) C dL_law_1888 (by decide) ?_
    refine V_iinc C dL_law_2222 rfl (Nat.le_of_ble_eq_true rfl) rfl ?_
    refine V_goto (tgt := 23) C dL_law_2225 (by decide) ?_
    exact cont _ _ _ _
set_option maxRecDepth 100000 in
set_option maxHeartbeats 4000000 in
theorem w_streamLength {G : GT} {x : CxT} {sa L : Nat} {xs : Nat → Int32} (hW : LW G x sa L xs) {i : Int} (hi : 0 ≤ i ∧ i + 3 < L) {n : Nat} {K K1 K2 : Nat → Nat → Int} {r r1 : Nat → Option Nat} {v : Int} (hv : -2147483648 ≤ v ∧ v < 2147483648) (hc : CtO G yX5_streamLength mX5_streamLength [rf G 0] K r (some (.int (iI v))) K1 r1) (hm : CtO G yX6_streamLength mX6_streamLength [rf G 28] K1 r1 (some (.int (iI v))) K2 r1) (cont : LL G x sa 23 (i + 4) K2 r1 n) : LL G x sa 1891 i K r (n + 1) := by
  intro o5 o6 o7 o8
  obtain ⟨C, hX, hsz, hA, hL⟩ := hW
  refine V_aload_n C dL_law_1891 rfl rfl ?_
  refine V_V1 (k2 := n) (s2 := 6 * n) C dL_law_1892 lL_235 kX5_streamLength (hc) (by decide) (rfl) rfl rfl rfl ⟨Nat.le_of_ble_eq_true rfl, Nat.le_of_ble_eq_true rfl⟩ (Nat.le_of_ble_eq_true rfl) (by omega) (by omega) ?_
  refine V_aload_n C dL_law_1895 rfl rfl ?_
  refine V_V1 (k2 := n) (s2 := 6 * n) C dL_law_1896 lL_238 kX6_streamLength (hm) (by decide) (rfl) rfl rfl rfl ⟨Nat.le_of_ble_eq_true rfl, Nat.le_of_ble_eq_true rfl⟩ (Nat.le_of_ble_eq_true rfl) (by omega) (by omega) ?_
  refine V_icmp_eq (tgt := 2222) C dL_law_1899 (by decide) (by omega) (by omega) (fun q1899 => ?_) (fun q1899 => by exfalso; omega)
  refine V_iinc C dL_law_2222 rfl (Nat.le_of_ble_eq_true rfl) rfl ?_
  refine V_goto (tgt := 23) C dL_law_2225 (by decide) ?_
  exact cont _ _ _ _
set_option maxRecDepth 100000 in
set_option maxHeartbeats 4000000 in
theorem w_digitAt {G : GT} {x : CxT} {sa L : Nat} {xs : Nat → Int32} (hW : LW G x sa L xs) {i : Int} (hi : 0 ≤ i ∧ i + 3 < L) {n : Nat} {p : Int} (ep : xs (i + 1).toNat = iI p) {K K1 K2 : Nat → Nat → Int} {r r1 : Nat → Option Nat} {k b : Int} (hk : 0 ≤ k ∧ k ≤ 3) (hb : -2147483648 ≤ b ∧ b < 2147483648) (hh : CtH G yL_digitAt mL_digitAt [rf G 0, .int (iI p), rf G 33] 34 false (HP G K r) 1 6 (some (.int (iI k))) 34 false (HP G K1 r1)) (hm : CtO G yX6_digitAt mX6_digitAt [rf G 28, .int (iI p)] K1 r1 (some (.int (iI b))) K2 r1) (h3 : K2 28 3 = k) (h33 : k = 0 → K2 33 0 = b) (cont : LL G x sa 23 (i + 4) K2 r1 n) : LL G x sa 1904 i K r (n + 1) := by
  intro o5 o6 o7 o8
  obtain ⟨C, hX, hsz, hA, hL⟩ := hW
  by_cases k0 : k = 0
  · skip
    refine V_aload_n C dL_law_1904 rfl rfl ?_
    refine V_aload_nq C dL_law_1905 rfl rfl ?_
    refine V_iload C dL_law_1906 rfl ?_
    refine V_iconst C dL_law_1908 ?_
    refine V_iadd C dL_law_1909 ?_
    refine V_sld C dL_law_1910 hX hsz hA (by omega) (by omega) ?_
    rw [ep]
    refine V_aload_n C dL_law_1911 rfl rfl ?_
    refine V_SH1 (k2 := n) (s2 := 6 * n) C dL_law_1912 lL_239 kL_digitAt (hh) rfl rfl ⟨Nat.le_of_ble_eq_true rfl, Nat.le_of_ble_eq_true rfl⟩ (Nat.le_of_ble_eq_true rfl) (by omega) (by omega) ?_
    refine V_istore C dL_law_1915 (Nat.le_of_ble_eq_true rfl) rfl ?_
    refine V_aload_n C dL_law_1917 rfl rfl ?_
    refine V_aload_nq C dL_law_1918 rfl rfl ?_
    refine V_iload C dL_law_1919 rfl ?_
    refine V_iconst C dL_law_1921 ?_
    refine V_iadd C dL_law_1922 ?_
    refine V_sld C dL_law_1923 hX hsz hA (by omega) (by omega) ?_
    rw [ep]
    refine V_V1 (k2 := n) (s2 := 6 * n) C dL_law_1924 lL_241 kX6_digitAt (hm) (by decide) (rfl) rfl rfl rfl ⟨Nat.le_of_ble_eq_true rfl, Nat.le_of_ble_eq_true rfl⟩ (Nat.le_of_ble_eq_true rfl) (by omega) (by omega) ?_
    refine V_istore C dL_law_1927 (Nat.le_of_ble_eq_true rfl) rfl ?_
    refine V_aload_n C dL_law_1929 rfl rfl ?_
    refine V_V1 (k2 := n) (s2 := 6 * n) C dL_law_1930 lL_122 kX6_thrown (c_X6_thrown G K2 r1) (by decide) (rfl) rfl rfl rfl ⟨Nat.le_of_ble_eq_true rfl, Nat.le_of_ble_eq_true rfl⟩ (Nat.le_of_ble_eq_true rfl) (by omega) (by omega) ?_
    rw [h3]
    refine V_iload C dL_law_1933 rfl ?_
    refine V_icmp_eq (tgt := 1940) C dL_law_1935 (by decide) (by omega) (by omega) (fun q1935 => ?_) (fun q1935 => by exfalso; omega)
    refine V_iload C dL_law_1940 rfl ?_
    refine V_if_ne (tgt := 1957) C dL_law_1942 (by decide) (by omega) (fun q1942 => by exfalso; omega) (fun q1942 => ?_)
    refine V_aload_n C dL_law_1945 rfl rfl ?_
    refine V_iconst C dL_law_1946 ?_
    refine V_laldH C dL_law_1947 (by decide) (fun _ => rfl) (by omega) (by decide) ?_
    rw [show K2 33 (0 : Int).toNat = b from h33 k0]
    refine V_iload C dL_law_1948 rfl ?_
    refine V_i2l C dL_law_1950 (by omega) ?_
    refine V_lcmp C dL_law_1951 ?_
    rw [lcmp_eq]
    refine V_if_eq (tgt := 1957) C dL_law_1952 (by decide) (by omega) (fun q1952 => ?_) (fun q1952 => by exfalso; omega)
    refine V_goto (tgt := 2222) C dL_law_1957 (by decide) ?_
    refine V_iinc C dL_law_2222 rfl (Nat.le_of_ble_eq_true rfl) rfl ?_
    refine V_goto (tgt := 23) C dL_law_2225 (by decide) ?_
    exact cont _ _ _ _
  · skip
    refine V_aload_n C dL_law_1904 rfl rfl ?_
    refine V_aload_nq C dL_law_1905 rfl rfl ?_
    refine V_iload C dL_law_1906 rfl ?_
    refine V_iconst C dL_law_1908 ?_
    refine V_iadd C dL_law_1909 ?_
    refine V_sld C dL_law_1910 hX hsz hA (by omega) (by omega) ?_
    rw [ep]
    refine V_aload_n C dL_law_1911 rfl rfl ?_
    refine V_SH1 (k2 := n) (s2 := 6 * n) C dL_law_1912 lL_239 kL_digitAt (hh) rfl rfl ⟨Nat.le_of_ble_eq_true rfl, Nat.le_of_ble_eq_true rfl⟩ (Nat.le_of_ble_eq_true rfl) (by omega) (by omega) ?_
    refine V_istore C dL_law_1915 (Nat.le_of_ble_eq_true rfl) rfl ?_
    refine V_aload_n C dL_law_1917 rfl rfl ?_
    refine V_aload_nq C dL_law_1918 rfl rfl ?_
    refine V_iload C dL_law_1919 rfl ?_
    refine V_iconst C dL_law_1921 ?_
    refine V_iadd C dL_law_1922 ?_
    refine V_sld C dL_law_1923 hX hsz hA (by omega) (by omega) ?_
    rw [ep]
    refine V_V1 (k2 := n) (s2 := 6 * n) C dL_law_1924 lL_241 kX6_digitAt (hm) (by decide) (rfl) rfl rfl rfl ⟨Nat.le_of_ble_eq_true rfl, Nat.le_of_ble_eq_true rfl⟩ (Nat.le_of_ble_eq_true rfl) (by omega) (by omega) ?_
    refine V_istore C dL_law_1927 (Nat.le_of_ble_eq_true rfl) rfl ?_
    refine V_aload_n C dL_law_1929 rfl rfl ?_
    refine V_V1 (k2 := n) (s2 := 6 * n) C dL_law_1930 lL_122 kX6_thrown (c_X6_thrown G K2 r1) (by decide) (rfl) rfl rfl rfl ⟨Nat.le_of_ble_eq_true rfl, Nat.le_of_ble_eq_true rfl⟩ (Nat.le_of_ble_eq_true rfl) (by omega) (by omega) ?_
    rw [h3]
    refine V_iload C dL_law_1933 rfl ?_
    refine V_icmp_eq (tgt := 1940) C dL_law_1935 (by decide) (by omega) (by omega) (fun q1935 => ?_) (fun q1935 => by exfalso; omega)
    refine V_iload C dL_law_1940 rfl ?_
    refine V_if_ne (tgt := 1957) C dL_law_1942 (by decide) (by omega) (fun q1942 => ?_) (fun q1942 => by exfalso; omega)
    refine V_goto (tgt := 2222) C dL_law_1957 (by decide) ?_
    refine V_iinc C dL_law_2222 rfl (Nat.le_of_ble_eq_true rfl) rfl ?_
    refine V_goto (tgt := 23) C dL_law_2225 (by decide) ?_
    exact cont _ _ _ _
set_option maxRecDepth 100000 in
set_option maxHeartbeats 4000000 in
theorem w_readNumbers {G : GT} {x : CxT} {sa L : Nat} {xs : Nat → Int32} (hW : LW G x sa L xs) {i : Int} (hi : 0 ≤ i ∧ i + 3 < L) {n : Nat} {K K1 K2 : Nat → Nat → Int} {r r1 : Nat → Option Nat} {v : Int} (hv : -2147483648 ≤ v ∧ v < 2147483648) (hc : CtO G yX5_readNumbers mX5_readNumbers [rf G 0] K r (some (.int (iI v))) K1 r1) (hm : CtO G yX6_readNumbers mX6_readNumbers [rf G 28] K1 r1 (some (.int (iI v))) K2 r1) (cont : LL G x sa 23 (i + 4) K2 r1 n) : LL G x sa 1960 i K r (n + 1) := by
  intro o5 o6 o7 o8
  obtain ⟨C, hX, hsz, hA, hL⟩ := hW
  refine V_aload_n C dL_law_1960 rfl rfl ?_
  refine V_V1 (k2 := n) (s2 := 6 * n) C dL_law_1961 lL_242 kX5_readNumbers (hc) (by decide) (rfl) rfl rfl rfl ⟨Nat.le_of_ble_eq_true rfl, Nat.le_of_ble_eq_true rfl⟩ (Nat.le_of_ble_eq_true rfl) (by omega) (by omega) ?_
  refine V_aload_n C dL_law_1964 rfl rfl ?_
  refine V_V1 (k2 := n) (s2 := 6 * n) C dL_law_1965 lL_245 kX6_readNumbers (hm) (by decide) (rfl) rfl rfl rfl ⟨Nat.le_of_ble_eq_true rfl, Nat.le_of_ble_eq_true rfl⟩ (Nat.le_of_ble_eq_true rfl) (by omega) (by omega) ?_
  refine V_icmp_eq (tgt := 2222) C dL_law_1968 (by decide) (by omega) (by omega) (fun q1968 => ?_) (fun q1968 => by exfalso; omega)
  refine V_iinc C dL_law_2222 rfl (Nat.le_of_ble_eq_true rfl) rfl ?_
  refine V_goto (tgt := 23) C dL_law_2225 (by decide) ?_
  exact cont _ _ _ _
set_option maxRecDepth 100000 in
set_option maxHeartbeats 4000000 in
theorem w_readAt {G : GT} {x : CxT} {sa L : Nat} {xs : Nat → Int32} (hW : LW G x sa L xs) {i : Int} (hi : 0 ≤ i ∧ i + 3 < L) {n : Nat} {p : Int} (ep : xs (i + 1).toNat = iI p) {K K1 K2 : Nat → Nat → Int} {r r1 : Nat → Option Nat} {k b : Int} (hk : 0 ≤ k ∧ k ≤ 3) (hb : -2147483648 ≤ b ∧ b < 2147483648) (hh : CtH G yL_readAt mL_readAt [rf G 0, .int (iI p), rf G 33] 34 false (HP G K r) 1 6 (some (.int (iI k))) 34 false (HP G K1 r1)) (hm : CtO G yX6_readAt mX6_readAt [rf G 28, .int (iI p)] K1 r1 (some (.int (iI b))) K2 r1) (h3 : K2 28 3 = k) (h33 : k = 0 → K2 33 0 = b) (cont : LL G x sa 23 (i + 4) K2 r1 n) : LL G x sa 1973 i K r (n + 1) := by
  intro o5 o6 o7 o8
  obtain ⟨C, hX, hsz, hA, hL⟩ := hW
  by_cases k0 : k = 0
  · skip
    refine V_aload_n C dL_law_1973 rfl rfl ?_
    refine V_aload_nq C dL_law_1974 rfl rfl ?_
    refine V_iload C dL_law_1975 rfl ?_
    refine V_iconst C dL_law_1977 ?_
    refine V_iadd C dL_law_1978 ?_
    refine V_sld C dL_law_1979 hX hsz hA (by omega) (by omega) ?_
    rw [ep]
    refine V_aload_n C dL_law_1980 rfl rfl ?_
    refine V_SH1 (k2 := n) (s2 := 6 * n) C dL_law_1981 lL_246 kL_readAt (hh) rfl rfl ⟨Nat.le_of_ble_eq_true rfl, Nat.le_of_ble_eq_true rfl⟩ (Nat.le_of_ble_eq_true rfl) (by omega) (by omega) ?_
    refine V_istore C dL_law_1984 (Nat.le_of_ble_eq_true rfl) rfl ?_
    refine V_aload_n C dL_law_1986 rfl rfl ?_
    refine V_aload_nq C dL_law_1987 rfl rfl ?_
    refine V_iload C dL_law_1988 rfl ?_
    refine V_iconst C dL_law_1990 ?_
    refine V_iadd C dL_law_1991 ?_
    refine V_sld C dL_law_1992 hX hsz hA (by omega) (by omega) ?_
    rw [ep]
    refine V_V1 (k2 := n) (s2 := 6 * n) C dL_law_1993 lL_248 kX6_readAt (hm) (by decide) (rfl) rfl rfl rfl ⟨Nat.le_of_ble_eq_true rfl, Nat.le_of_ble_eq_true rfl⟩ (Nat.le_of_ble_eq_true rfl) (by omega) (by omega) ?_
    refine V_istore C dL_law_1996 (Nat.le_of_ble_eq_true rfl) rfl ?_
    refine V_aload_n C dL_law_1998 rfl rfl ?_
    refine V_V1 (k2 := n) (s2 := 6 * n) C dL_law_1999 lL_122 kX6_thrown (c_X6_thrown G K2 r1) (by decide) (rfl) rfl rfl rfl ⟨Nat.le_of_ble_eq_true rfl, Nat.le_of_ble_eq_true rfl⟩ (Nat.le_of_ble_eq_true rfl) (by omega) (by omega) ?_
    rw [h3]
    refine V_iload C dL_law_2002 rfl ?_
    refine V_icmp_eq (tgt := 2009) C dL_law_2004 (by decide) (by omega) (by omega) (fun q2004 => ?_) (fun q2004 => by exfalso; omega)
    refine V_iload C dL_law_2009 rfl ?_
    refine V_if_ne (tgt := 2026) C dL_law_2011 (by decide) (by omega) (fun q2011 => by exfalso; omega) (fun q2011 => ?_)
    refine V_aload_n C dL_law_2014 rfl rfl ?_
    refine V_iconst C dL_law_2015 ?_
    refine V_laldH C dL_law_2016 (by decide) (fun _ => rfl) (by omega) (by decide) ?_
    rw [show K2 33 (0 : Int).toNat = b from h33 k0]
    refine V_iload C dL_law_2017 rfl ?_
    refine V_i2l C dL_law_2019 (by omega) ?_
    refine V_lcmp C dL_law_2020 ?_
    rw [lcmp_eq]
    refine V_if_eq (tgt := 2026) C dL_law_2021 (by decide) (by omega) (fun q2021 => ?_) (fun q2021 => by exfalso; omega)
    refine V_goto (tgt := 2222) C dL_law_2026 (by decide) ?_
    refine V_iinc C dL_law_2222 rfl (Nat.le_of_ble_eq_true rfl) rfl ?_
    refine V_goto (tgt := 23) C dL_law_2225 (by decide) ?_
    exact cont _ _ _ _
  · skip
    refine V_aload_n C dL_law_1973 rfl rfl ?_
    refine V_aload_nq C dL_law_1974 rfl rfl ?_
    refine V_iload C dL_law_1975 rfl ?_
    refine V_iconst C dL_law_1977 ?_
    refine V_iadd C dL_law_1978 ?_
    refine V_sld C dL_law_1979 hX hsz hA (by omega) (by omega) ?_
    rw [ep]
    refine V_aload_n C dL_law_1980 rfl rfl ?_
    refine V_SH1 (k2 := n) (s2 := 6 * n) C dL_law_1981 lL_246 kL_readAt (hh) rfl rfl ⟨Nat.le_of_ble_eq_true rfl, Nat.le_of_ble_eq_true rfl⟩ (Nat.le_of_ble_eq_true rfl) (by omega) (by omega) ?_
    refine V_istore C dL_law_1984 (Nat.le_of_ble_eq_true rfl) rfl ?_
    refine V_aload_n C dL_law_1986 rfl rfl ?_
    refine V_aload_nq C dL_law_1987 rfl rfl ?_
    refine V_iload C dL_law_1988 rfl ?_
    refine V_iconst C dL_law_1990 ?_
    refine V_iadd C dL_law_1991 ?_
    refine V_sld C dL_law_1992 hX hsz hA (by omega) (by omega) ?_
    rw [ep]
    refine V_V1 (k2 := n) (s2 := 6 * n) C dL_law_1993 lL_248 kX6_readAt (hm) (by decide) (rfl) rfl rfl rfl ⟨Nat.le_of_ble_eq_true rfl, Nat.le_of_ble_eq_true rfl⟩ (Nat.le_of_ble_eq_true rfl) (by omega) (by omega) ?_
    refine V_istore C dL_law_1996 (Nat.le_of_ble_eq_true rfl) rfl ?_
    refine V_aload_n C dL_law_1998 rfl rfl ?_
    refine V_V1 (k2 := n) (s2 := 6 * n) C dL_law_1999 lL_122 kX6_thrown (c_X6_thrown G K2 r1) (by decide) (rfl) rfl rfl rfl ⟨Nat.le_of_ble_eq_true rfl, Nat.le_of_ble_eq_true rfl⟩ (Nat.le_of_ble_eq_true rfl) (by omega) (by omega) ?_
    rw [h3]
    refine V_iload C dL_law_2002 rfl ?_
    refine V_icmp_eq (tgt := 2009) C dL_law_2004 (by decide) (by omega) (by omega) (fun q2004 => ?_) (fun q2004 => by exfalso; omega)
    refine V_iload C dL_law_2009 rfl ?_
    refine V_if_ne (tgt := 2026) C dL_law_2011 (by decide) (by omega) (fun q2011 => ?_) (fun q2011 => by exfalso; omega)
    refine V_goto (tgt := 2222) C dL_law_2026 (by decide) ?_
    refine V_iinc C dL_law_2222 rfl (Nat.le_of_ble_eq_true rfl) rfl ?_
    refine V_goto (tgt := 23) C dL_law_2225 (by decide) ?_
    exact cont _ _ _ _
set_option maxRecDepth 100000 in
set_option maxHeartbeats 4000000 in
theorem w_errors {G : GT} {x : CxT} {sa L : Nat} {xs : Nat → Int32} (hW : LW G x sa L xs) {i : Int} (hi : 0 ≤ i ∧ i + 3 < L) {n : Nat} {K K1 K2 : Nat → Nat → Int} {r r1 : Nat → Option Nat} {v : Int} (hv : -2147483648 ≤ v ∧ v < 2147483648) (hc : CtO G yX5_errors mX5_errors [rf G 0] K r (some (.int (iI v))) K1 r1) (hm : CtO G yX6_errors mX6_errors [rf G 28] K1 r1 (some (.int (iI v))) K2 r1) (cont : LL G x sa 23 (i + 4) K2 r1 n) : LL G x sa 2029 i K r (n + 1) := by
  intro o5 o6 o7 o8
  obtain ⟨C, hX, hsz, hA, hL⟩ := hW
  refine V_aload_n C dL_law_2029 rfl rfl ?_
  refine V_V1 (k2 := n) (s2 := 6 * n) C dL_law_2030 lL_249 kX5_errors (hc) (by decide) (rfl) rfl rfl rfl ⟨Nat.le_of_ble_eq_true rfl, Nat.le_of_ble_eq_true rfl⟩ (Nat.le_of_ble_eq_true rfl) (by omega) (by omega) ?_
  refine V_aload_n C dL_law_2033 rfl rfl ?_
  refine V_V1 (k2 := n) (s2 := 6 * n) C dL_law_2034 lL_252 kX6_errors (hm) (by decide) (rfl) rfl rfl rfl ⟨Nat.le_of_ble_eq_true rfl, Nat.le_of_ble_eq_true rfl⟩ (Nat.le_of_ble_eq_true rfl) (by omega) (by omega) ?_
  refine V_icmp_eq (tgt := 2222) C dL_law_2037 (by decide) (by omega) (by omega) (fun q2037 => ?_) (fun q2037 => by exfalso; omega)
  refine V_iinc C dL_law_2222 rfl (Nat.le_of_ble_eq_true rfl) rfl ?_
  refine V_goto (tgt := 23) C dL_law_2225 (by decide) ?_
  exact cont _ _ _ _
set_option maxRecDepth 100000 in
set_option maxHeartbeats 4000000 in
theorem w_looseDigits {G : GT} {x : CxT} {sa L : Nat} {xs : Nat → Int32} (hW : LW G x sa L xs) {i : Int} (hi : 0 ≤ i ∧ i + 3 < L) {n : Nat} {K K1 K2 : Nat → Nat → Int} {r r1 : Nat → Option Nat} {v : Int} (hv : -2147483648 ≤ v ∧ v < 2147483648) (hc : CtO G yX5_looseDigits mX5_looseDigits [rf G 0] K r (some (.int (iI v))) K1 r1) (hm : CtO G yX6_looseDigits mX6_looseDigits [rf G 28] K1 r1 (some (.int (iI v))) K2 r1) (cont : LL G x sa 23 (i + 4) K2 r1 n) : LL G x sa 2042 i K r (n + 1) := by
  intro o5 o6 o7 o8
  obtain ⟨C, hX, hsz, hA, hL⟩ := hW
  refine V_aload_n C dL_law_2042 rfl rfl ?_
  refine V_V1 (k2 := n) (s2 := 6 * n) C dL_law_2043 lL_253 kX5_looseDigits (hc) (by decide) (rfl) rfl rfl rfl ⟨Nat.le_of_ble_eq_true rfl, Nat.le_of_ble_eq_true rfl⟩ (Nat.le_of_ble_eq_true rfl) (by omega) (by omega) ?_
  refine V_aload_n C dL_law_2046 rfl rfl ?_
  refine V_V1 (k2 := n) (s2 := 6 * n) C dL_law_2047 lL_256 kX6_looseDigits (hm) (by decide) (rfl) rfl rfl rfl ⟨Nat.le_of_ble_eq_true rfl, Nat.le_of_ble_eq_true rfl⟩ (Nat.le_of_ble_eq_true rfl) (by omega) (by omega) ?_
  refine V_icmp_eq (tgt := 2222) C dL_law_2050 (by decide) (by omega) (by omega) (fun q2050 => ?_) (fun q2050 => by exfalso; omega)
  refine V_iinc C dL_law_2222 rfl (Nat.le_of_ble_eq_true rfl) rfl ?_
  refine V_goto (tgt := 23) C dL_law_2225 (by decide) ?_
  exact cont _ _ _ _
set_option maxRecDepth 100000 in
set_option maxHeartbeats 4000000 in
theorem w_readIfTurned {G : GT} {x : CxT} {sa L : Nat} {xs : Nat → Int32} (hW : LW G x sa L xs) {i : Int} (hi : 0 ≤ i ∧ i + 3 < L) {n : Nat} {p : Int} (ep : xs (i + 1).toNat = iI p) {K K1 K2 : Nat → Nat → Int} {r r1 : Nat → Option Nat} {k b : Int} (hk : 0 ≤ k ∧ k ≤ 3) (hb : -2147483648 ≤ b ∧ b < 2147483648) (hh : CtH G yL_readIfTurned mL_readIfTurned [rf G 0, .int (iI p), rf G 33] 34 false (HP G K r) 1 6 (some (.int (iI k))) 34 false (HP G K1 r1)) (hm : CtO G yX6_readIfTurned mX6_readIfTurned [rf G 28, .int (iI p)] K1 r1 (some (.int (iI b))) K2 r1) (h3 : K2 28 3 = k) (h33 : k = 0 → K2 33 0 = b) (cont : LL G x sa 23 (i + 4) K2 r1 n) : LL G x sa 2055 i K r (n + 1) := by
  intro o5 o6 o7 o8
  obtain ⟨C, hX, hsz, hA, hL⟩ := hW
  by_cases k0 : k = 0
  · skip
    refine V_aload_n C dL_law_2055 rfl rfl ?_
    refine V_aload_nq C dL_law_2056 rfl rfl ?_
    refine V_iload C dL_law_2057 rfl ?_
    refine V_iconst C dL_law_2059 ?_
    refine V_iadd C dL_law_2060 ?_
    refine V_sld C dL_law_2061 hX hsz hA (by omega) (by omega) ?_
    rw [ep]
    refine V_aload_n C dL_law_2062 rfl rfl ?_
    refine V_SH1 (k2 := n) (s2 := 6 * n) C dL_law_2063 lL_257 kL_readIfTurned (hh) rfl rfl ⟨Nat.le_of_ble_eq_true rfl, Nat.le_of_ble_eq_true rfl⟩ (Nat.le_of_ble_eq_true rfl) (by omega) (by omega) ?_
    refine V_istore C dL_law_2066 (Nat.le_of_ble_eq_true rfl) rfl ?_
    refine V_aload_n C dL_law_2068 rfl rfl ?_
    refine V_aload_nq C dL_law_2069 rfl rfl ?_
    refine V_iload C dL_law_2070 rfl ?_
    refine V_iconst C dL_law_2072 ?_
    refine V_iadd C dL_law_2073 ?_
    refine V_sld C dL_law_2074 hX hsz hA (by omega) (by omega) ?_
    rw [ep]
    refine V_V1 (k2 := n) (s2 := 6 * n) C dL_law_2075 lL_259 kX6_readIfTurned (hm) (by decide) (rfl) rfl rfl rfl ⟨Nat.le_of_ble_eq_true rfl, Nat.le_of_ble_eq_true rfl⟩ (Nat.le_of_ble_eq_true rfl) (by omega) (by omega) ?_
    refine V_istore C dL_law_2078 (Nat.le_of_ble_eq_true rfl) rfl ?_
    refine V_aload_n C dL_law_2080 rfl rfl ?_
    refine V_V1 (k2 := n) (s2 := 6 * n) C dL_law_2081 lL_122 kX6_thrown (c_X6_thrown G K2 r1) (by decide) (rfl) rfl rfl rfl ⟨Nat.le_of_ble_eq_true rfl, Nat.le_of_ble_eq_true rfl⟩ (Nat.le_of_ble_eq_true rfl) (by omega) (by omega) ?_
    rw [h3]
    refine V_iload C dL_law_2084 rfl ?_
    refine V_icmp_eq (tgt := 2091) C dL_law_2086 (by decide) (by omega) (by omega) (fun q2086 => ?_) (fun q2086 => by exfalso; omega)
    refine V_iload C dL_law_2091 rfl ?_
    refine V_if_ne (tgt := 2108) C dL_law_2093 (by decide) (by omega) (fun q2093 => by exfalso; omega) (fun q2093 => ?_)
    refine V_aload_n C dL_law_2096 rfl rfl ?_
    refine V_iconst C dL_law_2097 ?_
    refine V_laldH C dL_law_2098 (by decide) (fun _ => rfl) (by omega) (by decide) ?_
    rw [show K2 33 (0 : Int).toNat = b from h33 k0]
    refine V_iload C dL_law_2099 rfl ?_
    refine V_i2l C dL_law_2101 (by omega) ?_
    refine V_lcmp C dL_law_2102 ?_
    rw [lcmp_eq]
    refine V_if_eq (tgt := 2108) C dL_law_2103 (by decide) (by omega) (fun q2103 => ?_) (fun q2103 => by exfalso; omega)
    refine V_goto (tgt := 2222) C dL_law_2108 (by decide) ?_
    refine V_iinc C dL_law_2222 rfl (Nat.le_of_ble_eq_true rfl) rfl ?_
    refine V_goto (tgt := 23) C dL_law_2225 (by decide) ?_
    exact cont _ _ _ _
  · skip
    refine V_aload_n C dL_law_2055 rfl rfl ?_
    refine V_aload_nq C dL_law_2056 rfl rfl ?_
    refine V_iload C dL_law_2057 rfl ?_
    refine V_iconst C dL_law_2059 ?_
    refine V_iadd C dL_law_2060 ?_
    refine V_sld C dL_law_2061 hX hsz hA (by omega) (by omega) ?_
    rw [ep]
    refine V_aload_n C dL_law_2062 rfl rfl ?_
    refine V_SH1 (k2 := n) (s2 := 6 * n) C dL_law_2063 lL_257 kL_readIfTurned (hh) rfl rfl ⟨Nat.le_of_ble_eq_true rfl, Nat.le_of_ble_eq_true rfl⟩ (Nat.le_of_ble_eq_true rfl) (by omega) (by omega) ?_
    refine V_istore C dL_law_2066 (Nat.le_of_ble_eq_true rfl) rfl ?_
    refine V_aload_n C dL_law_2068 rfl rfl ?_
    refine V_aload_nq C dL_law_2069 rfl rfl ?_
    refine V_iload C dL_law_2070 rfl ?_
    refine V_iconst C dL_law_2072 ?_
    refine V_iadd C dL_law_2073 ?_
    refine V_sld C dL_law_2074 hX hsz hA (by omega) (by omega) ?_
    rw [ep]
    refine V_V1 (k2 := n) (s2 := 6 * n) C dL_law_2075 lL_259 kX6_readIfTurned (hm) (by decide) (rfl) rfl rfl rfl ⟨Nat.le_of_ble_eq_true rfl, Nat.le_of_ble_eq_true rfl⟩ (Nat.le_of_ble_eq_true rfl) (by omega) (by omega) ?_
    refine V_istore C dL_law_2078 (Nat.le_of_ble_eq_true rfl) rfl ?_
    refine V_aload_n C dL_law_2080 rfl rfl ?_
    refine V_V1 (k2 := n) (s2 := 6 * n) C dL_law_2081 lL_122 kX6_thrown (c_X6_thrown G K2 r1) (by decide) (rfl) rfl rfl rfl ⟨Nat.le_of_ble_eq_true rfl, Nat.le_of_ble_eq_true rfl⟩ (Nat.le_of_ble_eq_true rfl) (by omega) (by omega) ?_
    rw [h3]
    refine V_iload C dL_law_2084 rfl ?_
    refine V_icmp_eq (tgt := 2091) C dL_law_2086 (by decide) (by omega) (by omega) (fun q2086 => ?_) (fun q2086 => by exfalso; omega)
    refine V_iload C dL_law_2091 rfl ?_
    refine V_if_ne (tgt := 2108) C dL_law_2093 (by decide) (by omega) (fun q2093 => ?_) (fun q2093 => by exfalso; omega)
    refine V_goto (tgt := 2222) C dL_law_2108 (by decide) ?_
    refine V_iinc C dL_law_2222 rfl (Nat.le_of_ble_eq_true rfl) rfl ?_
    refine V_goto (tgt := 23) C dL_law_2225 (by decide) ?_
    exact cont _ _ _ _
set_option maxRecDepth 100000 in
set_option maxHeartbeats 4000000 in
theorem w_codeLength {G : GT} {x : CxT} {sa L : Nat} {xs : Nat → Int32} (hW : LW G x sa L xs) {i : Int} (hi : 0 ≤ i ∧ i + 3 < L) {n : Nat} {p : Int} (ep : xs (i + 1).toNat = iI p) {K K1 K2 : Nat → Nat → Int} {r r1 : Nat → Option Nat} {k b : Int} (hk : 0 ≤ k ∧ k ≤ 3) (hb : -2147483648 ≤ b ∧ b < 2147483648) (hh : CtH G yL_codeLength mL_codeLength [rf G 0, .int (iI p), rf G 33] 34 false (HP G K r) 1 6 (some (.int (iI k))) 34 false (HP G K1 r1)) (hm : CtO G yX6_codeLength mX6_codeLength [rf G 28, .int (iI p)] K1 r1 (some (.int (iI b))) K2 r1) (h3 : K2 28 3 = k) (h33 : k = 0 → K2 33 0 = b) (cont : LL G x sa 23 (i + 4) K2 r1 n) : LL G x sa 2111 i K r (n + 1) := by
  intro o5 o6 o7 o8
  obtain ⟨C, hX, hsz, hA, hL⟩ := hW
  by_cases k0 : k = 0
  · skip
    refine V_aload_n C dL_law_2111 rfl rfl ?_
    refine V_aload_nq C dL_law_2112 rfl rfl ?_
    refine V_iload C dL_law_2113 rfl ?_
    refine V_iconst C dL_law_2115 ?_
    refine V_iadd C dL_law_2116 ?_
    refine V_sld C dL_law_2117 hX hsz hA (by omega) (by omega) ?_
    rw [ep]
    refine V_aload_n C dL_law_2118 rfl rfl ?_
    refine V_SH1 (k2 := n) (s2 := 6 * n) C dL_law_2119 lL_260 kL_codeLength (hh) rfl rfl ⟨Nat.le_of_ble_eq_true rfl, Nat.le_of_ble_eq_true rfl⟩ (Nat.le_of_ble_eq_true rfl) (by omega) (by omega) ?_
    refine V_istore C dL_law_2122 (Nat.le_of_ble_eq_true rfl) rfl ?_
    refine V_aload_n C dL_law_2124 rfl rfl ?_
    refine V_aload_nq C dL_law_2125 rfl rfl ?_
    refine V_iload C dL_law_2126 rfl ?_
    refine V_iconst C dL_law_2128 ?_
    refine V_iadd C dL_law_2129 ?_
    refine V_sld C dL_law_2130 hX hsz hA (by omega) (by omega) ?_
    rw [ep]
    refine V_V1 (k2 := n) (s2 := 6 * n) C dL_law_2131 lL_262 kX6_codeLength (hm) (by decide) (rfl) rfl rfl rfl ⟨Nat.le_of_ble_eq_true rfl, Nat.le_of_ble_eq_true rfl⟩ (Nat.le_of_ble_eq_true rfl) (by omega) (by omega) ?_
    refine V_istore C dL_law_2134 (Nat.le_of_ble_eq_true rfl) rfl ?_
    refine V_aload_n C dL_law_2136 rfl rfl ?_
    refine V_V1 (k2 := n) (s2 := 6 * n) C dL_law_2137 lL_122 kX6_thrown (c_X6_thrown G K2 r1) (by decide) (rfl) rfl rfl rfl ⟨Nat.le_of_ble_eq_true rfl, Nat.le_of_ble_eq_true rfl⟩ (Nat.le_of_ble_eq_true rfl) (by omega) (by omega) ?_
    rw [h3]
    refine V_iload C dL_law_2140 rfl ?_
    refine V_icmp_eq (tgt := 2147) C dL_law_2142 (by decide) (by omega) (by omega) (fun q2142 => ?_) (fun q2142 => by exfalso; omega)
    refine V_iload C dL_law_2147 rfl ?_
    refine V_if_ne (tgt := 2164) C dL_law_2149 (by decide) (by omega) (fun q2149 => by exfalso; omega) (fun q2149 => ?_)
    refine V_aload_n C dL_law_2152 rfl rfl ?_
    refine V_iconst C dL_law_2153 ?_
    refine V_laldH C dL_law_2154 (by decide) (fun _ => rfl) (by omega) (by decide) ?_
    rw [show K2 33 (0 : Int).toNat = b from h33 k0]
    refine V_iload C dL_law_2155 rfl ?_
    refine V_i2l C dL_law_2157 (by omega) ?_
    refine V_lcmp C dL_law_2158 ?_
    rw [lcmp_eq]
    refine V_if_eq (tgt := 2164) C dL_law_2159 (by decide) (by omega) (fun q2159 => ?_) (fun q2159 => by exfalso; omega)
    refine V_goto (tgt := 2222) C dL_law_2164 (by decide) ?_
    refine V_iinc C dL_law_2222 rfl (Nat.le_of_ble_eq_true rfl) rfl ?_
    refine V_goto (tgt := 23) C dL_law_2225 (by decide) ?_
    exact cont _ _ _ _
  · skip
    refine V_aload_n C dL_law_2111 rfl rfl ?_
    refine V_aload_nq C dL_law_2112 rfl rfl ?_
    refine V_iload C dL_law_2113 rfl ?_
    refine V_iconst C dL_law_2115 ?_
    refine V_iadd C dL_law_2116 ?_
    refine V_sld C dL_law_2117 hX hsz hA (by omega) (by omega) ?_
    rw [ep]
    refine V_aload_n C dL_law_2118 rfl rfl ?_
    refine V_SH1 (k2 := n) (s2 := 6 * n) C dL_law_2119 lL_260 kL_codeLength (hh) rfl rfl ⟨Nat.le_of_ble_eq_true rfl, Nat.le_of_ble_eq_true rfl⟩ (Nat.le_of_ble_eq_true rfl) (by omega) (by omega) ?_
    refine V_istore C dL_law_2122 (Nat.le_of_ble_eq_true rfl) rfl ?_
    refine V_aload_n C dL_law_2124 rfl rfl ?_
    refine V_aload_nq C dL_law_2125 rfl rfl ?_
    refine V_iload C dL_law_2126 rfl ?_
    refine V_iconst C dL_law_2128 ?_
    refine V_iadd C dL_law_2129 ?_
    refine V_sld C dL_law_2130 hX hsz hA (by omega) (by omega) ?_
    rw [ep]
    refine V_V1 (k2 := n) (s2 := 6 * n) C dL_law_2131 lL_262 kX6_codeLength (hm) (by decide) (rfl) rfl rfl rfl ⟨Nat.le_of_ble_eq_true rfl, Nat.le_of_ble_eq_true rfl⟩ (Nat.le_of_ble_eq_true rfl) (by omega) (by omega) ?_
    refine V_istore C dL_law_2134 (Nat.le_of_ble_eq_true rfl) rfl ?_
    refine V_aload_n C dL_law_2136 rfl rfl ?_
    refine V_V1 (k2 := n) (s2 := 6 * n) C dL_law_2137 lL_122 kX6_thrown (c_X6_thrown G K2 r1) (by decide) (rfl) rfl rfl rfl ⟨Nat.le_of_ble_eq_true rfl, Nat.le_of_ble_eq_true rfl⟩ (Nat.le_of_ble_eq_true rfl) (by omega) (by omega) ?_
    rw [h3]
    refine V_iload C dL_law_2140 rfl ?_
    refine V_icmp_eq (tgt := 2147) C dL_law_2142 (by decide) (by omega) (by omega) (fun q2142 => ?_) (fun q2142 => by exfalso; omega)
    refine V_iload C dL_law_2147 rfl ?_
    refine V_if_ne (tgt := 2164) C dL_law_2149 (by decide) (by omega) (fun q2149 => ?_) (fun q2149 => by exfalso; omega)
    refine V_goto (tgt := 2222) C dL_law_2164 (by decide) ?_
    refine V_iinc C dL_law_2222 rfl (Nat.le_of_ble_eq_true rfl) rfl ?_
    refine V_goto (tgt := 23) C dL_law_2225 (by decide) ?_
    exact cont _ _ _ _
set_option maxRecDepth 100000 in
set_option maxHeartbeats 4000000 in
theorem w_sparseShare {G : GT} {x : CxT} {sa L : Nat} {xs : Nat → Int32} (hW : LW G x sa L xs) {i : Int} (hi : 0 ≤ i ∧ i + 3 < L) {n : Nat} {K K1 K2 : Nat → Nat → Int} {r r1 : Nat → Option Nat} {w : UInt64} (hc : CtO G yX5_sparseShare mX5_sparseShare [rf G 0] K r (some (.double w)) K1 r1) (hm : CtO G yX6_sparseShare mX6_sparseShare [rf G 28] K1 r1 (some (.double w)) K2 r1) (cont : LL G x sa 23 (i + 4) K2 r1 n) : LL G x sa 2167 i K r (n + 1) := by
  intro o5 o6 o7 o8
  obtain ⟨C, hX, hsz, hA, hL⟩ := hW
  obtain ⟨z, hz, ez⟩ := iI_ex (Op.cmpValue (FP.dcmp w w) .l)
  by_cases z0 : z = 0
  · skip
    refine V_aload_n C dL_law_2167 rfl rfl ?_
    refine V_V1 (k2 := n) (s2 := 6 * n) C dL_law_2168 lL_263 kX5_sparseShare (hc) (by decide) (rfl) rfl rfl rfl ⟨Nat.le_of_ble_eq_true rfl, Nat.le_of_ble_eq_true rfl⟩ (Nat.le_of_ble_eq_true rfl) (by omega) (by omega) ?_
    refine V_dstore C dL_law_2171 (Nat.le_of_ble_eq_true rfl) rfl ?_
    refine V_aload_n C dL_law_2173 rfl rfl ?_
    refine V_V1 (k2 := n) (s2 := 6 * n) C dL_law_2174 lL_267 kX6_sparseShare (hm) (by decide) (rfl) rfl rfl rfl ⟨Nat.le_of_ble_eq_true rfl, Nat.le_of_ble_eq_true rfl⟩ (Nat.le_of_ble_eq_true rfl) (by omega) (by omega) ?_
    refine V_dstore C dL_law_2177 (Nat.le_of_ble_eq_true rfl) rfl ?_
    refine V_dload C dL_law_2179 rfl ?_
    refine V_dload C dL_law_2181 rfl ?_
    refine V_dcmp C dL_law_2183 ?_
    rw [ez]
    refine V_if_eq (tgt := 2205) C dL_law_2184 (by decide) (by omega) (fun q2184 => ?_) (fun q2184 => by exfalso; omega)
    refine V_goto (tgt := 2222) C dL_law_2205 (by decide) ?_
    refine V_iinc C dL_law_2222 rfl (Nat.le_of_ble_eq_true rfl) rfl ?_
    refine V_goto (tgt := 23) C dL_law_2225 (by decide) ?_
    exact cont _ _ _ _
  · skip
    refine V_aload_n C dL_law_2167 rfl rfl ?_
    refine V_V1 (k2 := n) (s2 := 6 * n) C dL_law_2168 lL_263 kX5_sparseShare (hc) (by decide) (rfl) rfl rfl rfl ⟨Nat.le_of_ble_eq_true rfl, Nat.le_of_ble_eq_true rfl⟩ (Nat.le_of_ble_eq_true rfl) (by omega) (by omega) ?_
    refine V_dstore C dL_law_2171 (Nat.le_of_ble_eq_true rfl) rfl ?_
    refine V_aload_n C dL_law_2173 rfl rfl ?_
    refine V_V1 (k2 := n) (s2 := 6 * n) C dL_law_2174 lL_267 kX6_sparseShare (hm) (by decide) (rfl) rfl rfl rfl ⟨Nat.le_of_ble_eq_true rfl, Nat.le_of_ble_eq_true rfl⟩ (Nat.le_of_ble_eq_true rfl) (by omega) (by omega) ?_
    refine V_dstore C dL_law_2177 (Nat.le_of_ble_eq_true rfl) rfl ?_
    refine V_dload C dL_law_2179 rfl ?_
    refine V_dload C dL_law_2181 rfl ?_
    refine V_dcmp C dL_law_2183 ?_
    rw [ez]
    refine V_if_eq (tgt := 2205) C dL_law_2184 (by decide) (by omega) (fun q2184 => by exfalso; omega) (fun q2184 => ?_)
    refine V_dload C dL_law_2187 rfl ?_
    refine V_dload C dL_law_2189 rfl ?_
    refine V_dcmp C dL_law_2191 ?_
    rw [ez]
    refine V_if_eq (tgt := 2203) C dL_law_2192 (by decide) (by omega) (fun q2192 => by exfalso; omega) (fun q2192 => ?_)
    refine V_dload C dL_law_2195 rfl ?_
    refine V_dload C dL_law_2197 rfl ?_
    refine V_dcmp C dL_law_2199 ?_
    rw [ez]
    refine V_if_ne (tgt := 2205) C dL_law_2200 (by decide) (by omega) (fun q2200 => ?_) (fun q2200 => by exfalso; omega)
    refine V_goto (tgt := 2222) C dL_law_2205 (by decide) ?_
    refine V_iinc C dL_law_2222 rfl (Nat.le_of_ble_eq_true rfl) rfl ?_
    refine V_goto (tgt := 23) C dL_law_2225 (by decide) ?_
    exact cont _ _ _ _
set_option maxRecDepth 100000 in
set_option maxHeartbeats 4000000 in
theorem w_digest {G : GT} {x : CxT} {sa L : Nat} {xs : Nat → Int32} (hW : LW G x sa L xs) {i : Int} (hi : 0 ≤ i ∧ i + 3 < L) {n : Nat} {K K1 K2 : Nat → Nat → Int} {r r1 : Nat → Option Nat} {v : Int} (hc : CtO G yX5_digest mX5_digest [rf G 0] K r (some (.long (lL v))) K1 r1) (hm : CtO G yX6_digest mX6_digest [rf G 28] K1 r1 (some (.long (lL v))) K2 r1) (cont : LL G x sa 23 (i + 4) K2 r1 n) : LL G x sa 2208 i K r (n + 1) := by
  intro o5 o6 o7 o8
  obtain ⟨C, hX, hsz, hA, hL⟩ := hW
  refine V_aload_n C dL_law_2208 rfl rfl ?_
  refine V_V1 (k2 := n) (s2 := 6 * n) C dL_law_2209 lL_268 kX5_digest (hc) (by decide) (rfl) rfl rfl rfl ⟨Nat.le_of_ble_eq_true rfl, Nat.le_of_ble_eq_true rfl⟩ (Nat.le_of_ble_eq_true rfl) (by omega) (by omega) ?_
  refine V_aload_n C dL_law_2212 rfl rfl ?_
  refine V_V1 (k2 := n) (s2 := 6 * n) C dL_law_2213 lL_272 kX6_digest (hm) (by decide) (rfl) rfl rfl rfl ⟨Nat.le_of_ble_eq_true rfl, Nat.le_of_ble_eq_true rfl⟩ (Nat.le_of_ble_eq_true rfl) (by omega) (by omega) ?_
  refine V_lcmp C dL_law_2216 ?_
  rw [lcmp_eq]
  refine V_if_eq (tgt := 2222) C dL_law_2217 (by decide) (by omega) (fun q2217 => ?_) (fun q2217 => by exfalso; omega)
  refine V_iinc C dL_law_2222 rfl (Nat.le_of_ble_eq_true rfl) rfl ?_
  refine V_goto (tgt := 23) C dL_law_2225 (by decide) ?_
  exact cont _ _ _ _
