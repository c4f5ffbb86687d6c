set_option maxRecDepth 100000 in
set_option maxHeartbeats 4000000 in
theorem c_X6_digest (G : GT) (K : Nat → Nat → Int) (r : Nat → Option Nat) (T : Nat) (hT : K 28 5 = T) (h60 : T ≤ 60) (ht : ∀ j, j < T → 33 ≤ K 30 j ∧ K 30 j ≤ 126) (hst : 0 ≤ K 28 1 ∧ K 28 1 ≤ 5) (hG : GZ (K 29)) : CtO G yX6_digest mX6_digest [rf G 28] K r (some (.long (lL (dg (K 29) (K 28 1) (K 30) T)))) (dgK K) (r) := by
  refine Ct_of kX6_digest.1.1 (by decide) [some (rf G 28), none, none, none, none] rfl (Nat.le_of_ble_eq_true rfl) ?_
  intro x C hZ
  obtain ⟨g5, g6, g7, g71, g72, g73⟩ := hG
  have gd : ∀ j, j < 64 → 0 ≤ K 29 (7 + j) ∧ K 29 (7 + j) ≤ 1 := fun j hj => g7 (7 + j) (by omega) (by omega)
  have a1 := alS_le (K 29) true 6
  have a2 := alS_le (K 29) false 6
  have a3 := alS_pos g5
  have sr := su_r (f := K 29) (k := 6) g5
  have rr := ri_le (K 29) 5
  have gm0 := gm_18 (K 29 0).toNat
  have c310 : ∀ (X : Nat → Nat → Int) (x29 : X 29 = K 29) (x30 : X 30 = K 30) (x5 : X 28 5 = K 28 5) (xf : us X 28 (us (X 28) 3 0) = dgK K) (f k : Nat) (h : Int) (o3 : Int), k + f = T → ∀ H, h = mxF (K 30) k H → mxF (K 30) T H = (dg (K 29) (K 28 1) (K 30) T) → V G mX6_digest x 310 [some (rf G 28), some (.long (lL h)), none, some (.int (iI o3)), some (.int (iI (k : Int)))] [] 34 false (HP G X r) 0 0 := by
    intro X x29 x30 x5 xf f
    induction f with
    | zero =>
      intro k h o3 e H e1 e2
      refine V_iload C dX6_digest_310 rfl ?_
      refine V_aload_n C dX6_digest_312 rfl rfl ?_
      refine V_getH (L := mOl G) C dX6_digest_313 fX6_105 (by decide) (fun _ => rfl) rfl ?_
      rw [x5, hT]
      refine V_icmp_ge (tgt := 340) C dX6_digest_316 (by decide) (by omega) (by omega) (fun q316 => ?_) (fun q316 => by exfalso; omega)
      refine V_aload_n C dX6_digest_340 rfl rfl ?_
      refine V_iconst C dX6_digest_341 ?_
      refine V_putH (L := mOl G) (ty := .int) C dX6_digest_342 fX6_22 (by decide) (fun _ => rfl) rfl (by decide +kernel) (rfl) (rfl) (Nat.le_of_ble_eq_true rfl) rfl ?_
      refine V_lload_n C dX6_digest_345 rfl rfl ?_
      exact V_lret C dX6_digest_346 rfl hZ (by rw [e1, show k = T by omega, e2]) (by rw [xf])
    | succ f ih =>
      intro k h o3 e H e1 e2
      have gt := ht k (by omega)
      refine V_iload C dX6_digest_310 rfl ?_
      refine V_aload_n C dX6_digest_312 rfl rfl ?_
      refine V_getH (L := mOl G) C dX6_digest_313 fX6_105 (by decide) (fun _ => rfl) rfl ?_
      rw [x5, hT]
      refine V_icmp_ge (tgt := 340) C dX6_digest_316 (by decide) (by omega) (by omega) (fun q316 => by exfalso; omega) (fun q316 => ?_)
      refine V_ldc2 (n := 31) C dX6_digest_319 qX6_179 (by decide +kernel) ?_
      refine V_lload_n C dX6_digest_322 rfl rfl ?_
      refine V_lmul C dX6_digest_323 ?_
      refine V_aload_n C dX6_digest_324 rfl rfl ?_
      refine V_getH (L := mOl G) C dX6_digest_325 fX6_13 (by decide) (fun _ => rfl) rfl ?_
      refine V_iload C dX6_digest_328 rfl ?_
      refine V_ialdH C dX6_digest_330 (by decide) (fun _ => rfl) (by omega) (by decide) ?_
      rw [x30, tnN]
      refine V_i2l C dX6_digest_331 (by omega) ?_
      refine V_ladd C dX6_digest_332 ?_
      refine V_lstore_n C dX6_digest_333 rfl (Nat.le_of_ble_eq_true rfl) rfl ?_
      refine V_iinc C dX6_digest_334 rfl (Nat.le_of_ble_eq_true rfl) rfl ?_
      refine V_goto (tgt := 310) C dX6_digest_337 (by decide) ?_
      exact ih (k + 1) _ _ (by omega) H (by rw [e1]; rfl) e2
  have c261 : ∀ (X : Nat → Nat → Int) (x29 : X 29 = K 29) (x30 : X 30 = K 30) (x5 : X 28 5 = K 28 5) (xf : us X 28 (us (X 28) 3 0) = dgK K) (h o3 : Int) (o4 : Option Value), dgF (K 30) T (dgE (K 29) h) = (dg (K 29) (K 28 1) (K 30) T) → V G mX6_digest x 261 [some (rf G 28), some (.long (lL h)), none, some (.int (iI o3)), o4] [] 34 false (HP G X r) 0 0 := by
    intro X x29 x30 x5 xf h o3 o4 e
    have hzX : ∀ j, j < 6 → 0 ≤ X 29 j ∧ X 29 j ≤ 6764 := by rw [x29]; exact g5
    by_cases c : alS (K 29) true 6 = 0
    · unfold dgE at e; rw [if_pos c] at e
      refine V_ldc2 (n := 31) C dX6_digest_261 qX6_179 (by decide +kernel) ?_
      refine V_lload_n C dX6_digest_264 rfl rfl ?_
      refine V_lmul C dX6_digest_265 ?_
      refine V_aload_n C dX6_digest_266 rfl rfl ?_
      refine V_iconst C dX6_digest_267 ?_
      refine V_V1 (k2 := 0) (s2 := 0) C dX6_digest_268 lX6_169 kX6_allSteps (c_X6_allSteps G X r true hzX) (by decide) (rfl) rfl rfl rfl ⟨Nat.le_of_ble_eq_true rfl, Nat.le_of_ble_eq_true rfl⟩ (Nat.le_of_ble_eq_true rfl) (Nat.le_refl _) (Nat.le_refl _) ?_
      rw [x29, c]
      refine V_if_ne (tgt := 280) C dX6_digest_271 (by decide) (by omega) (fun q271 => by exfalso; omega) (fun q271 => ?_)
      refine V_ldc2 (n := 4607182418800017408) C dX6_digest_274 qX6_187 (by decide +kernel) ?_
      refine V_goto (tgt := 293) C dX6_digest_277 (by decide) ?_
      refine V_ladd C dX6_digest_293 ?_
      refine V_lstore_n C dX6_digest_294 rfl (Nat.le_of_ble_eq_true rfl) rfl ?_
      refine V_ldc2 (n := 31) C dX6_digest_295 qX6_179 (by decide +kernel) ?_
      refine V_lload_n C dX6_digest_298 rfl rfl ?_
      refine V_lmul C dX6_digest_299 ?_
      refine V_aload_n C dX6_digest_300 rfl rfl ?_
      refine V_getH (L := mOl G) C dX6_digest_301 fX6_105 (by decide) (fun _ => rfl) rfl ?_
      rw [x5, hT]
      refine V_i2l C dX6_digest_304 (by omega) ?_
      refine V_ladd C dX6_digest_305 ?_
      refine V_lstore_n C dX6_digest_306 rfl (Nat.le_of_ble_eq_true rfl) rfl ?_
      refine V_iconst C dX6_digest_307 ?_
      refine V_istore C dX6_digest_308 (Nat.le_of_ble_eq_true rfl) rfl ?_
      exact c310 X x29 x30 x5 xf T 0 _ _ (by omega) _ rfl e
    · unfold dgE at e; rw [if_neg c] at e
      have a4 := a3 c
      refine V_ldc2 (n := 31) C dX6_digest_261 qX6_179 (by decide +kernel) ?_
      refine V_lload_n C dX6_digest_264 rfl rfl ?_
      refine V_lmul C dX6_digest_265 ?_
      refine V_aload_n C dX6_digest_266 rfl rfl ?_
      refine V_iconst C dX6_digest_267 ?_
      refine V_V1 (k2 := 0) (s2 := 0) C dX6_digest_268 lX6_169 kX6_allSteps (c_X6_allSteps G X r true hzX) (by decide) (rfl) rfl rfl rfl ⟨Nat.le_of_ble_eq_true rfl, Nat.le_of_ble_eq_true rfl⟩ (Nat.le_of_ble_eq_true rfl) (Nat.le_refl _) (Nat.le_refl _) ?_
      rw [x29]
      refine V_if_ne (tgt := 280) C dX6_digest_271 (by decide) (by omega) (fun q271 => ?_) (fun q271 => by exfalso; omega)
      refine V_aload_n C dX6_digest_280 rfl rfl ?_
      refine V_iconst C dX6_digest_281 ?_
      refine V_V1 (k2 := 0) (s2 := 0) C dX6_digest_282 lX6_169 kX6_allSteps (c_X6_allSteps G X r false hzX) (by decide) (rfl) rfl rfl rfl ⟨Nat.le_of_ble_eq_true rfl, Nat.le_of_ble_eq_true rfl⟩ (Nat.le_of_ble_eq_true rfl) (Nat.le_refl _) (Nat.le_refl _) ?_
      rw [x29]
      refine V_aload_n C dX6_digest_285 rfl rfl ?_
      refine V_iconst C dX6_digest_286 ?_
      refine V_V1 (k2 := 0) (s2 := 0) C dX6_digest_287 lX6_169 kX6_allSteps (c_X6_allSteps G X r true hzX) (by decide) (rfl) rfl rfl rfl ⟨Nat.le_of_ble_eq_true rfl, Nat.le_of_ble_eq_true rfl⟩ (Nat.le_of_ble_eq_true rfl) (Nat.le_refl _) (Nat.le_refl _) ?_
      rw [x29]
      refine V_S1 (k2 := 0) (s2 := 0) C dX6_digest_290 lX6_189 kX6_bits (c_X6_bits (alS (K 29) false 6) (alS (K 29) true 6) (by omega) (by omega) G 34 false _) rfl rfl ⟨Nat.le_of_ble_eq_true rfl, Nat.le_of_ble_eq_true rfl⟩ (Nat.le_of_ble_eq_true rfl) (Nat.le_refl _) (Nat.le_refl _) ?_
      refine V_ladd C dX6_digest_293 ?_
      refine V_lstore_n C dX6_digest_294 rfl (Nat.le_of_ble_eq_true rfl) rfl ?_
      refine V_ldc2 (n := 31) C dX6_digest_295 qX6_179 (by decide +kernel) ?_
      refine V_lload_n C dX6_digest_298 rfl rfl ?_
      refine V_lmul C dX6_digest_299 ?_
      refine V_aload_n C dX6_digest_300 rfl rfl ?_
      refine V_getH (L := mOl G) C dX6_digest_301 fX6_105 (by decide) (fun _ => rfl) rfl ?_
      rw [x5, hT]
      refine V_i2l C dX6_digest_304 (by omega) ?_
      refine V_ladd C dX6_digest_305 ?_
      refine V_lstore_n C dX6_digest_306 rfl (Nat.le_of_ble_eq_true rfl) rfl ?_
      refine V_iconst C dX6_digest_307 ?_
      refine V_istore C dX6_digest_308 (Nat.le_of_ble_eq_true rfl) rfl ?_
      exact c310 X x29 x30 x5 xf T 0 _ _ (by omega) _ rfl e
  have c205 : ∀ (X : Nat → Nat → Int) (x29 : X 29 = K 29) (x30 : X 30 = K 30) (x5 : X 28 5 = K 28 5) (xf : us X 28 (us (X 28) 3 0) = dgK K) (h o3 : Int) (o4 : Option Value), dgF (K 30) T (dgE (K 29) (dgD (K 29) h)) = (dg (K 29) (K 28 1) (K 30) T) → V G mX6_digest x 205 [some (rf G 28), some (.long (lL h)), none, some (.int (iI o3)), o4] [] 34 false (HP G X r) 0 0 := by
    intro X x29 x30 x5 xf h o3 o4 e
    by_cases c : K 29 71 = 1
    · unfold dgD at e; rw [if_pos c] at e
      refine V_ldc2 (n := 31) C dX6_digest_205 qX6_179 (by decide +kernel) ?_
      refine V_lload_n C dX6_digest_208 rfl rfl ?_
      refine V_lmul C dX6_digest_209 ?_
      refine V_aload_n C dX6_digest_210 rfl rfl ?_
      refine V_getH (L := mOl G) C dX6_digest_211 fX6_7 (by decide) (fun _ => rfl) rfl ?_
      refine V_bipush C dX6_digest_214 (by decide +kernel) ?_
      refine V_ialdH C dX6_digest_216 (by decide) (fun _ => rfl) (by omega) (by decide) ?_
      rw [x29, show (71 : Int).toNat = 71 from rfl]
      refine V_i2l C dX6_digest_217 (by omega) ?_
      refine V_ladd C dX6_digest_218 ?_
      refine V_lstore_n C dX6_digest_219 rfl (Nat.le_of_ble_eq_true rfl) rfl ?_
      refine V_aload_n C dX6_digest_220 rfl rfl ?_
      refine V_getH (L := mOl G) C dX6_digest_221 fX6_7 (by decide) (fun _ => rfl) rfl ?_
      refine V_bipush C dX6_digest_224 (by decide +kernel) ?_
      refine V_ialdH C dX6_digest_226 (by decide) (fun _ => rfl) (by omega) (by decide) ?_
      rw [x29, show (71 : Int).toNat = 71 from rfl]
      refine V_iconst C dX6_digest_227 ?_
      refine V_icmp_ne (tgt := 261) C dX6_digest_228 (by decide) (by omega) (by omega) (fun q228 => by exfalso; omega) (fun q228 => ?_)
      refine V_ldc2 (n := 31) C dX6_digest_231 qX6_179 (by decide +kernel) ?_
      refine V_lload_n C dX6_digest_234 rfl rfl ?_
      refine V_lmul C dX6_digest_235 ?_
      refine V_aload_n C dX6_digest_236 rfl rfl ?_
      refine V_getH (L := mOl G) C dX6_digest_237 fX6_7 (by decide) (fun _ => rfl) rfl ?_
      refine V_bipush C dX6_digest_240 (by decide +kernel) ?_
      refine V_ialdH C dX6_digest_242 (by decide) (fun _ => rfl) (by omega) (by decide) ?_
      rw [x29, show (72 : Int).toNat = 72 from rfl]
      refine V_i2l C dX6_digest_243 (by omega) ?_
      refine V_ladd C dX6_digest_244 ?_
      refine V_lstore_n C dX6_digest_245 rfl (Nat.le_of_ble_eq_true rfl) rfl ?_
      refine V_ldc2 (n := 31) C dX6_digest_246 qX6_179 (by decide +kernel) ?_
      refine V_lload_n C dX6_digest_249 rfl rfl ?_
      refine V_lmul C dX6_digest_250 ?_
      refine V_aload_n C dX6_digest_251 rfl rfl ?_
      refine V_getH (L := mOl G) C dX6_digest_252 fX6_7 (by decide) (fun _ => rfl) rfl ?_
      refine V_bipush C dX6_digest_255 (by decide +kernel) ?_
      refine V_ialdH C dX6_digest_257 (by decide) (fun _ => rfl) (by omega) (by decide) ?_
      rw [x29, show (73 : Int).toNat = 73 from rfl]
      refine V_i2l C dX6_digest_258 (by omega) ?_
      refine V_ladd C dX6_digest_259 ?_
      refine V_lstore_n C dX6_digest_260 rfl (Nat.le_of_ble_eq_true rfl) rfl ?_
      exact c261 X x29 x30 x5 xf _ _ _ e
    · unfold dgD at e; rw [if_neg c] at e
      refine V_ldc2 (n := 31) C dX6_digest_205 qX6_179 (by decide +kernel) ?_
      refine V_lload_n C dX6_digest_208 rfl rfl ?_
      refine V_lmul C dX6_digest_209 ?_
      refine V_aload_n C dX6_digest_210 rfl rfl ?_
      refine V_getH (L := mOl G) C dX6_digest_211 fX6_7 (by decide) (fun _ => rfl) rfl ?_
      refine V_bipush C dX6_digest_214 (by decide +kernel) ?_
      refine V_ialdH C dX6_digest_216 (by decide) (fun _ => rfl) (by omega) (by decide) ?_
      rw [x29, show (71 : Int).toNat = 71 from rfl]
      refine V_i2l C dX6_digest_217 (by omega) ?_
      refine V_ladd C dX6_digest_218 ?_
      refine V_lstore_n C dX6_digest_219 rfl (Nat.le_of_ble_eq_true rfl) rfl ?_
      refine V_aload_n C dX6_digest_220 rfl rfl ?_
      refine V_getH (L := mOl G) C dX6_digest_221 fX6_7 (by decide) (fun _ => rfl) rfl ?_
      refine V_bipush C dX6_digest_224 (by decide +kernel) ?_
      refine V_ialdH C dX6_digest_226 (by decide) (fun _ => rfl) (by omega) (by decide) ?_
      rw [x29, show (71 : Int).toNat = 71 from rfl]
      refine V_iconst C dX6_digest_227 ?_
      refine V_icmp_ne (tgt := 261) C dX6_digest_228 (by decide) (by omega) (by omega) (fun q228 => ?_) (fun q228 => by exfalso; omega)
      exact c261 X x29 x30 x5 xf _ _ _ e
  have hrl := rdS_le (fun j => K 29 (7 + j)) (K 29 6).toNat
  have rl : 2 * (rdZ (K 29)).2.2.2.length + (rdZ (K 29)).2.1 + (rdZ (K 29)).2.2.1 ≤ (K 29 6).toNat := hrl
  have c158 : ∀ (h : Int) (o4 : Option Value), dgF (K 30) T (dgE (K 29) (dgD (K 29) (dgC (K 29) (31 * (31 * h + ((rdZ (K 29)).2.2.1 : Nat)) + ((rdZ (K 29)).2.1 : Nat))))) = (dg (K 29) (K 28 1) (K 30) T) → V G mX6_digest x 158 [some (rf G 28), some (.long (lL h)), none, some (.int (iI ((rdZ (K 29)).2.2.2.length : Nat))), o4] [] 34 false (HP G (WdZ (dgW K) (K 29)) r) 0 0 := by
    intro h o4 e
    by_cases c : 0 < K 29 6
    · unfold dgC at e; rw [if_pos c] at e
      have hrl2 := rdS_le (fun j => tD (K 29) 0 (7 + j)) (tD (K 29) 0 6).toNat
      have rl2 : 2 * (rdZ (tD (K 29) 0)).2.2.2.length + (rdZ (tD (K 29) 0)).2.1 + (rdZ (tD (K 29) 0)).2.2.1 ≤ (tD (K 29) 0 6).toNat := hrl2
      rw [show tD (K 29) 0 6 = K 29 6 from us_ne _ _ (by decide)] at rl2
      have xf : us (WdZ (WdZ (dgW K) (K 29)) (tD (K 29) 0)) 28 (us ((WdZ (WdZ (dgW K) (K 29)) (tD (K 29) 0)) 28) 3 0) = dgK K := by unfold dgK dgX; rw [if_pos c]
      refine V_ldc2 (n := 31) C dX6_digest_158 qX6_179 (by decide +kernel) ?_
      refine V_lload_n C dX6_digest_161 rfl rfl ?_
      refine V_lmul C dX6_digest_162 ?_
      refine V_aload_n C dX6_digest_163 rfl rfl ?_
      refine V_getH (L := mOl G) C dX6_digest_164 fX6_99 (by decide) (fun _ => rfl) rfl ?_
      rw [show (WdZ (dgW K) (K 29)) 28 12 = ((rdZ (K 29)).2.2.1 : Nat) from rfl]
      refine V_i2l C dX6_digest_167 (by omega) ?_
      refine V_ladd C dX6_digest_168 ?_
      refine V_lstore_n C dX6_digest_169 rfl (Nat.le_of_ble_eq_true rfl) rfl ?_
      refine V_ldc2 (n := 31) C dX6_digest_170 qX6_179 (by decide +kernel) ?_
      refine V_lload_n C dX6_digest_173 rfl rfl ?_
      refine V_lmul C dX6_digest_174 ?_
      refine V_aload_n C dX6_digest_175 rfl rfl ?_
      refine V_getH (L := mOl G) C dX6_digest_176 fX6_102 (by decide) (fun _ => rfl) rfl ?_
      rw [show (WdZ (dgW K) (K 29)) 28 13 = ((rdZ (K 29)).2.1 : Nat) from rfl]
      refine V_i2l C dX6_digest_179 (by omega) ?_
      refine V_ladd C dX6_digest_180 ?_
      refine V_lstore_n C dX6_digest_181 rfl (Nat.le_of_ble_eq_true rfl) rfl ?_
      refine V_aload_n C dX6_digest_182 rfl rfl ?_
      refine V_getH (L := mOl G) C dX6_digest_183 fX6_7 (by decide) (fun _ => rfl) rfl ?_
      refine V_bipush C dX6_digest_186 (by decide +kernel) ?_
      refine V_ialdH C dX6_digest_188 (by decide) (fun _ => rfl) (by omega) (by decide) ?_
      rw [show (6 : Int).toNat = 6 from rfl, show (WdZ (dgW K) (K 29)) 29 6 = K 29 6 from rfl]
      refine V_if_le (tgt := 205) C dX6_digest_189 (by decide) (by omega) (fun q189 => by exfalso; omega) (fun q189 => ?_)
      refine V_ldc2 (n := 31) C dX6_digest_192 qX6_179 (by decide +kernel) ?_
      refine V_lload_n C dX6_digest_195 rfl rfl ?_
      refine V_lmul C dX6_digest_196 ?_
      refine V_aload_n C dX6_digest_197 rfl rfl ?_
      refine V_iconst C dX6_digest_198 ?_
      refine V_V1 (k2 := 0) (s2 := 0) C dX6_digest_199 lX6_166 kX6_readTurned (c_X6_readTurned G (WdZ (dgW K) (K 29)) r 0 (by decide) ⟨g5, g6, g7, g71, g72, g73⟩) (by decide) (rfl) rfl rfl rfl ⟨Nat.le_of_ble_eq_true rfl, Nat.le_of_ble_eq_true rfl⟩ (Nat.le_of_ble_eq_true rfl) (Nat.le_refl _) (Nat.le_refl _) ?_
      rw [show WdZ (dgW K) (K 29) 29 = K 29 from rfl]
      refine V_i2l C dX6_digest_202 (by omega) ?_
      refine V_ladd C dX6_digest_203 ?_
      refine V_lstore_n C dX6_digest_204 rfl (Nat.le_of_ble_eq_true rfl) rfl ?_
      exact c205 (WdZ (WdZ (dgW K) (K 29)) (tD (K 29) 0)) rfl rfl rfl xf _ _ _ e
    · unfold dgC at e; rw [if_neg c] at e
      have xf : us (WdZ (dgW K) (K 29)) 28 (us ((WdZ (dgW K) (K 29)) 28) 3 0) = dgK K := by unfold dgK dgX; rw [if_neg c]
      refine V_ldc2 (n := 31) C dX6_digest_158 qX6_179 (by decide +kernel) ?_
      refine V_lload_n C dX6_digest_161 rfl rfl ?_
      refine V_lmul C dX6_digest_162 ?_
      refine V_aload_n C dX6_digest_163 rfl rfl ?_
      refine V_getH (L := mOl G) C dX6_digest_164 fX6_99 (by decide) (fun _ => rfl) rfl ?_
      rw [show (WdZ (dgW K) (K 29)) 28 12 = ((rdZ (K 29)).2.2.1 : Nat) from rfl]
      refine V_i2l C dX6_digest_167 (by omega) ?_
      refine V_ladd C dX6_digest_168 ?_
      refine V_lstore_n C dX6_digest_169 rfl (Nat.le_of_ble_eq_true rfl) rfl ?_
      refine V_ldc2 (n := 31) C dX6_digest_170 qX6_179 (by decide +kernel) ?_
      refine V_lload_n C dX6_digest_173 rfl rfl ?_
      refine V_lmul C dX6_digest_174 ?_
      refine V_aload_n C dX6_digest_175 rfl rfl ?_
      refine V_getH (L := mOl G) C dX6_digest_176 fX6_102 (by decide) (fun _ => rfl) rfl ?_
      rw [show (WdZ (dgW K) (K 29)) 28 13 = ((rdZ (K 29)).2.1 : Nat) from rfl]
      refine V_i2l C dX6_digest_179 (by omega) ?_
      refine V_ladd C dX6_digest_180 ?_
      refine V_lstore_n C dX6_digest_181 rfl (Nat.le_of_ble_eq_true rfl) rfl ?_
      refine V_aload_n C dX6_digest_182 rfl rfl ?_
      refine V_getH (L := mOl G) C dX6_digest_183 fX6_7 (by decide) (fun _ => rfl) rfl ?_
      refine V_bipush C dX6_digest_186 (by decide +kernel) ?_
      refine V_ialdH C dX6_digest_188 (by decide) (fun _ => rfl) (by omega) (by decide) ?_
      rw [show (6 : Int).toNat = 6 from rfl, show (WdZ (dgW K) (K 29)) 29 6 = K 29 6 from rfl]
      refine V_if_le (tgt := 205) C dX6_digest_189 (by decide) (by omega) (fun q189 => ?_) (fun q189 => by exfalso; omega)
      exact c205 (WdZ (dgW K) (K 29)) rfl rfl rfl xf _ _ _ e
  have c131 : ∀ (f k : Nat) (h : Int), k + f = (rdZ (K 29)).2.2.2.length → ∀ H, h = mxF (fun k => (((rdZ (K 29)).2.2.2.getD k 0 : Nat) : Int)) k H → dgF (K 30) T (dgE (K 29) (dgD (K 29) (dgC (K 29) (31 * (31 * mxF (fun k => (((rdZ (K 29)).2.2.2.getD k 0 : Nat) : Int)) (rdZ (K 29)).2.2.2.length H + ((rdZ (K 29)).2.2.1 : Nat)) + ((rdZ (K 29)).2.1 : Nat))))) = (dg (K 29) (K 28 1) (K 30) T) → V G mX6_digest x 131 [some (rf G 28), some (.long (lL h)), none, some (.int (iI ((rdZ (K 29)).2.2.2.length : Nat))), some (.int (iI (k : Int)))] [] 34 false (HP G (WdZ (dgW K) (K 29)) r) 0 0 := by
    intro f
    induction f with
    | zero =>
      intro k h e H e1 e2
      refine V_iload C dX6_digest_131 rfl ?_
      refine V_iload_n C dX6_digest_133 rfl rfl ?_
      refine V_icmp_ge (tgt := 158) C dX6_digest_134 (by decide) (by omega) (by omega) (fun q134 => ?_) (fun q134 => by exfalso; omega)
      exact c158 _ _ (by rw [e1, show k = (rdZ (K 29)).2.2.2.length by omega]; exact e2)
    | succ f ih =>
      intro k h e H e1 e2
      have gv : 0 ≤ (((rdZ (K 29)).2.2.2.getD k 0 : Nat) : Int) ∧ (((rdZ (K 29)).2.2.2.getD k 0 : Nat) : Int) < 2147483648 := by have := rdZ_v (K 29) (k := k) (by omega); omega
      refine V_iload C dX6_digest_131 rfl ?_
      refine V_iload_n C dX6_digest_133 rfl rfl ?_
      refine V_icmp_ge (tgt := 158) C dX6_digest_134 (by decide) (by omega) (by omega) (fun q134 => by exfalso; omega) (fun q134 => ?_)
      refine V_ldc2 (n := 31) C dX6_digest_137 qX6_179 (by decide +kernel) ?_
      refine V_lload_n C dX6_digest_140 rfl rfl ?_
      refine V_lmul C dX6_digest_141 ?_
      refine V_aload_n C dX6_digest_142 rfl rfl ?_
      refine V_getH (L := mOl G) C dX6_digest_143 fX6_19 (by decide) (fun _ => rfl) rfl ?_
      refine V_iload C dX6_digest_146 rfl ?_
      refine V_ialdH C dX6_digest_148 (by decide) (fun _ => rfl) (by omega) (by decide) ?_
      rw [show (WdZ (dgW K) (K 29)) 32 ((k : Nat) : Int).toNat = (((rdZ (K 29)).2.2.2.getD k 0 : Nat) : Int) from if_pos (by omega)]
      refine V_i2l C dX6_digest_149 (by omega) ?_
      refine V_ladd C dX6_digest_150 ?_
      refine V_lstore_n C dX6_digest_151 rfl (Nat.le_of_ble_eq_true rfl) rfl ?_
      refine V_iinc C dX6_digest_152 rfl (Nat.le_of_ble_eq_true rfl) rfl ?_
      refine V_goto (tgt := 131) C dX6_digest_155 (by decide) ?_
      exact ih (k + 1) _ (by omega) H (by rw [e1]; rfl) e2
  have c80 : ∀ (f k : Nat) (h : Int) (o4 : Option Value), k + f = (K 29 6).toNat → ∀ H, h = mxF (fun k => K 29 (7 + k)) k H → dgF (K 30) T (dgE (K 29) (dgD (K 29) (dgC (K 29) (dgB (K 29) H)))) = (dg (K 29) (K 28 1) (K 30) T) → V G mX6_digest x 80 [some (rf G 28), some (.long (lL h)), none, some (.int (iI (k : Int))), o4] [] 34 false (HP G (dgW K) r) 0 0 := by
    intro f
    induction f with
    | zero =>
      intro k h o4 e H e1 e2
      refine V_iload_n C dX6_digest_80 rfl rfl ?_
      refine V_aload_n C dX6_digest_81 rfl rfl ?_
      refine V_getH (L := mOl G) C dX6_digest_82 fX6_7 (by decide) (fun _ => rfl) rfl ?_
      refine V_bipush C dX6_digest_85 (by decide +kernel) ?_
      refine V_ialdH C dX6_digest_87 (by decide) (fun _ => rfl) (by omega) (by decide) ?_
      rw [show (6 : Int).toNat = 6 from rfl, show (dgW K) 29 6 = K 29 6 from rfl]
      refine V_icmp_ge (tgt := 114) C dX6_digest_88 (by decide) (by omega) (by omega) (fun q88 => ?_) (fun q88 => by exfalso; omega)
      refine V_aload_n C dX6_digest_114 rfl rfl ?_
      refine V_V1 (k2 := 0) (s2 := 0) C dX6_digest_115 lX6_163 kX6_reads (c_X6_reads G (dgW K) r (K 29 6).toNat (toN g6.1).symm (by omega) gd) (by decide) (rfl) rfl rfl rfl ⟨Nat.le_of_ble_eq_true rfl, Nat.le_of_ble_eq_true rfl⟩ (Nat.le_of_ble_eq_true rfl) (Nat.le_refl _) (Nat.le_refl _) ?_
      rw [show rdS (fun j => dgW K 29 (7 + j)) (K 29 6).toNat = rdZ (K 29) from rfl]
      refine V_istore_n C dX6_digest_118 rfl (Nat.le_of_ble_eq_true rfl) rfl ?_
      refine V_ldc2 (n := 31) C dX6_digest_119 qX6_179 (by decide +kernel) ?_
      refine V_lload_n C dX6_digest_122 rfl rfl ?_
      refine V_lmul C dX6_digest_123 ?_
      refine V_iload_n C dX6_digest_124 rfl rfl ?_
      refine V_i2l C dX6_digest_125 (by omega) ?_
      refine V_ladd C dX6_digest_126 ?_
      refine V_lstore_n C dX6_digest_127 rfl (Nat.le_of_ble_eq_true rfl) rfl ?_
      refine V_iconst C dX6_digest_128 ?_
      refine V_istore C dX6_digest_129 (Nat.le_of_ble_eq_true rfl) rfl ?_
      exact c131 (rdZ (K 29)).2.2.2.length 0 _ (by omega) _ rfl (by rw [e1, show k = (K 29 6).toNat by omega]; exact e2)
    | succ f ih =>
      intro k h o4 e H e1 e2
      have gk := gd k (by omega)
      refine V_iload_n C dX6_digest_80 rfl rfl ?_
      refine V_aload_n C dX6_digest_81 rfl rfl ?_
      refine V_getH (L := mOl G) C dX6_digest_82 fX6_7 (by decide) (fun _ => rfl) rfl ?_
      refine V_bipush C dX6_digest_85 (by decide +kernel) ?_
      refine V_ialdH C dX6_digest_87 (by decide) (fun _ => rfl) (by omega) (by decide) ?_
      rw [show (6 : Int).toNat = 6 from rfl, show (dgW K) 29 6 = K 29 6 from rfl]
      refine V_icmp_ge (tgt := 114) C dX6_digest_88 (by decide) (by omega) (by omega) (fun q88 => by exfalso; omega) (fun q88 => ?_)
      refine V_ldc2 (n := 31) C dX6_digest_91 qX6_179 (by decide +kernel) ?_
      refine V_lload_n C dX6_digest_94 rfl rfl ?_
      refine V_lmul C dX6_digest_95 ?_
      refine V_aload_n C dX6_digest_96 rfl rfl ?_
      refine V_getH (L := mOl G) C dX6_digest_97 fX6_7 (by decide) (fun _ => rfl) rfl ?_
      refine V_bipush C dX6_digest_100 (by decide +kernel) ?_
      refine V_iload_n C dX6_digest_102 rfl rfl ?_
      refine V_iadd C dX6_digest_103 ?_
      refine V_ialdH C dX6_digest_104 (by decide) (fun _ => rfl) (by omega) (by decide) ?_
      rw [show ((7 : Int) + (k : Int)).toNat = 7 + k by omega, show (dgW K) 29 (7 + k) = K 29 (7 + k) from rfl]
      refine V_i2l C dX6_digest_105 (by omega) ?_
      refine V_ladd C dX6_digest_106 ?_
      refine V_lstore_n C dX6_digest_107 rfl (Nat.le_of_ble_eq_true rfl) rfl ?_
      refine V_iinc C dX6_digest_108 rfl (Nat.le_of_ble_eq_true rfl) rfl ?_
      refine V_goto (tgt := 80) C dX6_digest_111 (by decide) ?_
      exact ih (k + 1) _ _ (by omega) H (by rw [e1]; rfl) e2
  refine V_ldc2 (n := 4549) C dX6_digest_0 qX6_181 (by decide +kernel) ?_
  refine V_lstore_n C dX6_digest_3 rfl (Nat.le_of_ble_eq_true rfl) rfl ?_
  refine V_ldc2 (n := 31) C dX6_digest_4 qX6_179 (by decide +kernel) ?_
  refine V_lload_n C dX6_digest_7 rfl rfl ?_
  refine V_lmul C dX6_digest_8 ?_
  refine V_aload_n C dX6_digest_9 rfl rfl ?_
  refine V_V1 (k2 := 0) (s2 := 0) C dX6_digest_10 lX6_146 kX6_sum (c_X6_sum G K r) (by decide) (rfl) rfl rfl rfl ⟨Nat.le_of_ble_eq_true rfl, Nat.le_of_ble_eq_true rfl⟩ (Nat.le_of_ble_eq_true rfl) (Nat.le_refl _) (Nat.le_refl _) ?_
  refine V_i2l C dX6_digest_13 (by omega) ?_
  refine V_ladd C dX6_digest_14 ?_
  refine V_lstore_n C dX6_digest_15 rfl (Nat.le_of_ble_eq_true rfl) rfl ?_
  refine V_ldc2 (n := 31) C dX6_digest_16 qX6_179 (by decide +kernel) ?_
  refine V_lload_n C dX6_digest_19 rfl rfl ?_
  refine V_lmul C dX6_digest_20 ?_
  refine V_aload_n C dX6_digest_21 rfl rfl ?_
  refine V_V1 (k2 := 0) (s2 := 0) C dX6_digest_22 lX6_160 kX6_rich (c_X6_rich G K r g5) (by decide) (rfl) rfl rfl rfl ⟨Nat.le_of_ble_eq_true rfl, Nat.le_of_ble_eq_true rfl⟩ (Nat.le_of_ble_eq_true rfl) (Nat.le_refl _) (Nat.le_refl _) ?_
  refine V_i2l C dX6_digest_25 (by omega) ?_
  refine V_ladd C dX6_digest_26 ?_
  refine V_lstore_n C dX6_digest_27 rfl (Nat.le_of_ble_eq_true rfl) rfl ?_
  refine V_ldc2 (n := 31) C dX6_digest_28 qX6_179 (by decide +kernel) ?_
  refine V_lload_n C dX6_digest_31 rfl rfl ?_
  refine V_lmul C dX6_digest_32 ?_
  refine V_aload_n C dX6_digest_33 rfl rfl ?_
  refine V_getH (L := mOl G) C dX6_digest_34 fX6_26 (by decide) (fun _ => rfl) rfl ?_
  refine V_i2l C dX6_digest_37 (by omega) ?_
  refine V_ladd C dX6_digest_38 ?_
  refine V_lstore_n C dX6_digest_39 rfl (Nat.le_of_ble_eq_true rfl) rfl ?_
  refine V_aload_n C dX6_digest_40 rfl rfl ?_
  refine V_lload_n C dX6_digest_41 rfl rfl ?_
  refine V_V1 (k2 := 0) (s2 := 0) C dX6_digest_42 lX6_183 kX6_hashOfStalls (c_X6_hashOfStalls G K r _ ⟨g5, g6, g7, g71, g72, g73⟩) (by decide) (rfl) rfl rfl rfl ⟨Nat.le_of_ble_eq_true rfl, Nat.le_of_ble_eq_true rfl⟩ (Nat.le_of_ble_eq_true rfl) (Nat.le_refl _) (Nat.le_refl _) ?_
  refine V_hp (K' := dgW K) (r' := r) rfl ?_
  refine V_lstore_n C dX6_digest_45 rfl (Nat.le_of_ble_eq_true rfl) rfl ?_
  refine V_ldc2 (n := 31) C dX6_digest_46 qX6_179 (by decide +kernel) ?_
  refine V_lload_n C dX6_digest_49 rfl rfl ?_
  refine V_lmul C dX6_digest_50 ?_
  refine V_aload_n C dX6_digest_51 rfl rfl ?_
  refine V_getH (L := mOl G) C dX6_digest_52 fX6_7 (by decide) (fun _ => rfl) rfl ?_
  refine V_iconst C dX6_digest_55 ?_
  refine V_ialdH C dX6_digest_56 (by decide) (fun _ => rfl) (by omega) (by decide) ?_
  rw [show (dgW K) 29 (0 : Int).toNat = K 29 0 from rfl]
  refine V_S1 (k2 := 0) (s2 := 0) C dX6_digest_57 lX6_40 kX6_said (i_X6_said G 34 false _ _ (g5 0 (by decide))) rfl rfl ⟨Nat.le_of_ble_eq_true rfl, Nat.le_of_ble_eq_true rfl⟩ (Nat.le_of_ble_eq_true rfl) (Nat.le_refl _) (Nat.le_refl _) ?_
  refine V_i2l C dX6_digest_60 (by omega) ?_
  refine V_ladd C dX6_digest_61 ?_
  refine V_lstore_n C dX6_digest_62 rfl (Nat.le_of_ble_eq_true rfl) rfl ?_
  refine V_ldc2 (n := 31) C dX6_digest_63 qX6_179 (by decide +kernel) ?_
  refine V_lload_n C dX6_digest_66 rfl rfl ?_
  refine V_lmul C dX6_digest_67 ?_
  refine V_aload_n C dX6_digest_68 rfl rfl ?_
  refine V_getH (L := mOl G) C dX6_digest_69 fX6_7 (by decide) (fun _ => rfl) rfl ?_
  refine V_bipush C dX6_digest_72 (by decide +kernel) ?_
  refine V_ialdH C dX6_digest_74 (by decide) (fun _ => rfl) (by omega) (by decide) ?_
  rw [show (6 : Int).toNat = 6 from rfl, show (dgW K) 29 6 = K 29 6 from rfl]
  refine V_i2l C dX6_digest_75 (by omega) ?_
  refine V_ladd C dX6_digest_76 ?_
  refine V_lstore_n C dX6_digest_77 rfl (Nat.le_of_ble_eq_true rfl) rfl ?_
  refine V_iconst C dX6_digest_78 ?_
  refine V_istore_n C dX6_digest_79 rfl (Nat.le_of_ble_eq_true rfl) rfl ?_
  exact c80 (K 29 6).toNat 0 _ _ (by omega) _ rfl rfl
