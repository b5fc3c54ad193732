set_option maxHeartbeats 4000000 in
set_option maxRecDepth 100000 in
theorem lw_c0 {G : gG} {X : gX} {b L : Nat} {sx : Nat → Int32} (LW : gLw G X b L sx) {i k n : Nat} (hi : i + 4 ≤ L) (hk : k ≤ 3000) (hn : n ≤ 30000) {A : gSt0} {M : gMem} (hA : gOk A) (hC : gRC A M) (hR : gRM A M) (hnx : ∀ A' M', gOk A' → gRC A' M' → gRM A' M' → Q G X (k + 4) (n + 32) 1847 (gLv G b i) [] M') : Q G X k n 184 (gLv G b i) [] M := by
  obtain ⟨C, hX, hbl, hbA, hL⟩ := LW
  refine j_aload_n C dL_law_184 rfl ?_
  refine j_aload_n C dL_law_185 rfl ?_
  refine j_iload C dL_law_186 rfl ?_
  refine j_iconst C (v := nI 1) dL_law_188 rfl ?_
  refine q_iadd C dL_law_189 ?_
  refine j_sld C hX hbl hbA hL (by omega) dL_law_190 ?_
  refine j_aload_n C dL_law_191 rfl ?_
  refine j_iload C dL_law_192 rfl ?_
  refine j_iconst C (v := nI 2) dL_law_194 rfl ?_
  refine q_iadd C dL_law_195 ?_
  refine j_sld C hX hbl hbA hL (by omega) dL_law_196 ?_
  refine j_aload_n C dL_law_197 rfl ?_
  refine q_callHS C (sp_L_write G M hA.1 hA.2 hC (sx (i + 1)) (sx (i + 2))) rfl kL_write tL_write lk_L_106 rfl rfl (Nat.le_of_ble_eq_true rfl) ⟨⟨(Nat.le_of_ble_eq_true rfl), (Nat.le_of_ble_eq_true rfl)⟩, (by show _ ≤ (603072 : Nat); simp only [gRm]; omega), (by show _ ≤ (7211113 : Nat); simp only [gRm]; omega)⟩ dL_law_198 (fun M1 h1 => ?_)
  obtain ⟨hC1, hc1, hv1, hb1⟩ := h1
  have hR1 := rm_cl0 hR hc1
  refine j_istore C dL_law_201 (by decide) rfl ?_
  refine j_aload_n C dL_law_203 rfl ?_
  refine j_aload_n C dL_law_204 rfl ?_
  refine j_iload C dL_law_205 rfl ?_
  refine j_iconst C (v := nI 1) dL_law_207 rfl ?_
  refine q_iadd C dL_law_208 ?_
  refine j_sld C hX hbl hbA hL (by omega) dL_law_209 ?_
  refine j_aload_n C dL_law_210 rfl ?_
  refine j_iload C dL_law_211 rfl ?_
  refine j_iconst C (v := nI 2) dL_law_213 rfl ?_
  refine q_iadd C dL_law_214 ?_
  refine j_sld C hX hbl hbA hL (by omega) dL_law_215 ?_
  refine q_callVS C (sp_X7_write G M1 hA.1 hA.2 hR1 (sx (i + 1)) (sx (i + 2))) vX7_write lk_L_111 rfl (by decide) rfl rfl (Nat.le_of_ble_eq_true rfl) ⟨⟨(Nat.le_of_ble_eq_true rfl), (Nat.le_of_ble_eq_true rfl)⟩, (by show _ ≤ (603072 : Nat); simp only [gRm]; omega), (by show _ ≤ (7211113 : Nat); simp only [gRm]; omega)⟩ dL_law_216 (fun M2 h2 => ?_)
  obtain ⟨ht, hR2, hm⟩ := h2
  have hA2 := ok_write hA (sx (i + 1)) (sx (i + 2))
  have hC2 := rc_mod hA2.1 hC1 hm
  refine j_istore C dL_law_219 (by decide) rfl ?_
  refine j_aload_n C dL_law_221 rfl ?_
  refine q_callV C (sp_X7_thrown G M2) vX7_thrown lk_L_112 rfl (by decide) rfl rfl (Nat.le_of_ble_eq_true rfl) ⟨⟨(Nat.le_of_ble_eq_true rfl), (Nat.le_of_ble_eq_true rfl)⟩, (by show _ ≤ (603072 : Nat); simp only [gRm]; omega), (by show _ ≤ (7211113 : Nat); simp only [gRm]; omega)⟩ dL_law_222 ?_
  refine j_iload C dL_law_225 rfl ?_
  refine j_icmp_eq C 232 dL_law_227 (fun _ => ?_) (fun h => absurd ht h) (by decide)
  refine j_iload C dL_law_232 rfl ?_
  refine q_ifz_ne C 249 dL_law_234 (by decide) (Nat.lt_trans hb1 (by decide)) (fun h => ?_) (fun h => ?_)
  · skip
    refine j_goto C 1847 dL_law_249 ?_ (by decide)
    exact j_wide (k' := k + 4) (n' := n + 32) (by simp only [gRm]; omega) (by simp only [gRm]; omega) (j_sub (gLe_c rfl (gLe_c rfl (gLe_c rfl (gLe_c rfl (gLe_c rfl (gLe_c rfl (gLe_n (gLe_n (gLe_n (gLe_n gLe_0)))))))))) (hnx _ _ (hA2) (hC2) (hR2)))
  · skip
    refine j_aload_n C dL_law_237 rfl ?_
    refine j_iconst C (v := nI 0) dL_law_238 rfl ?_
    refine q_lald C rfl (by decide) (by decide) (by decide) dL_law_239 ?_
    refine j_iload C dL_law_240 rfl ?_
    refine j_i2l C dL_law_242 ?_
    refine j_lcmp C dL_law_243 ?_
    refine j_if_eq C 249 dL_law_244 (fun _ => ?_) (fun h9 => absurd (lg_eq (by rw [hm.1]; exact hv1 h)) h9) (by decide)
    refine j_goto C 1847 dL_law_249 ?_ (by decide)
    exact j_wide (k' := k + 4) (n' := n + 32) (by simp only [gRm]; omega) (by simp only [gRm]; omega) (j_sub (gLe_c rfl (gLe_c rfl (gLe_c rfl (gLe_c rfl (gLe_c rfl (gLe_c rfl (gLe_n (gLe_n (gLe_n (gLe_n gLe_0)))))))))) (hnx _ _ (hA2) (hC2) (hR2)))
set_option maxHeartbeats 4000000 in
set_option maxRecDepth 100000 in
theorem lw_c1 {G : gG} {X : gX} {b L : Nat} {sx : Nat → Int32} (LW : gLw G X b L sx) {i k n : Nat} (hi : i + 4 ≤ L) (hk : k ≤ 3000) (hn : n ≤ 30000) {A : gSt0} {M : gMem} (hA : gOk A) (hC : gRC A M) (hR : gRM A M) (hnx : ∀ A' M', gOk A' → gRC A' M' → gRM A' M' → Q G X (k + 4) (n + 32) 1847 (gLv G b i) [] M') : Q G X k n 252 (gLv G b i) [] M := by
  obtain ⟨C, hX, hbl, hbA, hL⟩ := LW
  refine j_aload_n C dL_law_252 rfl ?_
  refine j_aload_n C dL_law_253 rfl ?_
  refine j_iload C dL_law_254 rfl ?_
  refine j_iconst C (v := nI 1) dL_law_256 rfl ?_
  refine q_iadd C dL_law_257 ?_
  refine j_sld C hX hbl hbA hL (by omega) dL_law_258 ?_
  refine j_aload_n C dL_law_259 rfl ?_
  refine q_callHS C (sp_L_erase G M hA.1 hA.2 hC (sx (i + 1))) rfl kL_erase tL_erase lk_L_115 rfl rfl (Nat.le_of_ble_eq_true rfl) ⟨⟨(Nat.le_of_ble_eq_true rfl), (Nat.le_of_ble_eq_true rfl)⟩, (by show _ ≤ (603072 : Nat); simp only [gRm]; omega), (by show _ ≤ (7211113 : Nat); simp only [gRm]; omega)⟩ dL_law_260 (fun M1 h1 => ?_)
  obtain ⟨hC1, hc1, hv1, hb1⟩ := h1
  have hR1 := rm_cl0 hR hc1
  refine j_istore C dL_law_263 (by decide) rfl ?_
  refine j_aload_n C dL_law_265 rfl ?_
  refine j_aload_n C dL_law_266 rfl ?_
  refine j_iload C dL_law_267 rfl ?_
  refine j_iconst C (v := nI 1) dL_law_269 rfl ?_
  refine q_iadd C dL_law_270 ?_
  refine j_sld C hX hbl hbA hL (by omega) dL_law_271 ?_
  refine q_callVS C (sp_X7_erase G M1 hA.1 hA.2 hR1 (sx (i + 1))) vX7_erase lk_L_118 rfl (by decide) rfl rfl (Nat.le_of_ble_eq_true rfl) ⟨⟨(Nat.le_of_ble_eq_true rfl), (Nat.le_of_ble_eq_true rfl)⟩, (by show _ ≤ (603072 : Nat); simp only [gRm]; omega), (by show _ ≤ (7211113 : Nat); simp only [gRm]; omega)⟩ dL_law_272 (fun M2 h2 => ?_)
  obtain ⟨ht, hR2, hm⟩ := h2
  have hA2 := ok_erase hA (sx (i + 1))
  have hC2 := rc_mod hA2.1 hC1 hm
  refine j_istore C dL_law_275 (by decide) rfl ?_
  refine j_aload_n C dL_law_277 rfl ?_
  refine q_callV C (sp_X7_thrown G M2) vX7_thrown lk_L_112 rfl (by decide) rfl rfl (Nat.le_of_ble_eq_true rfl) ⟨⟨(Nat.le_of_ble_eq_true rfl), (Nat.le_of_ble_eq_true rfl)⟩, (by show _ ≤ (603072 : Nat); simp only [gRm]; omega), (by show _ ≤ (7211113 : Nat); simp only [gRm]; omega)⟩ dL_law_278 ?_
  refine j_iload C dL_law_281 rfl ?_
  refine j_icmp_eq C 288 dL_law_283 (fun _ => ?_) (fun h => absurd ht h) (by decide)
  refine j_iload C dL_law_288 rfl ?_
  refine q_ifz_ne C 305 dL_law_290 (by decide) (Nat.lt_trans hb1 (by decide)) (fun h => ?_) (fun h => ?_)
  · skip
    refine j_goto C 1847 dL_law_305 ?_ (by decide)
    exact j_wide (k' := k + 4) (n' := n + 32) (by simp only [gRm]; omega) (by simp only [gRm]; omega) (j_sub (gLe_c rfl (gLe_c rfl (gLe_c rfl (gLe_c rfl (gLe_c rfl (gLe_c rfl (gLe_n (gLe_n (gLe_n (gLe_n gLe_0)))))))))) (hnx _ _ (hA2) (hC2) (hR2)))
  · skip
    refine j_aload_n C dL_law_293 rfl ?_
    refine j_iconst C (v := nI 0) dL_law_294 rfl ?_
    refine q_lald C rfl (by decide) (by decide) (by decide) dL_law_295 ?_
    refine j_iload C dL_law_296 rfl ?_
    refine j_i2l C dL_law_298 ?_
    refine j_lcmp C dL_law_299 ?_
    refine j_if_eq C 305 dL_law_300 (fun _ => ?_) (fun h9 => absurd (lg_eq (by rw [hm.1]; exact hv1 h)) h9) (by decide)
    refine j_goto C 1847 dL_law_305 ?_ (by decide)
    exact j_wide (k' := k + 4) (n' := n + 32) (by simp only [gRm]; omega) (by simp only [gRm]; omega) (j_sub (gLe_c rfl (gLe_c rfl (gLe_c rfl (gLe_c rfl (gLe_c rfl (gLe_c rfl (gLe_n (gLe_n (gLe_n (gLe_n gLe_0)))))))))) (hnx _ _ (hA2) (hC2) (hR2)))
set_option maxHeartbeats 4000000 in
set_option maxRecDepth 100000 in
theorem lw_c2 {G : gG} {X : gX} {b L : Nat} {sx : Nat → Int32} (LW : gLw G X b L sx) {i k n : Nat} (hi : i + 4 ≤ L) (hk : k ≤ 3000) (hn : n ≤ 30000) {A : gSt0} {M : gMem} (hA : gOk A) (hC : gRC A M) (hR : gRM A M) (hnx : ∀ A' M', gOk A' → gRC A' M' → gRM A' M' → Q G X (k + 4) (n + 32) 1847 (gLv G b i) [] M') : Q G X k n 308 (gLv G b i) [] M := by
  obtain ⟨C, hX, hbl, hbA, hL⟩ := LW
  refine j_aload_n C dL_law_308 rfl ?_
  refine j_aload_n C dL_law_309 rfl ?_
  refine j_iload C dL_law_310 rfl ?_
  refine j_iconst C (v := nI 1) dL_law_312 rfl ?_
  refine q_iadd C dL_law_313 ?_
  refine j_sld C hX hbl hbA hL (by omega) dL_law_314 ?_
  refine j_aload_n C dL_law_315 rfl ?_
  refine j_iload C dL_law_316 rfl ?_
  refine j_iconst C (v := nI 2) dL_law_318 rfl ?_
  refine q_iadd C dL_law_319 ?_
  refine j_sld C hX hbl hbA hL (by omega) dL_law_320 ?_
  refine j_aload_n C dL_law_321 rfl ?_
  refine q_callHS C (sp_L_move G M hA.1 hA.2 hC (sx (i + 1)) (sx (i + 2))) rfl kL_move tL_move lk_L_119 rfl rfl (Nat.le_of_ble_eq_true rfl) ⟨⟨(Nat.le_of_ble_eq_true rfl), (Nat.le_of_ble_eq_true rfl)⟩, (by show _ ≤ (603072 : Nat); simp only [gRm]; omega), (by show _ ≤ (7211113 : Nat); simp only [gRm]; omega)⟩ dL_law_322 (fun M1 h1 => ?_)
  obtain ⟨hC1, hc1, hv1, hb1⟩ := h1
  have hR1 := rm_cl0 hR hc1
  refine j_istore C dL_law_325 (by decide) rfl ?_
  refine j_aload_n C dL_law_327 rfl ?_
  refine j_aload_n C dL_law_328 rfl ?_
  refine j_iload C dL_law_329 rfl ?_
  refine j_iconst C (v := nI 1) dL_law_331 rfl ?_
  refine q_iadd C dL_law_332 ?_
  refine j_sld C hX hbl hbA hL (by omega) dL_law_333 ?_
  refine j_aload_n C dL_law_334 rfl ?_
  refine j_iload C dL_law_335 rfl ?_
  refine j_iconst C (v := nI 2) dL_law_337 rfl ?_
  refine q_iadd C dL_law_338 ?_
  refine j_sld C hX hbl hbA hL (by omega) dL_law_339 ?_
  refine q_callVS C (sp_X7_move G M1 hA.1 hA.2 hR1 (sx (i + 1)) (sx (i + 2))) vX7_move lk_L_121 rfl (by decide) rfl rfl (Nat.le_of_ble_eq_true rfl) ⟨⟨(Nat.le_of_ble_eq_true rfl), (Nat.le_of_ble_eq_true rfl)⟩, (by show _ ≤ (603072 : Nat); simp only [gRm]; omega), (by show _ ≤ (7211113 : Nat); simp only [gRm]; omega)⟩ dL_law_340 (fun M2 h2 => ?_)
  obtain ⟨ht, hR2, hm⟩ := h2
  have hA2 := ok_move hA (sx (i + 1)) (sx (i + 2))
  have hC2 := rc_mod hA2.1 hC1 hm
  refine j_istore C dL_law_343 (by decide) rfl ?_
  refine j_aload_n C dL_law_345 rfl ?_
  refine q_callV C (sp_X7_thrown G M2) vX7_thrown lk_L_112 rfl (by decide) rfl rfl (Nat.le_of_ble_eq_true rfl) ⟨⟨(Nat.le_of_ble_eq_true rfl), (Nat.le_of_ble_eq_true rfl)⟩, (by show _ ≤ (603072 : Nat); simp only [gRm]; omega), (by show _ ≤ (7211113 : Nat); simp only [gRm]; omega)⟩ dL_law_346 ?_
  refine j_iload C dL_law_349 rfl ?_
  refine j_icmp_eq C 356 dL_law_351 (fun _ => ?_) (fun h => absurd ht h) (by decide)
  refine j_iload C dL_law_356 rfl ?_
  refine q_ifz_ne C 373 dL_law_358 (by decide) (Nat.lt_trans hb1 (by decide)) (fun h => ?_) (fun h => ?_)
  · skip
    refine j_goto C 1847 dL_law_373 ?_ (by decide)
    exact j_wide (k' := k + 4) (n' := n + 32) (by simp only [gRm]; omega) (by simp only [gRm]; omega) (j_sub (gLe_c rfl (gLe_c rfl (gLe_c rfl (gLe_c rfl (gLe_c rfl (gLe_c rfl (gLe_n (gLe_n (gLe_n (gLe_n gLe_0)))))))))) (hnx _ _ (hA2) (hC2) (hR2)))
  · skip
    refine j_aload_n C dL_law_361 rfl ?_
    refine j_iconst C (v := nI 0) dL_law_362 rfl ?_
    refine q_lald C rfl (by decide) (by decide) (by decide) dL_law_363 ?_
    refine j_iload C dL_law_364 rfl ?_
    refine j_i2l C dL_law_366 ?_
    refine j_lcmp C dL_law_367 ?_
    refine j_if_eq C 373 dL_law_368 (fun _ => ?_) (fun h9 => absurd (lg_eq (by rw [hm.1]; exact hv1 h)) h9) (by decide)
    refine j_goto C 1847 dL_law_373 ?_ (by decide)
    exact j_wide (k' := k + 4) (n' := n + 32) (by simp only [gRm]; omega) (by simp only [gRm]; omega) (j_sub (gLe_c rfl (gLe_c rfl (gLe_c rfl (gLe_c rfl (gLe_c rfl (gLe_c rfl (gLe_n (gLe_n (gLe_n (gLe_n gLe_0)))))))))) (hnx _ _ (hA2) (hC2) (hR2)))
set_option maxHeartbeats 4000000 in
set_option maxRecDepth 100000 in
theorem lw_c3 {G : gG} {X : gX} {b L : Nat} {sx : Nat → Int32} (LW : gLw G X b L sx) {i k n : Nat} (hi : i + 4 ≤ L) (hk : k ≤ 3000) (hn : n ≤ 30000) {A : gSt0} {M : gMem} (hA : gOk A) (hC : gRC A M) (hR : gRM A M) (hnx : ∀ A' M', gOk A' → gRC A' M' → gRM A' M' → Q G X (k + 4) (n + 32) 1847 (gLv G b i) [] M') : Q G X k n 376 (gLv G b i) [] M := by
  obtain ⟨C, hX, hbl, hbA, hL⟩ := LW
  refine j_aload_n C dL_law_376 rfl ?_
  refine j_aload_n C dL_law_377 rfl ?_
  refine j_iload C dL_law_378 rfl ?_
  refine j_iconst C (v := nI 1) dL_law_380 rfl ?_
  refine q_iadd C dL_law_381 ?_
  refine j_sld C hX hbl hbA hL (by omega) dL_law_382 ?_
  refine j_aload_n C dL_law_383 rfl ?_
  refine q_callHS C (sp_L_content G M hA.1 hA.2 hC (sx (i + 1))) rfl kL_content tL_content lk_L_122 rfl rfl (Nat.le_of_ble_eq_true rfl) ⟨⟨(Nat.le_of_ble_eq_true rfl), (Nat.le_of_ble_eq_true rfl)⟩, (by show _ ≤ (603072 : Nat); simp only [gRm]; omega), (by show _ ≤ (7211113 : Nat); simp only [gRm]; omega)⟩ dL_law_384 (fun M1 h1 => ?_)
  obtain ⟨hC1, hc1, hv1, hb1⟩ := h1
  have hR1 := rm_cl0 hR hc1
  refine j_istore C dL_law_387 (by decide) rfl ?_
  refine j_aload_n C dL_law_389 rfl ?_
  refine j_aload_n C dL_law_390 rfl ?_
  refine j_iload C dL_law_391 rfl ?_
  refine j_iconst C (v := nI 1) dL_law_393 rfl ?_
  refine q_iadd C dL_law_394 ?_
  refine j_sld C hX hbl hbA hL (by omega) dL_law_395 ?_
  refine q_callVS C (sp_X7_content G M1 hA.1 hA.2 hR1 (sx (i + 1))) vX7_content lk_L_124 rfl (by decide) rfl rfl (Nat.le_of_ble_eq_true rfl) ⟨⟨(Nat.le_of_ble_eq_true rfl), (Nat.le_of_ble_eq_true rfl)⟩, (by show _ ≤ (603072 : Nat); simp only [gRm]; omega), (by show _ ≤ (7211113 : Nat); simp only [gRm]; omega)⟩ dL_law_396 (fun M2 h2 => ?_)
  obtain ⟨ht, hR2, hm⟩ := h2
  have hA2 := ok_same hA (st_content A _ : (oContent A (sx (i + 1))).2.2 = A)
  have hC2 := rc_mod hA2.1 hC1 hm
  refine j_istore C dL_law_399 (by decide) rfl ?_
  refine j_aload_n C dL_law_401 rfl ?_
  refine q_callV C (sp_X7_thrown G M2) vX7_thrown lk_L_112 rfl (by decide) rfl rfl (Nat.le_of_ble_eq_true rfl) ⟨⟨(Nat.le_of_ble_eq_true rfl), (Nat.le_of_ble_eq_true rfl)⟩, (by show _ ≤ (603072 : Nat); simp only [gRm]; omega), (by show _ ≤ (7211113 : Nat); simp only [gRm]; omega)⟩ dL_law_402 ?_
  refine j_iload C dL_law_405 rfl ?_
  refine j_icmp_eq C 412 dL_law_407 (fun _ => ?_) (fun h => absurd ht h) (by decide)
  refine j_iload C dL_law_412 rfl ?_
  refine q_ifz_ne C 429 dL_law_414 (by decide) (Nat.lt_trans hb1 (by decide)) (fun h => ?_) (fun h => ?_)
  · skip
    refine j_goto C 1847 dL_law_429 ?_ (by decide)
    exact j_wide (k' := k + 4) (n' := n + 32) (by simp only [gRm]; omega) (by simp only [gRm]; omega) (j_sub (gLe_c rfl (gLe_c rfl (gLe_c rfl (gLe_c rfl (gLe_c rfl (gLe_c rfl (gLe_n (gLe_n (gLe_n (gLe_n gLe_0)))))))))) (hnx _ _ (hA2) (hC2) (hR2)))
  · skip
    refine j_aload_n C dL_law_417 rfl ?_
    refine j_iconst C (v := nI 0) dL_law_418 rfl ?_
    refine q_lald C rfl (by decide) (by decide) (by decide) dL_law_419 ?_
    refine j_iload C dL_law_420 rfl ?_
    refine j_i2l C dL_law_422 ?_
    refine j_lcmp C dL_law_423 ?_
    refine j_if_eq C 429 dL_law_424 (fun _ => ?_) (fun h9 => absurd (lg_eq (by rw [hm.1]; exact hv1 h)) h9) (by decide)
    refine j_goto C 1847 dL_law_429 ?_ (by decide)
    exact j_wide (k' := k + 4) (n' := n + 32) (by simp only [gRm]; omega) (by simp only [gRm]; omega) (j_sub (gLe_c rfl (gLe_c rfl (gLe_c rfl (gLe_c rfl (gLe_c rfl (gLe_c rfl (gLe_n (gLe_n (gLe_n (gLe_n gLe_0)))))))))) (hnx _ _ (hA2) (hC2) (hR2)))
set_option maxHeartbeats 4000000 in
set_option maxRecDepth 100000 in
theorem lw_c4 {G : gG} {X : gX} {b L : Nat} {sx : Nat → Int32} (LW : gLw G X b L sx) {i k n : Nat} (hi : i + 4 ≤ L) (hk : k ≤ 3000) (hn : n ≤ 30000) {A : gSt0} {M : gMem} (hA : gOk A) (hC : gRC A M) (hR : gRM A M) (hnx : ∀ A' M', gOk A' → gRC A' M' → gRM A' M' → Q G X (k + 4) (n + 32) 1847 (gLv G b i) [] M') : Q G X k n 432 (gLv G b i) [] M := by
  obtain ⟨C, hX, hbl, hbA, hL⟩ := LW
  refine j_aload_n C dL_law_432 rfl ?_
  refine q_callV C (sp_X6_changedPaths G M hA.1 hA.2 hC.1 hC.2.1) vX6_changedPaths lk_L_125 rfl (by decide) rfl rfl (Nat.le_of_ble_eq_true rfl) ⟨⟨(Nat.le_of_ble_eq_true rfl), (Nat.le_of_ble_eq_true rfl)⟩, (by show _ ≤ (603072 : Nat); simp only [gRm]; omega), (by show _ ≤ (7211113 : Nat); simp only [gRm]; omega)⟩ dL_law_433 ?_
  refine j_aload_n C dL_law_436 rfl ?_
  refine q_callVS C (sp_X7_changedPaths G M hA.1 hA.2 hR) vX7_changedPaths lk_L_128 rfl (by decide) rfl rfl (Nat.le_of_ble_eq_true rfl) ⟨⟨(Nat.le_of_ble_eq_true rfl), (Nat.le_of_ble_eq_true rfl)⟩, (by show _ ≤ (603072 : Nat); simp only [gRm]; omega), (by show _ ≤ (7211113 : Nat); simp only [gRm]; omega)⟩ dL_law_437 (fun M2 h2 => ?_)
  obtain ⟨ht, hR2, hm⟩ := h2
  have hC2 := rc_mod hA.1 hC hm
  refine j_icmp_eq C 1847 dL_law_440 (fun _ => ?_) (fun h => absurd rfl h) (by decide)
  exact j_wide (k' := k + 4) (n' := n + 32) (by simp only [gRm]; omega) (by simp only [gRm]; omega) (j_sub (gLe_c rfl (gLe_c rfl (gLe_c rfl (gLe_c rfl (gLe_c rfl (gLe_c rfl (gLe_n (gLe_n (gLe_n (gLe_n gLe_0)))))))))) (hnx _ _ (hA) (hC2) (hR2)))
set_option maxHeartbeats 4000000 in
set_option maxRecDepth 100000 in
theorem lw_c5 {G : gG} {X : gX} {b L : Nat} {sx : Nat → Int32} (LW : gLw G X b L sx) {i k n : Nat} (hi : i + 4 ≤ L) (hk : k ≤ 3000) (hn : n ≤ 30000) {A : gSt0} {M : gMem} (hA : gOk A) (hC : gRC A M) (hR : gRM A M) (hnx : ∀ A' M', gOk A' → gRC A' M' → gRM A' M' → Q G X (k + 4) (n + 32) 1847 (gLv G b i) [] M') : Q G X k n 445 (gLv G b i) [] M := by
  obtain ⟨C, hX, hbl, hbA, hL⟩ := LW
  refine j_aload_n C dL_law_445 rfl ?_
  refine j_aload_n C dL_law_446 rfl ?_
  refine q_callHS C (sp_L_commit G M hA.1 hA.2 hC ) rfl kL_commit tL_commit lk_L_129 rfl rfl (Nat.le_of_ble_eq_true rfl) ⟨⟨(Nat.le_of_ble_eq_true rfl), (Nat.le_of_ble_eq_true rfl)⟩, (by show _ ≤ (603072 : Nat); simp only [gRm]; omega), (by show _ ≤ (7211113 : Nat); simp only [gRm]; omega)⟩ dL_law_447 (fun M1 h1 => ?_)
  obtain ⟨hC1, hc1, hv1, hb1⟩ := h1
  have hR1 := rm_cl0 hR hc1
  refine j_istore C dL_law_450 (by decide) rfl ?_
  refine j_aload_n C dL_law_452 rfl ?_
  refine q_callVS C (sp_X7_commit G M1 hA.1 hA.2 hR1 ) vX7_commit lk_L_132 rfl (by decide) rfl rfl (Nat.le_of_ble_eq_true rfl) ⟨⟨(Nat.le_of_ble_eq_true rfl), (Nat.le_of_ble_eq_true rfl)⟩, (by show _ ≤ (603072 : Nat); simp only [gRm]; omega), (by show _ ≤ (7211113 : Nat); simp only [gRm]; omega)⟩ dL_law_453 (fun M2 h2 => ?_)
  obtain ⟨ht, hR2, hm⟩ := h2
  have hA2 := ok_commit hA
  have hC2 := rc_mod hA2.1 hC1 hm
  refine j_istore C dL_law_456 (by decide) rfl ?_
  refine j_aload_n C dL_law_458 rfl ?_
  refine q_callV C (sp_X7_thrown G M2) vX7_thrown lk_L_112 rfl (by decide) rfl rfl (Nat.le_of_ble_eq_true rfl) ⟨⟨(Nat.le_of_ble_eq_true rfl), (Nat.le_of_ble_eq_true rfl)⟩, (by show _ ≤ (603072 : Nat); simp only [gRm]; omega), (by show _ ≤ (7211113 : Nat); simp only [gRm]; omega)⟩ dL_law_459 ?_
  refine j_iload C dL_law_462 rfl ?_
  refine j_icmp_eq C 469 dL_law_464 (fun _ => ?_) (fun h => absurd ht h) (by decide)
  refine j_iload C dL_law_469 rfl ?_
  refine q_ifz_ne C 486 dL_law_471 (by decide) (Nat.lt_trans hb1 (by decide)) (fun h => ?_) (fun h => ?_)
  · skip
    refine j_goto C 1847 dL_law_486 ?_ (by decide)
    exact j_wide (k' := k + 4) (n' := n + 32) (by simp only [gRm]; omega) (by simp only [gRm]; omega) (j_sub (gLe_c rfl (gLe_c rfl (gLe_c rfl (gLe_c rfl (gLe_c rfl (gLe_c rfl (gLe_n (gLe_n (gLe_n (gLe_n gLe_0)))))))))) (hnx _ _ (hA2) (hC2) (hR2)))
  · skip
    refine j_aload_n C dL_law_474 rfl ?_
    refine j_iconst C (v := nI 0) dL_law_475 rfl ?_
    refine q_lald C rfl (by decide) (by decide) (by decide) dL_law_476 ?_
    refine j_iload C dL_law_477 rfl ?_
    refine j_i2l C dL_law_479 ?_
    refine j_lcmp C dL_law_480 ?_
    refine j_if_eq C 486 dL_law_481 (fun _ => ?_) (fun h9 => absurd (lg_eq (by rw [hm.1]; exact hv1 h)) h9) (by decide)
    refine j_goto C 1847 dL_law_486 ?_ (by decide)
    exact j_wide (k' := k + 4) (n' := n + 32) (by simp only [gRm]; omega) (by simp only [gRm]; omega) (j_sub (gLe_c rfl (gLe_c rfl (gLe_c rfl (gLe_c rfl (gLe_c rfl (gLe_c rfl (gLe_n (gLe_n (gLe_n (gLe_n gLe_0)))))))))) (hnx _ _ (hA2) (hC2) (hR2)))
set_option maxHeartbeats 4000000 in
set_option maxRecDepth 100000 in
theorem lw_c6 {G : gG} {X : gX} {b L : Nat} {sx : Nat → Int32} (LW : gLw G X b L sx) {i k n : Nat} (hi : i + 4 ≤ L) (hk : k ≤ 3000) (hn : n ≤ 30000) {A : gSt0} {M : gMem} (hA : gOk A) (hC : gRC A M) (hR : gRM A M) (hnx : ∀ A' M', gOk A' → gRC A' M' → gRM A' M' → Q G X (k + 4) (n + 32) 1847 (gLv G b i) [] M') : Q G X k n 489 (gLv G b i) [] M := by
  obtain ⟨C, hX, hbl, hbA, hL⟩ := LW
  refine j_aload_n C dL_law_489 rfl ?_
  refine j_aload_n C dL_law_490 rfl ?_
  refine j_iload C dL_law_491 rfl ?_
  refine j_iconst C (v := nI 1) dL_law_493 rfl ?_
  refine q_iadd C dL_law_494 ?_
  refine j_sld C hX hbl hbA hL (by omega) dL_law_495 ?_
  refine j_aload_n C dL_law_496 rfl ?_
  refine q_callHS C (sp_L_branch G M hA.1 hA.2 hC (sx (i + 1))) rfl kL_branch tL_branch lk_L_133 rfl rfl (Nat.le_of_ble_eq_true rfl) ⟨⟨(Nat.le_of_ble_eq_true rfl), (Nat.le_of_ble_eq_true rfl)⟩, (by show _ ≤ (603072 : Nat); simp only [gRm]; omega), (by show _ ≤ (7211113 : Nat); simp only [gRm]; omega)⟩ dL_law_497 (fun M1 h1 => ?_)
  obtain ⟨hC1, hc1, hv1, hb1⟩ := h1
  have hR1 := rm_cl0 hR hc1
  refine j_istore C dL_law_500 (by decide) rfl ?_
  refine j_aload_n C dL_law_502 rfl ?_
  refine j_aload_n C dL_law_503 rfl ?_
  refine j_iload C dL_law_504 rfl ?_
  refine j_iconst C (v := nI 1) dL_law_506 rfl ?_
  refine q_iadd C dL_law_507 ?_
  refine j_sld C hX hbl hbA hL (by omega) dL_law_508 ?_
  refine q_callVS C (sp_X7_branch G M1 hA.1 hA.2 hR1 (sx (i + 1))) vX7_branch lk_L_135 rfl (by decide) rfl rfl (Nat.le_of_ble_eq_true rfl) ⟨⟨(Nat.le_of_ble_eq_true rfl), (Nat.le_of_ble_eq_true rfl)⟩, (by show _ ≤ (603072 : Nat); simp only [gRm]; omega), (by show _ ≤ (7211113 : Nat); simp only [gRm]; omega)⟩ dL_law_509 (fun M2 h2 => ?_)
  obtain ⟨ht, hR2, hm⟩ := h2
  have hA2 := ok_branch hA (sx (i + 1))
  have hC2 := rc_mod hA2.1 hC1 hm
  refine j_istore C dL_law_512 (by decide) rfl ?_
  refine j_aload_n C dL_law_514 rfl ?_
  refine q_callV C (sp_X7_thrown G M2) vX7_thrown lk_L_112 rfl (by decide) rfl rfl (Nat.le_of_ble_eq_true rfl) ⟨⟨(Nat.le_of_ble_eq_true rfl), (Nat.le_of_ble_eq_true rfl)⟩, (by show _ ≤ (603072 : Nat); simp only [gRm]; omega), (by show _ ≤ (7211113 : Nat); simp only [gRm]; omega)⟩ dL_law_515 ?_
  refine j_iload C dL_law_518 rfl ?_
  refine j_icmp_eq C 525 dL_law_520 (fun _ => ?_) (fun h => absurd ht h) (by decide)
  refine j_iload C dL_law_525 rfl ?_
  refine q_ifz_ne C 542 dL_law_527 (by decide) (Nat.lt_trans hb1 (by decide)) (fun h => ?_) (fun h => ?_)
  · skip
    refine j_goto C 1847 dL_law_542 ?_ (by decide)
    exact j_wide (k' := k + 4) (n' := n + 32) (by simp only [gRm]; omega) (by simp only [gRm]; omega) (j_sub (gLe_c rfl (gLe_c rfl (gLe_c rfl (gLe_c rfl (gLe_c rfl (gLe_c rfl (gLe_n (gLe_n (gLe_n (gLe_n gLe_0)))))))))) (hnx _ _ (hA2) (hC2) (hR2)))
  · skip
    refine j_aload_n C dL_law_530 rfl ?_
    refine j_iconst C (v := nI 0) dL_law_531 rfl ?_
    refine q_lald C rfl (by decide) (by decide) (by decide) dL_law_532 ?_
    refine j_iload C dL_law_533 rfl ?_
    refine j_i2l C dL_law_535 ?_
    refine j_lcmp C dL_law_536 ?_
    refine j_if_eq C 542 dL_law_537 (fun _ => ?_) (fun h9 => absurd (lg_eq (by rw [hm.1]; exact hv1 h)) h9) (by decide)
    refine j_goto C 1847 dL_law_542 ?_ (by decide)
    exact j_wide (k' := k + 4) (n' := n + 32) (by simp only [gRm]; omega) (by simp only [gRm]; omega) (j_sub (gLe_c rfl (gLe_c rfl (gLe_c rfl (gLe_c rfl (gLe_c rfl (gLe_c rfl (gLe_n (gLe_n (gLe_n (gLe_n gLe_0)))))))))) (hnx _ _ (hA2) (hC2) (hR2)))
set_option maxHeartbeats 4000000 in
set_option maxRecDepth 100000 in
theorem lw_c7 {G : gG} {X : gX} {b L : Nat} {sx : Nat → Int32} (LW : gLw G X b L sx) {i k n : Nat} (hi : i + 4 ≤ L) (hk : k ≤ 3000) (hn : n ≤ 30000) {A : gSt0} {M : gMem} (hA : gOk A) (hC : gRC A M) (hR : gRM A M) (hnx : ∀ A' M', gOk A' → gRC A' M' → gRM A' M' → Q G X (k + 4) (n + 32) 1847 (gLv G b i) [] M') : Q G X k n 545 (gLv G b i) [] M := by
  obtain ⟨C, hX, hbl, hbA, hL⟩ := LW
  refine j_aload_n C dL_law_545 rfl ?_
  refine j_aload_n C dL_law_546 rfl ?_
  refine j_iload C dL_law_547 rfl ?_
  refine j_iconst C (v := nI 1) dL_law_549 rfl ?_
  refine q_iadd C dL_law_550 ?_
  refine j_sld C hX hbl hbA hL (by omega) dL_law_551 ?_
  refine j_aload_n C dL_law_552 rfl ?_
  refine q_callHS C (sp_L_checkOut G M hA.1 hA.2 hC (sx (i + 1))) rfl kL_checkOut tL_checkOut lk_L_136 rfl rfl (Nat.le_of_ble_eq_true rfl) ⟨⟨(Nat.le_of_ble_eq_true rfl), (Nat.le_of_ble_eq_true rfl)⟩, (by show _ ≤ (603072 : Nat); simp only [gRm]; omega), (by show _ ≤ (7211113 : Nat); simp only [gRm]; omega)⟩ dL_law_553 (fun M1 h1 => ?_)
  obtain ⟨hC1, hc1, hv1, hb1⟩ := h1
  have hR1 := rm_cl0 hR hc1
  refine j_istore C dL_law_556 (by decide) rfl ?_
  refine j_aload_n C dL_law_558 rfl ?_
  refine j_aload_n C dL_law_559 rfl ?_
  refine j_iload C dL_law_560 rfl ?_
  refine j_iconst C (v := nI 1) dL_law_562 rfl ?_
  refine q_iadd C dL_law_563 ?_
  refine j_sld C hX hbl hbA hL (by omega) dL_law_564 ?_
  refine q_callVS C (sp_X7_checkOut G M1 hA.1 hA.2 hR1 (sx (i + 1))) vX7_checkOut lk_L_138 rfl (by decide) rfl rfl (Nat.le_of_ble_eq_true rfl) ⟨⟨(Nat.le_of_ble_eq_true rfl), (Nat.le_of_ble_eq_true rfl)⟩, (by show _ ≤ (603072 : Nat); simp only [gRm]; omega), (by show _ ≤ (7211113 : Nat); simp only [gRm]; omega)⟩ dL_law_565 (fun M2 h2 => ?_)
  obtain ⟨ht, hR2, hm⟩ := h2
  have hA2 := ok_check hA (sx (i + 1))
  have hC2 := rc_mod hA2.1 hC1 hm
  refine j_istore C dL_law_568 (by decide) rfl ?_
  refine j_aload_n C dL_law_570 rfl ?_
  refine q_callV C (sp_X7_thrown G M2) vX7_thrown lk_L_112 rfl (by decide) rfl rfl (Nat.le_of_ble_eq_true rfl) ⟨⟨(Nat.le_of_ble_eq_true rfl), (Nat.le_of_ble_eq_true rfl)⟩, (by show _ ≤ (603072 : Nat); simp only [gRm]; omega), (by show _ ≤ (7211113 : Nat); simp only [gRm]; omega)⟩ dL_law_571 ?_
  refine j_iload C dL_law_574 rfl ?_
  refine j_icmp_eq C 581 dL_law_576 (fun _ => ?_) (fun h => absurd ht h) (by decide)
  refine j_iload C dL_law_581 rfl ?_
  refine q_ifz_ne C 598 dL_law_583 (by decide) (Nat.lt_trans hb1 (by decide)) (fun h => ?_) (fun h => ?_)
  · skip
    refine j_goto C 1847 dL_law_598 ?_ (by decide)
    exact j_wide (k' := k + 4) (n' := n + 32) (by simp only [gRm]; omega) (by simp only [gRm]; omega) (j_sub (gLe_c rfl (gLe_c rfl (gLe_c rfl (gLe_c rfl (gLe_c rfl (gLe_c rfl (gLe_n (gLe_n (gLe_n (gLe_n gLe_0)))))))))) (hnx _ _ (hA2) (hC2) (hR2)))
  · skip
    refine j_aload_n C dL_law_586 rfl ?_
    refine j_iconst C (v := nI 0) dL_law_587 rfl ?_
    refine q_lald C rfl (by decide) (by decide) (by decide) dL_law_588 ?_
    refine j_iload C dL_law_589 rfl ?_
    refine j_i2l C dL_law_591 ?_
    refine j_lcmp C dL_law_592 ?_
    refine j_if_eq C 598 dL_law_593 (fun _ => ?_) (fun h9 => absurd (lg_eq (by rw [hm.1]; exact hv1 h)) h9) (by decide)
    refine j_goto C 1847 dL_law_598 ?_ (by decide)
    exact j_wide (k' := k + 4) (n' := n + 32) (by simp only [gRm]; omega) (by simp only [gRm]; omega) (j_sub (gLe_c rfl (gLe_c rfl (gLe_c rfl (gLe_c rfl (gLe_c rfl (gLe_c rfl (gLe_n (gLe_n (gLe_n (gLe_n gLe_0)))))))))) (hnx _ _ (hA2) (hC2) (hR2)))
set_option maxHeartbeats 4000000 in
set_option maxRecDepth 100000 in
theorem lw_c8 {G : gG} {X : gX} {b L : Nat} {sx : Nat → Int32} (LW : gLw G X b L sx) {i k n : Nat} (hi : i + 4 ≤ L) (hk : k ≤ 3000) (hn : n ≤ 30000) {A : gSt0} {M : gMem} (hA : gOk A) (hC : gRC A M) (hR : gRM A M) (hnx : ∀ A' M', gOk A' → gRC A' M' → gRM A' M' → Q G X (k + 4) (n + 32) 1847 (gLv G b i) [] M') : Q G X k n 601 (gLv G b i) [] M := by
  obtain ⟨C, hX, hbl, hbA, hL⟩ := LW
  refine j_aload_n C dL_law_601 rfl ?_
  refine j_aload_n C dL_law_602 rfl ?_
  refine j_iload C dL_law_603 rfl ?_
  refine j_iconst C (v := nI 1) dL_law_605 rfl ?_
  refine q_iadd C dL_law_606 ?_
  refine j_sld C hX hbl hbA hL (by omega) dL_law_607 ?_
  refine j_aload_n C dL_law_608 rfl ?_
  refine q_callHS C (sp_L_reset G M hA.1 hA.2 hC (sx (i + 1))) rfl kL_reset tL_reset lk_L_139 rfl rfl (Nat.le_of_ble_eq_true rfl) ⟨⟨(Nat.le_of_ble_eq_true rfl), (Nat.le_of_ble_eq_true rfl)⟩, (by show _ ≤ (603072 : Nat); simp only [gRm]; omega), (by show _ ≤ (7211113 : Nat); simp only [gRm]; omega)⟩ dL_law_609 (fun M1 h1 => ?_)
  obtain ⟨hC1, hc1, hv1, hb1⟩ := h1
  have hR1 := rm_cl0 hR hc1
  refine j_istore C dL_law_612 (by decide) rfl ?_
  refine j_aload_n C dL_law_614 rfl ?_
  refine j_aload_n C dL_law_615 rfl ?_
  refine j_iload C dL_law_616 rfl ?_
  refine j_iconst C (v := nI 1) dL_law_618 rfl ?_
  refine q_iadd C dL_law_619 ?_
  refine j_sld C hX hbl hbA hL (by omega) dL_law_620 ?_
  refine q_callVS C (sp_X7_reset G M1 hA.1 hA.2 hR1 (sx (i + 1))) vX7_reset lk_L_141 rfl (by decide) rfl rfl (Nat.le_of_ble_eq_true rfl) ⟨⟨(Nat.le_of_ble_eq_true rfl), (Nat.le_of_ble_eq_true rfl)⟩, (by show _ ≤ (603072 : Nat); simp only [gRm]; omega), (by show _ ≤ (7211113 : Nat); simp only [gRm]; omega)⟩ dL_law_621 (fun M2 h2 => ?_)
  obtain ⟨ht, hR2, hm⟩ := h2
  have hA2 := ok_reset hA (sx (i + 1))
  have hC2 := rc_mod hA2.1 hC1 hm
  refine j_istore C dL_law_624 (by decide) rfl ?_
  refine j_aload_n C dL_law_626 rfl ?_
  refine q_callV C (sp_X7_thrown G M2) vX7_thrown lk_L_112 rfl (by decide) rfl rfl (Nat.le_of_ble_eq_true rfl) ⟨⟨(Nat.le_of_ble_eq_true rfl), (Nat.le_of_ble_eq_true rfl)⟩, (by show _ ≤ (603072 : Nat); simp only [gRm]; omega), (by show _ ≤ (7211113 : Nat); simp only [gRm]; omega)⟩ dL_law_627 ?_
  refine j_iload C dL_law_630 rfl ?_
  refine j_icmp_eq C 637 dL_law_632 (fun _ => ?_) (fun h => absurd ht h) (by decide)
  refine j_iload C dL_law_637 rfl ?_
  refine q_ifz_ne C 654 dL_law_639 (by decide) (Nat.lt_trans hb1 (by decide)) (fun h => ?_) (fun h => ?_)
  · skip
    refine j_goto C 1847 dL_law_654 ?_ (by decide)
    exact j_wide (k' := k + 4) (n' := n + 32) (by simp only [gRm]; omega) (by simp only [gRm]; omega) (j_sub (gLe_c rfl (gLe_c rfl (gLe_c rfl (gLe_c rfl (gLe_c rfl (gLe_c rfl (gLe_n (gLe_n (gLe_n (gLe_n gLe_0)))))))))) (hnx _ _ (hA2) (hC2) (hR2)))
  · skip
    refine j_aload_n C dL_law_642 rfl ?_
    refine j_iconst C (v := nI 0) dL_law_643 rfl ?_
    refine q_lald C rfl (by decide) (by decide) (by decide) dL_law_644 ?_
    refine j_iload C dL_law_645 rfl ?_
    refine j_i2l C dL_law_647 ?_
    refine j_lcmp C dL_law_648 ?_
    refine j_if_eq C 654 dL_law_649 (fun _ => ?_) (fun h9 => absurd (lg_eq (by rw [hm.1]; exact hv1 h)) h9) (by decide)
    refine j_goto C 1847 dL_law_654 ?_ (by decide)
    exact j_wide (k' := k + 4) (n' := n + 32) (by simp only [gRm]; omega) (by simp only [gRm]; omega) (j_sub (gLe_c rfl (gLe_c rfl (gLe_c rfl (gLe_c rfl (gLe_c rfl (gLe_c rfl (gLe_n (gLe_n (gLe_n (gLe_n gLe_0)))))))))) (hnx _ _ (hA2) (hC2) (hR2)))
set_option maxHeartbeats 4000000 in
set_option maxRecDepth 100000 in
theorem lw_c9 {G : gG} {X : gX} {b L : Nat} {sx : Nat → Int32} (LW : gLw G X b L sx) {i k n : Nat} (hi : i + 4 ≤ L) (hk : k ≤ 3000) (hn : n ≤ 30000) {A : gSt0} {M : gMem} (hA : gOk A) (hC : gRC A M) (hR : gRM A M) (hnx : ∀ A' M', gOk A' → gRC A' M' → gRM A' M' → Q G X (k + 4) (n + 32) 1847 (gLv G b i) [] M') : Q G X k n 657 (gLv G b i) [] M := by
  obtain ⟨C, hX, hbl, hbA, hL⟩ := LW
  refine j_aload_n C dL_law_657 rfl ?_
  refine j_aload_n C dL_law_658 rfl ?_
  refine j_iload C dL_law_659 rfl ?_
  refine j_iconst C (v := nI 1) dL_law_661 rfl ?_
  refine q_iadd C dL_law_662 ?_
  refine j_sld C hX hbl hbA hL (by omega) dL_law_663 ?_
  refine j_aload_n C dL_law_664 rfl ?_
  refine q_callHS C (sp_L_merge G M hA.1 hA.2 hC (sx (i + 1))) rfl kL_merge tL_merge lk_L_142 rfl rfl (Nat.le_of_ble_eq_true rfl) ⟨⟨(Nat.le_of_ble_eq_true rfl), (Nat.le_of_ble_eq_true rfl)⟩, (by show _ ≤ (603072 : Nat); simp only [gRm]; omega), (by show _ ≤ (7211113 : Nat); simp only [gRm]; omega)⟩ dL_law_665 (fun M1 h1 => ?_)
  obtain ⟨hC1, hc1, hv1, hb1⟩ := h1
  have hR1 := rm_cl0 hR hc1
  refine j_istore C dL_law_668 (by decide) rfl ?_
  refine j_aload_n C dL_law_670 rfl ?_
  refine j_aload_n C dL_law_671 rfl ?_
  refine j_iload C dL_law_672 rfl ?_
  refine j_iconst C (v := nI 1) dL_law_674 rfl ?_
  refine q_iadd C dL_law_675 ?_
  refine j_sld C hX hbl hbA hL (by omega) dL_law_676 ?_
  refine q_callVS C (sp_X7_merge G M1 hA.1 hA.2 hR1 (sx (i + 1))) vX7_merge lk_L_144 rfl (by decide) rfl rfl (Nat.le_of_ble_eq_true rfl) ⟨⟨(Nat.le_of_ble_eq_true rfl), (Nat.le_of_ble_eq_true rfl)⟩, (by show _ ≤ (603072 : Nat); simp only [gRm]; omega), (by show _ ≤ (7211113 : Nat); simp only [gRm]; omega)⟩ dL_law_677 (fun M2 h2 => ?_)
  obtain ⟨ht, hR2, hm⟩ := h2
  have hA2 := ok_merge hA (sx (i + 1))
  have hC2 := rc_mod hA2.1 hC1 hm
  refine j_istore C dL_law_680 (by decide) rfl ?_
  refine j_aload_n C dL_law_682 rfl ?_
  refine q_callV C (sp_X7_thrown G M2) vX7_thrown lk_L_112 rfl (by decide) rfl rfl (Nat.le_of_ble_eq_true rfl) ⟨⟨(Nat.le_of_ble_eq_true rfl), (Nat.le_of_ble_eq_true rfl)⟩, (by show _ ≤ (603072 : Nat); simp only [gRm]; omega), (by show _ ≤ (7211113 : Nat); simp only [gRm]; omega)⟩ dL_law_683 ?_
  refine j_iload C dL_law_686 rfl ?_
  refine j_icmp_eq C 693 dL_law_688 (fun _ => ?_) (fun h => absurd ht h) (by decide)
  refine j_iload C dL_law_693 rfl ?_
  refine q_ifz_ne C 710 dL_law_695 (by decide) (Nat.lt_trans hb1 (by decide)) (fun h => ?_) (fun h => ?_)
  · skip
    refine j_goto C 1847 dL_law_710 ?_ (by decide)
    exact j_wide (k' := k + 4) (n' := n + 32) (by simp only [gRm]; omega) (by simp only [gRm]; omega) (j_sub (gLe_c rfl (gLe_c rfl (gLe_c rfl (gLe_c rfl (gLe_c rfl (gLe_c rfl (gLe_n (gLe_n (gLe_n (gLe_n gLe_0)))))))))) (hnx _ _ (hA2) (hC2) (hR2)))
  · skip
    refine j_aload_n C dL_law_698 rfl ?_
    refine j_iconst C (v := nI 0) dL_law_699 rfl ?_
    refine q_lald C rfl (by decide) (by decide) (by decide) dL_law_700 ?_
    refine j_iload C dL_law_701 rfl ?_
    refine j_i2l C dL_law_703 ?_
    refine j_lcmp C dL_law_704 ?_
    refine j_if_eq C 710 dL_law_705 (fun _ => ?_) (fun h9 => absurd (lg_eq (by rw [hm.1]; exact hv1 h)) h9) (by decide)
    refine j_goto C 1847 dL_law_710 ?_ (by decide)
    exact j_wide (k' := k + 4) (n' := n + 32) (by simp only [gRm]; omega) (by simp only [gRm]; omega) (j_sub (gLe_c rfl (gLe_c rfl (gLe_c rfl (gLe_c rfl (gLe_c rfl (gLe_c rfl (gLe_n (gLe_n (gLe_n (gLe_n gLe_0)))))))))) (hnx _ _ (hA2) (hC2) (hR2)))
set_option maxHeartbeats 4000000 in
set_option maxRecDepth 100000 in
theorem lw_c10 {G : gG} {X : gX} {b L : Nat} {sx : Nat → Int32} (LW : gLw G X b L sx) {i k n : Nat} (hi : i + 4 ≤ L) (hk : k ≤ 3000) (hn : n ≤ 30000) {A : gSt0} {M : gMem} (hA : gOk A) (hC : gRC A M) (hR : gRM A M) (hnx : ∀ A' M', gOk A' → gRC A' M' → gRM A' M' → Q G X (k + 4) (n + 32) 1847 (gLv G b i) [] M') : Q G X k n 713 (gLv G b i) [] M := by
  obtain ⟨C, hX, hbl, hbA, hL⟩ := LW
  refine j_aload_n C dL_law_713 rfl ?_
  refine j_aload_n C dL_law_714 rfl ?_
  refine j_iload C dL_law_715 rfl ?_
  refine j_iconst C (v := nI 1) dL_law_717 rfl ?_
  refine q_iadd C dL_law_718 ?_
  refine j_sld C hX hbl hbA hL (by omega) dL_law_719 ?_
  refine j_aload_n C dL_law_720 rfl ?_
  refine q_callHS C (sp_L_putOnto G M hA.1 hA.2 hC (sx (i + 1))) rfl kL_putOnto tL_putOnto lk_L_145 rfl rfl (Nat.le_of_ble_eq_true rfl) ⟨⟨(Nat.le_of_ble_eq_true rfl), (Nat.le_of_ble_eq_true rfl)⟩, (by show _ ≤ (603072 : Nat); simp only [gRm]; omega), (by show _ ≤ (7211113 : Nat); simp only [gRm]; omega)⟩ dL_law_721 (fun M1 h1 => ?_)
  obtain ⟨hC1, hc1, hv1, hb1⟩ := h1
  have hR1 := rm_cl0 hR hc1
  refine j_istore C dL_law_724 (by decide) rfl ?_
  refine j_aload_n C dL_law_726 rfl ?_
  refine j_aload_n C dL_law_727 rfl ?_
  refine j_iload C dL_law_728 rfl ?_
  refine j_iconst C (v := nI 1) dL_law_730 rfl ?_
  refine q_iadd C dL_law_731 ?_
  refine j_sld C hX hbl hbA hL (by omega) dL_law_732 ?_
  refine q_callVS C (sp_X7_putOnto G M1 hA.1 hA.2 hR1 (sx (i + 1))) vX7_putOnto lk_L_147 rfl (by decide) rfl rfl (Nat.le_of_ble_eq_true rfl) ⟨⟨(Nat.le_of_ble_eq_true rfl), (Nat.le_of_ble_eq_true rfl)⟩, (by show _ ≤ (603072 : Nat); simp only [gRm]; omega), (by show _ ≤ (7211113 : Nat); simp only [gRm]; omega)⟩ dL_law_733 (fun M2 h2 => ?_)
  obtain ⟨ht, hR2, hm⟩ := h2
  have hA2 := ok_put hA (sx (i + 1))
  have hC2 := rc_mod hA2.1 hC1 hm
  refine j_istore C dL_law_736 (by decide) rfl ?_
  refine j_aload_n C dL_law_738 rfl ?_
  refine q_callV C (sp_X7_thrown G M2) vX7_thrown lk_L_112 rfl (by decide) rfl rfl (Nat.le_of_ble_eq_true rfl) ⟨⟨(Nat.le_of_ble_eq_true rfl), (Nat.le_of_ble_eq_true rfl)⟩, (by show _ ≤ (603072 : Nat); simp only [gRm]; omega), (by show _ ≤ (7211113 : Nat); simp only [gRm]; omega)⟩ dL_law_739 ?_
  refine j_iload C dL_law_742 rfl ?_
  refine j_icmp_eq C 749 dL_law_744 (fun _ => ?_) (fun h => absurd ht h) (by decide)
  refine j_iload C dL_law_749 rfl ?_
  refine q_ifz_ne C 766 dL_law_751 (by decide) (Nat.lt_trans hb1 (by decide)) (fun h => ?_) (fun h => ?_)
  · skip
    refine j_goto C 1847 dL_law_766 ?_ (by decide)
    exact j_wide (k' := k + 4) (n' := n + 32) (by simp only [gRm]; omega) (by simp only [gRm]; omega) (j_sub (gLe_c rfl (gLe_c rfl (gLe_c rfl (gLe_c rfl (gLe_c rfl (gLe_c rfl (gLe_n (gLe_n (gLe_n (gLe_n gLe_0)))))))))) (hnx _ _ (hA2) (hC2) (hR2)))
  · skip
    refine j_aload_n C dL_law_754 rfl ?_
    refine j_iconst C (v := nI 0) dL_law_755 rfl ?_
    refine q_lald C rfl (by decide) (by decide) (by decide) dL_law_756 ?_
    refine j_iload C dL_law_757 rfl ?_
    refine j_i2l C dL_law_759 ?_
    refine j_lcmp C dL_law_760 ?_
    refine j_if_eq C 766 dL_law_761 (fun _ => ?_) (fun h9 => absurd (lg_eq (by rw [hm.1]; exact hv1 h)) h9) (by decide)
    refine j_goto C 1847 dL_law_766 ?_ (by decide)
    exact j_wide (k' := k + 4) (n' := n + 32) (by simp only [gRm]; omega) (by simp only [gRm]; omega) (j_sub (gLe_c rfl (gLe_c rfl (gLe_c rfl (gLe_c rfl (gLe_c rfl (gLe_c rfl (gLe_n (gLe_n (gLe_n (gLe_n gLe_0)))))))))) (hnx _ _ (hA2) (hC2) (hR2)))
set_option maxHeartbeats 4000000 in
set_option maxRecDepth 100000 in
theorem lw_c11 {G : gG} {X : gX} {b L : Nat} {sx : Nat → Int32} (LW : gLw G X b L sx) {i k n : Nat} (hi : i + 4 ≤ L) (hk : k ≤ 3000) (hn : n ≤ 30000) {A : gSt0} {M : gMem} (hA : gOk A) (hC : gRC A M) (hR : gRM A M) (hnx : ∀ A' M', gOk A' → gRC A' M' → gRM A' M' → Q G X (k + 4) (n + 32) 1847 (gLv G b i) [] M') : Q G X k n 769 (gLv G b i) [] M := by
  obtain ⟨C, hX, hbl, hbA, hL⟩ := LW
  refine j_aload_n C dL_law_769 rfl ?_
  refine q_callV C (sp_X6_currentBranch G M hC) vX6_currentBranch lk_L_148 rfl (by decide) rfl rfl (Nat.le_of_ble_eq_true rfl) ⟨⟨(Nat.le_of_ble_eq_true rfl), (Nat.le_of_ble_eq_true rfl)⟩, (by show _ ≤ (603072 : Nat); simp only [gRm]; omega), (by show _ ≤ (7211113 : Nat); simp only [gRm]; omega)⟩ dL_law_770 ?_
  refine j_aload_n C dL_law_773 rfl ?_
  refine q_callVS C (sp_X7_currentBranch G M hA.1 hA.2 hR) vX7_currentBranch lk_L_151 rfl (by decide) rfl rfl (Nat.le_of_ble_eq_true rfl) ⟨⟨(Nat.le_of_ble_eq_true rfl), (Nat.le_of_ble_eq_true rfl)⟩, (by show _ ≤ (603072 : Nat); simp only [gRm]; omega), (by show _ ≤ (7211113 : Nat); simp only [gRm]; omega)⟩ dL_law_774 (fun M2 h2 => ?_)
  obtain ⟨ht, hR2, hm⟩ := h2
  have hC2 := rc_mod hA.1 hC hm
  refine j_icmp_eq C 1847 dL_law_777 (fun _ => ?_) (fun h => absurd rfl h) (by decide)
  exact j_wide (k' := k + 4) (n' := n + 32) (by simp only [gRm]; omega) (by simp only [gRm]; omega) (j_sub (gLe_c rfl (gLe_c rfl (gLe_c rfl (gLe_c rfl (gLe_c rfl (gLe_c rfl (gLe_n (gLe_n (gLe_n (gLe_n gLe_0)))))))))) (hnx _ _ (hA) (hC2) (hR2)))
set_option maxHeartbeats 4000000 in
set_option maxRecDepth 100000 in
theorem lw_c12 {G : gG} {X : gX} {b L : Nat} {sx : Nat → Int32} (LW : gLw G X b L sx) {i k n : Nat} (hi : i + 4 ≤ L) (hk : k ≤ 3000) (hn : n ≤ 30000) {A : gSt0} {M : gMem} (hA : gOk A) (hC : gRC A M) (hR : gRM A M) (hnx : ∀ A' M', gOk A' → gRC A' M' → gRM A' M' → Q G X (k + 4) (n + 32) 1847 (gLv G b i) [] M') : Q G X k n 782 (gLv G b i) [] M := by
  obtain ⟨C, hX, hbl, hbA, hL⟩ := LW
  refine j_aload_n C dL_law_782 rfl ?_
  refine j_aload_n C dL_law_783 rfl ?_
  refine j_iload C dL_law_784 rfl ?_
  refine j_iconst C (v := nI 1) dL_law_786 rfl ?_
  refine q_iadd C dL_law_787 ?_
  refine j_sld C hX hbl hbA hL (by omega) dL_law_788 ?_
  refine j_aload_n C dL_law_789 rfl ?_
  refine q_callHS C (sp_L_head G M hA.1 hA.2 hC (sx (i + 1))) rfl kL_head tL_head lk_L_152 rfl rfl (Nat.le_of_ble_eq_true rfl) ⟨⟨(Nat.le_of_ble_eq_true rfl), (Nat.le_of_ble_eq_true rfl)⟩, (by show _ ≤ (603072 : Nat); simp only [gRm]; omega), (by show _ ≤ (7211113 : Nat); simp only [gRm]; omega)⟩ dL_law_790 (fun M1 h1 => ?_)
  obtain ⟨hC1, hc1, hv1, hb1⟩ := h1
  have hR1 := rm_cl0 hR hc1
  refine j_istore C dL_law_793 (by decide) rfl ?_
  refine j_aload_n C dL_law_795 rfl ?_
  refine j_aload_n C dL_law_796 rfl ?_
  refine j_iload C dL_law_797 rfl ?_
  refine j_iconst C (v := nI 1) dL_law_799 rfl ?_
  refine q_iadd C dL_law_800 ?_
  refine j_sld C hX hbl hbA hL (by omega) dL_law_801 ?_
  refine q_callVS C (sp_X7_head G M1 hA.1 hA.2 hR1 (sx (i + 1))) vX7_head lk_L_154 rfl (by decide) rfl rfl (Nat.le_of_ble_eq_true rfl) ⟨⟨(Nat.le_of_ble_eq_true rfl), (Nat.le_of_ble_eq_true rfl)⟩, (by show _ ≤ (603072 : Nat); simp only [gRm]; omega), (by show _ ≤ (7211113 : Nat); simp only [gRm]; omega)⟩ dL_law_802 (fun M2 h2 => ?_)
  obtain ⟨ht, hR2, hm⟩ := h2
  have hA2 := ok_same hA (st_head A _ : (oHead A (sx (i + 1))).2.2 = A)
  have hC2 := rc_mod hA2.1 hC1 hm
  refine j_istore C dL_law_805 (by decide) rfl ?_
  refine j_aload_n C dL_law_807 rfl ?_
  refine q_callV C (sp_X7_thrown G M2) vX7_thrown lk_L_112 rfl (by decide) rfl rfl (Nat.le_of_ble_eq_true rfl) ⟨⟨(Nat.le_of_ble_eq_true rfl), (Nat.le_of_ble_eq_true rfl)⟩, (by show _ ≤ (603072 : Nat); simp only [gRm]; omega), (by show _ ≤ (7211113 : Nat); simp only [gRm]; omega)⟩ dL_law_808 ?_
  refine j_iload C dL_law_811 rfl ?_
  refine j_icmp_eq C 818 dL_law_813 (fun _ => ?_) (fun h => absurd ht h) (by decide)
  refine j_iload C dL_law_818 rfl ?_
  refine q_ifz_ne C 835 dL_law_820 (by decide) (Nat.lt_trans hb1 (by decide)) (fun h => ?_) (fun h => ?_)
  · skip
    refine j_goto C 1847 dL_law_835 ?_ (by decide)
    exact j_wide (k' := k + 4) (n' := n + 32) (by simp only [gRm]; omega) (by simp only [gRm]; omega) (j_sub (gLe_c rfl (gLe_c rfl (gLe_c rfl (gLe_c rfl (gLe_c rfl (gLe_c rfl (gLe_n (gLe_n (gLe_n (gLe_n gLe_0)))))))))) (hnx _ _ (hA2) (hC2) (hR2)))
  · skip
    refine j_aload_n C dL_law_823 rfl ?_
    refine j_iconst C (v := nI 0) dL_law_824 rfl ?_
    refine q_lald C rfl (by decide) (by decide) (by decide) dL_law_825 ?_
    refine j_iload C dL_law_826 rfl ?_
    refine j_i2l C dL_law_828 ?_
    refine j_lcmp C dL_law_829 ?_
    refine j_if_eq C 835 dL_law_830 (fun _ => ?_) (fun h9 => absurd (lg_eq (by rw [hm.1]; exact hv1 h)) h9) (by decide)
    refine j_goto C 1847 dL_law_835 ?_ (by decide)
    exact j_wide (k' := k + 4) (n' := n + 32) (by simp only [gRm]; omega) (by simp only [gRm]; omega) (j_sub (gLe_c rfl (gLe_c rfl (gLe_c rfl (gLe_c rfl (gLe_c rfl (gLe_c rfl (gLe_n (gLe_n (gLe_n (gLe_n gLe_0)))))))))) (hnx _ _ (hA2) (hC2) (hR2)))
set_option maxHeartbeats 4000000 in
set_option maxRecDepth 100000 in
theorem lw_c13 {G : gG} {X : gX} {b L : Nat} {sx : Nat → Int32} (LW : gLw G X b L sx) {i k n : Nat} (hi : i + 4 ≤ L) (hk : k ≤ 3000) (hn : n ≤ 30000) {A : gSt0} {M : gMem} (hA : gOk A) (hC : gRC A M) (hR : gRM A M) (hnx : ∀ A' M', gOk A' → gRC A' M' → gRM A' M' → Q G X (k + 4) (n + 32) 1847 (gLv G b i) [] M') : Q G X k n 838 (gLv G b i) [] M := by
  obtain ⟨C, hX, hbl, hbA, hL⟩ := LW
  refine j_aload_n C dL_law_838 rfl ?_
  refine q_callV C (sp_X6_commits G M hC) vX6_commits lk_L_155 rfl (by decide) rfl rfl (Nat.le_of_ble_eq_true rfl) ⟨⟨(Nat.le_of_ble_eq_true rfl), (Nat.le_of_ble_eq_true rfl)⟩, (by show _ ≤ (603072 : Nat); simp only [gRm]; omega), (by show _ ≤ (7211113 : Nat); simp only [gRm]; omega)⟩ dL_law_839 ?_
  refine j_aload_n C dL_law_842 rfl ?_
  refine q_callVS C (sp_X7_commits G M hA.1 hA.2 hR) vX7_commits lk_L_158 rfl (by decide) rfl rfl (Nat.le_of_ble_eq_true rfl) ⟨⟨(Nat.le_of_ble_eq_true rfl), (Nat.le_of_ble_eq_true rfl)⟩, (by show _ ≤ (603072 : Nat); simp only [gRm]; omega), (by show _ ≤ (7211113 : Nat); simp only [gRm]; omega)⟩ dL_law_843 (fun M2 h2 => ?_)
  obtain ⟨ht, hR2, hm⟩ := h2
  have hC2 := rc_mod hA.1 hC hm
  refine j_icmp_eq C 1847 dL_law_846 (fun _ => ?_) (fun h => absurd rfl h) (by decide)
  exact j_wide (k' := k + 4) (n' := n + 32) (by simp only [gRm]; omega) (by simp only [gRm]; omega) (j_sub (gLe_c rfl (gLe_c rfl (gLe_c rfl (gLe_c rfl (gLe_c rfl (gLe_c rfl (gLe_n (gLe_n (gLe_n (gLe_n gLe_0)))))))))) (hnx _ _ (hA) (hC2) (hR2)))
set_option maxHeartbeats 4000000 in
set_option maxRecDepth 100000 in
theorem lw_c14 {G : gG} {X : gX} {b L : Nat} {sx : Nat → Int32} (LW : gLw G X b L sx) {i k n : Nat} (hi : i + 4 ≤ L) (hk : k ≤ 3000) (hn : n ≤ 30000) {A : gSt0} {M : gMem} (hA : gOk A) (hC : gRC A M) (hR : gRM A M) (hnx : ∀ A' M', gOk A' → gRC A' M' → gRM A' M' → Q G X (k + 4) (n + 32) 1847 (gLv G b i) [] M') : Q G X k n 851 (gLv G b i) [] M := by
  obtain ⟨C, hX, hbl, hbA, hL⟩ := LW
  refine j_aload_n C dL_law_851 rfl ?_
  refine j_aload_n C dL_law_852 rfl ?_
  refine j_iload C dL_law_853 rfl ?_
  refine j_iconst C (v := nI 1) dL_law_855 rfl ?_
  refine q_iadd C dL_law_856 ?_
  refine j_sld C hX hbl hbA hL (by omega) dL_law_857 ?_
  refine j_aload_n C dL_law_858 rfl ?_
  refine j_iload C dL_law_859 rfl ?_
  refine j_iconst C (v := nI 2) dL_law_861 rfl ?_
  refine q_iadd C dL_law_862 ?_
  refine j_sld C hX hbl hbA hL (by omega) dL_law_863 ?_
  refine j_aload_n C dL_law_864 rfl ?_
  refine q_callHS C (sp_L_contentIn G M hA.1 hA.2 hC (sx (i + 1)) (sx (i + 2))) rfl kL_contentIn tL_contentIn lk_L_159 rfl rfl (Nat.le_of_ble_eq_true rfl) ⟨⟨(Nat.le_of_ble_eq_true rfl), (Nat.le_of_ble_eq_true rfl)⟩, (by show _ ≤ (603072 : Nat); simp only [gRm]; omega), (by show _ ≤ (7211113 : Nat); simp only [gRm]; omega)⟩ dL_law_865 (fun M1 h1 => ?_)
  obtain ⟨hC1, hc1, hv1, hb1⟩ := h1
  have hR1 := rm_cl0 hR hc1
  refine j_istore C dL_law_868 (by decide) rfl ?_
  refine j_aload_n C dL_law_870 rfl ?_
  refine j_aload_n C dL_law_871 rfl ?_
  refine j_iload C dL_law_872 rfl ?_
  refine j_iconst C (v := nI 1) dL_law_874 rfl ?_
  refine q_iadd C dL_law_875 ?_
  refine j_sld C hX hbl hbA hL (by omega) dL_law_876 ?_
  refine j_aload_n C dL_law_877 rfl ?_
  refine j_iload C dL_law_878 rfl ?_
  refine j_iconst C (v := nI 2) dL_law_880 rfl ?_
  refine q_iadd C dL_law_881 ?_
  refine j_sld C hX hbl hbA hL (by omega) dL_law_882 ?_
  refine q_callVS C (sp_X7_contentIn G M1 hA.1 hR1 (sx (i + 1)) (sx (i + 2))) vX7_contentIn lk_L_161 rfl (by decide) rfl rfl (Nat.le_of_ble_eq_true rfl) ⟨⟨(Nat.le_of_ble_eq_true rfl), (Nat.le_of_ble_eq_true rfl)⟩, (by show _ ≤ (603072 : Nat); simp only [gRm]; omega), (by show _ ≤ (7211113 : Nat); simp only [gRm]; omega)⟩ dL_law_883 (fun M2 h2 => ?_)
  obtain ⟨ht, hR2, hm⟩ := h2
  have hA2 := ok_same hA (st_contentIn A _ _ : (oContentIn A (sx (i + 1)) (sx (i + 2))).2.2 = A)
  have hC2 := rc_mod hA2.1 hC1 hm
  refine j_istore C dL_law_886 (by decide) rfl ?_
  refine j_aload_n C dL_law_888 rfl ?_
  refine q_callV C (sp_X7_thrown G M2) vX7_thrown lk_L_112 rfl (by decide) rfl rfl (Nat.le_of_ble_eq_true rfl) ⟨⟨(Nat.le_of_ble_eq_true rfl), (Nat.le_of_ble_eq_true rfl)⟩, (by show _ ≤ (603072 : Nat); simp only [gRm]; omega), (by show _ ≤ (7211113 : Nat); simp only [gRm]; omega)⟩ dL_law_889 ?_
  refine j_iload C dL_law_892 rfl ?_
  refine j_icmp_eq C 899 dL_law_894 (fun _ => ?_) (fun h => absurd ht h) (by decide)
  refine j_iload C dL_law_899 rfl ?_
  refine q_ifz_ne C 916 dL_law_901 (by decide) (Nat.lt_trans hb1 (by decide)) (fun h => ?_) (fun h => ?_)
  · skip
    refine j_goto C 1847 dL_law_916 ?_ (by decide)
    exact j_wide (k' := k + 4) (n' := n + 32) (by simp only [gRm]; omega) (by simp only [gRm]; omega) (j_sub (gLe_c rfl (gLe_c rfl (gLe_c rfl (gLe_c rfl (gLe_c rfl (gLe_c rfl (gLe_n (gLe_n (gLe_n (gLe_n gLe_0)))))))))) (hnx _ _ (hA2) (hC2) (hR2)))
  · skip
    refine j_aload_n C dL_law_904 rfl ?_
    refine j_iconst C (v := nI 0) dL_law_905 rfl ?_
    refine q_lald C rfl (by decide) (by decide) (by decide) dL_law_906 ?_
    refine j_iload C dL_law_907 rfl ?_
    refine j_i2l C dL_law_909 ?_
    refine j_lcmp C dL_law_910 ?_
    refine j_if_eq C 916 dL_law_911 (fun _ => ?_) (fun h9 => absurd (lg_eq (by rw [hm.1]; exact hv1 h)) h9) (by decide)
    refine j_goto C 1847 dL_law_916 ?_ (by decide)
    exact j_wide (k' := k + 4) (n' := n + 32) (by simp only [gRm]; omega) (by simp only [gRm]; omega) (j_sub (gLe_c rfl (gLe_c rfl (gLe_c rfl (gLe_c rfl (gLe_c rfl (gLe_c rfl (gLe_n (gLe_n (gLe_n (gLe_n gLe_0)))))))))) (hnx _ _ (hA2) (hC2) (hR2)))
set_option maxHeartbeats 4000000 in
set_option maxRecDepth 100000 in
theorem lw_c15 {G : gG} {X : gX} {b L : Nat} {sx : Nat → Int32} (LW : gLw G X b L sx) {i k n : Nat} (hi : i + 4 ≤ L) (hk : k ≤ 3000) (hn : n ≤ 30000) {A : gSt0} {M : gMem} (hA : gOk A) (hC : gRC A M) (hR : gRM A M) (hnx : ∀ A' M', gOk A' → gRC A' M' → gRM A' M' → Q G X (k + 4) (n + 32) 1847 (gLv G b i) [] M') : Q G X k n 919 (gLv G b i) [] M := by
  obtain ⟨C, hX, hbl, hbA, hL⟩ := LW
  refine j_aload_n C dL_law_919 rfl ?_
  refine j_aload_n C dL_law_920 rfl ?_
  refine j_iload C dL_law_921 rfl ?_
  refine j_iconst C (v := nI 1) dL_law_923 rfl ?_
  refine q_iadd C dL_law_924 ?_
  refine j_sld C hX hbl hbA hL (by omega) dL_law_925 ?_
  refine j_aload_n C dL_law_926 rfl ?_
  refine j_iload C dL_law_927 rfl ?_
  refine j_iconst C (v := nI 2) dL_law_929 rfl ?_
  refine q_iadd C dL_law_930 ?_
  refine j_sld C hX hbl hbA hL (by omega) dL_law_931 ?_
  refine j_aload_n C dL_law_932 rfl ?_
  refine q_callHS C (sp_L_parentOf G M hA.1 hA.2 hC (sx (i + 1)) (sx (i + 2))) rfl kL_parentOf tL_parentOf lk_L_162 rfl rfl (Nat.le_of_ble_eq_true rfl) ⟨⟨(Nat.le_of_ble_eq_true rfl), (Nat.le_of_ble_eq_true rfl)⟩, (by show _ ≤ (603072 : Nat); simp only [gRm]; omega), (by show _ ≤ (7211113 : Nat); simp only [gRm]; omega)⟩ dL_law_933 (fun M1 h1 => ?_)
  obtain ⟨hC1, hc1, hv1, hb1⟩ := h1
  have hR1 := rm_cl0 hR hc1
  refine j_istore C dL_law_936 (by decide) rfl ?_
  refine j_aload_n C dL_law_938 rfl ?_
  refine j_aload_n C dL_law_939 rfl ?_
  refine j_iload C dL_law_940 rfl ?_
  refine j_iconst C (v := nI 1) dL_law_942 rfl ?_
  refine q_iadd C dL_law_943 ?_
  refine j_sld C hX hbl hbA hL (by omega) dL_law_944 ?_
  refine j_aload_n C dL_law_945 rfl ?_
  refine j_iload C dL_law_946 rfl ?_
  refine j_iconst C (v := nI 2) dL_law_948 rfl ?_
  refine q_iadd C dL_law_949 ?_
  refine j_sld C hX hbl hbA hL (by omega) dL_law_950 ?_
  refine q_callVS C (sp_X7_parentOf G M1 hA.1 hR1 (sx (i + 1)) (sx (i + 2))) vX7_parentOf lk_L_164 rfl (by decide) rfl rfl (Nat.le_of_ble_eq_true rfl) ⟨⟨(Nat.le_of_ble_eq_true rfl), (Nat.le_of_ble_eq_true rfl)⟩, (by show _ ≤ (603072 : Nat); simp only [gRm]; omega), (by show _ ≤ (7211113 : Nat); simp only [gRm]; omega)⟩ dL_law_951 (fun M2 h2 => ?_)
  obtain ⟨ht, hR2, hm⟩ := h2
  have hA2 := ok_same hA (st_parentOf A _ _ : (oParentOf A (sx (i + 1)) (sx (i + 2))).2.2 = A)
  have hC2 := rc_mod hA2.1 hC1 hm
  refine j_istore C dL_law_954 (by decide) rfl ?_
  refine j_aload_n C dL_law_956 rfl ?_
  refine q_callV C (sp_X7_thrown G M2) vX7_thrown lk_L_112 rfl (by decide) rfl rfl (Nat.le_of_ble_eq_true rfl) ⟨⟨(Nat.le_of_ble_eq_true rfl), (Nat.le_of_ble_eq_true rfl)⟩, (by show _ ≤ (603072 : Nat); simp only [gRm]; omega), (by show _ ≤ (7211113 : Nat); simp only [gRm]; omega)⟩ dL_law_957 ?_
  refine j_iload C dL_law_960 rfl ?_
  refine j_icmp_eq C 967 dL_law_962 (fun _ => ?_) (fun h => absurd ht h) (by decide)
  refine j_iload C dL_law_967 rfl ?_
  refine q_ifz_ne C 984 dL_law_969 (by decide) (Nat.lt_trans hb1 (by decide)) (fun h => ?_) (fun h => ?_)
  · skip
    refine j_goto C 1847 dL_law_984 ?_ (by decide)
    exact j_wide (k' := k + 4) (n' := n + 32) (by simp only [gRm]; omega) (by simp only [gRm]; omega) (j_sub (gLe_c rfl (gLe_c rfl (gLe_c rfl (gLe_c rfl (gLe_c rfl (gLe_c rfl (gLe_n (gLe_n (gLe_n (gLe_n gLe_0)))))))))) (hnx _ _ (hA2) (hC2) (hR2)))
  · skip
    refine j_aload_n C dL_law_972 rfl ?_
    refine j_iconst C (v := nI 0) dL_law_973 rfl ?_
    refine q_lald C rfl (by decide) (by decide) (by decide) dL_law_974 ?_
    refine j_iload C dL_law_975 rfl ?_
    refine j_i2l C dL_law_977 ?_
    refine j_lcmp C dL_law_978 ?_
    refine j_if_eq C 984 dL_law_979 (fun _ => ?_) (fun h9 => absurd (lg_eq (by rw [hm.1]; exact hv1 h)) h9) (by decide)
    refine j_goto C 1847 dL_law_984 ?_ (by decide)
    exact j_wide (k' := k + 4) (n' := n + 32) (by simp only [gRm]; omega) (by simp only [gRm]; omega) (j_sub (gLe_c rfl (gLe_c rfl (gLe_c rfl (gLe_c rfl (gLe_c rfl (gLe_c rfl (gLe_n (gLe_n (gLe_n (gLe_n gLe_0)))))))))) (hnx _ _ (hA2) (hC2) (hR2)))
set_option maxHeartbeats 4000000 in
set_option maxRecDepth 100000 in
theorem lw_c16 {G : gG} {X : gX} {b L : Nat} {sx : Nat → Int32} (LW : gLw G X b L sx) {i k n : Nat} (hi : i + 4 ≤ L) (hk : k ≤ 3000) (hn : n ≤ 30000) {A : gSt0} {M : gMem} (hA : gOk A) (hC : gRC A M) (hR : gRM A M) (hnx : ∀ A' M', gOk A' → gRC A' M' → gRM A' M' → Q G X (k + 4) (n + 32) 1847 (gLv G b i) [] M') : Q G X k n 987 (gLv G b i) [] M := by
  obtain ⟨C, hX, hbl, hbA, hL⟩ := LW
  refine j_aload_n C dL_law_987 rfl ?_
  refine j_aload_n C dL_law_988 rfl ?_
  refine j_iload C dL_law_989 rfl ?_
  refine j_iconst C (v := nI 1) dL_law_991 rfl ?_
  refine q_iadd C dL_law_992 ?_
  refine j_sld C hX hbl hbA hL (by omega) dL_law_993 ?_
  refine j_aload_n C dL_law_994 rfl ?_
  refine q_callHS C (sp_L_generation G M hA.1 hA.2 hC (sx (i + 1))) rfl kL_generation tL_generation lk_L_165 rfl rfl (Nat.le_of_ble_eq_true rfl) ⟨⟨(Nat.le_of_ble_eq_true rfl), (Nat.le_of_ble_eq_true rfl)⟩, (by show _ ≤ (603072 : Nat); simp only [gRm]; omega), (by show _ ≤ (7211113 : Nat); simp only [gRm]; omega)⟩ dL_law_995 (fun M1 h1 => ?_)
  obtain ⟨hC1, hc1, hv1, hb1⟩ := h1
  have hR1 := rm_cl0 hR hc1
  refine j_istore C dL_law_998 (by decide) rfl ?_
  refine j_aload_n C dL_law_1000 rfl ?_
  refine j_aload_n C dL_law_1001 rfl ?_
  refine j_iload C dL_law_1002 rfl ?_
  refine j_iconst C (v := nI 1) dL_law_1004 rfl ?_
  refine q_iadd C dL_law_1005 ?_
  refine j_sld C hX hbl hbA hL (by omega) dL_law_1006 ?_
  refine q_callVS C (sp_X7_generation G M1 hA.1 hR1 (sx (i + 1))) vX7_generation lk_L_167 rfl (by decide) rfl rfl (Nat.le_of_ble_eq_true rfl) ⟨⟨(Nat.le_of_ble_eq_true rfl), (Nat.le_of_ble_eq_true rfl)⟩, (by show _ ≤ (603072 : Nat); simp only [gRm]; omega), (by show _ ≤ (7211113 : Nat); simp only [gRm]; omega)⟩ dL_law_1007 (fun M2 h2 => ?_)
  obtain ⟨ht, hR2, hm⟩ := h2
  have hA2 := ok_same hA (st_generation A _ : (oGeneration A (sx (i + 1))).2.2 = A)
  have hC2 := rc_mod hA2.1 hC1 hm
  refine j_istore C dL_law_1010 (by decide) rfl ?_
  refine j_aload_n C dL_law_1012 rfl ?_
  refine q_callV C (sp_X7_thrown G M2) vX7_thrown lk_L_112 rfl (by decide) rfl rfl (Nat.le_of_ble_eq_true rfl) ⟨⟨(Nat.le_of_ble_eq_true rfl), (Nat.le_of_ble_eq_true rfl)⟩, (by show _ ≤ (603072 : Nat); simp only [gRm]; omega), (by show _ ≤ (7211113 : Nat); simp only [gRm]; omega)⟩ dL_law_1013 ?_
  refine j_iload C dL_law_1016 rfl ?_
  refine j_icmp_eq C 1023 dL_law_1018 (fun _ => ?_) (fun h => absurd ht h) (by decide)
  refine j_iload C dL_law_1023 rfl ?_
  refine q_ifz_ne C 1040 dL_law_1025 (by decide) (Nat.lt_trans hb1 (by decide)) (fun h => ?_) (fun h => ?_)
  · skip
    refine j_goto C 1847 dL_law_1040 ?_ (by decide)
    exact j_wide (k' := k + 4) (n' := n + 32) (by simp only [gRm]; omega) (by simp only [gRm]; omega) (j_sub (gLe_c rfl (gLe_c rfl (gLe_c rfl (gLe_c rfl (gLe_c rfl (gLe_c rfl (gLe_n (gLe_n (gLe_n (gLe_n gLe_0)))))))))) (hnx _ _ (hA2) (hC2) (hR2)))
  · skip
    refine j_aload_n C dL_law_1028 rfl ?_
    refine j_iconst C (v := nI 0) dL_law_1029 rfl ?_
    refine q_lald C rfl (by decide) (by decide) (by decide) dL_law_1030 ?_
    refine j_iload C dL_law_1031 rfl ?_
    refine j_i2l C dL_law_1033 ?_
    refine j_lcmp C dL_law_1034 ?_
    refine j_if_eq C 1040 dL_law_1035 (fun _ => ?_) (fun h9 => absurd (lg_eq (by rw [hm.1]; exact hv1 h)) h9) (by decide)
    refine j_goto C 1847 dL_law_1040 ?_ (by decide)
    exact j_wide (k' := k + 4) (n' := n + 32) (by simp only [gRm]; omega) (by simp only [gRm]; omega) (j_sub (gLe_c rfl (gLe_c rfl (gLe_c rfl (gLe_c rfl (gLe_c rfl (gLe_c rfl (gLe_n (gLe_n (gLe_n (gLe_n gLe_0)))))))))) (hnx _ _ (hA2) (hC2) (hR2)))
set_option maxHeartbeats 4000000 in
set_option maxRecDepth 100000 in
theorem lw_c17 {G : gG} {X : gX} {b L : Nat} {sx : Nat → Int32} (LW : gLw G X b L sx) {i k n : Nat} (hi : i + 4 ≤ L) (hk : k ≤ 3000) (hn : n ≤ 30000) {A : gSt0} {M : gMem} (hA : gOk A) (hC : gRC A M) (hR : gRM A M) (hnx : ∀ A' M', gOk A' → gRC A' M' → gRM A' M' → Q G X (k + 4) (n + 32) 1847 (gLv G b i) [] M') : Q G X k n 1043 (gLv G b i) [] M := by
  obtain ⟨C, hX, hbl, hbA, hL⟩ := LW
  refine j_aload_n C dL_law_1043 rfl ?_
  refine j_aload_n C dL_law_1044 rfl ?_
  refine j_iload C dL_law_1045 rfl ?_
  refine j_iconst C (v := nI 1) dL_law_1047 rfl ?_
  refine q_iadd C dL_law_1048 ?_
  refine j_sld C hX hbl hbA hL (by omega) dL_law_1049 ?_
  refine j_aload_n C dL_law_1050 rfl ?_
  refine j_iload C dL_law_1051 rfl ?_
  refine j_iconst C (v := nI 2) dL_law_1053 rfl ?_
  refine q_iadd C dL_law_1054 ?_
  refine j_sld C hX hbl hbA hL (by omega) dL_law_1055 ?_
  refine j_aload_n C dL_law_1056 rfl ?_
  refine q_callHS C (sp_L_isAncestor G M hA.1 hA.2 hC (sx (i + 1)) (sx (i + 2))) rfl kL_isAncestor tL_isAncestor lk_L_168 rfl rfl (Nat.le_of_ble_eq_true rfl) ⟨⟨(Nat.le_of_ble_eq_true rfl), (Nat.le_of_ble_eq_true rfl)⟩, (by show _ ≤ (603072 : Nat); simp only [gRm]; omega), (by show _ ≤ (7211113 : Nat); simp only [gRm]; omega)⟩ dL_law_1057 (fun M1 h1 => ?_)
  obtain ⟨hC1, hc1, hv1, hb1⟩ := h1
  have hR1 := rm_cl0 hR hc1
  refine j_istore C dL_law_1060 (by decide) rfl ?_
  refine j_aload_n C dL_law_1062 rfl ?_
  refine j_aload_n C dL_law_1063 rfl ?_
  refine j_iload C dL_law_1064 rfl ?_
  refine j_iconst C (v := nI 1) dL_law_1066 rfl ?_
  refine q_iadd C dL_law_1067 ?_
  refine j_sld C hX hbl hbA hL (by omega) dL_law_1068 ?_
  refine j_aload_n C dL_law_1069 rfl ?_
  refine j_iload C dL_law_1070 rfl ?_
  refine j_iconst C (v := nI 2) dL_law_1072 rfl ?_
  refine q_iadd C dL_law_1073 ?_
  refine j_sld C hX hbl hbA hL (by omega) dL_law_1074 ?_
  refine q_callVS C (sp_X7_isAncestor G M1 hA.1 hR1 (sx (i + 1)) (sx (i + 2))) vX7_isAncestor lk_L_170 rfl (by decide) rfl rfl (Nat.le_of_ble_eq_true rfl) ⟨⟨(Nat.le_of_ble_eq_true rfl), (Nat.le_of_ble_eq_true rfl)⟩, (by show _ ≤ (603072 : Nat); simp only [gRm]; omega), (by show _ ≤ (7211113 : Nat); simp only [gRm]; omega)⟩ dL_law_1075 (fun M2 h2 => ?_)
  obtain ⟨ht, hR2, hm⟩ := h2
  have hA2 := ok_same hA (st_two A _ _ _ : (oTwo A (fAnc A) (sx (i + 1)) (sx (i + 2))).2.2 = A)
  have hC2 := rc_mod hA2.1 hC1 hm
  refine j_istore C dL_law_1078 (by decide) rfl ?_
  refine j_aload_n C dL_law_1080 rfl ?_
  refine q_callV C (sp_X7_thrown G M2) vX7_thrown lk_L_112 rfl (by decide) rfl rfl (Nat.le_of_ble_eq_true rfl) ⟨⟨(Nat.le_of_ble_eq_true rfl), (Nat.le_of_ble_eq_true rfl)⟩, (by show _ ≤ (603072 : Nat); simp only [gRm]; omega), (by show _ ≤ (7211113 : Nat); simp only [gRm]; omega)⟩ dL_law_1081 ?_
  refine j_iload C dL_law_1084 rfl ?_
  refine j_icmp_eq C 1091 dL_law_1086 (fun _ => ?_) (fun h => absurd ht h) (by decide)
  refine j_iload C dL_law_1091 rfl ?_
  refine q_ifz_ne C 1115 dL_law_1093 (by decide) (Nat.lt_trans hb1 (by decide)) (fun h => ?_) (fun h => ?_)
  · skip
    refine j_goto C 1847 dL_law_1115 ?_ (by decide)
    exact j_wide (k' := k + 4) (n' := n + 32) (by simp only [gRm]; omega) (by simp only [gRm]; omega) (j_sub (gLe_c rfl (gLe_c rfl (gLe_c rfl (gLe_c rfl (gLe_c rfl (gLe_c rfl (gLe_n (gLe_n (gLe_n (gLe_n gLe_0)))))))))) (hnx _ _ (hA2) (hC2) (hR2)))
  · skip
    refine j_aload_n C dL_law_1096 rfl ?_
    refine j_iconst C (v := nI 0) dL_law_1097 rfl ?_
    refine q_lald C rfl (by decide) (by decide) (by decide) dL_law_1098 ?_
    refine j_iload C dL_law_1099 rfl ?_
    refine q_if_eq0 C 1108 dL_law_1101 (by decide) (fun hb => ?_) (fun hb => ?_)
    · skip
      refine j_lconst C (v := 0) dL_law_1108 rfl ?_
      refine j_lcmp C dL_law_1109 ?_
      refine j_if_eq C 1115 dL_law_1110 (fun _ => ?_) (fun h9 => absurd (lg_eq (by rw [hm.1, hv1 h, ancQ_eq, hb]; rfl)) h9) (by decide)
      refine j_goto C 1847 dL_law_1115 ?_ (by decide)
      exact j_wide (k' := k + 4) (n' := n + 32) (by simp only [gRm]; omega) (by simp only [gRm]; omega) (j_sub (gLe_c rfl (gLe_c rfl (gLe_c rfl (gLe_c rfl (gLe_c rfl (gLe_c rfl (gLe_n (gLe_n (gLe_n (gLe_n gLe_0)))))))))) (hnx _ _ (hA2) (hC2) (hR2)))
    · skip
      refine j_lconst C (v := 1) dL_law_1104 rfl ?_
      refine j_goto C 1109 dL_law_1105 ?_ (by decide)
      refine j_lcmp C dL_law_1109 ?_
      refine j_if_eq C 1115 dL_law_1110 (fun _ => ?_) (fun h9 => absurd (lg_eq (by rw [hm.1, hv1 h, ancQ_eq, hb]; rfl)) h9) (by decide)
      refine j_goto C 1847 dL_law_1115 ?_ (by decide)
      exact j_wide (k' := k + 4) (n' := n + 32) (by simp only [gRm]; omega) (by simp only [gRm]; omega) (j_sub (gLe_c rfl (gLe_c rfl (gLe_c rfl (gLe_c rfl (gLe_c rfl (gLe_c rfl (gLe_n (gLe_n (gLe_n (gLe_n gLe_0)))))))))) (hnx _ _ (hA2) (hC2) (hR2)))
set_option maxHeartbeats 4000000 in
set_option maxRecDepth 100000 in
theorem lw_c18 {G : gG} {X : gX} {b L : Nat} {sx : Nat → Int32} (LW : gLw G X b L sx) {i k n : Nat} (hi : i + 4 ≤ L) (hk : k ≤ 3000) (hn : n ≤ 30000) {A : gSt0} {M : gMem} (hA : gOk A) (hC : gRC A M) (hR : gRM A M) (hnx : ∀ A' M', gOk A' → gRC A' M' → gRM A' M' → Q G X (k + 4) (n + 32) 1847 (gLv G b i) [] M') : Q G X k n 1118 (gLv G b i) [] M := by
  obtain ⟨C, hX, hbl, hbA, hL⟩ := LW
  refine j_aload_n C dL_law_1118 rfl ?_
  refine j_aload_n C dL_law_1119 rfl ?_
  refine j_iload C dL_law_1120 rfl ?_
  refine j_iconst C (v := nI 1) dL_law_1122 rfl ?_
  refine q_iadd C dL_law_1123 ?_
  refine j_sld C hX hbl hbA hL (by omega) dL_law_1124 ?_
  refine j_aload_n C dL_law_1125 rfl ?_
  refine j_iload C dL_law_1126 rfl ?_
  refine j_iconst C (v := nI 2) dL_law_1128 rfl ?_
  refine q_iadd C dL_law_1129 ?_
  refine j_sld C hX hbl hbA hL (by omega) dL_law_1130 ?_
  refine j_aload_n C dL_law_1131 rfl ?_
  refine q_callHS C (sp_L_isAncestorByWalking G M hA.1 hA.2 hC (sx (i + 1)) (sx (i + 2))) rfl kL_isAncestorByWalking tL_isAncestorByWalking lk_L_171 rfl rfl (Nat.le_of_ble_eq_true rfl) ⟨⟨(Nat.le_of_ble_eq_true rfl), (Nat.le_of_ble_eq_true rfl)⟩, (by show _ ≤ (603072 : Nat); simp only [gRm]; omega), (by show _ ≤ (7211113 : Nat); simp only [gRm]; omega)⟩ dL_law_1132 (fun M1 h1 => ?_)
  obtain ⟨hC1, hc1, hv1, hb1⟩ := h1
  have hR1 := rm_cl0 hR hc1
  refine j_istore C dL_law_1135 (by decide) rfl ?_
  refine j_aload_n C dL_law_1137 rfl ?_
  refine j_aload_n C dL_law_1138 rfl ?_
  refine j_iload C dL_law_1139 rfl ?_
  refine j_iconst C (v := nI 1) dL_law_1141 rfl ?_
  refine q_iadd C dL_law_1142 ?_
  refine j_sld C hX hbl hbA hL (by omega) dL_law_1143 ?_
  refine j_aload_n C dL_law_1144 rfl ?_
  refine j_iload C dL_law_1145 rfl ?_
  refine j_iconst C (v := nI 2) dL_law_1147 rfl ?_
  refine q_iadd C dL_law_1148 ?_
  refine j_sld C hX hbl hbA hL (by omega) dL_law_1149 ?_
  refine q_callVS C (sp_X7_isAncestorByWalking G M1 hA.1 hR1 (sx (i + 1)) (sx (i + 2))) vX7_isAncestorByWalking lk_L_173 rfl (by decide) rfl rfl (Nat.le_of_ble_eq_true rfl) ⟨⟨(Nat.le_of_ble_eq_true rfl), (Nat.le_of_ble_eq_true rfl)⟩, (by show _ ≤ (603072 : Nat); simp only [gRm]; omega), (by show _ ≤ (7211113 : Nat); simp only [gRm]; omega)⟩ dL_law_1150 (fun M2 h2 => ?_)
  obtain ⟨ht, hR2, hm⟩ := h2
  have hA2 := ok_same hA (st_two A _ _ _ : (oTwo A (fAnc A) (sx (i + 1)) (sx (i + 2))).2.2 = A)
  have hC2 := rc_mod hA2.1 hC1 hm
  refine j_istore C dL_law_1153 (by decide) rfl ?_
  refine j_aload_n C dL_law_1155 rfl ?_
  refine q_callV C (sp_X7_thrown G M2) vX7_thrown lk_L_112 rfl (by decide) rfl rfl (Nat.le_of_ble_eq_true rfl) ⟨⟨(Nat.le_of_ble_eq_true rfl), (Nat.le_of_ble_eq_true rfl)⟩, (by show _ ≤ (603072 : Nat); simp only [gRm]; omega), (by show _ ≤ (7211113 : Nat); simp only [gRm]; omega)⟩ dL_law_1156 ?_
  refine j_iload C dL_law_1159 rfl ?_
  refine j_icmp_eq C 1166 dL_law_1161 (fun _ => ?_) (fun h => absurd ht h) (by decide)
  refine j_iload C dL_law_1166 rfl ?_
  refine q_ifz_ne C 1190 dL_law_1168 (by decide) (Nat.lt_trans hb1 (by decide)) (fun h => ?_) (fun h => ?_)
  · skip
    refine j_goto C 1847 dL_law_1190 ?_ (by decide)
    exact j_wide (k' := k + 4) (n' := n + 32) (by simp only [gRm]; omega) (by simp only [gRm]; omega) (j_sub (gLe_c rfl (gLe_c rfl (gLe_c rfl (gLe_c rfl (gLe_c rfl (gLe_c rfl (gLe_n (gLe_n (gLe_n (gLe_n gLe_0)))))))))) (hnx _ _ (hA2) (hC2) (hR2)))
  · skip
    refine j_aload_n C dL_law_1171 rfl ?_
    refine j_iconst C (v := nI 0) dL_law_1172 rfl ?_
    refine q_lald C rfl (by decide) (by decide) (by decide) dL_law_1173 ?_
    refine j_iload C dL_law_1174 rfl ?_
    refine q_if_eq0 C 1183 dL_law_1176 (by decide) (fun hb => ?_) (fun hb => ?_)
    · skip
      refine j_lconst C (v := 0) dL_law_1183 rfl ?_
      refine j_lcmp C dL_law_1184 ?_
      refine j_if_eq C 1190 dL_law_1185 (fun _ => ?_) (fun h9 => absurd (lg_eq (by rw [hm.1, hv1 h, ancQ_eq, hb]; rfl)) h9) (by decide)
      refine j_goto C 1847 dL_law_1190 ?_ (by decide)
      exact j_wide (k' := k + 4) (n' := n + 32) (by simp only [gRm]; omega) (by simp only [gRm]; omega) (j_sub (gLe_c rfl (gLe_c rfl (gLe_c rfl (gLe_c rfl (gLe_c rfl (gLe_c rfl (gLe_n (gLe_n (gLe_n (gLe_n gLe_0)))))))))) (hnx _ _ (hA2) (hC2) (hR2)))
    · skip
      refine j_lconst C (v := 1) dL_law_1179 rfl ?_
      refine j_goto C 1184 dL_law_1180 ?_ (by decide)
      refine j_lcmp C dL_law_1184 ?_
      refine j_if_eq C 1190 dL_law_1185 (fun _ => ?_) (fun h9 => absurd (lg_eq (by rw [hm.1, hv1 h, ancQ_eq, hb]; rfl)) h9) (by decide)
      refine j_goto C 1847 dL_law_1190 ?_ (by decide)
      exact j_wide (k' := k + 4) (n' := n + 32) (by simp only [gRm]; omega) (by simp only [gRm]; omega) (j_sub (gLe_c rfl (gLe_c rfl (gLe_c rfl (gLe_c rfl (gLe_c rfl (gLe_c rfl (gLe_n (gLe_n (gLe_n (gLe_n gLe_0)))))))))) (hnx _ _ (hA2) (hC2) (hR2)))
set_option maxHeartbeats 4000000 in
set_option maxRecDepth 100000 in
theorem lw_c19 {G : gG} {X : gX} {b L : Nat} {sx : Nat → Int32} (LW : gLw G X b L sx) {i k n : Nat} (hi : i + 4 ≤ L) (hk : k ≤ 3000) (hn : n ≤ 30000) {A : gSt0} {M : gMem} (hA : gOk A) (hC : gRC A M) (hR : gRM A M) (hnx : ∀ A' M', gOk A' → gRC A' M' → gRM A' M' → Q G X (k + 4) (n + 32) 1847 (gLv G b i) [] M') : Q G X k n 1193 (gLv G b i) [] M := by
  obtain ⟨C, hX, hbl, hbA, hL⟩ := LW
  refine j_aload_n C dL_law_1193 rfl ?_
  refine j_aload_n C dL_law_1194 rfl ?_
  refine j_iload C dL_law_1195 rfl ?_
  refine j_iconst C (v := nI 1) dL_law_1197 rfl ?_
  refine q_iadd C dL_law_1198 ?_
  refine j_sld C hX hbl hbA hL (by omega) dL_law_1199 ?_
  refine j_aload_n C dL_law_1200 rfl ?_
  refine j_iload C dL_law_1201 rfl ?_
  refine j_iconst C (v := nI 2) dL_law_1203 rfl ?_
  refine q_iadd C dL_law_1204 ?_
  refine j_sld C hX hbl hbA hL (by omega) dL_law_1205 ?_
  refine j_aload_n C dL_law_1206 rfl ?_
  refine q_callHS C (sp_L_base G M hA.1 hA.2 hC (sx (i + 1)) (sx (i + 2))) rfl kL_base tL_base lk_L_174 rfl rfl (Nat.le_of_ble_eq_true rfl) ⟨⟨(Nat.le_of_ble_eq_true rfl), (Nat.le_of_ble_eq_true rfl)⟩, (by show _ ≤ (603072 : Nat); simp only [gRm]; omega), (by show _ ≤ (7211113 : Nat); simp only [gRm]; omega)⟩ dL_law_1207 (fun M1 h1 => ?_)
  obtain ⟨hC1, hc1, hv1, hb1⟩ := h1
  have hR1 := rm_cl0 hR hc1
  refine j_istore C dL_law_1210 (by decide) rfl ?_
  refine j_aload_n C dL_law_1212 rfl ?_
  refine j_aload_n C dL_law_1213 rfl ?_
  refine j_iload C dL_law_1214 rfl ?_
  refine j_iconst C (v := nI 1) dL_law_1216 rfl ?_
  refine q_iadd C dL_law_1217 ?_
  refine j_sld C hX hbl hbA hL (by omega) dL_law_1218 ?_
  refine j_aload_n C dL_law_1219 rfl ?_
  refine j_iload C dL_law_1220 rfl ?_
  refine j_iconst C (v := nI 2) dL_law_1222 rfl ?_
  refine q_iadd C dL_law_1223 ?_
  refine j_sld C hX hbl hbA hL (by omega) dL_law_1224 ?_
  refine q_callVS C (sp_X7_base G M1 hA.1 hR1 (sx (i + 1)) (sx (i + 2))) vX7_base lk_L_176 rfl (by decide) rfl rfl (Nat.le_of_ble_eq_true rfl) ⟨⟨(Nat.le_of_ble_eq_true rfl), (Nat.le_of_ble_eq_true rfl)⟩, (by show _ ≤ (603072 : Nat); simp only [gRm]; omega), (by show _ ≤ (7211113 : Nat); simp only [gRm]; omega)⟩ dL_law_1225 (fun M2 h2 => ?_)
  obtain ⟨ht, hR2, hm⟩ := h2
  have hA2 := ok_same hA (st_two A _ _ _ : (oTwo A (fBase A) (sx (i + 1)) (sx (i + 2))).2.2 = A)
  have hC2 := rc_mod hA2.1 hC1 hm
  refine j_istore C dL_law_1228 (by decide) rfl ?_
  refine j_aload_n C dL_law_1230 rfl ?_
  refine q_callV C (sp_X7_thrown G M2) vX7_thrown lk_L_112 rfl (by decide) rfl rfl (Nat.le_of_ble_eq_true rfl) ⟨⟨(Nat.le_of_ble_eq_true rfl), (Nat.le_of_ble_eq_true rfl)⟩, (by show _ ≤ (603072 : Nat); simp only [gRm]; omega), (by show _ ≤ (7211113 : Nat); simp only [gRm]; omega)⟩ dL_law_1231 ?_
  refine j_iload C dL_law_1234 rfl ?_
  refine j_icmp_eq C 1241 dL_law_1236 (fun _ => ?_) (fun h => absurd ht h) (by decide)
  refine j_iload C dL_law_1241 rfl ?_
  refine q_ifz_ne C 1258 dL_law_1243 (by decide) (Nat.lt_trans hb1 (by decide)) (fun h => ?_) (fun h => ?_)
  · skip
    refine j_goto C 1847 dL_law_1258 ?_ (by decide)
    exact j_wide (k' := k + 4) (n' := n + 32) (by simp only [gRm]; omega) (by simp only [gRm]; omega) (j_sub (gLe_c rfl (gLe_c rfl (gLe_c rfl (gLe_c rfl (gLe_c rfl (gLe_c rfl (gLe_n (gLe_n (gLe_n (gLe_n gLe_0)))))))))) (hnx _ _ (hA2) (hC2) (hR2)))
  · skip
    refine j_aload_n C dL_law_1246 rfl ?_
    refine j_iconst C (v := nI 0) dL_law_1247 rfl ?_
    refine q_lald C rfl (by decide) (by decide) (by decide) dL_law_1248 ?_
    refine j_iload C dL_law_1249 rfl ?_
    refine j_i2l C dL_law_1251 ?_
    refine j_lcmp C dL_law_1252 ?_
    refine j_if_eq C 1258 dL_law_1253 (fun _ => ?_) (fun h9 => absurd (lg_eq (by rw [hm.1]; exact hv1 h)) h9) (by decide)
    refine j_goto C 1847 dL_law_1258 ?_ (by decide)
    exact j_wide (k' := k + 4) (n' := n + 32) (by simp only [gRm]; omega) (by simp only [gRm]; omega) (j_sub (gLe_c rfl (gLe_c rfl (gLe_c rfl (gLe_c rfl (gLe_c rfl (gLe_c rfl (gLe_n (gLe_n (gLe_n (gLe_n gLe_0)))))))))) (hnx _ _ (hA2) (hC2) (hR2)))
set_option maxHeartbeats 4000000 in
set_option maxRecDepth 100000 in
theorem lw_c20 {G : gG} {X : gX} {b L : Nat} {sx : Nat → Int32} (LW : gLw G X b L sx) {i k n : Nat} (hi : i + 4 ≤ L) (hk : k ≤ 3000) (hn : n ≤ 30000) {A : gSt0} {M : gMem} (hA : gOk A) (hC : gRC A M) (hR : gRM A M) (hnx : ∀ A' M', gOk A' → gRC A' M' → gRM A' M' → Q G X (k + 4) (n + 32) 1847 (gLv G b i) [] M') : Q G X k n 1261 (gLv G b i) [] M := by
  obtain ⟨C, hX, hbl, hbA, hL⟩ := LW
  refine j_aload_n C dL_law_1261 rfl ?_
  refine j_aload_n C dL_law_1262 rfl ?_
  refine j_iload C dL_law_1263 rfl ?_
  refine j_iconst C (v := nI 1) dL_law_1265 rfl ?_
  refine q_iadd C dL_law_1266 ?_
  refine j_sld C hX hbl hbA hL (by omega) dL_law_1267 ?_
  refine j_aload_n C dL_law_1268 rfl ?_
  refine j_iload C dL_law_1269 rfl ?_
  refine j_iconst C (v := nI 2) dL_law_1271 rfl ?_
  refine q_iadd C dL_law_1272 ?_
  refine j_sld C hX hbl hbA hL (by omega) dL_law_1273 ?_
  refine j_aload_n C dL_law_1274 rfl ?_
  refine q_callHS C (sp_L_baseByWalking G M hA.1 hA.2 hC (sx (i + 1)) (sx (i + 2))) rfl kL_baseByWalking tL_baseByWalking lk_L_177 rfl rfl (Nat.le_of_ble_eq_true rfl) ⟨⟨(Nat.le_of_ble_eq_true rfl), (Nat.le_of_ble_eq_true rfl)⟩, (by show _ ≤ (603072 : Nat); simp only [gRm]; omega), (by show _ ≤ (7211113 : Nat); simp only [gRm]; omega)⟩ dL_law_1275 (fun M1 h1 => ?_)
  obtain ⟨hC1, hc1, hv1, hb1⟩ := h1
  have hR1 := rm_cl0 hR hc1
  refine j_istore C dL_law_1278 (by decide) rfl ?_
  refine j_aload_n C dL_law_1280 rfl ?_
  refine j_aload_n C dL_law_1281 rfl ?_
  refine j_iload C dL_law_1282 rfl ?_
  refine j_iconst C (v := nI 1) dL_law_1284 rfl ?_
  refine q_iadd C dL_law_1285 ?_
  refine j_sld C hX hbl hbA hL (by omega) dL_law_1286 ?_
  refine j_aload_n C dL_law_1287 rfl ?_
  refine j_iload C dL_law_1288 rfl ?_
  refine j_iconst C (v := nI 2) dL_law_1290 rfl ?_
  refine q_iadd C dL_law_1291 ?_
  refine j_sld C hX hbl hbA hL (by omega) dL_law_1292 ?_
  refine q_callVS C (sp_X7_baseByWalking G M1 hA.1 hR1 (sx (i + 1)) (sx (i + 2))) vX7_baseByWalking lk_L_179 rfl (by decide) rfl rfl (Nat.le_of_ble_eq_true rfl) ⟨⟨(Nat.le_of_ble_eq_true rfl), (Nat.le_of_ble_eq_true rfl)⟩, (by show _ ≤ (603072 : Nat); simp only [gRm]; omega), (by show _ ≤ (7211113 : Nat); simp only [gRm]; omega)⟩ dL_law_1293 (fun M2 h2 => ?_)
  obtain ⟨ht, hR2, hm⟩ := h2
  have hA2 := ok_same hA (st_two A _ _ _ : (oTwo A (fBase A) (sx (i + 1)) (sx (i + 2))).2.2 = A)
  have hC2 := rc_mod hA2.1 hC1 hm
  refine j_istore C dL_law_1296 (by decide) rfl ?_
  refine j_aload_n C dL_law_1298 rfl ?_
  refine q_callV C (sp_X7_thrown G M2) vX7_thrown lk_L_112 rfl (by decide) rfl rfl (Nat.le_of_ble_eq_true rfl) ⟨⟨(Nat.le_of_ble_eq_true rfl), (Nat.le_of_ble_eq_true rfl)⟩, (by show _ ≤ (603072 : Nat); simp only [gRm]; omega), (by show _ ≤ (7211113 : Nat); simp only [gRm]; omega)⟩ dL_law_1299 ?_
  refine j_iload C dL_law_1302 rfl ?_
  refine j_icmp_eq C 1309 dL_law_1304 (fun _ => ?_) (fun h => absurd ht h) (by decide)
  refine j_iload C dL_law_1309 rfl ?_
  refine q_ifz_ne C 1326 dL_law_1311 (by decide) (Nat.lt_trans hb1 (by decide)) (fun h => ?_) (fun h => ?_)
  · skip
    refine j_goto C 1847 dL_law_1326 ?_ (by decide)
    exact j_wide (k' := k + 4) (n' := n + 32) (by simp only [gRm]; omega) (by simp only [gRm]; omega) (j_sub (gLe_c rfl (gLe_c rfl (gLe_c rfl (gLe_c rfl (gLe_c rfl (gLe_c rfl (gLe_n (gLe_n (gLe_n (gLe_n gLe_0)))))))))) (hnx _ _ (hA2) (hC2) (hR2)))
  · skip
    refine j_aload_n C dL_law_1314 rfl ?_
    refine j_iconst C (v := nI 0) dL_law_1315 rfl ?_
    refine q_lald C rfl (by decide) (by decide) (by decide) dL_law_1316 ?_
    refine j_iload C dL_law_1317 rfl ?_
    refine j_i2l C dL_law_1319 ?_
    refine j_lcmp C dL_law_1320 ?_
    refine j_if_eq C 1326 dL_law_1321 (fun _ => ?_) (fun h9 => absurd (lg_eq (by rw [hm.1]; exact hv1 h)) h9) (by decide)
    refine j_goto C 1847 dL_law_1326 ?_ (by decide)
    exact j_wide (k' := k + 4) (n' := n + 32) (by simp only [gRm]; omega) (by simp only [gRm]; omega) (j_sub (gLe_c rfl (gLe_c rfl (gLe_c rfl (gLe_c rfl (gLe_c rfl (gLe_c rfl (gLe_n (gLe_n (gLe_n (gLe_n gLe_0)))))))))) (hnx _ _ (hA2) (hC2) (hR2)))
set_option maxHeartbeats 4000000 in
set_option maxRecDepth 100000 in
theorem lw_c21 {G : gG} {X : gX} {b L : Nat} {sx : Nat → Int32} (LW : gLw G X b L sx) {i k n : Nat} (hi : i + 4 ≤ L) (hk : k ≤ 3000) (hn : n ≤ 30000) {A : gSt0} {M : gMem} (hA : gOk A) (hC : gRC A M) (hR : gRM A M) (hnx : ∀ A' M', gOk A' → gRC A' M' → gRM A' M' → Q G X (k + 4) (n + 32) 1847 (gLv G b i) [] M') : Q G X k n 1329 (gLv G b i) [] M := by
  obtain ⟨C, hX, hbl, hbA, hL⟩ := LW
  refine j_aload_n C dL_law_1329 rfl ?_
  refine j_aload_n C dL_law_1330 rfl ?_
  refine j_iload C dL_law_1331 rfl ?_
  refine j_iconst C (v := nI 1) dL_law_1333 rfl ?_
  refine q_iadd C dL_law_1334 ?_
  refine j_sld C hX hbl hbA hL (by omega) dL_law_1335 ?_
  refine j_aload_n C dL_law_1336 rfl ?_
  refine j_iload C dL_law_1337 rfl ?_
  refine j_iconst C (v := nI 2) dL_law_1339 rfl ?_
  refine q_iadd C dL_law_1340 ?_
  refine j_sld C hX hbl hbA hL (by omega) dL_law_1341 ?_
  refine j_aload_n C dL_law_1342 rfl ?_
  refine q_callHS C (sp_L_bases G M hA.1 hA.2 hC (sx (i + 1)) (sx (i + 2))) rfl kL_bases tL_bases lk_L_180 rfl rfl (Nat.le_of_ble_eq_true rfl) ⟨⟨(Nat.le_of_ble_eq_true rfl), (Nat.le_of_ble_eq_true rfl)⟩, (by show _ ≤ (603072 : Nat); simp only [gRm]; omega), (by show _ ≤ (7211113 : Nat); simp only [gRm]; omega)⟩ dL_law_1343 (fun M1 h1 => ?_)
  obtain ⟨hC1, hc1, hv1, hb1⟩ := h1
  have hR1 := rm_cl0 hR hc1
  refine j_istore C dL_law_1346 (by decide) rfl ?_
  refine j_aload_n C dL_law_1348 rfl ?_
  refine j_aload_n C dL_law_1349 rfl ?_
  refine j_iload C dL_law_1350 rfl ?_
  refine j_iconst C (v := nI 1) dL_law_1352 rfl ?_
  refine q_iadd C dL_law_1353 ?_
  refine j_sld C hX hbl hbA hL (by omega) dL_law_1354 ?_
  refine j_aload_n C dL_law_1355 rfl ?_
  refine j_iload C dL_law_1356 rfl ?_
  refine j_iconst C (v := nI 2) dL_law_1358 rfl ?_
  refine q_iadd C dL_law_1359 ?_
  refine j_sld C hX hbl hbA hL (by omega) dL_law_1360 ?_
  refine q_callVS C (sp_X7_bases G M1 hA.1 hR1 (sx (i + 1)) (sx (i + 2))) vX7_bases lk_L_182 rfl (by decide) rfl rfl (Nat.le_of_ble_eq_true rfl) ⟨⟨(Nat.le_of_ble_eq_true rfl), (Nat.le_of_ble_eq_true rfl)⟩, (by show _ ≤ (603072 : Nat); simp only [gRm]; omega), (by show _ ≤ (7211113 : Nat); simp only [gRm]; omega)⟩ dL_law_1361 (fun M2 h2 => ?_)
  obtain ⟨ht, hR2, hm⟩ := h2
  have hA2 := ok_same hA (st_two A _ _ _ : (oTwo A (fBases A) (sx (i + 1)) (sx (i + 2))).2.2 = A)
  have hC2 := rc_mod hA2.1 hC1 hm
  refine j_istore C dL_law_1364 (by decide) rfl ?_
  refine j_aload_n C dL_law_1366 rfl ?_
  refine q_callV C (sp_X7_thrown G M2) vX7_thrown lk_L_112 rfl (by decide) rfl rfl (Nat.le_of_ble_eq_true rfl) ⟨⟨(Nat.le_of_ble_eq_true rfl), (Nat.le_of_ble_eq_true rfl)⟩, (by show _ ≤ (603072 : Nat); simp only [gRm]; omega), (by show _ ≤ (7211113 : Nat); simp only [gRm]; omega)⟩ dL_law_1367 ?_
  refine j_iload C dL_law_1370 rfl ?_
  refine j_icmp_eq C 1377 dL_law_1372 (fun _ => ?_) (fun h => absurd ht h) (by decide)
  refine j_iload C dL_law_1377 rfl ?_
  refine q_ifz_ne C 1394 dL_law_1379 (by decide) (Nat.lt_trans hb1 (by decide)) (fun h => ?_) (fun h => ?_)
  · skip
    refine j_goto C 1847 dL_law_1394 ?_ (by decide)
    exact j_wide (k' := k + 4) (n' := n + 32) (by simp only [gRm]; omega) (by simp only [gRm]; omega) (j_sub (gLe_c rfl (gLe_c rfl (gLe_c rfl (gLe_c rfl (gLe_c rfl (gLe_c rfl (gLe_n (gLe_n (gLe_n (gLe_n gLe_0)))))))))) (hnx _ _ (hA2) (hC2) (hR2)))
  · skip
    refine j_aload_n C dL_law_1382 rfl ?_
    refine j_iconst C (v := nI 0) dL_law_1383 rfl ?_
    refine q_lald C rfl (by decide) (by decide) (by decide) dL_law_1384 ?_
    refine j_iload C dL_law_1385 rfl ?_
    refine j_i2l C dL_law_1387 ?_
    refine j_lcmp C dL_law_1388 ?_
    refine j_if_eq C 1394 dL_law_1389 (fun _ => ?_) (fun h9 => absurd (lg_eq (by rw [hm.1]; exact hv1 h)) h9) (by decide)
    refine j_goto C 1847 dL_law_1394 ?_ (by decide)
    exact j_wide (k' := k + 4) (n' := n + 32) (by simp only [gRm]; omega) (by simp only [gRm]; omega) (j_sub (gLe_c rfl (gLe_c rfl (gLe_c rfl (gLe_c rfl (gLe_c rfl (gLe_c rfl (gLe_n (gLe_n (gLe_n (gLe_n gLe_0)))))))))) (hnx _ _ (hA2) (hC2) (hR2)))
set_option maxHeartbeats 4000000 in
set_option maxRecDepth 100000 in
theorem lw_c22 {G : gG} {X : gX} {b L : Nat} {sx : Nat → Int32} (LW : gLw G X b L sx) {i k n : Nat} (hi : i + 4 ≤ L) (hk : k ≤ 3000) (hn : n ≤ 30000) {A : gSt0} {M : gMem} (hA : gOk A) (hC : gRC A M) (hR : gRM A M) (hnx : ∀ A' M', gOk A' → gRC A' M' → gRM A' M' → Q G X (k + 4) (n + 32) 1847 (gLv G b i) [] M') : Q G X k n 1397 (gLv G b i) [] M := by
  obtain ⟨C, hX, hbl, hbA, hL⟩ := LW
  refine j_aload_n C dL_law_1397 rfl ?_
  refine j_aload_n C dL_law_1398 rfl ?_
  refine j_iload C dL_law_1399 rfl ?_
  refine j_iconst C (v := nI 1) dL_law_1401 rfl ?_
  refine q_iadd C dL_law_1402 ?_
  refine j_sld C hX hbl hbA hL (by omega) dL_law_1403 ?_
  refine j_aload_n C dL_law_1404 rfl ?_
  refine j_iload C dL_law_1405 rfl ?_
  refine j_iconst C (v := nI 2) dL_law_1407 rfl ?_
  refine q_iadd C dL_law_1408 ?_
  refine j_sld C hX hbl hbA hL (by omega) dL_law_1409 ?_
  refine j_aload_n C dL_law_1410 rfl ?_
  refine j_iload C dL_law_1411 rfl ?_
  refine j_iconst C (v := nI 3) dL_law_1413 rfl ?_
  refine q_iadd C dL_law_1414 ?_
  refine j_sld C hX hbl hbA hL (by omega) dL_law_1415 ?_
  refine j_aload_n C dL_law_1416 rfl ?_
  refine q_callHS C (sp_L_movedTo G M hA.1 hA.2 hC (sx (i + 1)) (sx (i + 2)) (sx (i + 3))) rfl kL_movedTo tL_movedTo lk_L_183 rfl rfl (Nat.le_of_ble_eq_true rfl) ⟨⟨(Nat.le_of_ble_eq_true rfl), (Nat.le_of_ble_eq_true rfl)⟩, (by show _ ≤ (603072 : Nat); simp only [gRm]; omega), (by show _ ≤ (7211113 : Nat); simp only [gRm]; omega)⟩ dL_law_1417 (fun M1 h1 => ?_)
  obtain ⟨hC1, hc1, hv1, hb1⟩ := h1
  have hR1 := rm_cl0 hR hc1
  refine j_istore C dL_law_1420 (by decide) rfl ?_
  refine j_aload_n C dL_law_1422 rfl ?_
  refine j_aload_n C dL_law_1423 rfl ?_
  refine j_iload C dL_law_1424 rfl ?_
  refine j_iconst C (v := nI 1) dL_law_1426 rfl ?_
  refine q_iadd C dL_law_1427 ?_
  refine j_sld C hX hbl hbA hL (by omega) dL_law_1428 ?_
  refine j_aload_n C dL_law_1429 rfl ?_
  refine j_iload C dL_law_1430 rfl ?_
  refine j_iconst C (v := nI 2) dL_law_1432 rfl ?_
  refine q_iadd C dL_law_1433 ?_
  refine j_sld C hX hbl hbA hL (by omega) dL_law_1434 ?_
  refine j_aload_n C dL_law_1435 rfl ?_
  refine j_iload C dL_law_1436 rfl ?_
  refine j_iconst C (v := nI 3) dL_law_1438 rfl ?_
  refine q_iadd C dL_law_1439 ?_
  refine j_sld C hX hbl hbA hL (by omega) dL_law_1440 ?_
  refine q_callVS C (sp_X7_movedTo G M1 hA.1 hR1 (sx (i + 1)) (sx (i + 2)) (sx (i + 3))) vX7_movedTo lk_L_186 rfl (by decide) rfl rfl (Nat.le_of_ble_eq_true rfl) ⟨⟨(Nat.le_of_ble_eq_true rfl), (Nat.le_of_ble_eq_true rfl)⟩, (by show _ ≤ (603072 : Nat); simp only [gRm]; omega), (by show _ ≤ (7211113 : Nat); simp only [gRm]; omega)⟩ dL_law_1441 (fun M2 h2 => ?_)
  obtain ⟨ht, hR2, hm⟩ := h2
  have hA2 := ok_same hA (st_movedTo A _ _ _ : (oMovedTo A (sx (i + 1)) (sx (i + 2)) (sx (i + 3))).2.2 = A)
  have hC2 := rc_mod hA2.1 hC1 hm
  refine j_istore C dL_law_1444 (by decide) rfl ?_
  refine j_aload_n C dL_law_1446 rfl ?_
  refine q_callV C (sp_X7_thrown G M2) vX7_thrown lk_L_112 rfl (by decide) rfl rfl (Nat.le_of_ble_eq_true rfl) ⟨⟨(Nat.le_of_ble_eq_true rfl), (Nat.le_of_ble_eq_true rfl)⟩, (by show _ ≤ (603072 : Nat); simp only [gRm]; omega), (by show _ ≤ (7211113 : Nat); simp only [gRm]; omega)⟩ dL_law_1447 ?_
  refine j_iload C dL_law_1450 rfl ?_
  refine j_icmp_eq C 1457 dL_law_1452 (fun _ => ?_) (fun h => absurd ht h) (by decide)
  refine j_iload C dL_law_1457 rfl ?_
  refine q_ifz_ne C 1474 dL_law_1459 (by decide) (Nat.lt_trans hb1 (by decide)) (fun h => ?_) (fun h => ?_)
  · skip
    refine j_goto C 1847 dL_law_1474 ?_ (by decide)
    exact j_wide (k' := k + 4) (n' := n + 32) (by simp only [gRm]; omega) (by simp only [gRm]; omega) (j_sub (gLe_c rfl (gLe_c rfl (gLe_c rfl (gLe_c rfl (gLe_c rfl (gLe_c rfl (gLe_n (gLe_n (gLe_n (gLe_n gLe_0)))))))))) (hnx _ _ (hA2) (hC2) (hR2)))
  · skip
    refine j_aload_n C dL_law_1462 rfl ?_
    refine j_iconst C (v := nI 0) dL_law_1463 rfl ?_
    refine q_lald C rfl (by decide) (by decide) (by decide) dL_law_1464 ?_
    refine j_iload C dL_law_1465 rfl ?_
    refine j_i2l C dL_law_1467 ?_
    refine j_lcmp C dL_law_1468 ?_
    refine j_if_eq C 1474 dL_law_1469 (fun _ => ?_) (fun h9 => absurd (lg_eq (by rw [hm.1]; exact hv1 h)) h9) (by decide)
    refine j_goto C 1847 dL_law_1474 ?_ (by decide)
    exact j_wide (k' := k + 4) (n' := n + 32) (by simp only [gRm]; omega) (by simp only [gRm]; omega) (j_sub (gLe_c rfl (gLe_c rfl (gLe_c rfl (gLe_c rfl (gLe_c rfl (gLe_c rfl (gLe_n (gLe_n (gLe_n (gLe_n gLe_0)))))))))) (hnx _ _ (hA2) (hC2) (hR2)))
set_option maxHeartbeats 4000000 in
set_option maxRecDepth 100000 in
theorem lw_c23 {G : gG} {X : gX} {b L : Nat} {sx : Nat → Int32} (LW : gLw G X b L sx) {i k n : Nat} (hi : i + 4 ≤ L) (hk : k ≤ 3000) (hn : n ≤ 30000) {A : gSt0} {M : gMem} (hA : gOk A) (hC : gRC A M) (hR : gRM A M) (hnx : ∀ A' M', gOk A' → gRC A' M' → gRM A' M' → Q G X (k + 4) (n + 32) 1847 (gLv G b i) [] M') : Q G X k n 1477 (gLv G b i) [] M := by
  obtain ⟨C, hX, hbl, hbA, hL⟩ := LW
  refine j_aload_n C dL_law_1477 rfl ?_
  refine j_aload_n C dL_law_1478 rfl ?_
  refine j_iload C dL_law_1479 rfl ?_
  refine j_iconst C (v := nI 1) dL_law_1481 rfl ?_
  refine q_iadd C dL_law_1482 ?_
  refine j_sld C hX hbl hbA hL (by omega) dL_law_1483 ?_
  refine j_aload_n C dL_law_1484 rfl ?_
  refine j_iload C dL_law_1485 rfl ?_
  refine j_iconst C (v := nI 2) dL_law_1487 rfl ?_
  refine q_iadd C dL_law_1488 ?_
  refine j_sld C hX hbl hbA hL (by omega) dL_law_1489 ?_
  refine j_aload_n C dL_law_1490 rfl ?_
  refine q_callHS C (sp_L_conflicts G M hA.1 hA.2 hC (sx (i + 1)) (sx (i + 2))) rfl kL_conflicts tL_conflicts lk_L_187 rfl rfl (Nat.le_of_ble_eq_true rfl) ⟨⟨(Nat.le_of_ble_eq_true rfl), (Nat.le_of_ble_eq_true rfl)⟩, (by show _ ≤ (603072 : Nat); simp only [gRm]; omega), (by show _ ≤ (7211113 : Nat); simp only [gRm]; omega)⟩ dL_law_1491 (fun M1 h1 => ?_)
  obtain ⟨hC1, hc1, hv1, hb1⟩ := h1
  have hR1 := rm_cl0 hR hc1
  refine j_istore C dL_law_1494 (by decide) rfl ?_
  refine j_aload_n C dL_law_1496 rfl ?_
  refine j_aload_n C dL_law_1497 rfl ?_
  refine j_iload C dL_law_1498 rfl ?_
  refine j_iconst C (v := nI 1) dL_law_1500 rfl ?_
  refine q_iadd C dL_law_1501 ?_
  refine j_sld C hX hbl hbA hL (by omega) dL_law_1502 ?_
  refine j_aload_n C dL_law_1503 rfl ?_
  refine j_iload C dL_law_1504 rfl ?_
  refine j_iconst C (v := nI 2) dL_law_1506 rfl ?_
  refine q_iadd C dL_law_1507 ?_
  refine j_sld C hX hbl hbA hL (by omega) dL_law_1508 ?_
  refine q_callVS C (sp_X7_conflicts G M1 hA.1 hR1 (sx (i + 1)) (sx (i + 2))) vX7_conflicts lk_L_189 rfl (by decide) rfl rfl (Nat.le_of_ble_eq_true rfl) ⟨⟨(Nat.le_of_ble_eq_true rfl), (Nat.le_of_ble_eq_true rfl)⟩, (by show _ ≤ (603072 : Nat); simp only [gRm]; omega), (by show _ ≤ (7211113 : Nat); simp only [gRm]; omega)⟩ dL_law_1509 (fun M2 h2 => ?_)
  obtain ⟨ht, hR2, hm⟩ := h2
  have hA2 := ok_same hA (st_two A _ _ _ : (oTwo A (fConf A) (sx (i + 1)) (sx (i + 2))).2.2 = A)
  have hC2 := rc_mod hA2.1 hC1 hm
  refine j_istore C dL_law_1512 (by decide) rfl ?_
  refine j_aload_n C dL_law_1514 rfl ?_
  refine q_callV C (sp_X7_thrown G M2) vX7_thrown lk_L_112 rfl (by decide) rfl rfl (Nat.le_of_ble_eq_true rfl) ⟨⟨(Nat.le_of_ble_eq_true rfl), (Nat.le_of_ble_eq_true rfl)⟩, (by show _ ≤ (603072 : Nat); simp only [gRm]; omega), (by show _ ≤ (7211113 : Nat); simp only [gRm]; omega)⟩ dL_law_1515 ?_
  refine j_iload C dL_law_1518 rfl ?_
  refine j_icmp_eq C 1525 dL_law_1520 (fun _ => ?_) (fun h => absurd ht h) (by decide)
  refine j_iload C dL_law_1525 rfl ?_
  refine q_ifz_ne C 1542 dL_law_1527 (by decide) (Nat.lt_trans hb1 (by decide)) (fun h => ?_) (fun h => ?_)
  · skip
    refine j_goto C 1847 dL_law_1542 ?_ (by decide)
    exact j_wide (k' := k + 4) (n' := n + 32) (by simp only [gRm]; omega) (by simp only [gRm]; omega) (j_sub (gLe_c rfl (gLe_c rfl (gLe_c rfl (gLe_c rfl (gLe_c rfl (gLe_c rfl (gLe_n (gLe_n (gLe_n (gLe_n gLe_0)))))))))) (hnx _ _ (hA2) (hC2) (hR2)))
  · skip
    refine j_aload_n C dL_law_1530 rfl ?_
    refine j_iconst C (v := nI 0) dL_law_1531 rfl ?_
    refine q_lald C rfl (by decide) (by decide) (by decide) dL_law_1532 ?_
    refine j_iload C dL_law_1533 rfl ?_
    refine j_i2l C dL_law_1535 ?_
    refine j_lcmp C dL_law_1536 ?_
    refine j_if_eq C 1542 dL_law_1537 (fun _ => ?_) (fun h9 => absurd (lg_eq (by rw [hm.1]; exact hv1 h)) h9) (by decide)
    refine j_goto C 1847 dL_law_1542 ?_ (by decide)
    exact j_wide (k' := k + 4) (n' := n + 32) (by simp only [gRm]; omega) (by simp only [gRm]; omega) (j_sub (gLe_c rfl (gLe_c rfl (gLe_c rfl (gLe_c rfl (gLe_c rfl (gLe_c rfl (gLe_n (gLe_n (gLe_n (gLe_n gLe_0)))))))))) (hnx _ _ (hA2) (hC2) (hR2)))
set_option maxHeartbeats 4000000 in
set_option maxRecDepth 100000 in
theorem lw_c24 {G : gG} {X : gX} {b L : Nat} {sx : Nat → Int32} (LW : gLw G X b L sx) {i k n : Nat} (hi : i + 4 ≤ L) (hk : k ≤ 3000) (hn : n ≤ 30000) {A : gSt0} {M : gMem} (hA : gOk A) (hC : gRC A M) (hR : gRM A M) (hnx : ∀ A' M', gOk A' → gRC A' M' → gRM A' M' → Q G X (k + 4) (n + 32) 1847 (gLv G b i) [] M') : Q G X k n 1545 (gLv G b i) [] M := by
  obtain ⟨C, hX, hbl, hbA, hL⟩ := LW
  refine j_aload_n C dL_law_1545 rfl ?_
  refine j_aload_n C dL_law_1546 rfl ?_
  refine j_iload C dL_law_1547 rfl ?_
  refine j_iconst C (v := nI 1) dL_law_1549 rfl ?_
  refine q_iadd C dL_law_1550 ?_
  refine j_sld C hX hbl hbA hL (by omega) dL_law_1551 ?_
  refine j_aload_n C dL_law_1552 rfl ?_
  refine q_callHS C (sp_L_lastChange G M hA.1 hA.2 hC (sx (i + 1))) rfl kL_lastChange tL_lastChange lk_L_190 rfl rfl (Nat.le_of_ble_eq_true rfl) ⟨⟨(Nat.le_of_ble_eq_true rfl), (Nat.le_of_ble_eq_true rfl)⟩, (by show _ ≤ (603072 : Nat); simp only [gRm]; omega), (by show _ ≤ (7211113 : Nat); simp only [gRm]; omega)⟩ dL_law_1553 (fun M1 h1 => ?_)
  obtain ⟨hC1, hc1, hv1, hb1⟩ := h1
  have hR1 := rm_cl0 hR hc1
  refine j_istore C dL_law_1556 (by decide) rfl ?_
  refine j_aload_n C dL_law_1558 rfl ?_
  refine j_aload_n C dL_law_1559 rfl ?_
  refine j_iload C dL_law_1560 rfl ?_
  refine j_iconst C (v := nI 1) dL_law_1562 rfl ?_
  refine q_iadd C dL_law_1563 ?_
  refine j_sld C hX hbl hbA hL (by omega) dL_law_1564 ?_
  refine q_callVS C (sp_X7_lastChange G M1 hA.1 hA.2 hR1 (sx (i + 1))) vX7_lastChange lk_L_192 rfl (by decide) rfl rfl (Nat.le_of_ble_eq_true rfl) ⟨⟨(Nat.le_of_ble_eq_true rfl), (Nat.le_of_ble_eq_true rfl)⟩, (by show _ ≤ (603072 : Nat); simp only [gRm]; omega), (by show _ ≤ (7211113 : Nat); simp only [gRm]; omega)⟩ dL_law_1565 (fun M2 h2 => ?_)
  obtain ⟨ht, hR2, hm⟩ := h2
  have hA2 := ok_same hA (st_lastChange A _ : (oLastChange A (sx (i + 1))).2.2 = A)
  have hC2 := rc_mod hA2.1 hC1 hm
  refine j_istore C dL_law_1568 (by decide) rfl ?_
  refine j_aload_n C dL_law_1570 rfl ?_
  refine q_callV C (sp_X7_thrown G M2) vX7_thrown lk_L_112 rfl (by decide) rfl rfl (Nat.le_of_ble_eq_true rfl) ⟨⟨(Nat.le_of_ble_eq_true rfl), (Nat.le_of_ble_eq_true rfl)⟩, (by show _ ≤ (603072 : Nat); simp only [gRm]; omega), (by show _ ≤ (7211113 : Nat); simp only [gRm]; omega)⟩ dL_law_1571 ?_
  refine j_iload C dL_law_1574 rfl ?_
  refine j_icmp_eq C 1581 dL_law_1576 (fun _ => ?_) (fun h => absurd ht h) (by decide)
  refine j_iload C dL_law_1581 rfl ?_
  refine q_ifz_ne C 1598 dL_law_1583 (by decide) (Nat.lt_trans hb1 (by decide)) (fun h => ?_) (fun h => ?_)
  · skip
    refine j_goto C 1847 dL_law_1598 ?_ (by decide)
    exact j_wide (k' := k + 4) (n' := n + 32) (by simp only [gRm]; omega) (by simp only [gRm]; omega) (j_sub (gLe_c rfl (gLe_c rfl (gLe_c rfl (gLe_c rfl (gLe_c rfl (gLe_c rfl (gLe_n (gLe_n (gLe_n (gLe_n gLe_0)))))))))) (hnx _ _ (hA2) (hC2) (hR2)))
  · skip
    refine j_aload_n C dL_law_1586 rfl ?_
    refine j_iconst C (v := nI 0) dL_law_1587 rfl ?_
    refine q_lald C rfl (by decide) (by decide) (by decide) dL_law_1588 ?_
    refine j_iload C dL_law_1589 rfl ?_
    refine j_i2l C dL_law_1591 ?_
    refine j_lcmp C dL_law_1592 ?_
    refine j_if_eq C 1598 dL_law_1593 (fun _ => ?_) (fun h9 => absurd (lg_eq (by rw [hm.1]; exact hv1 h)) h9) (by decide)
    refine j_goto C 1847 dL_law_1598 ?_ (by decide)
    exact j_wide (k' := k + 4) (n' := n + 32) (by simp only [gRm]; omega) (by simp only [gRm]; omega) (j_sub (gLe_c rfl (gLe_c rfl (gLe_c rfl (gLe_c rfl (gLe_c rfl (gLe_c rfl (gLe_n (gLe_n (gLe_n (gLe_n gLe_0)))))))))) (hnx _ _ (hA2) (hC2) (hR2)))
set_option maxHeartbeats 4000000 in
set_option maxRecDepth 100000 in
theorem lw_c25 {G : gG} {X : gX} {b L : Nat} {sx : Nat → Int32} (LW : gLw G X b L sx) {i k n : Nat} (hi : i + 4 ≤ L) (hk : k ≤ 3000) (hn : n ≤ 30000) {A : gSt0} {M : gMem} (hA : gOk A) (hC : gRC A M) (hR : gRM A M) (hnx : ∀ A' M', gOk A' → gRC A' M' → gRM A' M' → Q G X (k + 4) (n + 32) 1847 (gLv G b i) [] M') : Q G X k n 1601 (gLv G b i) [] M := by
  obtain ⟨C, hX, hbl, hbA, hL⟩ := LW
  refine j_aload_n C dL_law_1601 rfl ?_
  refine q_callV C (sp_X6_packed G M hC) vX6_packed lk_L_193 rfl (by decide) rfl rfl (Nat.le_of_ble_eq_true rfl) ⟨⟨(Nat.le_of_ble_eq_true rfl), (Nat.le_of_ble_eq_true rfl)⟩, (by show _ ≤ (603072 : Nat); simp only [gRm]; omega), (by show _ ≤ (7211113 : Nat); simp only [gRm]; omega)⟩ dL_law_1602 ?_
  refine j_aload_n C dL_law_1605 rfl ?_
  refine q_callVS C (sp_X7_packed G M hA.1 hR) vX7_packed lk_L_196 rfl (by decide) rfl rfl (Nat.le_of_ble_eq_true rfl) ⟨⟨(Nat.le_of_ble_eq_true rfl), (Nat.le_of_ble_eq_true rfl)⟩, (by show _ ≤ (603072 : Nat); simp only [gRm]; omega), (by show _ ≤ (7211113 : Nat); simp only [gRm]; omega)⟩ dL_law_1606 (fun M2 h2 => ?_)
  obtain ⟨ht, hR2, hm⟩ := h2
  have hC2 := rc_mod hA.1 hC hm
  refine j_icmp_eq C 1847 dL_law_1609 (fun _ => ?_) (fun h => absurd rfl h) (by decide)
  exact j_wide (k' := k + 4) (n' := n + 32) (by simp only [gRm]; omega) (by simp only [gRm]; omega) (j_sub (gLe_c rfl (gLe_c rfl (gLe_c rfl (gLe_c rfl (gLe_c rfl (gLe_c rfl (gLe_n (gLe_n (gLe_n (gLe_n gLe_0)))))))))) (hnx _ _ (hA) (hC2) (hR2)))
set_option maxHeartbeats 4000000 in
set_option maxRecDepth 100000 in
theorem lw_c26 {G : gG} {X : gX} {b L : Nat} {sx : Nat → Int32} (LW : gLw G X b L sx) {i k n : Nat} (hi : i + 4 ≤ L) (hk : k ≤ 3000) (hn : n ≤ 30000) {A : gSt0} {M : gMem} (hA : gOk A) (hC : gRC A M) (hR : gRM A M) (hnx : ∀ A' M', gOk A' → gRC A' M' → gRM A' M' → Q G X (k + 4) (n + 32) 1847 (gLv G b i) [] M') : Q G X k n 1614 (gLv G b i) [] M := by
  obtain ⟨C, hX, hbl, hbA, hL⟩ := LW
  refine j_aload_n C dL_law_1614 rfl ?_
  refine j_aload_n C dL_law_1615 rfl ?_
  refine j_iload C dL_law_1616 rfl ?_
  refine j_iconst C (v := nI 1) dL_law_1618 rfl ?_
  refine q_iadd C dL_law_1619 ?_
  refine j_sld C hX hbl hbA hL (by omega) dL_law_1620 ?_
  refine j_aload_n C dL_law_1621 rfl ?_
  refine q_callHS C (sp_L_depthOf G M hA.1 hA.2 hC (sx (i + 1))) rfl kL_depthOf tL_depthOf lk_L_197 rfl rfl (Nat.le_of_ble_eq_true rfl) ⟨⟨(Nat.le_of_ble_eq_true rfl), (Nat.le_of_ble_eq_true rfl)⟩, (by show _ ≤ (603072 : Nat); simp only [gRm]; omega), (by show _ ≤ (7211113 : Nat); simp only [gRm]; omega)⟩ dL_law_1622 (fun M1 h1 => ?_)
  obtain ⟨hC1, hc1, hv1, hb1⟩ := h1
  have hR1 := rm_cl0 hR hc1
  refine j_istore C dL_law_1625 (by decide) rfl ?_
  refine j_aload_n C dL_law_1627 rfl ?_
  refine j_aload_n C dL_law_1628 rfl ?_
  refine j_iload C dL_law_1629 rfl ?_
  refine j_iconst C (v := nI 1) dL_law_1631 rfl ?_
  refine q_iadd C dL_law_1632 ?_
  refine j_sld C hX hbl hbA hL (by omega) dL_law_1633 ?_
  refine q_callVS C (sp_X7_depthOf G M1 hA.1 hR1 (sx (i + 1))) vX7_depthOf lk_L_199 rfl (by decide) rfl rfl (Nat.le_of_ble_eq_true rfl) ⟨⟨(Nat.le_of_ble_eq_true rfl), (Nat.le_of_ble_eq_true rfl)⟩, (by show _ ≤ (603072 : Nat); simp only [gRm]; omega), (by show _ ≤ (7211113 : Nat); simp only [gRm]; omega)⟩ dL_law_1634 (fun M2 h2 => ?_)
  obtain ⟨ht, hR2, hm⟩ := h2
  have hA2 := ok_same hA (st_depthOf A _ : (oDepthOf A (sx (i + 1))).2.2 = A)
  have hC2 := rc_mod hA2.1 hC1 hm
  refine j_istore C dL_law_1637 (by decide) rfl ?_
  refine j_aload_n C dL_law_1639 rfl ?_
  refine q_callV C (sp_X7_thrown G M2) vX7_thrown lk_L_112 rfl (by decide) rfl rfl (Nat.le_of_ble_eq_true rfl) ⟨⟨(Nat.le_of_ble_eq_true rfl), (Nat.le_of_ble_eq_true rfl)⟩, (by show _ ≤ (603072 : Nat); simp only [gRm]; omega), (by show _ ≤ (7211113 : Nat); simp only [gRm]; omega)⟩ dL_law_1640 ?_
  refine j_iload C dL_law_1643 rfl ?_
  refine j_icmp_eq C 1650 dL_law_1645 (fun _ => ?_) (fun h => absurd ht h) (by decide)
  refine j_iload C dL_law_1650 rfl ?_
  refine q_ifz_ne C 1667 dL_law_1652 (by decide) (Nat.lt_trans hb1 (by decide)) (fun h => ?_) (fun h => ?_)
  · skip
    refine j_goto C 1847 dL_law_1667 ?_ (by decide)
    exact j_wide (k' := k + 4) (n' := n + 32) (by simp only [gRm]; omega) (by simp only [gRm]; omega) (j_sub (gLe_c rfl (gLe_c rfl (gLe_c rfl (gLe_c rfl (gLe_c rfl (gLe_c rfl (gLe_n (gLe_n (gLe_n (gLe_n gLe_0)))))))))) (hnx _ _ (hA2) (hC2) (hR2)))
  · skip
    refine j_aload_n C dL_law_1655 rfl ?_
    refine j_iconst C (v := nI 0) dL_law_1656 rfl ?_
    refine q_lald C rfl (by decide) (by decide) (by decide) dL_law_1657 ?_
    refine j_iload C dL_law_1658 rfl ?_
    refine j_i2l C dL_law_1660 ?_
    refine j_lcmp C dL_law_1661 ?_
    refine j_if_eq C 1667 dL_law_1662 (fun _ => ?_) (fun h9 => absurd (lg_eq (by rw [hm.1]; exact hv1 h)) h9) (by decide)
    refine j_goto C 1847 dL_law_1667 ?_ (by decide)
    exact j_wide (k' := k + 4) (n' := n + 32) (by simp only [gRm]; omega) (by simp only [gRm]; omega) (j_sub (gLe_c rfl (gLe_c rfl (gLe_c rfl (gLe_c rfl (gLe_c rfl (gLe_c rfl (gLe_n (gLe_n (gLe_n (gLe_n gLe_0)))))))))) (hnx _ _ (hA2) (hC2) (hR2)))
set_option maxHeartbeats 4000000 in
set_option maxRecDepth 100000 in
theorem lw_c27 {G : gG} {X : gX} {b L : Nat} {sx : Nat → Int32} (LW : gLw G X b L sx) {i k n : Nat} (hi : i + 4 ≤ L) (hk : k ≤ 3000) (hn : n ≤ 30000) {A : gSt0} {M : gMem} (hA : gOk A) (hC : gRC A M) (hR : gRM A M) (hnx : ∀ A' M', gOk A' → gRC A' M' → gRM A' M' → Q G X (k + 4) (n + 32) 1847 (gLv G b i) [] M') : Q G X k n 1670 (gLv G b i) [] M := by
  obtain ⟨C, hX, hbl, hbA, hL⟩ := LW
  refine j_aload_n C dL_law_1670 rfl ?_
  refine j_aload_n C dL_law_1671 rfl ?_
  refine j_iload C dL_law_1672 rfl ?_
  refine j_iconst C (v := nI 1) dL_law_1674 rfl ?_
  refine q_iadd C dL_law_1675 ?_
  refine j_sld C hX hbl hbA hL (by omega) dL_law_1676 ?_
  refine j_aload_n C dL_law_1677 rfl ?_
  refine q_callHS C (sp_L_packedFrom G M hA.1 hA.2 hC (sx (i + 1))) rfl kL_packedFrom tL_packedFrom lk_L_200 rfl rfl (Nat.le_of_ble_eq_true rfl) ⟨⟨(Nat.le_of_ble_eq_true rfl), (Nat.le_of_ble_eq_true rfl)⟩, (by show _ ≤ (603072 : Nat); simp only [gRm]; omega), (by show _ ≤ (7211113 : Nat); simp only [gRm]; omega)⟩ dL_law_1678 (fun M1 h1 => ?_)
  obtain ⟨hC1, hc1, hv1, hb1⟩ := h1
  have hR1 := rm_cl0 hR hc1
  refine j_istore C dL_law_1681 (by decide) rfl ?_
  refine j_aload_n C dL_law_1683 rfl ?_
  refine j_aload_n C dL_law_1684 rfl ?_
  refine j_iload C dL_law_1685 rfl ?_
  refine j_iconst C (v := nI 1) dL_law_1687 rfl ?_
  refine q_iadd C dL_law_1688 ?_
  refine j_sld C hX hbl hbA hL (by omega) dL_law_1689 ?_
  refine q_callVS C (sp_X7_packedFrom G M1 hA.1 hR1 (sx (i + 1))) vX7_packedFrom lk_L_202 rfl (by decide) rfl rfl (Nat.le_of_ble_eq_true rfl) ⟨⟨(Nat.le_of_ble_eq_true rfl), (Nat.le_of_ble_eq_true rfl)⟩, (by show _ ≤ (603072 : Nat); simp only [gRm]; omega), (by show _ ≤ (7211113 : Nat); simp only [gRm]; omega)⟩ dL_law_1690 (fun M2 h2 => ?_)
  obtain ⟨ht, hR2, hm⟩ := h2
  have hA2 := ok_same hA (st_packedFrom A _ : (oPackedFrom A (sx (i + 1))).2.2 = A)
  have hC2 := rc_mod hA2.1 hC1 hm
  refine j_istore C dL_law_1693 (by decide) rfl ?_
  refine j_aload_n C dL_law_1695 rfl ?_
  refine q_callV C (sp_X7_thrown G M2) vX7_thrown lk_L_112 rfl (by decide) rfl rfl (Nat.le_of_ble_eq_true rfl) ⟨⟨(Nat.le_of_ble_eq_true rfl), (Nat.le_of_ble_eq_true rfl)⟩, (by show _ ≤ (603072 : Nat); simp only [gRm]; omega), (by show _ ≤ (7211113 : Nat); simp only [gRm]; omega)⟩ dL_law_1696 ?_
  refine j_iload C dL_law_1699 rfl ?_
  refine j_icmp_eq C 1706 dL_law_1701 (fun _ => ?_) (fun h => absurd ht h) (by decide)
  refine j_iload C dL_law_1706 rfl ?_
  refine q_ifz_ne C 1723 dL_law_1708 (by decide) (Nat.lt_trans hb1 (by decide)) (fun h => ?_) (fun h => ?_)
  · skip
    refine j_goto C 1847 dL_law_1723 ?_ (by decide)
    exact j_wide (k' := k + 4) (n' := n + 32) (by simp only [gRm]; omega) (by simp only [gRm]; omega) (j_sub (gLe_c rfl (gLe_c rfl (gLe_c rfl (gLe_c rfl (gLe_c rfl (gLe_c rfl (gLe_n (gLe_n (gLe_n (gLe_n gLe_0)))))))))) (hnx _ _ (hA2) (hC2) (hR2)))
  · skip
    refine j_aload_n C dL_law_1711 rfl ?_
    refine j_iconst C (v := nI 0) dL_law_1712 rfl ?_
    refine q_lald C rfl (by decide) (by decide) (by decide) dL_law_1713 ?_
    refine j_iload C dL_law_1714 rfl ?_
    refine j_i2l C dL_law_1716 ?_
    refine j_lcmp C dL_law_1717 ?_
    refine j_if_eq C 1723 dL_law_1718 (fun _ => ?_) (fun h9 => absurd (lg_eq (by rw [hm.1]; exact hv1 h)) h9) (by decide)
    refine j_goto C 1847 dL_law_1723 ?_ (by decide)
    exact j_wide (k' := k + 4) (n' := n + 32) (by simp only [gRm]; omega) (by simp only [gRm]; omega) (j_sub (gLe_c rfl (gLe_c rfl (gLe_c rfl (gLe_c rfl (gLe_c rfl (gLe_c rfl (gLe_n (gLe_n (gLe_n (gLe_n gLe_0)))))))))) (hnx _ _ (hA2) (hC2) (hR2)))
set_option maxHeartbeats 4000000 in
set_option maxRecDepth 100000 in
theorem lw_c28 {G : gG} {X : gX} {b L : Nat} {sx : Nat → Int32} (LW : gLw G X b L sx) {i k n : Nat} (hi : i + 4 ≤ L) (hk : k ≤ 3000) (hn : n ≤ 30000) {A : gSt0} {M : gMem} (hA : gOk A) (hC : gRC A M) (hR : gRM A M) (hnx : ∀ A' M', gOk A' → gRC A' M' → gRM A' M' → Q G X (k + 4) (n + 32) 1847 (gLv G b i) [] M') : Q G X k n 1726 (gLv G b i) [] M := by
  obtain ⟨C, hX, hbl, hbA, hL⟩ := LW
  refine j_aload_n C dL_law_1726 rfl ?_
  refine q_callV C (sp_X6_packSize G M hC) vX6_packSize lk_L_203 rfl (by decide) rfl rfl (Nat.le_of_ble_eq_true rfl) ⟨⟨(Nat.le_of_ble_eq_true rfl), (Nat.le_of_ble_eq_true rfl)⟩, (by show _ ≤ (603072 : Nat); simp only [gRm]; omega), (by show _ ≤ (7211113 : Nat); simp only [gRm]; omega)⟩ dL_law_1727 ?_
  refine j_aload_n C dL_law_1730 rfl ?_
  refine q_callVS C (sp_X7_packSize G M hA.1 hR) vX7_packSize lk_L_207 rfl (by decide) rfl rfl (Nat.le_of_ble_eq_true rfl) ⟨⟨(Nat.le_of_ble_eq_true rfl), (Nat.le_of_ble_eq_true rfl)⟩, (by show _ ≤ (603072 : Nat); simp only [gRm]; omega), (by show _ ≤ (7211113 : Nat); simp only [gRm]; omega)⟩ dL_law_1731 (fun M2 h2 => ?_)
  obtain ⟨ht, hR2, hm⟩ := h2
  have hC2 := rc_mod hA.1 hC hm
  refine j_lcmp C dL_law_1734 ?_
  refine j_if_eq C 1847 dL_law_1735 (fun _ => ?_) (fun h9 => absurd (lg_eq rfl) h9) (by decide)
  exact j_wide (k' := k + 4) (n' := n + 32) (by simp only [gRm]; omega) (by simp only [gRm]; omega) (j_sub (gLe_c rfl (gLe_c rfl (gLe_c rfl (gLe_c rfl (gLe_c rfl (gLe_c rfl (gLe_n (gLe_n (gLe_n (gLe_n gLe_0)))))))))) (hnx _ _ (hA) (hC2) (hR2)))
set_option maxHeartbeats 4000000 in
set_option maxRecDepth 100000 in
theorem lw_c29 {G : gG} {X : gX} {b L : Nat} {sx : Nat → Int32} (LW : gLw G X b L sx) {i k n : Nat} (hi : i + 4 ≤ L) (hk : k ≤ 3000) (hn : n ≤ 30000) {A : gSt0} {M : gMem} (hA : gOk A) (hC : gRC A M) (hR : gRM A M) (hnx : ∀ A' M', gOk A' → gRC A' M' → gRM A' M' → Q G X (k + 4) (n + 32) 1847 (gLv G b i) [] M') : Q G X k n 1740 (gLv G b i) [] M := by
  obtain ⟨C, hX, hbl, hbA, hL⟩ := LW
  rcases Nat.eq_zero_or_pos (aP A).1 with h0 | h0
  · skip
    refine j_aload_n C dL_law_1740 rfl ?_
    refine j_aload C dL_law_1741 rfl ?_
    have hw := sp_L_packShare G M hA.1 hC
    rw [if_pos h0] at hw
    refine q_callHS C hw rfl kL_packShare tL_packShare lk_L_208 rfl rfl (Nat.le_of_ble_eq_true rfl) ⟨⟨(Nat.le_of_ble_eq_true rfl), (Nat.le_of_ble_eq_true rfl)⟩, (by show _ ≤ (603072 : Nat); simp only [gRm]; omega), (by show _ ≤ (7211113 : Nat); simp only [gRm]; omega)⟩ dL_law_1743 (fun M1 h1 => ?_)
    obtain ⟨hC1, hc1, hv1⟩ := h1
    have hR1 := rm_cl0 hR hc1
    refine j_istore C dL_law_1746 (by decide) rfl ?_
    refine j_aload_n C dL_law_1748 rfl ?_
    have hw2 := sp_X7_packShare G M1 hA.1 hR1
    rw [if_pos h0, if_pos h0] at hw2
    refine q_callVS C (hw2) vX7_packShare lk_L_211 rfl (by decide) rfl rfl (Nat.le_of_ble_eq_true rfl) ⟨⟨(Nat.le_of_ble_eq_true rfl), (Nat.le_of_ble_eq_true rfl)⟩, (by show _ ≤ (603072 : Nat); simp only [gRm]; omega), (by show _ ≤ (7211113 : Nat); simp only [gRm]; omega)⟩ dL_law_1749 (fun M2 h2 => ?_)
    obtain ⟨ht, hR2, hm⟩ := h2
    have hC2 := rc_mod hA.1 hC1 hm
    refine j_fstore C dL_law_1752 (by decide) rfl ?_
    refine j_aload_n C dL_law_1754 rfl ?_
    refine q_callV C (sp_X7_thrown G M2) vX7_thrown lk_L_112 rfl (by decide) rfl rfl (Nat.le_of_ble_eq_true rfl) ⟨⟨(Nat.le_of_ble_eq_true rfl), (Nat.le_of_ble_eq_true rfl)⟩, (by show _ ≤ (603072 : Nat); simp only [gRm]; omega), (by show _ ≤ (7211113 : Nat); simp only [gRm]; omega)⟩ dL_law_1755 ?_
    refine j_iload C dL_law_1758 rfl ?_
    refine j_icmp_eq C 1765 dL_law_1760 (fun _ => ?_) (fun h => absurd ht h) (by decide)
    refine j_iload C dL_law_1765 rfl ?_
    refine j_if_ne C 1803 dL_law_1767 (fun _ => ?_) (fun h => absurd h (by decide)) (by decide)
    refine j_goto C 1847 dL_law_1803 ?_ (by decide)
    exact j_wide (k' := k + 4) (n' := n + 32) (by simp only [gRm]; omega) (by simp only [gRm]; omega) (j_sub (gLe_c rfl (gLe_c rfl (gLe_c rfl (gLe_c rfl (gLe_c rfl (gLe_c rfl (gLe_n (gLe_n (gLe_n (gLe_n gLe_0)))))))))) (hnx _ _ (hA) (hC2) (hR2)))
  · skip
    refine j_aload_n C dL_law_1740 rfl ?_
    refine j_aload C dL_law_1741 rfl ?_
    have hw := sp_L_packShare G M hA.1 hC
    rw [if_neg (show ¬ (aP A).1 = 0 by omega)] at hw
    refine q_callHS C hw rfl kL_packShare tL_packShare lk_L_208 rfl rfl (Nat.le_of_ble_eq_true rfl) ⟨⟨(Nat.le_of_ble_eq_true rfl), (Nat.le_of_ble_eq_true rfl)⟩, (by show _ ≤ (603072 : Nat); simp only [gRm]; omega), (by show _ ≤ (7211113 : Nat); simp only [gRm]; omega)⟩ dL_law_1743 (fun M1 h1 => ?_)
    obtain ⟨hC1, hc1, hv1⟩ := h1
    have hR1 := rm_cl0 hR hc1
    refine j_istore C dL_law_1746 (by decide) rfl ?_
    refine j_aload_n C dL_law_1748 rfl ?_
    have hw2 := sp_X7_packShare G M1 hA.1 hR1
    rw [if_neg (show ¬ (aP A).1 = 0 by omega), if_neg (show ¬ (aP A).1 = 0 by omega)] at hw2
    refine q_callVS C (hw2) vX7_packShare lk_L_211 rfl (by decide) rfl rfl (Nat.le_of_ble_eq_true rfl) ⟨⟨(Nat.le_of_ble_eq_true rfl), (Nat.le_of_ble_eq_true rfl)⟩, (by show _ ≤ (603072 : Nat); simp only [gRm]; omega), (by show _ ≤ (7211113 : Nat); simp only [gRm]; omega)⟩ dL_law_1749 (fun M2 h2 => ?_)
    obtain ⟨ht, hR2, hm⟩ := h2
    have hC2 := rc_mod hA.1 hC1 hm
    refine j_fstore C dL_law_1752 (by decide) rfl ?_
    refine j_aload_n C dL_law_1754 rfl ?_
    refine q_callV C (sp_X7_thrown G M2) vX7_thrown lk_L_112 rfl (by decide) rfl rfl (Nat.le_of_ble_eq_true rfl) ⟨⟨(Nat.le_of_ble_eq_true rfl), (Nat.le_of_ble_eq_true rfl)⟩, (by show _ ≤ (603072 : Nat); simp only [gRm]; omega), (by show _ ≤ (7211113 : Nat); simp only [gRm]; omega)⟩ dL_law_1755 ?_
    refine j_iload C dL_law_1758 rfl ?_
    refine j_icmp_eq C 1765 dL_law_1760 (fun _ => ?_) (fun h => absurd ht h) (by decide)
    refine j_iload C dL_law_1765 rfl ?_
    refine j_if_ne C 1803 dL_law_1767 (fun h => absurd rfl h) (fun _ => ?_) (by decide)
    refine j_aload C dL_law_1770 rfl ?_
    refine j_iconst C (v := nI 0) dL_law_1772 rfl ?_
    refine q_dald C dL_law_1773 ?_
    refine j_fload C dL_law_1774 rfl ?_
    refine j_f2d C dL_law_1776 (sh_n64 hA.1 h0) ?_
    refine j_dcmp C dL_law_1777 ?_
    refine j_if_eq C 1803 dL_law_1778 (fun _ => ?_) (fun h9 => absurd (by rw [show M2.2.2.2.2 0 = FP.f2d (shF A) by rw [show M2.2.2.2 = M1.2.2.2 from hm.2.1]; exact hv1 h0]; exact sh_eq hA.1 h0) h9) (by decide)
    refine j_goto C 1847 dL_law_1803 ?_ (by decide)
    exact j_wide (k' := k + 4) (n' := n + 32) (by simp only [gRm]; omega) (by simp only [gRm]; omega) (j_sub (gLe_c rfl (gLe_c rfl (gLe_c rfl (gLe_c rfl (gLe_c rfl (gLe_c rfl (gLe_n (gLe_n (gLe_n (gLe_n gLe_0)))))))))) (hnx _ _ (hA) (hC2) (hR2)))
set_option maxHeartbeats 4000000 in
set_option maxRecDepth 100000 in
theorem lw_c30 {G : gG} {X : gX} {b L : Nat} {sx : Nat → Int32} (LW : gLw G X b L sx) {i k n : Nat} (hi : i + 4 ≤ L) (hk : k ≤ 3000) (hn : n ≤ 30000) {A : gSt0} {M : gMem} (hA : gOk A) (hC : gRC A M) (hR : gRM A M) (hnx : ∀ A' M', gOk A' → gRC A' M' → gRM A' M' → Q G X (k + 4) (n + 32) 1847 (gLv G b i) [] M') : Q G X k n 1806 (gLv G b i) [] M := by
  obtain ⟨C, hX, hbl, hbA, hL⟩ := LW
  refine j_aload_n C dL_law_1806 rfl ?_
  refine q_callV C (sp_X6_meanFiles G M hA.1 hC) vX6_meanFiles lk_L_212 rfl (by decide) rfl rfl (Nat.le_of_ble_eq_true rfl) ⟨⟨(Nat.le_of_ble_eq_true rfl), (Nat.le_of_ble_eq_true rfl)⟩, (by show _ ≤ (603072 : Nat); simp only [gRm]; omega), (by show _ ≤ (7211113 : Nat); simp only [gRm]; omega)⟩ dL_law_1807 ?_
  refine j_dstore C dL_law_1810 (by decide) rfl ?_
  refine j_aload_n C dL_law_1812 rfl ?_
  refine q_callVS C (sp_X7_meanFiles G M hA.1 hR) vX7_meanFiles lk_L_216 rfl (by decide) rfl rfl (Nat.le_of_ble_eq_true rfl) ⟨⟨(Nat.le_of_ble_eq_true rfl), (Nat.le_of_ble_eq_true rfl)⟩, (by show _ ≤ (603072 : Nat); simp only [gRm]; omega), (by show _ ≤ (7211113 : Nat); simp only [gRm]; omega)⟩ dL_law_1813 (fun M2 h2 => ?_)
  obtain ⟨ht, hR2, hm⟩ := h2
  have hC2 := rc_mod hA.1 hC hm
  refine j_dstore C dL_law_1816 (by decide) rfl ?_
  refine j_dload C dL_law_1818 rfl ?_
  refine j_dload C dL_law_1820 rfl ?_
  refine j_dcmp C dL_law_1822 ?_
  refine j_if_eq C 1844 dL_law_1823 (fun _ => ?_) (fun h9 => ?_) (by decide)
  · skip
    refine j_goto C 1847 dL_law_1844 ?_ (by decide)
    exact j_wide (k' := k + 4) (n' := n + 32) (by simp only [gRm]; omega) (by simp only [gRm]; omega) (j_sub (gLe_c rfl (gLe_c rfl (gLe_c rfl (gLe_c rfl (gLe_c rfl (gLe_c rfl (gLe_n (gLe_n (gLe_n (gLe_n gLe_0)))))))))) (hnx _ _ (hA) (hC2) (hR2)))
  · skip
    refine j_dload C dL_law_1826 rfl ?_
    refine j_dload C dL_law_1828 rfl ?_
    refine j_dcmp C dL_law_1830 ?_
    refine j_if_eq C 1842 dL_law_1831 (fun h8 => absurd h8 h9) (fun _ => ?_) (by decide)
    refine j_dload C dL_law_1834 rfl ?_
    refine j_dload C dL_law_1836 rfl ?_
    refine j_dcmp C dL_law_1838 ?_
    refine j_if_ne C 1844 dL_law_1839 (fun _ => ?_) (fun h8 => absurd h8 h9) (by decide)
    refine j_goto C 1847 dL_law_1844 ?_ (by decide)
    exact j_wide (k' := k + 4) (n' := n + 32) (by simp only [gRm]; omega) (by simp only [gRm]; omega) (j_sub (gLe_c rfl (gLe_c rfl (gLe_c rfl (gLe_c rfl (gLe_c rfl (gLe_c rfl (gLe_n (gLe_n (gLe_n (gLe_n gLe_0)))))))))) (hnx _ _ (hA) (hC2) (hR2)))
