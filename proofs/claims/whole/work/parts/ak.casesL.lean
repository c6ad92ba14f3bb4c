/-! ===== the law: its calls (written by mklaw.py) ===== -/
/-- at the loop's head, i calls done -/
def zLP (l : Launch) (G : zq_G) (nm : String) (L : Nat) (xs : Nat → Int32) (i : Nat) : Prop := ∀ (n : Nat) (κ : zl_S) (σ : zm_S) (ρ : Nat → zq_E) (cells slots : Nat), zIVx n κ σ ρ → cells ≤ 90 + 15 * i → slots ≤ 41311 + 887 * i → zq_At l G room_1 (mL nm) (zLQ G L xs) 18 [(0, .ref 0), (1, .ref 8), (2, .ref 70), (3, .int (nI (6 * i)))] [] n (zl_h κ (zm_h σ ρ)) cells slots
section ZK40
variable {l : Launch} {G : zq_G} {nm : String} {L : Nat} {xs : Nat → Int32} {i n cells slots : Nat} {κ : zl_S} {σ : zm_S} {ρ : Nat → zq_E}
theorem zlw_next (hL : L ≤ 3072) (hi : 6 * i + 6 ≤ L) (hk : zLP l G nm L xs (i + 1)) (h : zIVx n κ σ ρ) (hc : cells ≤ 90 + 15 * (i + 1)) (hs : slots ≤ 41311 + 887 * (i + 1)) : zq_At l G room_1 (mL nm) (zLQ G L xs) 1233 [(0, .ref 0), (1, .ref 8), (2, .ref 70), (3, .int (nI (6 * i)))] [] n (zl_h κ (zm_h σ ρ)) cells slots := by
  refine at_iincN dL_law_1233 rfl (Nat.le_of_ble_eq_true rfl) ?_
  refine at_goto (tgt := 18) dL_law_1236 (by decide) ?_
  rw [show 6 * i + 6 = 6 * (i + 1) by omega]
  exact hk n κ σ ρ cells slots h hc hs
theorem zlw_0 (hL : L ≤ 3072) (hi : 6 * i + 6 ≤ L) (hk : zLP l G nm L xs (i + 1)) (h0 : zIVx n κ σ ρ) (hc : cells ≤ 90 + 15 * i) (hs : slots ≤ 41311 + 887 * i) : zq_At l G room_1 (mL nm) (zLQ G L xs) 216 [(0, .ref 0), (1, .ref 8), (2, .ref 70), (3, .int (nI (6 * i)))] [] n (zl_h κ (zm_h σ ρ)) cells slots := by
  obtain ⟨K, m, hn, t, z, Ls, Λ, h⟩ := h0
  refine at_aload_n dL_law_216 rfl ?_
  refine at_aload_n dL_law_217 rfl ?_
  refine at_iload_n dL_law_218 rfl ?_
  refine at_iconst dL_law_219 (v := nI 1) (by decide) ?_
  refine at_iaddN dL_law_220 ?_
  refine at_sldN dL_law_221 rfl (by omega) (by omega) ?_
  refine at_callV1 (d := 88) dL_law_222 mv_L_13 (zl_o rfl) (Nat.le_of_ble_eq_true rfl) ⟨by decide, by decide, by show cells + 0 ≤ 600000; omega, by show slots + 0 ≤ 7302250; omega⟩ ?_
  refine zk_person (by decide) h _ (fun v n1 f1 hv hm => ?_)
  obtain ⟨⟨x, rfl⟩, fs, h70⟩ := And.imp_left (zVk_i (v := v)) hv
  refine at_aload_n dL_law_225 rfl ?_
  refine at_aload_n dL_law_226 rfl ?_
  refine at_iload_n dL_law_227 rfl ?_
  refine at_iconst dL_law_228 (v := nI 1) (by decide) ?_
  refine at_iaddN dL_law_229 ?_
  refine at_sldN dL_law_230 rfl (by omega) (by omega) ?_
  refine at_callV1 (d := 88) dL_law_231 mv_L_17 h70 (Nat.le_of_ble_eq_true rfl) ⟨by decide, by decide, by show cells + 0 + 0 ≤ 600000; omega, by show slots + 0 + 0 ≤ 7302250; omega⟩ ?_
  refine hm _ (fun n2 κ2 σ2 ρ2 h2 => ?_)
  refine at_icmp_eq (tgt := 1233) dL_law_234 (by decide) (fun _ => ?_) (fun e => absurd rfl e)
  exact zlw_next hL hi hk h2 (by show cells + 0 + 0 ≤ _; omega) (by show slots + 0 + 0 ≤ _; omega)
theorem zlw_1 (hL : L ≤ 3072) (hi : 6 * i + 6 ≤ L) (hk : zLP l G nm L xs (i + 1)) (h0 : zIVx n κ σ ρ) (hc : cells ≤ 90 + 15 * i) (hs : slots ≤ 41311 + 887 * i) : zq_At l G room_1 (mL nm) (zLQ G L xs) 239 [(0, .ref 0), (1, .ref 8), (2, .ref 70), (3, .int (nI (6 * i)))] [] n (zl_h κ (zm_h σ ρ)) cells slots := by
  obtain ⟨K, m, hn, t, z, Ls, Λ, h⟩ := h0
  refine at_aload_n dL_law_239 rfl ?_
  refine at_aload_n dL_law_240 rfl ?_
  refine at_iload_n dL_law_241 rfl ?_
  refine at_iconst dL_law_242 (v := nI 1) (by decide) ?_
  refine at_iaddN dL_law_243 ?_
  refine at_sldN dL_law_244 rfl (by omega) (by omega) ?_
  refine at_aload_n dL_law_245 rfl ?_
  refine at_iload_n dL_law_246 rfl ?_
  refine at_iconst dL_law_247 (v := nI 2) (by decide) ?_
  refine at_iaddN dL_law_248 ?_
  refine at_sldN dL_law_249 rfl (by omega) (by omega) ?_
  refine at_callV2 (d := 88) dL_law_250 mv_L_18 (zl_o rfl) (Nat.le_of_ble_eq_true rfl) ⟨by decide, by decide, by show cells + 0 ≤ 600000; omega, by show slots + 0 ≤ 7302250; omega⟩ ?_
  refine zk_of (by decide) h _ (fun v n1 f1 hv hm => ?_)
  obtain ⟨⟨x, rfl⟩, fs, h70⟩ := And.imp_left (zVk_i (v := v)) hv
  refine at_aload_n dL_law_253 rfl ?_
  refine at_aload_n dL_law_254 rfl ?_
  refine at_iload_n dL_law_255 rfl ?_
  refine at_iconst dL_law_256 (v := nI 1) (by decide) ?_
  refine at_iaddN dL_law_257 ?_
  refine at_sldN dL_law_258 rfl (by omega) (by omega) ?_
  refine at_aload_n dL_law_259 rfl ?_
  refine at_iload_n dL_law_260 rfl ?_
  refine at_iconst dL_law_261 (v := nI 2) (by decide) ?_
  refine at_iaddN dL_law_262 ?_
  refine at_sldN dL_law_263 rfl (by omega) (by omega) ?_
  refine at_callV2 (d := 88) dL_law_264 mv_L_22 h70 (Nat.le_of_ble_eq_true rfl) ⟨by decide, by decide, by show cells + 0 + 0 ≤ 600000; omega, by show slots + 0 + 0 ≤ 7302250; omega⟩ ?_
  refine hm _ (fun n2 κ2 σ2 ρ2 h2 => ?_)
  refine at_icmp_eq (tgt := 1233) dL_law_267 (by decide) (fun _ => ?_) (fun e => absurd rfl e)
  exact zlw_next hL hi hk h2 (by show cells + 0 + 0 ≤ _; omega) (by show slots + 0 + 0 ≤ _; omega)
theorem zlw_2 (hL : L ≤ 3072) (hi : 6 * i + 6 ≤ L) (hk : zLP l G nm L xs (i + 1)) (h0 : zIVx n κ σ ρ) (hc : cells ≤ 90 + 15 * i) (hs : slots ≤ 41311 + 887 * i) : zq_At l G room_1 (mL nm) (zLQ G L xs) 272 [(0, .ref 0), (1, .ref 8), (2, .ref 70), (3, .int (nI (6 * i)))] [] n (zl_h κ (zm_h σ ρ)) cells slots := by
  obtain ⟨K, m, hn, t, z, Ls, Λ, h⟩ := h0
  refine at_aload_n dL_law_272 rfl ?_
  refine at_aload_n dL_law_273 rfl ?_
  refine at_iload_n dL_law_274 rfl ?_
  refine at_iconst dL_law_275 (v := nI 1) (by decide) ?_
  refine at_iaddN dL_law_276 ?_
  refine at_sldN dL_law_277 rfl (by omega) (by omega) ?_
  refine at_callV1 (d := 88) dL_law_278 mv_L_23 (zl_o rfl) (Nat.le_of_ble_eq_true rfl) ⟨by decide, by decide, by show cells + 0 ≤ 600000; omega, by show slots + 0 ≤ 7302250; omega⟩ ?_
  refine zk_at (by decide) h _ (fun v n1 f1 hv hm => ?_)
  obtain ⟨⟨x, rfl⟩, fs, h70⟩ := And.imp_left (zVk_i (v := v)) hv
  refine at_aload_n dL_law_281 rfl ?_
  refine at_aload_n dL_law_282 rfl ?_
  refine at_iload_n dL_law_283 rfl ?_
  refine at_iconst dL_law_284 (v := nI 1) (by decide) ?_
  refine at_iaddN dL_law_285 ?_
  refine at_sldN dL_law_286 rfl (by omega) (by omega) ?_
  refine at_callV1 (d := 88) dL_law_287 mv_L_26 h70 (Nat.le_of_ble_eq_true rfl) ⟨by decide, by decide, by show cells + 0 + 0 ≤ 600000; omega, by show slots + 0 + 0 ≤ 7302250; omega⟩ ?_
  refine hm _ (fun n2 κ2 σ2 ρ2 h2 => ?_)
  refine at_icmp_eq (tgt := 1233) dL_law_290 (by decide) (fun _ => ?_) (fun e => absurd rfl e)
  exact zlw_next hL hi hk h2 (by show cells + 0 + 0 ≤ _; omega) (by show slots + 0 + 0 ≤ _; omega)
theorem zlw_3 (hL : L ≤ 3072) (hi : 6 * i + 6 ≤ L) (hk : zLP l G nm L xs (i + 1)) (h0 : zIVx n κ σ ρ) (hc : cells ≤ 90 + 15 * i) (hs : slots ≤ 41311 + 887 * i) : zq_At l G room_1 (mL nm) (zLQ G L xs) 295 [(0, .ref 0), (1, .ref 8), (2, .ref 70), (3, .int (nI (6 * i)))] [] n (zl_h κ (zm_h σ ρ)) cells slots := by
  obtain ⟨K, m, hn, t, z, Ls, Λ, h⟩ := h0
  refine at_aload_n dL_law_295 rfl ?_
  refine at_aload_n dL_law_296 rfl ?_
  refine at_iload_n dL_law_297 rfl ?_
  refine at_iconst dL_law_298 (v := nI 1) (by decide) ?_
  refine at_iaddN dL_law_299 ?_
  refine at_sldN dL_law_300 rfl (by omega) (by omega) ?_
  refine at_aload_n dL_law_301 rfl ?_
  refine at_iload_n dL_law_302 rfl ?_
  refine at_iconst dL_law_303 (v := nI 2) (by decide) ?_
  refine at_iaddN dL_law_304 ?_
  refine at_sldN dL_law_305 rfl (by omega) (by omega) ?_
  refine at_aload_n dL_law_306 rfl ?_
  refine at_iload_n dL_law_307 rfl ?_
  refine at_iconst dL_law_308 (v := nI 3) (by decide) ?_
  refine at_iaddN dL_law_309 ?_
  refine at_sldN dL_law_310 rfl (by omega) (by omega) ?_
  refine at_callV3 (d := 88) dL_law_311 mv_L_27 (zl_o rfl) (Nat.le_of_ble_eq_true rfl) ⟨by decide, by decide, by show cells + 0 ≤ 600000; omega, by show slots + 0 ≤ 7302250; omega⟩ ?_
  refine zk_asks (by decide) h _ (fun v n1 f1 hv hm => ?_)
  obtain ⟨⟨x, rfl⟩, fs, h70⟩ := And.imp_left (zVk_i (v := v)) hv
  refine at_aload_n dL_law_314 rfl ?_
  refine at_aload_n dL_law_315 rfl ?_
  refine at_iload_n dL_law_316 rfl ?_
  refine at_iconst dL_law_317 (v := nI 1) (by decide) ?_
  refine at_iaddN dL_law_318 ?_
  refine at_sldN dL_law_319 rfl (by omega) (by omega) ?_
  refine at_aload_n dL_law_320 rfl ?_
  refine at_iload_n dL_law_321 rfl ?_
  refine at_iconst dL_law_322 (v := nI 2) (by decide) ?_
  refine at_iaddN dL_law_323 ?_
  refine at_sldN dL_law_324 rfl (by omega) (by omega) ?_
  refine at_aload_n dL_law_325 rfl ?_
  refine at_iload_n dL_law_326 rfl ?_
  refine at_iconst dL_law_327 (v := nI 3) (by decide) ?_
  refine at_iaddN dL_law_328 ?_
  refine at_sldN dL_law_329 rfl (by omega) (by omega) ?_
  refine at_callV3 (d := 88) dL_law_330 mv_L_31 h70 (Nat.le_of_ble_eq_true rfl) ⟨by decide, by decide, by show cells + 0 + 0 ≤ 600000; omega, by show slots + 0 + 0 ≤ 7302250; omega⟩ ?_
  refine hm _ (fun n2 κ2 σ2 ρ2 h2 => ?_)
  refine at_icmp_eq (tgt := 1233) dL_law_333 (by decide) (fun _ => ?_) (fun e => absurd rfl e)
  exact zlw_next hL hi hk h2 (by show cells + 0 + 0 ≤ _; omega) (by show slots + 0 + 0 ≤ _; omega)
theorem zlw_4 (hL : L ≤ 3072) (hi : 6 * i + 6 ≤ L) (hk : zLP l G nm L xs (i + 1)) (h0 : zIVx n κ σ ρ) (hc : cells ≤ 90 + 15 * i) (hs : slots ≤ 41311 + 887 * i) : zq_At l G room_1 (mL nm) (zLQ G L xs) 338 [(0, .ref 0), (1, .ref 8), (2, .ref 70), (3, .int (nI (6 * i)))] [] n (zl_h κ (zm_h σ ρ)) cells slots := by
  obtain ⟨K, m, hn, t, z, Ls, Λ, h⟩ := h0
  refine at_aload_n dL_law_338 rfl ?_
  refine at_aload_n dL_law_339 rfl ?_
  refine at_iload_n dL_law_340 rfl ?_
  refine at_iconst dL_law_341 (v := nI 1) (by decide) ?_
  refine at_iaddN dL_law_342 ?_
  refine at_sldN dL_law_343 rfl (by omega) (by omega) ?_
  refine at_aload_n dL_law_344 rfl ?_
  refine at_iload_n dL_law_345 rfl ?_
  refine at_iconst dL_law_346 (v := nI 2) (by decide) ?_
  refine at_iaddN dL_law_347 ?_
  refine at_sldN dL_law_348 rfl (by omega) (by omega) ?_
  refine at_aload_n dL_law_349 rfl ?_
  refine at_iload_n dL_law_350 rfl ?_
  refine at_iconst dL_law_351 (v := nI 3) (by decide) ?_
  refine at_iaddN dL_law_352 ?_
  refine at_sldN dL_law_353 rfl (by omega) (by omega) ?_
  refine at_callV3 (d := 88) dL_law_354 mv_L_32 (zl_o rfl) (Nat.le_of_ble_eq_true rfl) ⟨by decide, by decide, by show cells + 0 ≤ 600000; omega, by show slots + 0 ≤ 7302250; omega⟩ ?_
  refine zk_says (by decide) h _ (fun v n1 f1 hv hm => ?_)
  obtain ⟨⟨x, rfl⟩, fs, h70⟩ := And.imp_left (zVk_i (v := v)) hv
  refine at_aload_n dL_law_357 rfl ?_
  refine at_aload_n dL_law_358 rfl ?_
  refine at_iload_n dL_law_359 rfl ?_
  refine at_iconst dL_law_360 (v := nI 1) (by decide) ?_
  refine at_iaddN dL_law_361 ?_
  refine at_sldN dL_law_362 rfl (by omega) (by omega) ?_
  refine at_aload_n dL_law_363 rfl ?_
  refine at_iload_n dL_law_364 rfl ?_
  refine at_iconst dL_law_365 (v := nI 2) (by decide) ?_
  refine at_iaddN dL_law_366 ?_
  refine at_sldN dL_law_367 rfl (by omega) (by omega) ?_
  refine at_aload_n dL_law_368 rfl ?_
  refine at_iload_n dL_law_369 rfl ?_
  refine at_iconst dL_law_370 (v := nI 3) (by decide) ?_
  refine at_iaddN dL_law_371 ?_
  refine at_sldN dL_law_372 rfl (by omega) (by omega) ?_
  refine at_callV3 (d := 88) dL_law_373 mv_L_35 h70 (Nat.le_of_ble_eq_true rfl) ⟨by decide, by decide, by show cells + 0 + 0 ≤ 600000; omega, by show slots + 0 + 0 ≤ 7302250; omega⟩ ?_
  refine hm _ (fun n2 κ2 σ2 ρ2 h2 => ?_)
  refine at_icmp_eq (tgt := 1233) dL_law_376 (by decide) (fun _ => ?_) (fun e => absurd rfl e)
  exact zlw_next hL hi hk h2 (by show cells + 0 + 0 ≤ _; omega) (by show slots + 0 + 0 ≤ _; omega)
theorem zlw_5 (hL : L ≤ 3072) (hi : 6 * i + 6 ≤ L) (hk : zLP l G nm L xs (i + 1)) (h0 : zIVx n κ σ ρ) (hc : cells ≤ 90 + 15 * i) (hs : slots ≤ 41311 + 887 * i) : zq_At l G room_1 (mL nm) (zLQ G L xs) 381 [(0, .ref 0), (1, .ref 8), (2, .ref 70), (3, .int (nI (6 * i)))] [] n (zl_h κ (zm_h σ ρ)) cells slots := by
  obtain ⟨K, m, hn, t, z, Ls, Λ, h⟩ := h0
  refine at_aload_n dL_law_381 rfl ?_
  refine at_callV0 (d := 88) dL_law_382 mv_L_36 (zl_o rfl) (Nat.le_of_ble_eq_true rfl) ⟨by decide, by decide, by show cells + 0 ≤ 600000; omega, by show slots + 0 ≤ 7302250; omega⟩ ?_
  refine zk_alphabet (by decide) h _ (fun v n1 f1 hv hm => ?_)
  obtain ⟨⟨x, rfl⟩, fs, h70⟩ := And.imp_left (zVk_i (v := v)) hv
  refine at_aload_n dL_law_385 rfl ?_
  refine at_callV0 (d := 88) dL_law_386 mv_L_40 h70 (Nat.le_of_ble_eq_true rfl) ⟨by decide, by decide, by show cells + 0 + 0 ≤ 600000; omega, by show slots + 0 + 0 ≤ 7302250; omega⟩ ?_
  refine hm _ (fun n2 κ2 σ2 ρ2 h2 => ?_)
  refine at_icmp_eq (tgt := 1233) dL_law_389 (by decide) (fun _ => ?_) (fun e => absurd rfl e)
  exact zlw_next hL hi hk h2 (by show cells + 0 + 0 ≤ _; omega) (by show slots + 0 + 0 ≤ _; omega)
theorem zlw_6 (hL : L ≤ 3072) (hi : 6 * i + 6 ≤ L) (hk : zLP l G nm L xs (i + 1)) (h0 : zIVx n κ σ ρ) (hc : cells ≤ 90 + 15 * i) (hs : slots ≤ 41311 + 887 * i) : zq_At l G room_1 (mL nm) (zLQ G L xs) 394 [(0, .ref 0), (1, .ref 8), (2, .ref 70), (3, .int (nI (6 * i)))] [] n (zl_h κ (zm_h σ ρ)) cells slots := by
  obtain ⟨K, m, hn, t, z, Ls, Λ, h⟩ := h0
  refine at_aload_n dL_law_394 rfl ?_
  refine at_aload_n dL_law_395 rfl ?_
  refine at_iload_n dL_law_396 rfl ?_
  refine at_iconst dL_law_397 (v := nI 1) (by decide) ?_
  refine at_iaddN dL_law_398 ?_
  refine at_sldN dL_law_399 rfl (by omega) (by omega) ?_
  refine at_aload_n dL_law_400 rfl ?_
  refine at_iload_n dL_law_401 rfl ?_
  refine at_iconst dL_law_402 (v := nI 2) (by decide) ?_
  refine at_iaddN dL_law_403 ?_
  refine at_sldN dL_law_404 rfl (by omega) (by omega) ?_
  refine at_callV2 (d := 88) dL_law_405 mv_L_41 (zl_o rfl) (Nat.le_of_ble_eq_true rfl) ⟨by decide, by decide, by show cells + 0 ≤ 600000; omega, by show slots + 0 ≤ 7302250; omega⟩ ?_
  refine zk_terms (by decide) h _ (fun v n1 f1 hv hm => ?_)
  obtain ⟨⟨x, rfl⟩, fs, h70⟩ := And.imp_left (zVk_i (v := v)) hv
  refine at_aload_n dL_law_408 rfl ?_
  refine at_aload_n dL_law_409 rfl ?_
  refine at_iload_n dL_law_410 rfl ?_
  refine at_iconst dL_law_411 (v := nI 1) (by decide) ?_
  refine at_iaddN dL_law_412 ?_
  refine at_sldN dL_law_413 rfl (by omega) (by omega) ?_
  refine at_aload_n dL_law_414 rfl ?_
  refine at_iload_n dL_law_415 rfl ?_
  refine at_iconst dL_law_416 (v := nI 2) (by decide) ?_
  refine at_iaddN dL_law_417 ?_
  refine at_sldN dL_law_418 rfl (by omega) (by omega) ?_
  refine at_callV2 (d := 88) dL_law_419 mv_L_44 h70 (Nat.le_of_ble_eq_true rfl) ⟨by decide, by decide, by show cells + 0 + 0 ≤ 600000; omega, by show slots + 0 + 0 ≤ 7302250; omega⟩ ?_
  refine hm _ (fun n2 κ2 σ2 ρ2 h2 => ?_)
  refine at_icmp_eq (tgt := 1233) dL_law_422 (by decide) (fun _ => ?_) (fun e => absurd rfl e)
  exact zlw_next hL hi hk h2 (by show cells + 0 + 0 ≤ _; omega) (by show slots + 0 + 0 ≤ _; omega)
theorem zlw_7 (hL : L ≤ 3072) (hi : 6 * i + 6 ≤ L) (hk : zLP l G nm L xs (i + 1)) (h0 : zIVx n κ σ ρ) (hc : cells ≤ 90 + 15 * i) (hs : slots ≤ 41311 + 887 * i) : zq_At l G room_1 (mL nm) (zLQ G L xs) 427 [(0, .ref 0), (1, .ref 8), (2, .ref 70), (3, .int (nI (6 * i)))] [] n (zl_h κ (zm_h σ ρ)) cells slots := by
  obtain ⟨K, m, hn, t, z, Ls, Λ, h⟩ := h0
  refine at_aload_n dL_law_427 rfl ?_
  refine at_aload_n dL_law_428 rfl ?_
  refine at_iload_n dL_law_429 rfl ?_
  refine at_iconst dL_law_430 (v := nI 1) (by decide) ?_
  refine at_iaddN dL_law_431 ?_
  refine at_sldN dL_law_432 rfl (by omega) (by omega) ?_
  refine at_aload_n dL_law_433 rfl ?_
  refine at_iload_n dL_law_434 rfl ?_
  refine at_iconst dL_law_435 (v := nI 2) (by decide) ?_
  refine at_iaddN dL_law_436 ?_
  refine at_sldN dL_law_437 rfl (by omega) (by omega) ?_
  refine at_aload_n dL_law_438 rfl ?_
  refine at_iload_n dL_law_439 rfl ?_
  refine at_iconst dL_law_440 (v := nI 3) (by decide) ?_
  refine at_iaddN dL_law_441 ?_
  refine at_sldN dL_law_442 rfl (by omega) (by omega) ?_
  refine at_aload_n dL_law_443 rfl ?_
  refine at_iload_n dL_law_444 rfl ?_
  refine at_iconst dL_law_445 (v := nI 4) (by decide) ?_
  refine at_iaddN dL_law_446 ?_
  refine at_sldN dL_law_447 rfl (by omega) (by omega) ?_
  refine at_aload_n dL_law_448 rfl ?_
  refine at_iload_n dL_law_449 rfl ?_
  refine at_iconst dL_law_450 (v := nI 5) (by decide) ?_
  refine at_iaddN dL_law_451 ?_
  refine at_sldN dL_law_452 rfl (by omega) (by omega) ?_
  refine at_callV5 (d := 88) dL_law_453 mv_L_45 (zl_o rfl) (Nat.le_of_ble_eq_true rfl) ⟨by decide, by decide, by show cells + 0 ≤ 600000; omega, by show slots + 0 ≤ 7302250; omega⟩ ?_
  refine zk_feed (by decide) h _ (fun v n1 f1 hv hm => ?_)
  obtain ⟨⟨x, rfl⟩, fs, h70⟩ := And.imp_left (zVk_i (v := v)) hv
  refine at_aload_n dL_law_456 rfl ?_
  refine at_aload_n dL_law_457 rfl ?_
  refine at_iload_n dL_law_458 rfl ?_
  refine at_iconst dL_law_459 (v := nI 1) (by decide) ?_
  refine at_iaddN dL_law_460 ?_
  refine at_sldN dL_law_461 rfl (by omega) (by omega) ?_
  refine at_aload_n dL_law_462 rfl ?_
  refine at_iload_n dL_law_463 rfl ?_
  refine at_iconst dL_law_464 (v := nI 2) (by decide) ?_
  refine at_iaddN dL_law_465 ?_
  refine at_sldN dL_law_466 rfl (by omega) (by omega) ?_
  refine at_aload_n dL_law_467 rfl ?_
  refine at_iload_n dL_law_468 rfl ?_
  refine at_iconst dL_law_469 (v := nI 3) (by decide) ?_
  refine at_iaddN dL_law_470 ?_
  refine at_sldN dL_law_471 rfl (by omega) (by omega) ?_
  refine at_aload_n dL_law_472 rfl ?_
  refine at_iload_n dL_law_473 rfl ?_
  refine at_iconst dL_law_474 (v := nI 4) (by decide) ?_
  refine at_iaddN dL_law_475 ?_
  refine at_sldN dL_law_476 rfl (by omega) (by omega) ?_
  refine at_aload_n dL_law_477 rfl ?_
  refine at_iload_n dL_law_478 rfl ?_
  refine at_iconst dL_law_479 (v := nI 5) (by decide) ?_
  refine at_iaddN dL_law_480 ?_
  refine at_sldN dL_law_481 rfl (by omega) (by omega) ?_
  refine at_callV5 (d := 88) dL_law_482 mv_L_49 h70 (Nat.le_of_ble_eq_true rfl) ⟨by decide, by decide, by show cells + 0 + 0 ≤ 600000; omega, by show slots + 0 + 0 ≤ 7302250; omega⟩ ?_
  refine hm _ (fun n2 κ2 σ2 ρ2 h2 => ?_)
  refine at_icmp_eq (tgt := 1233) dL_law_485 (by decide) (fun _ => ?_) (fun e => absurd rfl e)
  exact zlw_next hL hi hk h2 (by show cells + 0 + 0 ≤ _; omega) (by show slots + 0 + 0 ≤ _; omega)
theorem zlw_8 (hL : L ≤ 3072) (hi : 6 * i + 6 ≤ L) (hk : zLP l G nm L xs (i + 1)) (h0 : zIVx n κ σ ρ) (hc : cells ≤ 90 + 15 * i) (hs : slots ≤ 41311 + 887 * i) : zq_At l G room_1 (mL nm) (zLQ G L xs) 490 [(0, .ref 0), (1, .ref 8), (2, .ref 70), (3, .int (nI (6 * i)))] [] n (zl_h κ (zm_h σ ρ)) cells slots := by
  obtain ⟨K, m, hn, t, z, Ls, Λ, h⟩ := h0
  refine at_aload_n dL_law_490 rfl ?_
  refine at_aload_n dL_law_491 rfl ?_
  refine at_iload_n dL_law_492 rfl ?_
  refine at_iconst dL_law_493 (v := nI 1) (by decide) ?_
  refine at_iaddN dL_law_494 ?_
  refine at_sldN dL_law_495 rfl (by omega) (by omega) ?_
  refine at_callV1 (d := 88) dL_law_496 mv_L_50 (zl_o rfl) (Nat.le_of_ble_eq_true rfl) ⟨by decide, by decide, by show cells + 0 ≤ 600000; omega, by show slots + 0 ≤ 7302250; omega⟩ ?_
  refine zk_end (by decide) h _ (fun v n1 f1 hv hm => ?_)
  obtain ⟨⟨x, rfl⟩, fs, h70⟩ := And.imp_left (zVk_i (v := v)) hv
  refine at_aload_n dL_law_499 rfl ?_
  refine at_aload_n dL_law_500 rfl ?_
  refine at_iload_n dL_law_501 rfl ?_
  refine at_iconst dL_law_502 (v := nI 1) (by decide) ?_
  refine at_iaddN dL_law_503 ?_
  refine at_sldN dL_law_504 rfl (by omega) (by omega) ?_
  refine at_callV1 (d := 88) dL_law_505 mv_L_53 h70 (Nat.le_of_ble_eq_true rfl) ⟨by decide, by decide, by show cells + 0 + 0 ≤ 600000; omega, by show slots + 0 + 0 ≤ 7302250; omega⟩ ?_
  refine hm _ (fun n2 κ2 σ2 ρ2 h2 => ?_)
  refine at_icmp_eq (tgt := 1233) dL_law_508 (by decide) (fun _ => ?_) (fun e => absurd rfl e)
  exact zlw_next hL hi hk h2 (by show cells + 0 + 0 ≤ _; omega) (by show slots + 0 + 0 ≤ _; omega)
theorem zlw_9 (hL : L ≤ 3072) (hi : 6 * i + 6 ≤ L) (hk : zLP l G nm L xs (i + 1)) (h0 : zIVx n κ σ ρ) (hc : cells ≤ 90 + 15 * i) (hs : slots ≤ 41311 + 887 * i) : zq_At l G room_1 (mL nm) (zLQ G L xs) 513 [(0, .ref 0), (1, .ref 8), (2, .ref 70), (3, .int (nI (6 * i)))] [] n (zl_h κ (zm_h σ ρ)) cells slots := by
  obtain ⟨K, m, hn, t, z, Ls, Λ, h⟩ := h0
  refine at_aload_n dL_law_513 rfl ?_
  refine at_callV0 (d := 88) dL_law_514 mv_L_54 (zl_o rfl) (Nat.le_of_ble_eq_true rfl) ⟨by decide, by decide, by show cells + 0 ≤ 600000; omega, by show slots + 0 ≤ 7302250; omega⟩ ?_
  refine zk_row (by decide) h _ (fun v n1 f1 hv hm => ?_)
  obtain ⟨⟨x, rfl⟩, fs, h70⟩ := And.imp_left (zVk_i (v := v)) hv
  refine at_aload_n dL_law_517 rfl ?_
  refine at_callV0 (d := 88) dL_law_518 mv_L_57 h70 (Nat.le_of_ble_eq_true rfl) ⟨by decide, by decide, by show cells + 0 + 0 ≤ 600000; omega, by show slots + 0 + 0 ≤ 7302250; omega⟩ ?_
  refine hm _ (fun n2 κ2 σ2 ρ2 h2 => ?_)
  refine at_icmp_eq (tgt := 1233) dL_law_521 (by decide) (fun _ => ?_) (fun e => absurd rfl e)
  exact zlw_next hL hi hk h2 (by show cells + 0 + 0 ≤ _; omega) (by show slots + 0 + 0 ≤ _; omega)
theorem zlw_10 (hL : L ≤ 3072) (hi : 6 * i + 6 ≤ L) (hk : zLP l G nm L xs (i + 1)) (h0 : zIVx n κ σ ρ) (hc : cells ≤ 90 + 15 * i) (hs : slots ≤ 41311 + 887 * i) : zq_At l G room_1 (mL nm) (zLQ G L xs) 526 [(0, .ref 0), (1, .ref 8), (2, .ref 70), (3, .int (nI (6 * i)))] [] n (zl_h κ (zm_h σ ρ)) cells slots := by
  obtain ⟨K, m, hn, t, z, Ls, Λ, h⟩ := h0
  refine at_aload_n dL_law_526 rfl ?_
  refine at_callV0 (d := 88) dL_law_527 mv_L_58 (zl_o rfl) (Nat.le_of_ble_eq_true rfl) ⟨by decide, by decide, by show cells + 0 ≤ 600000; omega, by show slots + 0 ≤ 7302250; omega⟩ ?_
  refine zk_misprints h _ (fun v n1 f1 hv hm => ?_)
  obtain ⟨⟨x, rfl⟩, fs, h70⟩ := And.imp_left (zVk_i (v := v)) hv
  refine at_aload_n dL_law_530 rfl ?_
  refine at_callV0 (d := 88) dL_law_531 mv_L_61 h70 (Nat.le_of_ble_eq_true rfl) ⟨by decide, by decide, by show cells + 0 + 0 ≤ 600000; omega, by show slots + 0 + 0 ≤ 7302250; omega⟩ ?_
  refine hm _ (fun n2 κ2 σ2 ρ2 h2 => ?_)
  refine at_icmp_eq (tgt := 1233) dL_law_534 (by decide) (fun _ => ?_) (fun e => absurd rfl e)
  exact zlw_next hL hi hk h2 (by show cells + 0 + 0 ≤ _; omega) (by show slots + 0 + 0 ≤ _; omega)
theorem zlw_11 (hL : L ≤ 3072) (hi : 6 * i + 6 ≤ L) (hk : zLP l G nm L xs (i + 1)) (h0 : zIVx n κ σ ρ) (hc : cells ≤ 90 + 15 * i) (hs : slots ≤ 41311 + 887 * i) : zq_At l G room_1 (mL nm) (zLQ G L xs) 539 [(0, .ref 0), (1, .ref 8), (2, .ref 70), (3, .int (nI (6 * i)))] [] n (zl_h κ (zm_h σ ρ)) cells slots := by
  obtain ⟨K, m, hn, t, z, Ls, Λ, h⟩ := h0
  refine at_aload_n dL_law_539 rfl ?_
  refine at_callV0 (d := 88) dL_law_540 mv_L_62 (zl_o rfl) (Nat.le_of_ble_eq_true rfl) ⟨by decide, by decide, by show cells + 15 ≤ 600000; omega, by show slots + 887 ≤ 7302250; omega⟩ ?_
  refine zk_law (by decide) h _ (fun v n1 f1 hv hm => ?_)
  obtain ⟨⟨x, rfl⟩, fs, h70⟩ := And.imp_left (zVk_i (v := v)) hv
  refine at_aload_n dL_law_543 rfl ?_
  refine at_callV0 (d := 88) dL_law_544 mv_L_65 h70 (Nat.le_of_ble_eq_true rfl) ⟨by decide, by decide, by show cells + 15 + 0 ≤ 600000; omega, by show slots + 887 + 0 ≤ 7302250; omega⟩ ?_
  refine hm _ (fun n2 κ2 σ2 ρ2 h2 => ?_)
  refine at_icmp_eq (tgt := 1233) dL_law_547 (by decide) (fun _ => ?_) (fun e => absurd rfl e)
  exact zlw_next hL hi hk h2 (by show cells + 15 + 0 ≤ _; omega) (by show slots + 887 + 0 ≤ _; omega)
theorem zlw_12 (hL : L ≤ 3072) (hi : 6 * i + 6 ≤ L) (hk : zLP l G nm L xs (i + 1)) (h0 : zIVx n κ σ ρ) (hc : cells ≤ 90 + 15 * i) (hs : slots ≤ 41311 + 887 * i) : zq_At l G room_1 (mL nm) (zLQ G L xs) 552 [(0, .ref 0), (1, .ref 8), (2, .ref 70), (3, .int (nI (6 * i)))] [] n (zl_h κ (zm_h σ ρ)) cells slots := by
  obtain ⟨K, m, hn, t, z, Ls, Λ, h⟩ := h0
  refine at_aload_n dL_law_552 rfl ?_
  refine at_callV0 (d := 88) dL_law_553 mv_L_66 (zl_o rfl) (Nat.le_of_ble_eq_true rfl) ⟨by decide, by decide, by show cells + 15 ≤ 600000; omega, by show slots + 887 ≤ 7302250; omega⟩ ?_
  refine zk_orders (by decide) h _ (fun v n1 f1 hv hm => ?_)
  obtain ⟨⟨x, rfl⟩, fs, h70⟩ := And.imp_left (zVk_i (v := v)) hv
  refine at_aload_n dL_law_556 rfl ?_
  refine at_callV0 (d := 88) dL_law_557 mv_L_69 h70 (Nat.le_of_ble_eq_true rfl) ⟨by decide, by decide, by show cells + 15 + 0 ≤ 600000; omega, by show slots + 887 + 0 ≤ 7302250; omega⟩ ?_
  refine hm _ (fun n2 κ2 σ2 ρ2 h2 => ?_)
  refine at_icmp_eq (tgt := 1233) dL_law_560 (by decide) (fun _ => ?_) (fun e => absurd rfl e)
  exact zlw_next hL hi hk h2 (by show cells + 15 + 0 ≤ _; omega) (by show slots + 887 + 0 ≤ _; omega)
theorem zlw_13 (hL : L ≤ 3072) (hi : 6 * i + 6 ≤ L) (hk : zLP l G nm L xs (i + 1)) (h0 : zIVx n κ σ ρ) (hc : cells ≤ 90 + 15 * i) (hs : slots ≤ 41311 + 887 * i) : zq_At l G room_1 (mL nm) (zLQ G L xs) 565 [(0, .ref 0), (1, .ref 8), (2, .ref 70), (3, .int (nI (6 * i)))] [] n (zl_h κ (zm_h σ ρ)) cells slots := by
  obtain ⟨K, m, hn, t, z, Ls, Λ, h⟩ := h0
  refine at_aload_n dL_law_565 rfl ?_
  refine at_callV0 (d := 88) dL_law_566 mv_L_70 (zl_o rfl) (Nat.le_of_ble_eq_true rfl) ⟨by decide, by decide, by show cells + 0 ≤ 600000; omega, by show slots + 0 ≤ 7302250; omega⟩ ?_
  refine zk_fault h _ (fun v n1 f1 hv hm => ?_)
  obtain ⟨⟨x, rfl⟩, fs, h70⟩ := And.imp_left (zVk_i (v := v)) hv
  refine at_aload_n dL_law_569 rfl ?_
  refine at_callV0 (d := 88) dL_law_570 mv_L_73 h70 (Nat.le_of_ble_eq_true rfl) ⟨by decide, by decide, by show cells + 0 + 0 ≤ 600000; omega, by show slots + 0 + 0 ≤ 7302250; omega⟩ ?_
  refine hm _ (fun n2 κ2 σ2 ρ2 h2 => ?_)
  refine at_icmp_eq (tgt := 1233) dL_law_573 (by decide) (fun _ => ?_) (fun e => absurd rfl e)
  exact zlw_next hL hi hk h2 (by show cells + 0 + 0 ≤ _; omega) (by show slots + 0 + 0 ≤ _; omega)
theorem zlw_14 (hL : L ≤ 3072) (hi : 6 * i + 6 ≤ L) (hk : zLP l G nm L xs (i + 1)) (h0 : zIVx n κ σ ρ) (hc : cells ≤ 90 + 15 * i) (hs : slots ≤ 41311 + 887 * i) : zq_At l G room_1 (mL nm) (zLQ G L xs) 578 [(0, .ref 0), (1, .ref 8), (2, .ref 70), (3, .int (nI (6 * i)))] [] n (zl_h κ (zm_h σ ρ)) cells slots := by
  obtain ⟨K, m, hn, t, z, Ls, Λ, h⟩ := h0
  refine at_aload_n dL_law_578 rfl ?_
  refine at_callV0 (d := 88) dL_law_579 mv_L_74 (zl_o rfl) (Nat.le_of_ble_eq_true rfl) ⟨by decide, by decide, by show cells + 0 ≤ 600000; omega, by show slots + 0 ≤ 7302250; omega⟩ ?_
  refine zk_stopped h _ (fun v n1 f1 hv hm => ?_)
  obtain ⟨⟨x, rfl⟩, fs, h70⟩ := And.imp_left (zVk_i (v := v)) hv
  refine at_aload_n dL_law_582 rfl ?_
  refine at_callV0 (d := 88) dL_law_583 mv_L_77 h70 (Nat.le_of_ble_eq_true rfl) ⟨by decide, by decide, by show cells + 0 + 0 ≤ 600000; omega, by show slots + 0 + 0 ≤ 7302250; omega⟩ ?_
  refine hm _ (fun n2 κ2 σ2 ρ2 h2 => ?_)
  refine at_icmp_eq (tgt := 1233) dL_law_586 (by decide) (fun _ => ?_) (fun e => absurd rfl e)
  exact zlw_next hL hi hk h2 (by show cells + 0 + 0 ≤ _; omega) (by show slots + 0 + 0 ≤ _; omega)
theorem zlw_15 (hL : L ≤ 3072) (hi : 6 * i + 6 ≤ L) (hk : zLP l G nm L xs (i + 1)) (h0 : zIVx n κ σ ρ) (hc : cells ≤ 90 + 15 * i) (hs : slots ≤ 41311 + 887 * i) : zq_At l G room_1 (mL nm) (zLQ G L xs) 591 [(0, .ref 0), (1, .ref 8), (2, .ref 70), (3, .int (nI (6 * i)))] [] n (zl_h κ (zm_h σ ρ)) cells slots := by
  obtain ⟨K, m, hn, t, z, Ls, Λ, h⟩ := h0
  refine at_aload_n dL_law_591 rfl ?_
  refine at_aload_n dL_law_592 rfl ?_
  refine at_iload_n dL_law_593 rfl ?_
  refine at_iconst dL_law_594 (v := nI 1) (by decide) ?_
  refine at_iaddN dL_law_595 ?_
  refine at_sldN dL_law_596 rfl (by omega) (by omega) ?_
  refine at_callV1 (d := 88) dL_law_597 mv_L_78 (zl_o rfl) (Nat.le_of_ble_eq_true rfl) ⟨by decide, by decide, by show cells + 0 ≤ 600000; omega, by show slots + 0 ≤ 7302250; omega⟩ ?_
  refine zk_force (by decide) h _ (fun v n1 f1 hv hm => ?_)
  obtain ⟨⟨x, rfl⟩, fs, h70⟩ := And.imp_left (zVk_i (v := v)) hv
  refine at_aload_n dL_law_600 rfl ?_
  refine at_aload_n dL_law_601 rfl ?_
  refine at_iload_n dL_law_602 rfl ?_
  refine at_iconst dL_law_603 (v := nI 1) (by decide) ?_
  refine at_iaddN dL_law_604 ?_
  refine at_sldN dL_law_605 rfl (by omega) (by omega) ?_
  refine at_callV1 (d := 88) dL_law_606 mv_L_81 h70 (Nat.le_of_ble_eq_true rfl) ⟨by decide, by decide, by show cells + 0 + 0 ≤ 600000; omega, by show slots + 0 + 0 ≤ 7302250; omega⟩ ?_
  refine hm _ (fun n2 κ2 σ2 ρ2 h2 => ?_)
  refine at_icmp_eq (tgt := 1233) dL_law_609 (by decide) (fun _ => ?_) (fun e => absurd rfl e)
  exact zlw_next hL hi hk h2 (by show cells + 0 + 0 ≤ _; omega) (by show slots + 0 + 0 ≤ _; omega)
theorem zlw_16 (hL : L ≤ 3072) (hi : 6 * i + 6 ≤ L) (hk : zLP l G nm L xs (i + 1)) (h0 : zIVx n κ σ ρ) (hc : cells ≤ 90 + 15 * i) (hs : slots ≤ 41311 + 887 * i) : zq_At l G room_1 (mL nm) (zLQ G L xs) 614 [(0, .ref 0), (1, .ref 8), (2, .ref 70), (3, .int (nI (6 * i)))] [] n (zl_h κ (zm_h σ ρ)) cells slots := by
  obtain ⟨K, m, hn, t, z, Ls, Λ, h⟩ := h0
  refine at_aload_n dL_law_614 rfl ?_
  refine at_aload_n dL_law_615 rfl ?_
  refine at_iload_n dL_law_616 rfl ?_
  refine at_iconst dL_law_617 (v := nI 1) (by decide) ?_
  refine at_iaddN dL_law_618 ?_
  refine at_sldN dL_law_619 rfl (by omega) (by omega) ?_
  refine at_aload_n dL_law_620 rfl ?_
  refine at_iload_n dL_law_621 rfl ?_
  refine at_iconst dL_law_622 (v := nI 2) (by decide) ?_
  refine at_iaddN dL_law_623 ?_
  refine at_sldN dL_law_624 rfl (by omega) (by omega) ?_
  refine at_aload_n dL_law_625 rfl ?_
  refine at_iload_n dL_law_626 rfl ?_
  refine at_iconst dL_law_627 (v := nI 3) (by decide) ?_
  refine at_iaddN dL_law_628 ?_
  refine at_sldN dL_law_629 rfl (by omega) (by omega) ?_
  refine at_callV3 (d := 88) dL_law_630 mv_L_82 (zl_o rfl) (Nat.le_of_ble_eq_true rfl) ⟨by decide, by decide, by show cells + 0 ≤ 600000; omega, by show slots + 0 ≤ 7302250; omega⟩ ?_
  refine zk_stroke (by decide) h _ (fun v n1 f1 hv hm => ?_)
  obtain ⟨⟨x, rfl⟩, fs, h70⟩ := And.imp_left (zVk_i (v := v)) hv
  refine at_aload_n dL_law_633 rfl ?_
  refine at_aload_n dL_law_634 rfl ?_
  refine at_iload_n dL_law_635 rfl ?_
  refine at_iconst dL_law_636 (v := nI 1) (by decide) ?_
  refine at_iaddN dL_law_637 ?_
  refine at_sldN dL_law_638 rfl (by omega) (by omega) ?_
  refine at_aload_n dL_law_639 rfl ?_
  refine at_iload_n dL_law_640 rfl ?_
  refine at_iconst dL_law_641 (v := nI 2) (by decide) ?_
  refine at_iaddN dL_law_642 ?_
  refine at_sldN dL_law_643 rfl (by omega) (by omega) ?_
  refine at_aload_n dL_law_644 rfl ?_
  refine at_iload_n dL_law_645 rfl ?_
  refine at_iconst dL_law_646 (v := nI 3) (by decide) ?_
  refine at_iaddN dL_law_647 ?_
  refine at_sldN dL_law_648 rfl (by omega) (by omega) ?_
  refine at_callV3 (d := 88) dL_law_649 mv_L_85 h70 (Nat.le_of_ble_eq_true rfl) ⟨by decide, by decide, by show cells + 0 + 0 ≤ 600000; omega, by show slots + 0 + 0 ≤ 7302250; omega⟩ ?_
  refine hm _ (fun n2 κ2 σ2 ρ2 h2 => ?_)
  refine at_icmp_eq (tgt := 1233) dL_law_652 (by decide) (fun _ => ?_) (fun e => absurd rfl e)
  exact zlw_next hL hi hk h2 (by show cells + 0 + 0 ≤ _; omega) (by show slots + 0 + 0 ≤ _; omega)
theorem zlw_17 (hL : L ≤ 3072) (hi : 6 * i + 6 ≤ L) (hk : zLP l G nm L xs (i + 1)) (h0 : zIVx n κ σ ρ) (hc : cells ≤ 90 + 15 * i) (hs : slots ≤ 41311 + 887 * i) : zq_At l G room_1 (mL nm) (zLQ G L xs) 657 [(0, .ref 0), (1, .ref 8), (2, .ref 70), (3, .int (nI (6 * i)))] [] n (zl_h κ (zm_h σ ρ)) cells slots := by
  obtain ⟨K, m, hn, t, z, Ls, Λ, h⟩ := h0
  refine at_aload_n dL_law_657 rfl ?_
  refine at_aload_n dL_law_658 rfl ?_
  refine at_iload_n dL_law_659 rfl ?_
  refine at_iconst dL_law_660 (v := nI 1) (by decide) ?_
  refine at_iaddN dL_law_661 ?_
  refine at_sldN dL_law_662 rfl (by omega) (by omega) ?_
  refine at_callV1 (d := 88) dL_law_663 mv_L_86 (zl_o rfl) (Nat.le_of_ble_eq_true rfl) ⟨by decide, by decide, by show cells + 0 ≤ 600000; omega, by show slots + 0 ≤ 7302250; omega⟩ ?_
  refine zk_swap (by decide) h _ (fun v n1 f1 hv hm => ?_)
  obtain ⟨⟨x, rfl⟩, fs, h70⟩ := And.imp_left (zVk_i (v := v)) hv
  refine at_aload_n dL_law_666 rfl ?_
  refine at_aload_n dL_law_667 rfl ?_
  refine at_iload_n dL_law_668 rfl ?_
  refine at_iconst dL_law_669 (v := nI 1) (by decide) ?_
  refine at_iaddN dL_law_670 ?_
  refine at_sldN dL_law_671 rfl (by omega) (by omega) ?_
  refine at_callV1 (d := 88) dL_law_672 mv_L_89 h70 (Nat.le_of_ble_eq_true rfl) ⟨by decide, by decide, by show cells + 0 + 0 ≤ 600000; omega, by show slots + 0 + 0 ≤ 7302250; omega⟩ ?_
  refine hm _ (fun n2 κ2 σ2 ρ2 h2 => ?_)
  refine at_icmp_eq (tgt := 1233) dL_law_675 (by decide) (fun _ => ?_) (fun e => absurd rfl e)
  exact zlw_next hL hi hk h2 (by show cells + 0 + 0 ≤ _; omega) (by show slots + 0 + 0 ≤ _; omega)
theorem zlw_18 (hL : L ≤ 3072) (hi : 6 * i + 6 ≤ L) (hk : zLP l G nm L xs (i + 1)) (h0 : zIVx n κ σ ρ) (hc : cells ≤ 90 + 15 * i) (hs : slots ≤ 41311 + 887 * i) : zq_At l G room_1 (mL nm) (zLQ G L xs) 680 [(0, .ref 0), (1, .ref 8), (2, .ref 70), (3, .int (nI (6 * i)))] [] n (zl_h κ (zm_h σ ρ)) cells slots := by
  obtain ⟨K, m, hn, t, z, Ls, Λ, h⟩ := h0
  refine at_aload_n dL_law_680 rfl ?_
  refine at_aload_n dL_law_681 rfl ?_
  refine at_iload_n dL_law_682 rfl ?_
  refine at_iconst dL_law_683 (v := nI 1) (by decide) ?_
  refine at_iaddN dL_law_684 ?_
  refine at_sldN dL_law_685 rfl (by omega) (by omega) ?_
  refine at_callV1 (d := 88) dL_law_686 mv_L_90 (zl_o rfl) (Nat.le_of_ble_eq_true rfl) ⟨by decide, by decide, by show cells + 0 ≤ 600000; omega, by show slots + 0 ≤ 7302250; omega⟩ ?_
  refine zk_decree (by decide) h _ (fun v n1 f1 hv hm => ?_)
  obtain ⟨⟨x, rfl⟩, fs, h70⟩ := And.imp_left (zVk_i (v := v)) hv
  refine at_aload_n dL_law_689 rfl ?_
  refine at_aload_n dL_law_690 rfl ?_
  refine at_iload_n dL_law_691 rfl ?_
  refine at_iconst dL_law_692 (v := nI 1) (by decide) ?_
  refine at_iaddN dL_law_693 ?_
  refine at_sldN dL_law_694 rfl (by omega) (by omega) ?_
  refine at_callV1 (d := 88) dL_law_695 mv_L_93 h70 (Nat.le_of_ble_eq_true rfl) ⟨by decide, by decide, by show cells + 0 + 0 ≤ 600000; omega, by show slots + 0 + 0 ≤ 7302250; omega⟩ ?_
  refine hm _ (fun n2 κ2 σ2 ρ2 h2 => ?_)
  refine at_icmp_eq (tgt := 1233) dL_law_698 (by decide) (fun _ => ?_) (fun e => absurd rfl e)
  exact zlw_next hL hi hk h2 (by show cells + 0 + 0 ≤ _; omega) (by show slots + 0 + 0 ≤ _; omega)
theorem zlw_19 (hL : L ≤ 3072) (hi : 6 * i + 6 ≤ L) (hk : zLP l G nm L xs (i + 1)) (h0 : zIVx n κ σ ρ) (hc : cells ≤ 90 + 15 * i) (hs : slots ≤ 41311 + 887 * i) : zq_At l G room_1 (mL nm) (zLQ G L xs) 703 [(0, .ref 0), (1, .ref 8), (2, .ref 70), (3, .int (nI (6 * i)))] [] n (zl_h κ (zm_h σ ρ)) cells slots := by
  obtain ⟨K, m, hn, t, z, Ls, Λ, h⟩ := h0
  refine at_aload_n dL_law_703 rfl ?_
  refine at_callV0 (d := 88) dL_law_704 mv_L_94 (zl_o rfl) (Nat.le_of_ble_eq_true rfl) ⟨by decide, by decide, by show cells + 0 ≤ 600000; omega, by show slots + 0 ≤ 7302250; omega⟩ ?_
  refine zk_pass (by decide) h _ (fun v n1 f1 hv hm => ?_)
  obtain ⟨⟨x, rfl⟩, fs, h70⟩ := And.imp_left (zVk_i (v := v)) hv
  refine at_aload_n dL_law_707 rfl ?_
  refine at_callV0 (d := 88) dL_law_708 mv_L_97 h70 (Nat.le_of_ble_eq_true rfl) ⟨by decide, by decide, by show cells + 0 + 0 ≤ 600000; omega, by show slots + 0 + 0 ≤ 7302250; omega⟩ ?_
  refine hm _ (fun n2 κ2 σ2 ρ2 h2 => ?_)
  refine at_icmp_eq (tgt := 1233) dL_law_711 (by decide) (fun _ => ?_) (fun e => absurd rfl e)
  exact zlw_next hL hi hk h2 (by show cells + 0 + 0 ≤ _; omega) (by show slots + 0 + 0 ≤ _; omega)
theorem zlw_20 (hL : L ≤ 3072) (hi : 6 * i + 6 ≤ L) (hk : zLP l G nm L xs (i + 1)) (h0 : zIVx n κ σ ρ) (hc : cells ≤ 90 + 15 * i) (hs : slots ≤ 41311 + 887 * i) : zq_At l G room_1 (mL nm) (zLQ G L xs) 716 [(0, .ref 0), (1, .ref 8), (2, .ref 70), (3, .int (nI (6 * i)))] [] n (zl_h κ (zm_h σ ρ)) cells slots := by
  obtain ⟨K, m, hn, t, z, Ls, Λ, h⟩ := h0
  refine at_aload_n dL_law_716 rfl ?_
  refine at_callV0 (d := 88) dL_law_717 mv_L_98 (zl_o rfl) (Nat.le_of_ble_eq_true rfl) ⟨by decide, by decide, by show cells + 0 ≤ 600000; omega, by show slots + 0 ≤ 7302250; omega⟩ ?_
  refine zk_undo (by decide) h _ (fun v n1 f1 hv hm => ?_)
  obtain ⟨⟨x, rfl⟩, fs, h70⟩ := And.imp_left (zVk_i (v := v)) hv
  refine at_aload_n dL_law_720 rfl ?_
  refine at_callV0 (d := 88) dL_law_721 mv_L_101 h70 (Nat.le_of_ble_eq_true rfl) ⟨by decide, by decide, by show cells + 0 + 0 ≤ 600000; omega, by show slots + 0 + 0 ≤ 7302250; omega⟩ ?_
  refine hm _ (fun n2 κ2 σ2 ρ2 h2 => ?_)
  refine at_icmp_eq (tgt := 1233) dL_law_724 (by decide) (fun _ => ?_) (fun e => absurd rfl e)
  exact zlw_next hL hi hk h2 (by show cells + 0 + 0 ≤ _; omega) (by show slots + 0 + 0 ≤ _; omega)
theorem zlw_21 (hL : L ≤ 3072) (hi : 6 * i + 6 ≤ L) (hk : zLP l G nm L xs (i + 1)) (h0 : zIVx n κ σ ρ) (hc : cells ≤ 90 + 15 * i) (hs : slots ≤ 41311 + 887 * i) : zq_At l G room_1 (mL nm) (zLQ G L xs) 729 [(0, .ref 0), (1, .ref 8), (2, .ref 70), (3, .int (nI (6 * i)))] [] n (zl_h κ (zm_h σ ρ)) cells slots := by
  obtain ⟨K, m, hn, t, z, Ls, Λ, h⟩ := h0
  refine at_aload_n dL_law_729 rfl ?_
  refine at_aload_n dL_law_730 rfl ?_
  refine at_iload_n dL_law_731 rfl ?_
  refine at_iconst dL_law_732 (v := nI 1) (by decide) ?_
  refine at_iaddN dL_law_733 ?_
  refine at_sldN dL_law_734 rfl (by omega) (by omega) ?_
  refine at_aload_n dL_law_735 rfl ?_
  refine at_iload_n dL_law_736 rfl ?_
  refine at_iconst dL_law_737 (v := nI 2) (by decide) ?_
  refine at_iaddN dL_law_738 ?_
  refine at_sldN dL_law_739 rfl (by omega) (by omega) ?_
  refine at_callV2 (d := 88) dL_law_740 mv_L_102 (zl_o rfl) (Nat.le_of_ble_eq_true rfl) ⟨by decide, by decide, by show cells + 0 ≤ 600000; omega, by show slots + 0 ≤ 7302250; omega⟩ ?_
  refine zk_ahead (by decide) h _ (fun v n1 f1 hv hm => ?_)
  obtain ⟨⟨x, rfl⟩, fs, h70⟩ := And.imp_left (zVk_i (v := v)) hv
  refine at_aload_n dL_law_743 rfl ?_
  refine at_aload_n dL_law_744 rfl ?_
  refine at_iload_n dL_law_745 rfl ?_
  refine at_iconst dL_law_746 (v := nI 1) (by decide) ?_
  refine at_iaddN dL_law_747 ?_
  refine at_sldN dL_law_748 rfl (by omega) (by omega) ?_
  refine at_aload_n dL_law_749 rfl ?_
  refine at_iload_n dL_law_750 rfl ?_
  refine at_iconst dL_law_751 (v := nI 2) (by decide) ?_
  refine at_iaddN dL_law_752 ?_
  refine at_sldN dL_law_753 rfl (by omega) (by omega) ?_
  refine at_callV2 (d := 88) dL_law_754 mv_L_105 h70 (Nat.le_of_ble_eq_true rfl) ⟨by decide, by decide, by show cells + 0 + 0 ≤ 600000; omega, by show slots + 0 + 0 ≤ 7302250; omega⟩ ?_
  refine hm _ (fun n2 κ2 σ2 ρ2 h2 => ?_)
  refine at_icmp_eq (tgt := 1233) dL_law_757 (by decide) (fun _ => ?_) (fun e => absurd rfl e)
  exact zlw_next hL hi hk h2 (by show cells + 0 + 0 ≤ _; omega) (by show slots + 0 + 0 ≤ _; omega)
theorem zlw_22 (hL : L ≤ 3072) (hi : 6 * i + 6 ≤ L) (hk : zLP l G nm L xs (i + 1)) (h0 : zIVx n κ σ ρ) (hc : cells ≤ 90 + 15 * i) (hs : slots ≤ 41311 + 887 * i) : zq_At l G room_1 (mL nm) (zLQ G L xs) 762 [(0, .ref 0), (1, .ref 8), (2, .ref 70), (3, .int (nI (6 * i)))] [] n (zl_h κ (zm_h σ ρ)) cells slots := by
  obtain ⟨K, m, hn, t, z, Ls, Λ, h⟩ := h0
  refine at_aload_n dL_law_762 rfl ?_
  refine at_aload_n dL_law_763 rfl ?_
  refine at_iload_n dL_law_764 rfl ?_
  refine at_iconst dL_law_765 (v := nI 1) (by decide) ?_
  refine at_iaddN dL_law_766 ?_
  refine at_sldN dL_law_767 rfl (by omega) (by omega) ?_
  refine at_callV1 (d := 88) dL_law_768 mv_L_106 (zl_o rfl) (Nat.le_of_ble_eq_true rfl) ⟨by decide, by decide, by show cells + 0 ≤ 600000; omega, by show slots + 0 ≤ 7302250; omega⟩ ?_
  refine zk_breaks (by decide) h _ (fun v n1 f1 hv hm => ?_)
  obtain ⟨⟨x, rfl⟩, fs, h70⟩ := And.imp_left (zVk_i (v := v)) hv
  refine at_aload_n dL_law_771 rfl ?_
  refine at_aload_n dL_law_772 rfl ?_
  refine at_iload_n dL_law_773 rfl ?_
  refine at_iconst dL_law_774 (v := nI 1) (by decide) ?_
  refine at_iaddN dL_law_775 ?_
  refine at_sldN dL_law_776 rfl (by omega) (by omega) ?_
  refine at_callV1 (d := 88) dL_law_777 mv_L_109 h70 (Nat.le_of_ble_eq_true rfl) ⟨by decide, by decide, by show cells + 0 + 0 ≤ 600000; omega, by show slots + 0 + 0 ≤ 7302250; omega⟩ ?_
  refine hm _ (fun n2 κ2 σ2 ρ2 h2 => ?_)
  refine at_icmp_eq (tgt := 1233) dL_law_780 (by decide) (fun _ => ?_) (fun e => absurd rfl e)
  exact zlw_next hL hi hk h2 (by show cells + 0 + 0 ≤ _; omega) (by show slots + 0 + 0 ≤ _; omega)
theorem zlw_23 (hL : L ≤ 3072) (hi : 6 * i + 6 ≤ L) (hk : zLP l G nm L xs (i + 1)) (h0 : zIVx n κ σ ρ) (hc : cells ≤ 90 + 15 * i) (hs : slots ≤ 41311 + 887 * i) : zq_At l G room_1 (mL nm) (zLQ G L xs) 785 [(0, .ref 0), (1, .ref 8), (2, .ref 70), (3, .int (nI (6 * i)))] [] n (zl_h κ (zm_h σ ρ)) cells slots := by
  obtain ⟨K, m, hn, t, z, Ls, Λ, h⟩ := h0
  refine at_aload_n dL_law_785 rfl ?_
  refine at_callV0 (d := 88) dL_law_786 mv_L_110 (zl_o rfl) (Nat.le_of_ble_eq_true rfl) ⟨by decide, by decide, by show cells + 0 ≤ 600000; omega, by show slots + 0 ≤ 7302250; omega⟩ ?_
  refine zk_swaps (by decide) h _ (fun v n1 f1 hv hm => ?_)
  obtain ⟨⟨x, rfl⟩, fs, h70⟩ := And.imp_left (zVk_i (v := v)) hv
  refine at_aload_n dL_law_789 rfl ?_
  refine at_callV0 (d := 88) dL_law_790 mv_L_113 h70 (Nat.le_of_ble_eq_true rfl) ⟨by decide, by decide, by show cells + 0 + 0 ≤ 600000; omega, by show slots + 0 + 0 ≤ 7302250; omega⟩ ?_
  refine hm _ (fun n2 κ2 σ2 ρ2 h2 => ?_)
  refine at_icmp_eq (tgt := 1233) dL_law_793 (by decide) (fun _ => ?_) (fun e => absurd rfl e)
  exact zlw_next hL hi hk h2 (by show cells + 0 + 0 ≤ _; omega) (by show slots + 0 + 0 ≤ _; omega)
theorem zlw_24 (hL : L ≤ 3072) (hi : 6 * i + 6 ≤ L) (hk : zLP l G nm L xs (i + 1)) (h0 : zIVx n κ σ ρ) (hc : cells ≤ 90 + 15 * i) (hs : slots ≤ 41311 + 887 * i) : zq_At l G room_1 (mL nm) (zLQ G L xs) 798 [(0, .ref 0), (1, .ref 8), (2, .ref 70), (3, .int (nI (6 * i)))] [] n (zl_h κ (zm_h σ ρ)) cells slots := by
  obtain ⟨K, m, hn, t, z, Ls, Λ, h⟩ := h0
  refine at_aload_n dL_law_798 rfl ?_
  refine at_aload_n dL_law_799 rfl ?_
  refine at_iload_n dL_law_800 rfl ?_
  refine at_iconst dL_law_801 (v := nI 1) (by decide) ?_
  refine at_iaddN dL_law_802 ?_
  refine at_sldN dL_law_803 rfl (by omega) (by omega) ?_
  refine at_callV1 (d := 88) dL_law_804 mv_L_114 (zl_o rfl) (Nat.le_of_ble_eq_true rfl) ⟨by decide, by decide, by show cells + 0 ≤ 600000; omega, by show slots + 0 ≤ 7302250; omega⟩ ?_
  refine zk_out (by decide) h _ (fun v n1 f1 hv hm => ?_)
  obtain ⟨⟨x, rfl⟩, fs, h70⟩ := And.imp_left (zVk_i (v := v)) hv
  refine at_aload_n dL_law_807 rfl ?_
  refine at_aload_n dL_law_808 rfl ?_
  refine at_iload_n dL_law_809 rfl ?_
  refine at_iconst dL_law_810 (v := nI 1) (by decide) ?_
  refine at_iaddN dL_law_811 ?_
  refine at_sldN dL_law_812 rfl (by omega) (by omega) ?_
  refine at_callV1 (d := 88) dL_law_813 mv_L_117 h70 (Nat.le_of_ble_eq_true rfl) ⟨by decide, by decide, by show cells + 0 + 0 ≤ 600000; omega, by show slots + 0 + 0 ≤ 7302250; omega⟩ ?_
  refine hm _ (fun n2 κ2 σ2 ρ2 h2 => ?_)
  refine at_icmp_eq (tgt := 1233) dL_law_816 (by decide) (fun _ => ?_) (fun e => absurd rfl e)
  exact zlw_next hL hi hk h2 (by show cells + 0 + 0 ≤ _; omega) (by show slots + 0 + 0 ≤ _; omega)
theorem zlw_25 (hL : L ≤ 3072) (hi : 6 * i + 6 ≤ L) (hk : zLP l G nm L xs (i + 1)) (h0 : zIVx n κ σ ρ) (hc : cells ≤ 90 + 15 * i) (hs : slots ≤ 41311 + 887 * i) : zq_At l G room_1 (mL nm) (zLQ G L xs) 821 [(0, .ref 0), (1, .ref 8), (2, .ref 70), (3, .int (nI (6 * i)))] [] n (zl_h κ (zm_h σ ρ)) cells slots := by
  obtain ⟨K, m, hn, t, z, Ls, Λ, h⟩ := h0
  refine at_aload_n dL_law_821 rfl ?_
  refine at_aload_n dL_law_822 rfl ?_
  refine at_iload_n dL_law_823 rfl ?_
  refine at_iconst dL_law_824 (v := nI 1) (by decide) ?_
  refine at_iaddN dL_law_825 ?_
  refine at_sldN dL_law_826 rfl (by omega) (by omega) ?_
  refine at_callV1 (d := 88) dL_law_827 mv_L_118 (zl_o rfl) (Nat.le_of_ble_eq_true rfl) ⟨by decide, by decide, by show cells + 0 ≤ 600000; omega, by show slots + 0 ≤ 7302250; omega⟩ ?_
  refine zk_right (by decide) h _ (fun v n1 f1 hv hm => ?_)
  obtain ⟨⟨x, rfl⟩, fs, h70⟩ := And.imp_left (zVk_i (v := v)) hv
  refine at_aload_n dL_law_830 rfl ?_
  refine at_aload_n dL_law_831 rfl ?_
  refine at_iload_n dL_law_832 rfl ?_
  refine at_iconst dL_law_833 (v := nI 1) (by decide) ?_
  refine at_iaddN dL_law_834 ?_
  refine at_sldN dL_law_835 rfl (by omega) (by omega) ?_
  refine at_callV1 (d := 88) dL_law_836 mv_L_121 h70 (Nat.le_of_ble_eq_true rfl) ⟨by decide, by decide, by show cells + 0 + 0 ≤ 600000; omega, by show slots + 0 + 0 ≤ 7302250; omega⟩ ?_
  refine hm _ (fun n2 κ2 σ2 ρ2 h2 => ?_)
  refine at_icmp_eq (tgt := 1233) dL_law_839 (by decide) (fun _ => ?_) (fun e => absurd rfl e)
  exact zlw_next hL hi hk h2 (by show cells + 0 + 0 ≤ _; omega) (by show slots + 0 + 0 ≤ _; omega)
theorem zlw_26 (hL : L ≤ 3072) (hi : 6 * i + 6 ≤ L) (hk : zLP l G nm L xs (i + 1)) (h0 : zIVx n κ σ ρ) (hc : cells ≤ 90 + 15 * i) (hs : slots ≤ 41311 + 887 * i) : zq_At l G room_1 (mL nm) (zLQ G L xs) 844 [(0, .ref 0), (1, .ref 8), (2, .ref 70), (3, .int (nI (6 * i)))] [] n (zl_h κ (zm_h σ ρ)) cells slots := by
  obtain ⟨K, m, hn, t, z, Ls, Λ, h⟩ := h0
  refine at_aload_n dL_law_844 rfl ?_
  refine at_aload_n dL_law_845 rfl ?_
  refine at_iload_n dL_law_846 rfl ?_
  refine at_iconst dL_law_847 (v := nI 1) (by decide) ?_
  refine at_iaddN dL_law_848 ?_
  refine at_sldN dL_law_849 rfl (by omega) (by omega) ?_
  refine at_aload_n dL_law_850 rfl ?_
  refine at_iload_n dL_law_851 rfl ?_
  refine at_iconst dL_law_852 (v := nI 2) (by decide) ?_
  refine at_iaddN dL_law_853 ?_
  refine at_sldN dL_law_854 rfl (by omega) (by omega) ?_
  refine at_callV2 (d := 88) dL_law_855 mv_L_122 (zl_o rfl) (Nat.le_of_ble_eq_true rfl) ⟨by decide, by decide, by show cells + 0 ≤ 600000; omega, by show slots + 0 ≤ 7302250; omega⟩ ?_
  refine zk_heard (by decide) h _ (fun v n1 f1 hv hm => ?_)
  obtain ⟨⟨x, rfl⟩, fs, h70⟩ := And.imp_left (zVk_i (v := v)) hv
  refine at_aload_n dL_law_858 rfl ?_
  refine at_aload_n dL_law_859 rfl ?_
  refine at_iload_n dL_law_860 rfl ?_
  refine at_iconst dL_law_861 (v := nI 1) (by decide) ?_
  refine at_iaddN dL_law_862 ?_
  refine at_sldN dL_law_863 rfl (by omega) (by omega) ?_
  refine at_aload_n dL_law_864 rfl ?_
  refine at_iload_n dL_law_865 rfl ?_
  refine at_iconst dL_law_866 (v := nI 2) (by decide) ?_
  refine at_iaddN dL_law_867 ?_
  refine at_sldN dL_law_868 rfl (by omega) (by omega) ?_
  refine at_callV2 (d := 88) dL_law_869 mv_L_125 h70 (Nat.le_of_ble_eq_true rfl) ⟨by decide, by decide, by show cells + 0 + 0 ≤ 600000; omega, by show slots + 0 + 0 ≤ 7302250; omega⟩ ?_
  refine hm _ (fun n2 κ2 σ2 ρ2 h2 => ?_)
  refine at_icmp_eq (tgt := 1233) dL_law_872 (by decide) (fun _ => ?_) (fun e => absurd rfl e)
  exact zlw_next hL hi hk h2 (by show cells + 0 + 0 ≤ _; omega) (by show slots + 0 + 0 ≤ _; omega)
theorem zlw_27 (hL : L ≤ 3072) (hi : 6 * i + 6 ≤ L) (hk : zLP l G nm L xs (i + 1)) (h0 : zIVx n κ σ ρ) (hc : cells ≤ 90 + 15 * i) (hs : slots ≤ 41311 + 887 * i) : zq_At l G room_1 (mL nm) (zLQ G L xs) 877 [(0, .ref 0), (1, .ref 8), (2, .ref 70), (3, .int (nI (6 * i)))] [] n (zl_h κ (zm_h σ ρ)) cells slots := by
  obtain ⟨K, m, hn, t, z, Ls, Λ, h⟩ := h0
  refine at_aload_n dL_law_877 rfl ?_
  refine at_callV0 (d := 88) dL_law_878 mv_L_126 (zl_o rfl) (Nat.le_of_ble_eq_true rfl) ⟨by decide, by decide, by show cells + 0 ≤ 600000; omega, by show slots + 0 ≤ 7302250; omega⟩ ?_
  refine zk_forget (by decide) h _ (fun v n1 f1 hv hm => ?_)
  obtain ⟨⟨x, rfl⟩, fs, h70⟩ := And.imp_left (zVk_i (v := v)) hv
  refine at_aload_n dL_law_881 rfl ?_
  refine at_callV0 (d := 88) dL_law_882 mv_L_129 h70 (Nat.le_of_ble_eq_true rfl) ⟨by decide, by decide, by show cells + 0 + 0 ≤ 600000; omega, by show slots + 0 + 0 ≤ 7302250; omega⟩ ?_
  refine hm _ (fun n2 κ2 σ2 ρ2 h2 => ?_)
  refine at_icmp_eq (tgt := 1233) dL_law_885 (by decide) (fun _ => ?_) (fun e => absurd rfl e)
  exact zlw_next hL hi hk h2 (by show cells + 0 + 0 ≤ _; omega) (by show slots + 0 + 0 ≤ _; omega)
theorem zlw_28 (hL : L ≤ 3072) (hi : 6 * i + 6 ≤ L) (hk : zLP l G nm L xs (i + 1)) (h0 : zIVx n κ σ ρ) (hc : cells ≤ 90 + 15 * i) (hs : slots ≤ 41311 + 887 * i) : zq_At l G room_1 (mL nm) (zLQ G L xs) 890 [(0, .ref 0), (1, .ref 8), (2, .ref 70), (3, .int (nI (6 * i)))] [] n (zl_h κ (zm_h σ ρ)) cells slots := by
  obtain ⟨K, m, hn, t, z, Ls, Λ, h⟩ := h0
  refine at_aload_n dL_law_890 rfl ?_
  refine at_aload_n dL_law_891 rfl ?_
  refine at_iload_n dL_law_892 rfl ?_
  refine at_iconst dL_law_893 (v := nI 1) (by decide) ?_
  refine at_iaddN dL_law_894 ?_
  refine at_sldN dL_law_895 rfl (by omega) (by omega) ?_
  refine at_callV1 (d := 88) dL_law_896 mv_L_130 (zl_o rfl) (Nat.le_of_ble_eq_true rfl) ⟨by decide, by decide, by show cells + 0 ≤ 600000; omega, by show slots + 0 ≤ 7302250; omega⟩ ?_
  refine zk_fits (by decide) h _ (fun v n1 f1 hv hm => ?_)
  obtain ⟨⟨x, rfl⟩, fs, h70⟩ := And.imp_left (zVk_i (v := v)) hv
  refine at_aload_n dL_law_899 rfl ?_
  refine at_aload_n dL_law_900 rfl ?_
  refine at_iload_n dL_law_901 rfl ?_
  refine at_iconst dL_law_902 (v := nI 1) (by decide) ?_
  refine at_iaddN dL_law_903 ?_
  refine at_sldN dL_law_904 rfl (by omega) (by omega) ?_
  refine at_callV1 (d := 88) dL_law_905 mv_L_133 h70 (Nat.le_of_ble_eq_true rfl) ⟨by decide, by decide, by show cells + 0 + 0 ≤ 600000; omega, by show slots + 0 + 0 ≤ 7302250; omega⟩ ?_
  refine hm _ (fun n2 κ2 σ2 ρ2 h2 => ?_)
  refine at_icmp_eq (tgt := 1233) dL_law_908 (by decide) (fun _ => ?_) (fun e => absurd rfl e)
  exact zlw_next hL hi hk h2 (by show cells + 0 + 0 ≤ _; omega) (by show slots + 0 + 0 ≤ _; omega)
theorem zlw_29 (hL : L ≤ 3072) (hi : 6 * i + 6 ≤ L) (hk : zLP l G nm L xs (i + 1)) (h0 : zIVx n κ σ ρ) (hc : cells ≤ 90 + 15 * i) (hs : slots ≤ 41311 + 887 * i) : zq_At l G room_1 (mL nm) (zLQ G L xs) 913 [(0, .ref 0), (1, .ref 8), (2, .ref 70), (3, .int (nI (6 * i)))] [] n (zl_h κ (zm_h σ ρ)) cells slots := by
  obtain ⟨K, m, hn, t, z, Ls, Λ, h⟩ := h0
  refine at_aload_n dL_law_913 rfl ?_
  refine at_aload_n dL_law_914 rfl ?_
  refine at_iload_n dL_law_915 rfl ?_
  refine at_iconst dL_law_916 (v := nI 1) (by decide) ?_
  refine at_iaddN dL_law_917 ?_
  refine at_sldN dL_law_918 rfl (by omega) (by omega) ?_
  refine at_callV1 (d := 88) dL_law_919 mv_L_134 (zl_o rfl) (Nat.le_of_ble_eq_true rfl) ⟨by decide, by decide, by show cells + 0 ≤ 600000; omega, by show slots + 0 ≤ 7302250; omega⟩ ?_
  refine zk_ask (by decide) h _ (fun v n1 f1 hv hm => ?_)
  obtain ⟨⟨x, rfl⟩, fs, h70⟩ := And.imp_left (zVk_i (v := v)) hv
  refine at_aload_n dL_law_922 rfl ?_
  refine at_aload_n dL_law_923 rfl ?_
  refine at_iload_n dL_law_924 rfl ?_
  refine at_iconst dL_law_925 (v := nI 1) (by decide) ?_
  refine at_iaddN dL_law_926 ?_
  refine at_sldN dL_law_927 rfl (by omega) (by omega) ?_
  refine at_callV1 (d := 88) dL_law_928 mv_L_137 h70 (Nat.le_of_ble_eq_true rfl) ⟨by decide, by decide, by show cells + 0 + 0 ≤ 600000; omega, by show slots + 0 + 0 ≤ 7302250; omega⟩ ?_
  refine hm _ (fun n2 κ2 σ2 ρ2 h2 => ?_)
  refine at_icmp_eq (tgt := 1233) dL_law_931 (by decide) (fun _ => ?_) (fun e => absurd rfl e)
  exact zlw_next hL hi hk h2 (by show cells + 0 + 0 ≤ _; omega) (by show slots + 0 + 0 ≤ _; omega)
theorem zlw_30 (hL : L ≤ 3072) (hi : 6 * i + 6 ≤ L) (hk : zLP l G nm L xs (i + 1)) (h0 : zIVx n κ σ ρ) (hc : cells ≤ 90 + 15 * i) (hs : slots ≤ 41311 + 887 * i) : zq_At l G room_1 (mL nm) (zLQ G L xs) 936 [(0, .ref 0), (1, .ref 8), (2, .ref 70), (3, .int (nI (6 * i)))] [] n (zl_h κ (zm_h σ ρ)) cells slots := by
  obtain ⟨K, m, hn, t, z, Ls, Λ, h⟩ := h0
  refine at_aload_n dL_law_936 rfl ?_
  refine at_aload_n dL_law_937 rfl ?_
  refine at_iload_n dL_law_938 rfl ?_
  refine at_iconst dL_law_939 (v := nI 1) (by decide) ?_
  refine at_iaddN dL_law_940 ?_
  refine at_sldN dL_law_941 rfl (by omega) (by omega) ?_
  refine at_callV1 (d := 88) dL_law_942 mv_L_138 (zl_o rfl) (Nat.le_of_ble_eq_true rfl) ⟨by decide, by decide, by show cells + 0 ≤ 600000; omega, by show slots + 0 ≤ 7302250; omega⟩ ?_
  refine zk_mend (by decide) h _ (fun v n1 f1 hv hm => ?_)
  obtain ⟨⟨x, rfl⟩, fs, h70⟩ := And.imp_left (zVk_i (v := v)) hv
  refine at_aload_n dL_law_945 rfl ?_
  refine at_aload_n dL_law_946 rfl ?_
  refine at_iload_n dL_law_947 rfl ?_
  refine at_iconst dL_law_948 (v := nI 1) (by decide) ?_
  refine at_iaddN dL_law_949 ?_
  refine at_sldN dL_law_950 rfl (by omega) (by omega) ?_
  refine at_callV1 (d := 88) dL_law_951 mv_L_141 h70 (Nat.le_of_ble_eq_true rfl) ⟨by decide, by decide, by show cells + 0 + 0 ≤ 600000; omega, by show slots + 0 + 0 ≤ 7302250; omega⟩ ?_
  refine hm _ (fun n2 κ2 σ2 ρ2 h2 => ?_)
  refine at_icmp_eq (tgt := 1233) dL_law_954 (by decide) (fun _ => ?_) (fun e => absurd rfl e)
  exact zlw_next hL hi hk h2 (by show cells + 0 + 0 ≤ _; omega) (by show slots + 0 + 0 ≤ _; omega)
theorem zlw_31 (hL : L ≤ 3072) (hi : 6 * i + 6 ≤ L) (hk : zLP l G nm L xs (i + 1)) (h0 : zIVx n κ σ ρ) (hc : cells ≤ 90 + 15 * i) (hs : slots ≤ 41311 + 887 * i) : zq_At l G room_1 (mL nm) (zLQ G L xs) 959 [(0, .ref 0), (1, .ref 8), (2, .ref 70), (3, .int (nI (6 * i)))] [] n (zl_h κ (zm_h σ ρ)) cells slots := by
  obtain ⟨K, m, hn, t, z, Ls, Λ, h⟩ := h0
  refine at_aload_n dL_law_959 rfl ?_
  refine at_aload_n dL_law_960 rfl ?_
  refine at_iload_n dL_law_961 rfl ?_
  refine at_iconst dL_law_962 (v := nI 1) (by decide) ?_
  refine at_iaddN dL_law_963 ?_
  refine at_sldN dL_law_964 rfl (by omega) (by omega) ?_
  refine at_callV1 (d := 88) dL_law_965 mv_L_142 (zl_o rfl) (Nat.le_of_ble_eq_true rfl) ⟨by decide, by decide, by show cells + 0 ≤ 600000; omega, by show slots + 0 ≤ 7302250; omega⟩ ?_
  refine zk_whisper (by decide) h _ (fun v n1 f1 hv hm => ?_)
  obtain ⟨⟨x, rfl⟩, fs, h70⟩ := And.imp_left (zVk_i (v := v)) hv
  refine at_aload_n dL_law_968 rfl ?_
  refine at_aload_n dL_law_969 rfl ?_
  refine at_iload_n dL_law_970 rfl ?_
  refine at_iconst dL_law_971 (v := nI 1) (by decide) ?_
  refine at_iaddN dL_law_972 ?_
  refine at_sldN dL_law_973 rfl (by omega) (by omega) ?_
  refine at_callV1 (d := 88) dL_law_974 mv_L_145 h70 (Nat.le_of_ble_eq_true rfl) ⟨by decide, by decide, by show cells + 0 + 0 ≤ 600000; omega, by show slots + 0 + 0 ≤ 7302250; omega⟩ ?_
  refine hm _ (fun n2 κ2 σ2 ρ2 h2 => ?_)
  refine at_icmp_eq (tgt := 1233) dL_law_977 (by decide) (fun _ => ?_) (fun e => absurd rfl e)
  exact zlw_next hL hi hk h2 (by show cells + 0 + 0 ≤ _; omega) (by show slots + 0 + 0 ≤ _; omega)
theorem zlw_32 (hL : L ≤ 3072) (hi : 6 * i + 6 ≤ L) (hk : zLP l G nm L xs (i + 1)) (h0 : zIVx n κ σ ρ) (hc : cells ≤ 90 + 15 * i) (hs : slots ≤ 41311 + 887 * i) : zq_At l G room_1 (mL nm) (zLQ G L xs) 982 [(0, .ref 0), (1, .ref 8), (2, .ref 70), (3, .int (nI (6 * i)))] [] n (zl_h κ (zm_h σ ρ)) cells slots := by
  obtain ⟨K, m, hn, t, z, Ls, Λ, h⟩ := h0
  refine at_aload_n dL_law_982 rfl ?_
  refine at_aload_n dL_law_983 rfl ?_
  refine at_iload_n dL_law_984 rfl ?_
  refine at_iconst dL_law_985 (v := nI 1) (by decide) ?_
  refine at_iaddN dL_law_986 ?_
  refine at_sldN dL_law_987 rfl (by omega) (by omega) ?_
  refine at_callV1 (d := 88) dL_law_988 mv_L_146 (zl_o rfl) (Nat.le_of_ble_eq_true rfl) ⟨by decide, by decide, by show cells + 0 ≤ 600000; omega, by show slots + 0 ≤ 7302250; omega⟩ ?_
  refine zk_from (by decide) h _ (fun v n1 f1 hv hm => ?_)
  obtain ⟨⟨x, rfl⟩, fs, h70⟩ := And.imp_left (zVk_i (v := v)) hv
  refine at_aload_n dL_law_991 rfl ?_
  refine at_aload_n dL_law_992 rfl ?_
  refine at_iload_n dL_law_993 rfl ?_
  refine at_iconst dL_law_994 (v := nI 1) (by decide) ?_
  refine at_iaddN dL_law_995 ?_
  refine at_sldN dL_law_996 rfl (by omega) (by omega) ?_
  refine at_callV1 (d := 88) dL_law_997 mv_L_149 h70 (Nat.le_of_ble_eq_true rfl) ⟨by decide, by decide, by show cells + 0 + 0 ≤ 600000; omega, by show slots + 0 + 0 ≤ 7302250; omega⟩ ?_
  refine hm _ (fun n2 κ2 σ2 ρ2 h2 => ?_)
  refine at_icmp_eq (tgt := 1233) dL_law_1000 (by decide) (fun _ => ?_) (fun e => absurd rfl e)
  exact zlw_next hL hi hk h2 (by show cells + 0 + 0 ≤ _; omega) (by show slots + 0 + 0 ≤ _; omega)
theorem zlw_33 (hL : L ≤ 3072) (hi : 6 * i + 6 ≤ L) (hk : zLP l G nm L xs (i + 1)) (h0 : zIVx n κ σ ρ) (hc : cells ≤ 90 + 15 * i) (hs : slots ≤ 41311 + 887 * i) : zq_At l G room_1 (mL nm) (zLQ G L xs) 1005 [(0, .ref 0), (1, .ref 8), (2, .ref 70), (3, .int (nI (6 * i)))] [] n (zl_h κ (zm_h σ ρ)) cells slots := by
  obtain ⟨K, m, hn, t, z, Ls, Λ, h⟩ := h0
  refine at_aload_n dL_law_1005 rfl ?_
  refine at_aload_n dL_law_1006 rfl ?_
  refine at_iload_n dL_law_1007 rfl ?_
  refine at_iconst dL_law_1008 (v := nI 1) (by decide) ?_
  refine at_iaddN dL_law_1009 ?_
  refine at_sldN dL_law_1010 rfl (by omega) (by omega) ?_
  refine at_callV1 (d := 88) dL_law_1011 mv_L_150 (zl_o rfl) (Nat.le_of_ble_eq_true rfl) ⟨by decide, by decide, by show cells + 0 ≤ 600000; omega, by show slots + 0 ≤ 7302250; omega⟩ ?_
  refine zk_clearest (by decide) h _ (fun v n1 f1 hv hm => ?_)
  obtain ⟨⟨x, rfl⟩, fs, h70⟩ := And.imp_left (zVk_i (v := v)) hv
  refine at_aload_n dL_law_1014 rfl ?_
  refine at_aload_n dL_law_1015 rfl ?_
  refine at_iload_n dL_law_1016 rfl ?_
  refine at_iconst dL_law_1017 (v := nI 1) (by decide) ?_
  refine at_iaddN dL_law_1018 ?_
  refine at_sldN dL_law_1019 rfl (by omega) (by omega) ?_
  refine at_callV1 (d := 88) dL_law_1020 mv_L_153 h70 (Nat.le_of_ble_eq_true rfl) ⟨by decide, by decide, by show cells + 0 + 0 ≤ 600000; omega, by show slots + 0 + 0 ≤ 7302250; omega⟩ ?_
  refine hm _ (fun n2 κ2 σ2 ρ2 h2 => ?_)
  refine at_icmp_eq (tgt := 1233) dL_law_1023 (by decide) (fun _ => ?_) (fun e => absurd rfl e)
  exact zlw_next hL hi hk h2 (by show cells + 0 + 0 ≤ _; omega) (by show slots + 0 + 0 ≤ _; omega)
theorem zlw_34 (hL : L ≤ 3072) (hi : 6 * i + 6 ≤ L) (hk : zLP l G nm L xs (i + 1)) (h0 : zIVx n κ σ ρ) (hc : cells ≤ 90 + 15 * i) (hs : slots ≤ 41311 + 887 * i) : zq_At l G room_1 (mL nm) (zLQ G L xs) 1028 [(0, .ref 0), (1, .ref 8), (2, .ref 70), (3, .int (nI (6 * i)))] [] n (zl_h κ (zm_h σ ρ)) cells slots := by
  obtain ⟨K, m, hn, t, z, Ls, Λ, h⟩ := h0
  refine at_aload_n dL_law_1028 rfl ?_
  refine at_aload_n dL_law_1029 rfl ?_
  refine at_iload_n dL_law_1030 rfl ?_
  refine at_iconst dL_law_1031 (v := nI 1) (by decide) ?_
  refine at_iaddN dL_law_1032 ?_
  refine at_sldN dL_law_1033 rfl (by omega) (by omega) ?_
  refine at_aload_n dL_law_1034 rfl ?_
  refine at_iload_n dL_law_1035 rfl ?_
  refine at_iconst dL_law_1036 (v := nI 2) (by decide) ?_
  refine at_iaddN dL_law_1037 ?_
  refine at_sldN dL_law_1038 rfl (by omega) (by omega) ?_
  refine at_callV2 (d := 88) dL_law_1039 mv_L_154 (zl_o rfl) (Nat.le_of_ble_eq_true rfl) ⟨by decide, by decide, by show cells + 1 ≤ 600000; omega, by show slots + 20 ≤ 7302250; omega⟩ ?_
  refine zk_comes (by decide) h _ (fun v n1 f1 hv hm => ?_)
  obtain ⟨⟨x, rfl⟩, fs, h70⟩ := And.imp_left (zVk_l (v := v)) hv
  refine at_aload_n dL_law_1042 rfl ?_
  refine at_aload_n dL_law_1043 rfl ?_
  refine at_iload_n dL_law_1044 rfl ?_
  refine at_iconst dL_law_1045 (v := nI 1) (by decide) ?_
  refine at_iaddN dL_law_1046 ?_
  refine at_sldN dL_law_1047 rfl (by omega) (by omega) ?_
  refine at_aload_n dL_law_1048 rfl ?_
  refine at_iload_n dL_law_1049 rfl ?_
  refine at_iconst dL_law_1050 (v := nI 2) (by decide) ?_
  refine at_iaddN dL_law_1051 ?_
  refine at_sldN dL_law_1052 rfl (by omega) (by omega) ?_
  refine at_callV2 (d := 88) dL_law_1053 mv_L_158 h70 (Nat.le_of_ble_eq_true rfl) ⟨by decide, by decide, by show cells + 1 + 0 ≤ 600000; omega, by show slots + 20 + 0 ≤ 7302250; omega⟩ ?_
  refine hm _ (fun n2 κ2 σ2 ρ2 h2 => ?_)
  refine at_lcmp dL_law_1056 ?_
  rw [lg_cmp_0]
  refine at_if_eq (tgt := 1233) dL_law_1057 (by decide) (fun _ => ?_) (fun e => absurd rfl e)
  exact zlw_next hL hi hk h2 (by show cells + 1 + 0 ≤ _; omega) (by show slots + 20 + 0 ≤ _; omega)
theorem zlw_35 (hL : L ≤ 3072) (hi : 6 * i + 6 ≤ L) (hk : zLP l G nm L xs (i + 1)) (h0 : zIVx n κ σ ρ) (hc : cells ≤ 90 + 15 * i) (hs : slots ≤ 41311 + 887 * i) : zq_At l G room_1 (mL nm) (zLQ G L xs) 1062 [(0, .ref 0), (1, .ref 8), (2, .ref 70), (3, .int (nI (6 * i)))] [] n (zl_h κ (zm_h σ ρ)) cells slots := by
  obtain ⟨K, m, hn, t, z, Ls, Λ, h⟩ := h0
  refine at_aload_n dL_law_1062 rfl ?_
  refine at_aload_n dL_law_1063 rfl ?_
  refine at_iload_n dL_law_1064 rfl ?_
  refine at_iconst dL_law_1065 (v := nI 1) (by decide) ?_
  refine at_iaddN dL_law_1066 ?_
  refine at_sldN dL_law_1067 rfl (by omega) (by omega) ?_
  refine at_callV1 (d := 88) dL_law_1068 mv_L_159 (zl_o rfl) (Nat.le_of_ble_eq_true rfl) ⟨by decide, by decide, by show cells + 0 ≤ 600000; omega, by show slots + 0 ≤ 7302250; omega⟩ ?_
  refine zk_compare (by decide) h _ (fun v n1 f1 hv hm => ?_)
  obtain ⟨⟨x, rfl⟩, fs, h70⟩ := And.imp_left (zVk_i (v := v)) hv
  refine at_aload_n dL_law_1071 rfl ?_
  refine at_aload_n dL_law_1072 rfl ?_
  refine at_iload_n dL_law_1073 rfl ?_
  refine at_iconst dL_law_1074 (v := nI 1) (by decide) ?_
  refine at_iaddN dL_law_1075 ?_
  refine at_sldN dL_law_1076 rfl (by omega) (by omega) ?_
  refine at_callV1 (d := 88) dL_law_1077 mv_L_162 h70 (Nat.le_of_ble_eq_true rfl) ⟨by decide, by decide, by show cells + 0 + 0 ≤ 600000; omega, by show slots + 0 + 0 ≤ 7302250; omega⟩ ?_
  refine hm _ (fun n2 κ2 σ2 ρ2 h2 => ?_)
  refine at_icmp_eq (tgt := 1233) dL_law_1080 (by decide) (fun _ => ?_) (fun e => absurd rfl e)
  exact zlw_next hL hi hk h2 (by show cells + 0 + 0 ≤ _; omega) (by show slots + 0 + 0 ≤ _; omega)
theorem zlw_36 (hL : L ≤ 3072) (hi : 6 * i + 6 ≤ L) (hk : zLP l G nm L xs (i + 1)) (h0 : zIVx n κ σ ρ) (hc : cells ≤ 90 + 15 * i) (hs : slots ≤ 41311 + 887 * i) : zq_At l G room_1 (mL nm) (zLQ G L xs) 1085 [(0, .ref 0), (1, .ref 8), (2, .ref 70), (3, .int (nI (6 * i)))] [] n (zl_h κ (zm_h σ ρ)) cells slots := by
  obtain ⟨K, m, hn, t, z, Ls, Λ, h⟩ := h0
  refine at_aload_n dL_law_1085 rfl ?_
  refine at_aload_n dL_law_1086 rfl ?_
  refine at_iload_n dL_law_1087 rfl ?_
  refine at_iconst dL_law_1088 (v := nI 1) (by decide) ?_
  refine at_iaddN dL_law_1089 ?_
  refine at_sldN dL_law_1090 rfl (by omega) (by omega) ?_
  refine at_aload_n dL_law_1091 rfl ?_
  refine at_iload_n dL_law_1092 rfl ?_
  refine at_iconst dL_law_1093 (v := nI 2) (by decide) ?_
  refine at_iaddN dL_law_1094 ?_
  refine at_sldN dL_law_1095 rfl (by omega) (by omega) ?_
  refine at_callV2 (d := 88) dL_law_1096 mv_L_163 (zl_o rfl) (Nat.le_of_ble_eq_true rfl) ⟨by decide, by decide, by show cells + 0 ≤ 600000; omega, by show slots + 0 ≤ 7302250; omega⟩ ?_
  refine zk_weeks (by decide) h _ (fun v n1 f1 hv hm => ?_)
  obtain ⟨⟨x, rfl⟩, fs, h70⟩ := And.imp_left (zVk_i (v := v)) hv
  refine at_aload_n dL_law_1099 rfl ?_
  refine at_aload_n dL_law_1100 rfl ?_
  refine at_iload_n dL_law_1101 rfl ?_
  refine at_iconst dL_law_1102 (v := nI 1) (by decide) ?_
  refine at_iaddN dL_law_1103 ?_
  refine at_sldN dL_law_1104 rfl (by omega) (by omega) ?_
  refine at_aload_n dL_law_1105 rfl ?_
  refine at_iload_n dL_law_1106 rfl ?_
  refine at_iconst dL_law_1107 (v := nI 2) (by decide) ?_
  refine at_iaddN dL_law_1108 ?_
  refine at_sldN dL_law_1109 rfl (by omega) (by omega) ?_
  refine at_callV2 (d := 88) dL_law_1110 mv_L_166 h70 (Nat.le_of_ble_eq_true rfl) ⟨by decide, by decide, by show cells + 0 + 0 ≤ 600000; omega, by show slots + 0 + 0 ≤ 7302250; omega⟩ ?_
  refine hm _ (fun n2 κ2 σ2 ρ2 h2 => ?_)
  refine at_icmp_eq (tgt := 1233) dL_law_1113 (by decide) (fun _ => ?_) (fun e => absurd rfl e)
  exact zlw_next hL hi hk h2 (by show cells + 0 + 0 ≤ _; omega) (by show slots + 0 + 0 ≤ _; omega)
theorem zlw_37 (hL : L ≤ 3072) (hi : 6 * i + 6 ≤ L) (hk : zLP l G nm L xs (i + 1)) (h0 : zIVx n κ σ ρ) (hc : cells ≤ 90 + 15 * i) (hs : slots ≤ 41311 + 887 * i) : zq_At l G room_1 (mL nm) (zLQ G L xs) 1118 [(0, .ref 0), (1, .ref 8), (2, .ref 70), (3, .int (nI (6 * i)))] [] n (zl_h κ (zm_h σ ρ)) cells slots := by
  obtain ⟨K, m, hn, t, z, Ls, Λ, h⟩ := h0
  refine at_aload_n dL_law_1118 rfl ?_
  refine at_aload_n dL_law_1119 rfl ?_
  refine at_iload_n dL_law_1120 rfl ?_
  refine at_iconst dL_law_1121 (v := nI 1) (by decide) ?_
  refine at_iaddN dL_law_1122 ?_
  refine at_sldN dL_law_1123 rfl (by omega) (by omega) ?_
  refine at_aload_n dL_law_1124 rfl ?_
  refine at_iload_n dL_law_1125 rfl ?_
  refine at_iconst dL_law_1126 (v := nI 2) (by decide) ?_
  refine at_iaddN dL_law_1127 ?_
  refine at_sldN dL_law_1128 rfl (by omega) (by omega) ?_
  refine at_callV2 (d := 88) dL_law_1129 mv_L_167 (zl_o rfl) (Nat.le_of_ble_eq_true rfl) ⟨by decide, by decide, by show cells + 0 ≤ 600000; omega, by show slots + 0 ≤ 7302250; omega⟩ ?_
  refine zk_drawn (by decide) h _ (fun v n1 f1 hv hm => ?_)
  obtain ⟨⟨x, rfl⟩, fs, h70⟩ := And.imp_left (zVk_i (v := v)) hv
  refine at_aload_n dL_law_1132 rfl ?_
  refine at_aload_n dL_law_1133 rfl ?_
  refine at_iload_n dL_law_1134 rfl ?_
  refine at_iconst dL_law_1135 (v := nI 1) (by decide) ?_
  refine at_iaddN dL_law_1136 ?_
  refine at_sldN dL_law_1137 rfl (by omega) (by omega) ?_
  refine at_aload_n dL_law_1138 rfl ?_
  refine at_iload_n dL_law_1139 rfl ?_
  refine at_iconst dL_law_1140 (v := nI 2) (by decide) ?_
  refine at_iaddN dL_law_1141 ?_
  refine at_sldN dL_law_1142 rfl (by omega) (by omega) ?_
  refine at_callV2 (d := 88) dL_law_1143 mv_L_170 h70 (Nat.le_of_ble_eq_true rfl) ⟨by decide, by decide, by show cells + 0 + 0 ≤ 600000; omega, by show slots + 0 + 0 ≤ 7302250; omega⟩ ?_
  refine hm _ (fun n2 κ2 σ2 ρ2 h2 => ?_)
  refine at_icmp_eq (tgt := 1233) dL_law_1146 (by decide) (fun _ => ?_) (fun e => absurd rfl e)
  exact zlw_next hL hi hk h2 (by show cells + 0 + 0 ≤ _; omega) (by show slots + 0 + 0 ≤ _; omega)
theorem zlw_38 (hL : L ≤ 3072) (hi : 6 * i + 6 ≤ L) (hk : zLP l G nm L xs (i + 1)) (h0 : zIVx n κ σ ρ) (hc : cells ≤ 90 + 15 * i) (hs : slots ≤ 41311 + 887 * i) : zq_At l G room_1 (mL nm) (zLQ G L xs) 1151 [(0, .ref 0), (1, .ref 8), (2, .ref 70), (3, .int (nI (6 * i)))] [] n (zl_h κ (zm_h σ ρ)) cells slots := by
  obtain ⟨K, m, hn, t, z, Ls, Λ, h⟩ := h0
  refine at_aload_n dL_law_1151 rfl ?_
  refine at_aload_n dL_law_1152 rfl ?_
  refine at_iload_n dL_law_1153 rfl ?_
  refine at_iconst dL_law_1154 (v := nI 1) (by decide) ?_
  refine at_iaddN dL_law_1155 ?_
  refine at_sldN dL_law_1156 rfl (by omega) (by omega) ?_
  refine at_callV1 (d := 88) dL_law_1157 mv_L_171 (zl_o rfl) (Nat.le_of_ble_eq_true rfl) ⟨by decide, by decide, by show cells + 11 ≤ 600000; omega, by show slots + 106 ≤ 7302250; omega⟩ ?_
  refine zk_image (by decide) h _ (fun v n1 f1 hv hm => ?_)
  obtain ⟨⟨x, rfl⟩, fs, h70⟩ := And.imp_left (zVk_i (v := v)) hv
  refine at_aload_n dL_law_1160 rfl ?_
  refine at_aload_n dL_law_1161 rfl ?_
  refine at_iload_n dL_law_1162 rfl ?_
  refine at_iconst dL_law_1163 (v := nI 1) (by decide) ?_
  refine at_iaddN dL_law_1164 ?_
  refine at_sldN dL_law_1165 rfl (by omega) (by omega) ?_
  refine at_callV1 (d := 88) dL_law_1166 mv_L_174 h70 (Nat.le_of_ble_eq_true rfl) ⟨by decide, by decide, by show cells + 11 + 0 ≤ 600000; omega, by show slots + 106 + 0 ≤ 7302250; omega⟩ ?_
  refine hm _ (fun n2 κ2 σ2 ρ2 h2 => ?_)
  refine at_icmp_eq (tgt := 1233) dL_law_1169 (by decide) (fun _ => ?_) (fun e => absurd rfl e)
  exact zlw_next hL hi hk h2 (by show cells + 11 + 0 ≤ _; omega) (by show slots + 106 + 0 ≤ _; omega)
theorem zlw_39 (hL : L ≤ 3072) (hi : 6 * i + 6 ≤ L) (hk : zLP l G nm L xs (i + 1)) (h0 : zIVx n κ σ ρ) (hc : cells ≤ 90 + 15 * i) (hs : slots ≤ 41311 + 887 * i) : zq_At l G room_1 (mL nm) (zLQ G L xs) 1174 [(0, .ref 0), (1, .ref 8), (2, .ref 70), (3, .int (nI (6 * i)))] [] n (zl_h κ (zm_h σ ρ)) cells slots := by
  obtain ⟨K, m, hn, t, z, Ls, Λ, h⟩ := h0
  refine at_aload_n dL_law_1174 rfl ?_
  refine at_aload_n dL_law_1175 rfl ?_
  refine at_iload_n dL_law_1176 rfl ?_
  refine at_iconst dL_law_1177 (v := nI 1) (by decide) ?_
  refine at_iaddN dL_law_1178 ?_
  refine at_sldN dL_law_1179 rfl (by omega) (by omega) ?_
  refine at_callV1 (d := 88) dL_law_1180 mv_L_175 (zl_o rfl) (Nat.le_of_ble_eq_true rfl) ⟨by decide, by decide, by show cells + 0 ≤ 600000; omega, by show slots + 0 ≤ 7302250; omega⟩ ?_
  refine zk_back (by decide) h _ (fun v n1 f1 hv hm => ?_)
  obtain ⟨⟨x, rfl⟩, fs, h70⟩ := And.imp_left (zVk_i (v := v)) hv
  refine at_aload_n dL_law_1183 rfl ?_
  refine at_aload_n dL_law_1184 rfl ?_
  refine at_iload_n dL_law_1185 rfl ?_
  refine at_iconst dL_law_1186 (v := nI 1) (by decide) ?_
  refine at_iaddN dL_law_1187 ?_
  refine at_sldN dL_law_1188 rfl (by omega) (by omega) ?_
  refine at_callV1 (d := 88) dL_law_1189 mv_L_178 h70 (Nat.le_of_ble_eq_true rfl) ⟨by decide, by decide, by show cells + 0 + 0 ≤ 600000; omega, by show slots + 0 + 0 ≤ 7302250; omega⟩ ?_
  refine hm _ (fun n2 κ2 σ2 ρ2 h2 => ?_)
  refine at_icmp_eq (tgt := 1233) dL_law_1192 (by decide) (fun _ => ?_) (fun e => absurd rfl e)
  exact zlw_next hL hi hk h2 (by show cells + 0 + 0 ≤ _; omega) (by show slots + 0 + 0 ≤ _; omega)
theorem zlw_40 (hL : L ≤ 3072) (hi : 6 * i + 6 ≤ L) (hk : zLP l G nm L xs (i + 1)) (h0 : zIVx n κ σ ρ) (hc : cells ≤ 90 + 15 * i) (hs : slots ≤ 41311 + 887 * i) : zq_At l G room_1 (mL nm) (zLQ G L xs) 1197 [(0, .ref 0), (1, .ref 8), (2, .ref 70), (3, .int (nI (6 * i)))] [] n (zl_h κ (zm_h σ ρ)) cells slots := by
  obtain ⟨K, m, hn, t, z, Ls, Λ, h⟩ := h0
  refine at_aload_n dL_law_1197 rfl ?_
  refine at_aload_n dL_law_1198 rfl ?_
  refine at_iload_n dL_law_1199 rfl ?_
  refine at_iconst dL_law_1200 (v := nI 1) (by decide) ?_
  refine at_iaddN dL_law_1201 ?_
  refine at_sldN dL_law_1202 rfl (by omega) (by omega) ?_
  refine at_callV1 (d := 88) dL_law_1203 mv_L_179 (zl_o rfl) (Nat.le_of_ble_eq_true rfl) ⟨by decide, by decide, by show cells + 0 ≤ 600000; omega, by show slots + 0 ≤ 7302250; omega⟩ ?_
  refine zk_count (by decide) h _ (fun v n1 f1 hv hm => ?_)
  obtain ⟨⟨x, rfl⟩, fs, h70⟩ := And.imp_left (zVk_i (v := v)) hv
  refine at_aload_n dL_law_1206 rfl ?_
  refine at_aload_n dL_law_1207 rfl ?_
  refine at_iload_n dL_law_1208 rfl ?_
  refine at_iconst dL_law_1209 (v := nI 1) (by decide) ?_
  refine at_iaddN dL_law_1210 ?_
  refine at_sldN dL_law_1211 rfl (by omega) (by omega) ?_
  refine at_callV1 (d := 88) dL_law_1212 mv_L_182 h70 (Nat.le_of_ble_eq_true rfl) ⟨by decide, by decide, by show cells + 0 + 0 ≤ 600000; omega, by show slots + 0 + 0 ≤ 7302250; omega⟩ ?_
  refine hm _ (fun n2 κ2 σ2 ρ2 h2 => ?_)
  refine at_icmp_eq (tgt := 1233) dL_law_1215 (by decide) (fun _ => ?_) (fun e => absurd rfl e)
  exact zlw_next hL hi hk h2 (by show cells + 0 + 0 ≤ _; omega) (by show slots + 0 + 0 ≤ _; omega)
theorem zlw_41 (hL : L ≤ 3072) (hi : 6 * i + 6 ≤ L) (hk : zLP l G nm L xs (i + 1)) (h0 : zIVx n κ σ ρ) (hc : cells ≤ 90 + 15 * i) (hs : slots ≤ 41311 + 887 * i) : zq_At l G room_1 (mL nm) (zLQ G L xs) 1220 [(0, .ref 0), (1, .ref 8), (2, .ref 70), (3, .int (nI (6 * i)))] [] n (zl_h κ (zm_h σ ρ)) cells slots := by
  obtain ⟨K, m, hn, t, z, Ls, Λ, h⟩ := h0
  refine at_aload_n dL_law_1220 rfl ?_
  refine at_callV0 (d := 88) dL_law_1221 mv_L_183 (zl_o rfl) (Nat.le_of_ble_eq_true rfl) ⟨by decide, by decide, by show cells + 0 ≤ 600000; omega, by show slots + 0 ≤ 7302250; omega⟩ ?_
  refine zk_status h _ (fun v n1 f1 hv hm => ?_)
  obtain ⟨⟨x, rfl⟩, fs, h70⟩ := And.imp_left (zVk_i (v := v)) hv
  refine at_aload_n dL_law_1224 rfl ?_
  refine at_callV0 (d := 88) dL_law_1225 mv_L_186 h70 (Nat.le_of_ble_eq_true rfl) ⟨by decide, by decide, by show cells + 0 + 0 ≤ 600000; omega, by show slots + 0 + 0 ≤ 7302250; omega⟩ ?_
  refine hm _ (fun n2 κ2 σ2 ρ2 h2 => ?_)
  refine at_icmp_eq (tgt := 1233) dL_law_1228 (by decide) (fun _ => ?_) (fun e => absurd rfl e)
  exact zlw_next hL hi hk h2 (by show cells + 0 + 0 ≤ _; omega) (by show slots + 0 + 0 ≤ _; omega)
end ZK40

