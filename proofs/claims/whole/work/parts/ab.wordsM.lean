/-! ===== the Model is made: its row of words (written by mkinit3.py) ===== -/
def zwLs : List Nat := [115, 116, 114, 111, 107, 101, 115, 32, 115, 116, 101, 112, 115, 32, 98, 97, 114, 115, 32, 105, 102, 32, 111, 114, 32, 97, 110, 100, 32, 110, 111, 116, 32, 112, 101, 114, 115, 111, 110, 32, 112, 108, 97, 99, 101, 32, 108, 101, 110, 103, 116, 104, 32, 97, 116, 32, 108, 101, 116, 116, 101, 114, 32, 110, 101, 119, 32, 109, 111, 111, 100, 32, 100, 97, 121, 32, 100, 111, 110, 101, 32, 108, 97, 116, 101, 115, 116, 32, 98, 114, 101, 97, 107, 115, 32, 115, 119, 97, 112, 115, 32, 119, 104, 111, 32, 110, 97, 109, 101, 32, 115, 116, 114, 111, 107, 101, 32, 116, 111, 32, 115, 119, 97, 112, 32, 100, 101, 99, 114, 101, 101, 32, 112, 97, 115, 115, 32, 116, 105, 109, 101, 115, 32]
def zwB (k j : Nat) : Int32 := if j < k then nI (zwLs.getD j 0) else 0
theorem zwB_0 : zwB 0 = fun _ => 0 := by funext j; exact if_neg (Nat.not_lt_zero j)
theorem zwB_s (k : Nat) : upd (zwB k) k (nI (zwLs.getD k 0)) = zwB (k + 1) := by
  funext j
  unfold upd zwB
  by_cases h : j = k
  · rw [if_pos h, if_pos (by omega), h]
  · rw [if_neg h]
    by_cases h2 : j < k
    · rw [if_pos h2, if_pos (by omega)]
    · rw [if_neg h2, if_neg (by omega)]
section ZK34
variable {l : Launch} {G : zq_G} {R : Room} {M : zq_M} {QF : List Frame → Array Value → State → State → Prop} {pc : Nat} {lv : List (Nat × Value)} {st : List Value} {n : Nat} {f : Nat → zq_E} {cells slots : Nat}
theorem at_wst {k x q : Nat} (hd : decode M.1 pc = .ok (.bastore, 1)) (hk : k < 143) (hx : (nI x).toInt8.toInt32 = nI (zwLs.getD k 0)) (kk : zq_At l G R M QF (pc + 1) lv st n (va_up f q (.inl (1, 143, .inl (zwB (k + 1))))) cells slots) : zq_At l G R M QF pc lv (.int (nI x) :: .int (nI k) :: .ref q :: st) n (va_up f q (.inl (1, 143, .inl (zwB k)))) cells slots := by
  obtain ⟨e1, e2⟩ := zn_in (i := nI k) rfl hk (by decide)
  refine at_bast hd (va_up_self _ _ _) e1 ?_
  rw [e2, hx, zwB_s, zce_up]
  exact kk
theorem zc_words0 {q : Nat} (kk : zq_At l G R mX12_init QF 269 lv (.ref q :: st) n (va_up f q (.inl (1, 143, .inl (zwB 36)))) cells slots) : zq_At l G R mX12_init QF 59 lv (.ref q :: st) n (va_up f q (.inl (1, 143, .inl (zwB 0)))) cells slots := by
  refine at_dup dX12_init_59 rfl ?_
  refine at_iconst dX12_init_60 (v := nI 0) (by decide) ?_
  refine at_bipush dX12_init_61 (v := nI 115) (by decide) ?_
  refine at_wst (k := 0) dX12_init_63 (by decide) (by decide) ?_
  refine at_dup dX12_init_64 rfl ?_
  refine at_iconst dX12_init_65 (v := nI 1) (by decide) ?_
  refine at_bipush dX12_init_66 (v := nI 116) (by decide) ?_
  refine at_wst (k := 1) dX12_init_68 (by decide) (by decide) ?_
  refine at_dup dX12_init_69 rfl ?_
  refine at_iconst dX12_init_70 (v := nI 2) (by decide) ?_
  refine at_bipush dX12_init_71 (v := nI 114) (by decide) ?_
  refine at_wst (k := 2) dX12_init_73 (by decide) (by decide) ?_
  refine at_dup dX12_init_74 rfl ?_
  refine at_iconst dX12_init_75 (v := nI 3) (by decide) ?_
  refine at_bipush dX12_init_76 (v := nI 111) (by decide) ?_
  refine at_wst (k := 3) dX12_init_78 (by decide) (by decide) ?_
  refine at_dup dX12_init_79 rfl ?_
  refine at_iconst dX12_init_80 (v := nI 4) (by decide) ?_
  refine at_bipush dX12_init_81 (v := nI 107) (by decide) ?_
  refine at_wst (k := 4) dX12_init_83 (by decide) (by decide) ?_
  refine at_dup dX12_init_84 rfl ?_
  refine at_iconst dX12_init_85 (v := nI 5) (by decide) ?_
  refine at_bipush dX12_init_86 (v := nI 101) (by decide) ?_
  refine at_wst (k := 5) dX12_init_88 (by decide) (by decide) ?_
  refine at_dup dX12_init_89 rfl ?_
  refine at_bipush dX12_init_90 (v := nI 6) (by decide) ?_
  refine at_bipush dX12_init_92 (v := nI 115) (by decide) ?_
  refine at_wst (k := 6) dX12_init_94 (by decide) (by decide) ?_
  refine at_dup dX12_init_95 rfl ?_
  refine at_bipush dX12_init_96 (v := nI 7) (by decide) ?_
  refine at_bipush dX12_init_98 (v := nI 32) (by decide) ?_
  refine at_wst (k := 7) dX12_init_100 (by decide) (by decide) ?_
  refine at_dup dX12_init_101 rfl ?_
  refine at_bipush dX12_init_102 (v := nI 8) (by decide) ?_
  refine at_bipush dX12_init_104 (v := nI 115) (by decide) ?_
  refine at_wst (k := 8) dX12_init_106 (by decide) (by decide) ?_
  refine at_dup dX12_init_107 rfl ?_
  refine at_bipush dX12_init_108 (v := nI 9) (by decide) ?_
  refine at_bipush dX12_init_110 (v := nI 116) (by decide) ?_
  refine at_wst (k := 9) dX12_init_112 (by decide) (by decide) ?_
  refine at_dup dX12_init_113 rfl ?_
  refine at_bipush dX12_init_114 (v := nI 10) (by decide) ?_
  refine at_bipush dX12_init_116 (v := nI 101) (by decide) ?_
  refine at_wst (k := 10) dX12_init_118 (by decide) (by decide) ?_
  refine at_dup dX12_init_119 rfl ?_
  refine at_bipush dX12_init_120 (v := nI 11) (by decide) ?_
  refine at_bipush dX12_init_122 (v := nI 112) (by decide) ?_
  refine at_wst (k := 11) dX12_init_124 (by decide) (by decide) ?_
  refine at_dup dX12_init_125 rfl ?_
  refine at_bipush dX12_init_126 (v := nI 12) (by decide) ?_
  refine at_bipush dX12_init_128 (v := nI 115) (by decide) ?_
  refine at_wst (k := 12) dX12_init_130 (by decide) (by decide) ?_
  refine at_dup dX12_init_131 rfl ?_
  refine at_bipush dX12_init_132 (v := nI 13) (by decide) ?_
  refine at_bipush dX12_init_134 (v := nI 32) (by decide) ?_
  refine at_wst (k := 13) dX12_init_136 (by decide) (by decide) ?_
  refine at_dup dX12_init_137 rfl ?_
  refine at_bipush dX12_init_138 (v := nI 14) (by decide) ?_
  refine at_bipush dX12_init_140 (v := nI 98) (by decide) ?_
  refine at_wst (k := 14) dX12_init_142 (by decide) (by decide) ?_
  refine at_dup dX12_init_143 rfl ?_
  refine at_bipush dX12_init_144 (v := nI 15) (by decide) ?_
  refine at_bipush dX12_init_146 (v := nI 97) (by decide) ?_
  refine at_wst (k := 15) dX12_init_148 (by decide) (by decide) ?_
  refine at_dup dX12_init_149 rfl ?_
  refine at_bipush dX12_init_150 (v := nI 16) (by decide) ?_
  refine at_bipush dX12_init_152 (v := nI 114) (by decide) ?_
  refine at_wst (k := 16) dX12_init_154 (by decide) (by decide) ?_
  refine at_dup dX12_init_155 rfl ?_
  refine at_bipush dX12_init_156 (v := nI 17) (by decide) ?_
  refine at_bipush dX12_init_158 (v := nI 115) (by decide) ?_
  refine at_wst (k := 17) dX12_init_160 (by decide) (by decide) ?_
  refine at_dup dX12_init_161 rfl ?_
  refine at_bipush dX12_init_162 (v := nI 18) (by decide) ?_
  refine at_bipush dX12_init_164 (v := nI 32) (by decide) ?_
  refine at_wst (k := 18) dX12_init_166 (by decide) (by decide) ?_
  refine at_dup dX12_init_167 rfl ?_
  refine at_bipush dX12_init_168 (v := nI 19) (by decide) ?_
  refine at_bipush dX12_init_170 (v := nI 105) (by decide) ?_
  refine at_wst (k := 19) dX12_init_172 (by decide) (by decide) ?_
  refine at_dup dX12_init_173 rfl ?_
  refine at_bipush dX12_init_174 (v := nI 20) (by decide) ?_
  refine at_bipush dX12_init_176 (v := nI 102) (by decide) ?_
  refine at_wst (k := 20) dX12_init_178 (by decide) (by decide) ?_
  refine at_dup dX12_init_179 rfl ?_
  refine at_bipush dX12_init_180 (v := nI 21) (by decide) ?_
  refine at_bipush dX12_init_182 (v := nI 32) (by decide) ?_
  refine at_wst (k := 21) dX12_init_184 (by decide) (by decide) ?_
  refine at_dup dX12_init_185 rfl ?_
  refine at_bipush dX12_init_186 (v := nI 22) (by decide) ?_
  refine at_bipush dX12_init_188 (v := nI 111) (by decide) ?_
  refine at_wst (k := 22) dX12_init_190 (by decide) (by decide) ?_
  refine at_dup dX12_init_191 rfl ?_
  refine at_bipush dX12_init_192 (v := nI 23) (by decide) ?_
  refine at_bipush dX12_init_194 (v := nI 114) (by decide) ?_
  refine at_wst (k := 23) dX12_init_196 (by decide) (by decide) ?_
  refine at_dup dX12_init_197 rfl ?_
  refine at_bipush dX12_init_198 (v := nI 24) (by decide) ?_
  refine at_bipush dX12_init_200 (v := nI 32) (by decide) ?_
  refine at_wst (k := 24) dX12_init_202 (by decide) (by decide) ?_
  refine at_dup dX12_init_203 rfl ?_
  refine at_bipush dX12_init_204 (v := nI 25) (by decide) ?_
  refine at_bipush dX12_init_206 (v := nI 97) (by decide) ?_
  refine at_wst (k := 25) dX12_init_208 (by decide) (by decide) ?_
  refine at_dup dX12_init_209 rfl ?_
  refine at_bipush dX12_init_210 (v := nI 26) (by decide) ?_
  refine at_bipush dX12_init_212 (v := nI 110) (by decide) ?_
  refine at_wst (k := 26) dX12_init_214 (by decide) (by decide) ?_
  refine at_dup dX12_init_215 rfl ?_
  refine at_bipush dX12_init_216 (v := nI 27) (by decide) ?_
  refine at_bipush dX12_init_218 (v := nI 100) (by decide) ?_
  refine at_wst (k := 27) dX12_init_220 (by decide) (by decide) ?_
  refine at_dup dX12_init_221 rfl ?_
  refine at_bipush dX12_init_222 (v := nI 28) (by decide) ?_
  refine at_bipush dX12_init_224 (v := nI 32) (by decide) ?_
  refine at_wst (k := 28) dX12_init_226 (by decide) (by decide) ?_
  refine at_dup dX12_init_227 rfl ?_
  refine at_bipush dX12_init_228 (v := nI 29) (by decide) ?_
  refine at_bipush dX12_init_230 (v := nI 110) (by decide) ?_
  refine at_wst (k := 29) dX12_init_232 (by decide) (by decide) ?_
  refine at_dup dX12_init_233 rfl ?_
  refine at_bipush dX12_init_234 (v := nI 30) (by decide) ?_
  refine at_bipush dX12_init_236 (v := nI 111) (by decide) ?_
  refine at_wst (k := 30) dX12_init_238 (by decide) (by decide) ?_
  refine at_dup dX12_init_239 rfl ?_
  refine at_bipush dX12_init_240 (v := nI 31) (by decide) ?_
  refine at_bipush dX12_init_242 (v := nI 116) (by decide) ?_
  refine at_wst (k := 31) dX12_init_244 (by decide) (by decide) ?_
  refine at_dup dX12_init_245 rfl ?_
  refine at_bipush dX12_init_246 (v := nI 32) (by decide) ?_
  refine at_bipush dX12_init_248 (v := nI 32) (by decide) ?_
  refine at_wst (k := 32) dX12_init_250 (by decide) (by decide) ?_
  refine at_dup dX12_init_251 rfl ?_
  refine at_bipush dX12_init_252 (v := nI 33) (by decide) ?_
  refine at_bipush dX12_init_254 (v := nI 112) (by decide) ?_
  refine at_wst (k := 33) dX12_init_256 (by decide) (by decide) ?_
  refine at_dup dX12_init_257 rfl ?_
  refine at_bipush dX12_init_258 (v := nI 34) (by decide) ?_
  refine at_bipush dX12_init_260 (v := nI 101) (by decide) ?_
  refine at_wst (k := 34) dX12_init_262 (by decide) (by decide) ?_
  refine at_dup dX12_init_263 rfl ?_
  refine at_bipush dX12_init_264 (v := nI 35) (by decide) ?_
  refine at_bipush dX12_init_266 (v := nI 114) (by decide) ?_
  refine at_wst (k := 35) dX12_init_268 (by decide) (by decide) ?_
  exact kk
theorem zc_words1 {q : Nat} (kk : zq_At l G R mX12_init QF 485 lv (.ref q :: st) n (va_up f q (.inl (1, 143, .inl (zwB 72)))) cells slots) : zq_At l G R mX12_init QF 269 lv (.ref q :: st) n (va_up f q (.inl (1, 143, .inl (zwB 36)))) cells slots := by
  refine at_dup dX12_init_269 rfl ?_
  refine at_bipush dX12_init_270 (v := nI 36) (by decide) ?_
  refine at_bipush dX12_init_272 (v := nI 115) (by decide) ?_
  refine at_wst (k := 36) dX12_init_274 (by decide) (by decide) ?_
  refine at_dup dX12_init_275 rfl ?_
  refine at_bipush dX12_init_276 (v := nI 37) (by decide) ?_
  refine at_bipush dX12_init_278 (v := nI 111) (by decide) ?_
  refine at_wst (k := 37) dX12_init_280 (by decide) (by decide) ?_
  refine at_dup dX12_init_281 rfl ?_
  refine at_bipush dX12_init_282 (v := nI 38) (by decide) ?_
  refine at_bipush dX12_init_284 (v := nI 110) (by decide) ?_
  refine at_wst (k := 38) dX12_init_286 (by decide) (by decide) ?_
  refine at_dup dX12_init_287 rfl ?_
  refine at_bipush dX12_init_288 (v := nI 39) (by decide) ?_
  refine at_bipush dX12_init_290 (v := nI 32) (by decide) ?_
  refine at_wst (k := 39) dX12_init_292 (by decide) (by decide) ?_
  refine at_dup dX12_init_293 rfl ?_
  refine at_bipush dX12_init_294 (v := nI 40) (by decide) ?_
  refine at_bipush dX12_init_296 (v := nI 112) (by decide) ?_
  refine at_wst (k := 40) dX12_init_298 (by decide) (by decide) ?_
  refine at_dup dX12_init_299 rfl ?_
  refine at_bipush dX12_init_300 (v := nI 41) (by decide) ?_
  refine at_bipush dX12_init_302 (v := nI 108) (by decide) ?_
  refine at_wst (k := 41) dX12_init_304 (by decide) (by decide) ?_
  refine at_dup dX12_init_305 rfl ?_
  refine at_bipush dX12_init_306 (v := nI 42) (by decide) ?_
  refine at_bipush dX12_init_308 (v := nI 97) (by decide) ?_
  refine at_wst (k := 42) dX12_init_310 (by decide) (by decide) ?_
  refine at_dup dX12_init_311 rfl ?_
  refine at_bipush dX12_init_312 (v := nI 43) (by decide) ?_
  refine at_bipush dX12_init_314 (v := nI 99) (by decide) ?_
  refine at_wst (k := 43) dX12_init_316 (by decide) (by decide) ?_
  refine at_dup dX12_init_317 rfl ?_
  refine at_bipush dX12_init_318 (v := nI 44) (by decide) ?_
  refine at_bipush dX12_init_320 (v := nI 101) (by decide) ?_
  refine at_wst (k := 44) dX12_init_322 (by decide) (by decide) ?_
  refine at_dup dX12_init_323 rfl ?_
  refine at_bipush dX12_init_324 (v := nI 45) (by decide) ?_
  refine at_bipush dX12_init_326 (v := nI 32) (by decide) ?_
  refine at_wst (k := 45) dX12_init_328 (by decide) (by decide) ?_
  refine at_dup dX12_init_329 rfl ?_
  refine at_bipush dX12_init_330 (v := nI 46) (by decide) ?_
  refine at_bipush dX12_init_332 (v := nI 108) (by decide) ?_
  refine at_wst (k := 46) dX12_init_334 (by decide) (by decide) ?_
  refine at_dup dX12_init_335 rfl ?_
  refine at_bipush dX12_init_336 (v := nI 47) (by decide) ?_
  refine at_bipush dX12_init_338 (v := nI 101) (by decide) ?_
  refine at_wst (k := 47) dX12_init_340 (by decide) (by decide) ?_
  refine at_dup dX12_init_341 rfl ?_
  refine at_bipush dX12_init_342 (v := nI 48) (by decide) ?_
  refine at_bipush dX12_init_344 (v := nI 110) (by decide) ?_
  refine at_wst (k := 48) dX12_init_346 (by decide) (by decide) ?_
  refine at_dup dX12_init_347 rfl ?_
  refine at_bipush dX12_init_348 (v := nI 49) (by decide) ?_
  refine at_bipush dX12_init_350 (v := nI 103) (by decide) ?_
  refine at_wst (k := 49) dX12_init_352 (by decide) (by decide) ?_
  refine at_dup dX12_init_353 rfl ?_
  refine at_bipush dX12_init_354 (v := nI 50) (by decide) ?_
  refine at_bipush dX12_init_356 (v := nI 116) (by decide) ?_
  refine at_wst (k := 50) dX12_init_358 (by decide) (by decide) ?_
  refine at_dup dX12_init_359 rfl ?_
  refine at_bipush dX12_init_360 (v := nI 51) (by decide) ?_
  refine at_bipush dX12_init_362 (v := nI 104) (by decide) ?_
  refine at_wst (k := 51) dX12_init_364 (by decide) (by decide) ?_
  refine at_dup dX12_init_365 rfl ?_
  refine at_bipush dX12_init_366 (v := nI 52) (by decide) ?_
  refine at_bipush dX12_init_368 (v := nI 32) (by decide) ?_
  refine at_wst (k := 52) dX12_init_370 (by decide) (by decide) ?_
  refine at_dup dX12_init_371 rfl ?_
  refine at_bipush dX12_init_372 (v := nI 53) (by decide) ?_
  refine at_bipush dX12_init_374 (v := nI 97) (by decide) ?_
  refine at_wst (k := 53) dX12_init_376 (by decide) (by decide) ?_
  refine at_dup dX12_init_377 rfl ?_
  refine at_bipush dX12_init_378 (v := nI 54) (by decide) ?_
  refine at_bipush dX12_init_380 (v := nI 116) (by decide) ?_
  refine at_wst (k := 54) dX12_init_382 (by decide) (by decide) ?_
  refine at_dup dX12_init_383 rfl ?_
  refine at_bipush dX12_init_384 (v := nI 55) (by decide) ?_
  refine at_bipush dX12_init_386 (v := nI 32) (by decide) ?_
  refine at_wst (k := 55) dX12_init_388 (by decide) (by decide) ?_
  refine at_dup dX12_init_389 rfl ?_
  refine at_bipush dX12_init_390 (v := nI 56) (by decide) ?_
  refine at_bipush dX12_init_392 (v := nI 108) (by decide) ?_
  refine at_wst (k := 56) dX12_init_394 (by decide) (by decide) ?_
  refine at_dup dX12_init_395 rfl ?_
  refine at_bipush dX12_init_396 (v := nI 57) (by decide) ?_
  refine at_bipush dX12_init_398 (v := nI 101) (by decide) ?_
  refine at_wst (k := 57) dX12_init_400 (by decide) (by decide) ?_
  refine at_dup dX12_init_401 rfl ?_
  refine at_bipush dX12_init_402 (v := nI 58) (by decide) ?_
  refine at_bipush dX12_init_404 (v := nI 116) (by decide) ?_
  refine at_wst (k := 58) dX12_init_406 (by decide) (by decide) ?_
  refine at_dup dX12_init_407 rfl ?_
  refine at_bipush dX12_init_408 (v := nI 59) (by decide) ?_
  refine at_bipush dX12_init_410 (v := nI 116) (by decide) ?_
  refine at_wst (k := 59) dX12_init_412 (by decide) (by decide) ?_
  refine at_dup dX12_init_413 rfl ?_
  refine at_bipush dX12_init_414 (v := nI 60) (by decide) ?_
  refine at_bipush dX12_init_416 (v := nI 101) (by decide) ?_
  refine at_wst (k := 60) dX12_init_418 (by decide) (by decide) ?_
  refine at_dup dX12_init_419 rfl ?_
  refine at_bipush dX12_init_420 (v := nI 61) (by decide) ?_
  refine at_bipush dX12_init_422 (v := nI 114) (by decide) ?_
  refine at_wst (k := 61) dX12_init_424 (by decide) (by decide) ?_
  refine at_dup dX12_init_425 rfl ?_
  refine at_bipush dX12_init_426 (v := nI 62) (by decide) ?_
  refine at_bipush dX12_init_428 (v := nI 32) (by decide) ?_
  refine at_wst (k := 62) dX12_init_430 (by decide) (by decide) ?_
  refine at_dup dX12_init_431 rfl ?_
  refine at_bipush dX12_init_432 (v := nI 63) (by decide) ?_
  refine at_bipush dX12_init_434 (v := nI 110) (by decide) ?_
  refine at_wst (k := 63) dX12_init_436 (by decide) (by decide) ?_
  refine at_dup dX12_init_437 rfl ?_
  refine at_bipush dX12_init_438 (v := nI 64) (by decide) ?_
  refine at_bipush dX12_init_440 (v := nI 101) (by decide) ?_
  refine at_wst (k := 64) dX12_init_442 (by decide) (by decide) ?_
  refine at_dup dX12_init_443 rfl ?_
  refine at_bipush dX12_init_444 (v := nI 65) (by decide) ?_
  refine at_bipush dX12_init_446 (v := nI 119) (by decide) ?_
  refine at_wst (k := 65) dX12_init_448 (by decide) (by decide) ?_
  refine at_dup dX12_init_449 rfl ?_
  refine at_bipush dX12_init_450 (v := nI 66) (by decide) ?_
  refine at_bipush dX12_init_452 (v := nI 32) (by decide) ?_
  refine at_wst (k := 66) dX12_init_454 (by decide) (by decide) ?_
  refine at_dup dX12_init_455 rfl ?_
  refine at_bipush dX12_init_456 (v := nI 67) (by decide) ?_
  refine at_bipush dX12_init_458 (v := nI 109) (by decide) ?_
  refine at_wst (k := 67) dX12_init_460 (by decide) (by decide) ?_
  refine at_dup dX12_init_461 rfl ?_
  refine at_bipush dX12_init_462 (v := nI 68) (by decide) ?_
  refine at_bipush dX12_init_464 (v := nI 111) (by decide) ?_
  refine at_wst (k := 68) dX12_init_466 (by decide) (by decide) ?_
  refine at_dup dX12_init_467 rfl ?_
  refine at_bipush dX12_init_468 (v := nI 69) (by decide) ?_
  refine at_bipush dX12_init_470 (v := nI 111) (by decide) ?_
  refine at_wst (k := 69) dX12_init_472 (by decide) (by decide) ?_
  refine at_dup dX12_init_473 rfl ?_
  refine at_bipush dX12_init_474 (v := nI 70) (by decide) ?_
  refine at_bipush dX12_init_476 (v := nI 100) (by decide) ?_
  refine at_wst (k := 70) dX12_init_478 (by decide) (by decide) ?_
  refine at_dup dX12_init_479 rfl ?_
  refine at_bipush dX12_init_480 (v := nI 71) (by decide) ?_
  refine at_bipush dX12_init_482 (v := nI 32) (by decide) ?_
  refine at_wst (k := 71) dX12_init_484 (by decide) (by decide) ?_
  exact kk
theorem zc_words2 {q : Nat} (kk : zq_At l G R mX12_init QF 701 lv (.ref q :: st) n (va_up f q (.inl (1, 143, .inl (zwB 108)))) cells slots) : zq_At l G R mX12_init QF 485 lv (.ref q :: st) n (va_up f q (.inl (1, 143, .inl (zwB 72)))) cells slots := by
  refine at_dup dX12_init_485 rfl ?_
  refine at_bipush dX12_init_486 (v := nI 72) (by decide) ?_
  refine at_bipush dX12_init_488 (v := nI 100) (by decide) ?_
  refine at_wst (k := 72) dX12_init_490 (by decide) (by decide) ?_
  refine at_dup dX12_init_491 rfl ?_
  refine at_bipush dX12_init_492 (v := nI 73) (by decide) ?_
  refine at_bipush dX12_init_494 (v := nI 97) (by decide) ?_
  refine at_wst (k := 73) dX12_init_496 (by decide) (by decide) ?_
  refine at_dup dX12_init_497 rfl ?_
  refine at_bipush dX12_init_498 (v := nI 74) (by decide) ?_
  refine at_bipush dX12_init_500 (v := nI 121) (by decide) ?_
  refine at_wst (k := 74) dX12_init_502 (by decide) (by decide) ?_
  refine at_dup dX12_init_503 rfl ?_
  refine at_bipush dX12_init_504 (v := nI 75) (by decide) ?_
  refine at_bipush dX12_init_506 (v := nI 32) (by decide) ?_
  refine at_wst (k := 75) dX12_init_508 (by decide) (by decide) ?_
  refine at_dup dX12_init_509 rfl ?_
  refine at_bipush dX12_init_510 (v := nI 76) (by decide) ?_
  refine at_bipush dX12_init_512 (v := nI 100) (by decide) ?_
  refine at_wst (k := 76) dX12_init_514 (by decide) (by decide) ?_
  refine at_dup dX12_init_515 rfl ?_
  refine at_bipush dX12_init_516 (v := nI 77) (by decide) ?_
  refine at_bipush dX12_init_518 (v := nI 111) (by decide) ?_
  refine at_wst (k := 77) dX12_init_520 (by decide) (by decide) ?_
  refine at_dup dX12_init_521 rfl ?_
  refine at_bipush dX12_init_522 (v := nI 78) (by decide) ?_
  refine at_bipush dX12_init_524 (v := nI 110) (by decide) ?_
  refine at_wst (k := 78) dX12_init_526 (by decide) (by decide) ?_
  refine at_dup dX12_init_527 rfl ?_
  refine at_bipush dX12_init_528 (v := nI 79) (by decide) ?_
  refine at_bipush dX12_init_530 (v := nI 101) (by decide) ?_
  refine at_wst (k := 79) dX12_init_532 (by decide) (by decide) ?_
  refine at_dup dX12_init_533 rfl ?_
  refine at_bipush dX12_init_534 (v := nI 80) (by decide) ?_
  refine at_bipush dX12_init_536 (v := nI 32) (by decide) ?_
  refine at_wst (k := 80) dX12_init_538 (by decide) (by decide) ?_
  refine at_dup dX12_init_539 rfl ?_
  refine at_bipush dX12_init_540 (v := nI 81) (by decide) ?_
  refine at_bipush dX12_init_542 (v := nI 108) (by decide) ?_
  refine at_wst (k := 81) dX12_init_544 (by decide) (by decide) ?_
  refine at_dup dX12_init_545 rfl ?_
  refine at_bipush dX12_init_546 (v := nI 82) (by decide) ?_
  refine at_bipush dX12_init_548 (v := nI 97) (by decide) ?_
  refine at_wst (k := 82) dX12_init_550 (by decide) (by decide) ?_
  refine at_dup dX12_init_551 rfl ?_
  refine at_bipush dX12_init_552 (v := nI 83) (by decide) ?_
  refine at_bipush dX12_init_554 (v := nI 116) (by decide) ?_
  refine at_wst (k := 83) dX12_init_556 (by decide) (by decide) ?_
  refine at_dup dX12_init_557 rfl ?_
  refine at_bipush dX12_init_558 (v := nI 84) (by decide) ?_
  refine at_bipush dX12_init_560 (v := nI 101) (by decide) ?_
  refine at_wst (k := 84) dX12_init_562 (by decide) (by decide) ?_
  refine at_dup dX12_init_563 rfl ?_
  refine at_bipush dX12_init_564 (v := nI 85) (by decide) ?_
  refine at_bipush dX12_init_566 (v := nI 115) (by decide) ?_
  refine at_wst (k := 85) dX12_init_568 (by decide) (by decide) ?_
  refine at_dup dX12_init_569 rfl ?_
  refine at_bipush dX12_init_570 (v := nI 86) (by decide) ?_
  refine at_bipush dX12_init_572 (v := nI 116) (by decide) ?_
  refine at_wst (k := 86) dX12_init_574 (by decide) (by decide) ?_
  refine at_dup dX12_init_575 rfl ?_
  refine at_bipush dX12_init_576 (v := nI 87) (by decide) ?_
  refine at_bipush dX12_init_578 (v := nI 32) (by decide) ?_
  refine at_wst (k := 87) dX12_init_580 (by decide) (by decide) ?_
  refine at_dup dX12_init_581 rfl ?_
  refine at_bipush dX12_init_582 (v := nI 88) (by decide) ?_
  refine at_bipush dX12_init_584 (v := nI 98) (by decide) ?_
  refine at_wst (k := 88) dX12_init_586 (by decide) (by decide) ?_
  refine at_dup dX12_init_587 rfl ?_
  refine at_bipush dX12_init_588 (v := nI 89) (by decide) ?_
  refine at_bipush dX12_init_590 (v := nI 114) (by decide) ?_
  refine at_wst (k := 89) dX12_init_592 (by decide) (by decide) ?_
  refine at_dup dX12_init_593 rfl ?_
  refine at_bipush dX12_init_594 (v := nI 90) (by decide) ?_
  refine at_bipush dX12_init_596 (v := nI 101) (by decide) ?_
  refine at_wst (k := 90) dX12_init_598 (by decide) (by decide) ?_
  refine at_dup dX12_init_599 rfl ?_
  refine at_bipush dX12_init_600 (v := nI 91) (by decide) ?_
  refine at_bipush dX12_init_602 (v := nI 97) (by decide) ?_
  refine at_wst (k := 91) dX12_init_604 (by decide) (by decide) ?_
  refine at_dup dX12_init_605 rfl ?_
  refine at_bipush dX12_init_606 (v := nI 92) (by decide) ?_
  refine at_bipush dX12_init_608 (v := nI 107) (by decide) ?_
  refine at_wst (k := 92) dX12_init_610 (by decide) (by decide) ?_
  refine at_dup dX12_init_611 rfl ?_
  refine at_bipush dX12_init_612 (v := nI 93) (by decide) ?_
  refine at_bipush dX12_init_614 (v := nI 115) (by decide) ?_
  refine at_wst (k := 93) dX12_init_616 (by decide) (by decide) ?_
  refine at_dup dX12_init_617 rfl ?_
  refine at_bipush dX12_init_618 (v := nI 94) (by decide) ?_
  refine at_bipush dX12_init_620 (v := nI 32) (by decide) ?_
  refine at_wst (k := 94) dX12_init_622 (by decide) (by decide) ?_
  refine at_dup dX12_init_623 rfl ?_
  refine at_bipush dX12_init_624 (v := nI 95) (by decide) ?_
  refine at_bipush dX12_init_626 (v := nI 115) (by decide) ?_
  refine at_wst (k := 95) dX12_init_628 (by decide) (by decide) ?_
  refine at_dup dX12_init_629 rfl ?_
  refine at_bipush dX12_init_630 (v := nI 96) (by decide) ?_
  refine at_bipush dX12_init_632 (v := nI 119) (by decide) ?_
  refine at_wst (k := 96) dX12_init_634 (by decide) (by decide) ?_
  refine at_dup dX12_init_635 rfl ?_
  refine at_bipush dX12_init_636 (v := nI 97) (by decide) ?_
  refine at_bipush dX12_init_638 (v := nI 97) (by decide) ?_
  refine at_wst (k := 97) dX12_init_640 (by decide) (by decide) ?_
  refine at_dup dX12_init_641 rfl ?_
  refine at_bipush dX12_init_642 (v := nI 98) (by decide) ?_
  refine at_bipush dX12_init_644 (v := nI 112) (by decide) ?_
  refine at_wst (k := 98) dX12_init_646 (by decide) (by decide) ?_
  refine at_dup dX12_init_647 rfl ?_
  refine at_bipush dX12_init_648 (v := nI 99) (by decide) ?_
  refine at_bipush dX12_init_650 (v := nI 115) (by decide) ?_
  refine at_wst (k := 99) dX12_init_652 (by decide) (by decide) ?_
  refine at_dup dX12_init_653 rfl ?_
  refine at_bipush dX12_init_654 (v := nI 100) (by decide) ?_
  refine at_bipush dX12_init_656 (v := nI 32) (by decide) ?_
  refine at_wst (k := 100) dX12_init_658 (by decide) (by decide) ?_
  refine at_dup dX12_init_659 rfl ?_
  refine at_bipush dX12_init_660 (v := nI 101) (by decide) ?_
  refine at_bipush dX12_init_662 (v := nI 119) (by decide) ?_
  refine at_wst (k := 101) dX12_init_664 (by decide) (by decide) ?_
  refine at_dup dX12_init_665 rfl ?_
  refine at_bipush dX12_init_666 (v := nI 102) (by decide) ?_
  refine at_bipush dX12_init_668 (v := nI 104) (by decide) ?_
  refine at_wst (k := 102) dX12_init_670 (by decide) (by decide) ?_
  refine at_dup dX12_init_671 rfl ?_
  refine at_bipush dX12_init_672 (v := nI 103) (by decide) ?_
  refine at_bipush dX12_init_674 (v := nI 111) (by decide) ?_
  refine at_wst (k := 103) dX12_init_676 (by decide) (by decide) ?_
  refine at_dup dX12_init_677 rfl ?_
  refine at_bipush dX12_init_678 (v := nI 104) (by decide) ?_
  refine at_bipush dX12_init_680 (v := nI 32) (by decide) ?_
  refine at_wst (k := 104) dX12_init_682 (by decide) (by decide) ?_
  refine at_dup dX12_init_683 rfl ?_
  refine at_bipush dX12_init_684 (v := nI 105) (by decide) ?_
  refine at_bipush dX12_init_686 (v := nI 110) (by decide) ?_
  refine at_wst (k := 105) dX12_init_688 (by decide) (by decide) ?_
  refine at_dup dX12_init_689 rfl ?_
  refine at_bipush dX12_init_690 (v := nI 106) (by decide) ?_
  refine at_bipush dX12_init_692 (v := nI 97) (by decide) ?_
  refine at_wst (k := 106) dX12_init_694 (by decide) (by decide) ?_
  refine at_dup dX12_init_695 rfl ?_
  refine at_bipush dX12_init_696 (v := nI 107) (by decide) ?_
  refine at_bipush dX12_init_698 (v := nI 109) (by decide) ?_
  refine at_wst (k := 107) dX12_init_700 (by decide) (by decide) ?_
  exact kk
theorem zc_words3 {q : Nat} (kk : zq_At l G R mX12_init QF 926 lv (.ref q :: st) n (va_up f q (.inl (1, 143, .inl (zwB 143)))) cells slots) : zq_At l G R mX12_init QF 701 lv (.ref q :: st) n (va_up f q (.inl (1, 143, .inl (zwB 108)))) cells slots := by
  refine at_dup dX12_init_701 rfl ?_
  refine at_bipush dX12_init_702 (v := nI 108) (by decide) ?_
  refine at_bipush dX12_init_704 (v := nI 101) (by decide) ?_
  refine at_wst (k := 108) dX12_init_706 (by decide) (by decide) ?_
  refine at_dup dX12_init_707 rfl ?_
  refine at_bipush dX12_init_708 (v := nI 109) (by decide) ?_
  refine at_bipush dX12_init_710 (v := nI 32) (by decide) ?_
  refine at_wst (k := 109) dX12_init_712 (by decide) (by decide) ?_
  refine at_dup dX12_init_713 rfl ?_
  refine at_bipush dX12_init_714 (v := nI 110) (by decide) ?_
  refine at_bipush dX12_init_716 (v := nI 115) (by decide) ?_
  refine at_wst (k := 110) dX12_init_718 (by decide) (by decide) ?_
  refine at_dup dX12_init_719 rfl ?_
  refine at_bipush dX12_init_720 (v := nI 111) (by decide) ?_
  refine at_bipush dX12_init_722 (v := nI 116) (by decide) ?_
  refine at_wst (k := 111) dX12_init_724 (by decide) (by decide) ?_
  refine at_dup dX12_init_725 rfl ?_
  refine at_bipush dX12_init_726 (v := nI 112) (by decide) ?_
  refine at_bipush dX12_init_728 (v := nI 114) (by decide) ?_
  refine at_wst (k := 112) dX12_init_730 (by decide) (by decide) ?_
  refine at_dup dX12_init_731 rfl ?_
  refine at_bipush dX12_init_732 (v := nI 113) (by decide) ?_
  refine at_bipush dX12_init_734 (v := nI 111) (by decide) ?_
  refine at_wst (k := 113) dX12_init_736 (by decide) (by decide) ?_
  refine at_dup dX12_init_737 rfl ?_
  refine at_bipush dX12_init_738 (v := nI 114) (by decide) ?_
  refine at_bipush dX12_init_740 (v := nI 107) (by decide) ?_
  refine at_wst (k := 114) dX12_init_742 (by decide) (by decide) ?_
  refine at_dup dX12_init_743 rfl ?_
  refine at_bipush dX12_init_744 (v := nI 115) (by decide) ?_
  refine at_bipush dX12_init_746 (v := nI 101) (by decide) ?_
  refine at_wst (k := 115) dX12_init_748 (by decide) (by decide) ?_
  refine at_dup dX12_init_749 rfl ?_
  refine at_bipush dX12_init_750 (v := nI 116) (by decide) ?_
  refine at_bipush dX12_init_752 (v := nI 32) (by decide) ?_
  refine at_wst (k := 116) dX12_init_754 (by decide) (by decide) ?_
  refine at_dup dX12_init_755 rfl ?_
  refine at_bipush dX12_init_756 (v := nI 117) (by decide) ?_
  refine at_bipush dX12_init_758 (v := nI 116) (by decide) ?_
  refine at_wst (k := 117) dX12_init_760 (by decide) (by decide) ?_
  refine at_dup dX12_init_761 rfl ?_
  refine at_bipush dX12_init_762 (v := nI 118) (by decide) ?_
  refine at_bipush dX12_init_764 (v := nI 111) (by decide) ?_
  refine at_wst (k := 118) dX12_init_766 (by decide) (by decide) ?_
  refine at_dup dX12_init_767 rfl ?_
  refine at_bipush dX12_init_768 (v := nI 119) (by decide) ?_
  refine at_bipush dX12_init_770 (v := nI 32) (by decide) ?_
  refine at_wst (k := 119) dX12_init_772 (by decide) (by decide) ?_
  refine at_dup dX12_init_773 rfl ?_
  refine at_bipush dX12_init_774 (v := nI 120) (by decide) ?_
  refine at_bipush dX12_init_776 (v := nI 115) (by decide) ?_
  refine at_wst (k := 120) dX12_init_778 (by decide) (by decide) ?_
  refine at_dup dX12_init_779 rfl ?_
  refine at_bipush dX12_init_780 (v := nI 121) (by decide) ?_
  refine at_bipush dX12_init_782 (v := nI 119) (by decide) ?_
  refine at_wst (k := 121) dX12_init_784 (by decide) (by decide) ?_
  refine at_dup dX12_init_785 rfl ?_
  refine at_bipush dX12_init_786 (v := nI 122) (by decide) ?_
  refine at_bipush dX12_init_788 (v := nI 97) (by decide) ?_
  refine at_wst (k := 122) dX12_init_790 (by decide) (by decide) ?_
  refine at_dup dX12_init_791 rfl ?_
  refine at_bipush dX12_init_792 (v := nI 123) (by decide) ?_
  refine at_bipush dX12_init_794 (v := nI 112) (by decide) ?_
  refine at_wst (k := 123) dX12_init_796 (by decide) (by decide) ?_
  refine at_dup dX12_init_797 rfl ?_
  refine at_bipush dX12_init_798 (v := nI 124) (by decide) ?_
  refine at_bipush dX12_init_800 (v := nI 32) (by decide) ?_
  refine at_wst (k := 124) dX12_init_802 (by decide) (by decide) ?_
  refine at_dup dX12_init_803 rfl ?_
  refine at_bipush dX12_init_804 (v := nI 125) (by decide) ?_
  refine at_bipush dX12_init_806 (v := nI 100) (by decide) ?_
  refine at_wst (k := 125) dX12_init_808 (by decide) (by decide) ?_
  refine at_dup dX12_init_809 rfl ?_
  refine at_bipush dX12_init_810 (v := nI 126) (by decide) ?_
  refine at_bipush dX12_init_812 (v := nI 101) (by decide) ?_
  refine at_wst (k := 126) dX12_init_814 (by decide) (by decide) ?_
  refine at_dup dX12_init_815 rfl ?_
  refine at_bipush dX12_init_816 (v := nI 127) (by decide) ?_
  refine at_bipush dX12_init_818 (v := nI 99) (by decide) ?_
  refine at_wst (k := 127) dX12_init_820 (by decide) (by decide) ?_
  refine at_dup dX12_init_821 rfl ?_
  refine at_sipush dX12_init_822 (v := nI 128) (by decide) ?_
  refine at_bipush dX12_init_825 (v := nI 114) (by decide) ?_
  refine at_wst (k := 128) dX12_init_827 (by decide) (by decide) ?_
  refine at_dup dX12_init_828 rfl ?_
  refine at_sipush dX12_init_829 (v := nI 129) (by decide) ?_
  refine at_bipush dX12_init_832 (v := nI 101) (by decide) ?_
  refine at_wst (k := 129) dX12_init_834 (by decide) (by decide) ?_
  refine at_dup dX12_init_835 rfl ?_
  refine at_sipush dX12_init_836 (v := nI 130) (by decide) ?_
  refine at_bipush dX12_init_839 (v := nI 101) (by decide) ?_
  refine at_wst (k := 130) dX12_init_841 (by decide) (by decide) ?_
  refine at_dup dX12_init_842 rfl ?_
  refine at_sipush dX12_init_843 (v := nI 131) (by decide) ?_
  refine at_bipush dX12_init_846 (v := nI 32) (by decide) ?_
  refine at_wst (k := 131) dX12_init_848 (by decide) (by decide) ?_
  refine at_dup dX12_init_849 rfl ?_
  refine at_sipush dX12_init_850 (v := nI 132) (by decide) ?_
  refine at_bipush dX12_init_853 (v := nI 112) (by decide) ?_
  refine at_wst (k := 132) dX12_init_855 (by decide) (by decide) ?_
  refine at_dup dX12_init_856 rfl ?_
  refine at_sipush dX12_init_857 (v := nI 133) (by decide) ?_
  refine at_bipush dX12_init_860 (v := nI 97) (by decide) ?_
  refine at_wst (k := 133) dX12_init_862 (by decide) (by decide) ?_
  refine at_dup dX12_init_863 rfl ?_
  refine at_sipush dX12_init_864 (v := nI 134) (by decide) ?_
  refine at_bipush dX12_init_867 (v := nI 115) (by decide) ?_
  refine at_wst (k := 134) dX12_init_869 (by decide) (by decide) ?_
  refine at_dup dX12_init_870 rfl ?_
  refine at_sipush dX12_init_871 (v := nI 135) (by decide) ?_
  refine at_bipush dX12_init_874 (v := nI 115) (by decide) ?_
  refine at_wst (k := 135) dX12_init_876 (by decide) (by decide) ?_
  refine at_dup dX12_init_877 rfl ?_
  refine at_sipush dX12_init_878 (v := nI 136) (by decide) ?_
  refine at_bipush dX12_init_881 (v := nI 32) (by decide) ?_
  refine at_wst (k := 136) dX12_init_883 (by decide) (by decide) ?_
  refine at_dup dX12_init_884 rfl ?_
  refine at_sipush dX12_init_885 (v := nI 137) (by decide) ?_
  refine at_bipush dX12_init_888 (v := nI 116) (by decide) ?_
  refine at_wst (k := 137) dX12_init_890 (by decide) (by decide) ?_
  refine at_dup dX12_init_891 rfl ?_
  refine at_sipush dX12_init_892 (v := nI 138) (by decide) ?_
  refine at_bipush dX12_init_895 (v := nI 105) (by decide) ?_
  refine at_wst (k := 138) dX12_init_897 (by decide) (by decide) ?_
  refine at_dup dX12_init_898 rfl ?_
  refine at_sipush dX12_init_899 (v := nI 139) (by decide) ?_
  refine at_bipush dX12_init_902 (v := nI 109) (by decide) ?_
  refine at_wst (k := 139) dX12_init_904 (by decide) (by decide) ?_
  refine at_dup dX12_init_905 rfl ?_
  refine at_sipush dX12_init_906 (v := nI 140) (by decide) ?_
  refine at_bipush dX12_init_909 (v := nI 101) (by decide) ?_
  refine at_wst (k := 140) dX12_init_911 (by decide) (by decide) ?_
  refine at_dup dX12_init_912 rfl ?_
  refine at_sipush dX12_init_913 (v := nI 141) (by decide) ?_
  refine at_bipush dX12_init_916 (v := nI 115) (by decide) ?_
  refine at_wst (k := 141) dX12_init_918 (by decide) (by decide) ?_
  refine at_dup dX12_init_919 rfl ?_
  refine at_sipush dX12_init_920 (v := nI 142) (by decide) ?_
  refine at_bipush dX12_init_923 (v := nI 32) (by decide) ?_
  refine at_wst (k := 142) dX12_init_925 (by decide) (by decide) ?_
  exact kk
theorem zc_words {q : Nat} (kk : zq_At l G R mX12_init QF 926 lv (.ref q :: st) n (va_up f q (.inl (1, 143, .inl (zwB 143)))) cells slots) : zq_At l G R mX12_init QF 59 lv (.ref q :: st) n (va_up f q (zq_blank 1 143)) cells slots := by
  rw [show zq_blank 1 143 = .inl (1, 143, .inl (zwB 0)) by rw [zwB_0]; rfl]
  exact zc_words0 (zc_words1 (zc_words2 (zc_words3 kk)))
end ZK34

