theorem lc_self (x : Int64) : lg_cmp x x = 0 := by simp [lg_cmp]
theorem iv_h.at0 {h : List gg_C} (hv : iv_h h) : ∃ fs, h[0]? = some (.inr (0, fs)) := by
  obtain ⟨_, _, _, _, _, _, _, _, _, _, _, _, _, _, _, _, _, _, _, _, _, _, _, _, _, _, _, rfl, -⟩ := hv
  exact ⟨_, rfl⟩
set_option maxHeartbeats 4000000 in
set_option maxRecDepth 100000 in
theorem lc_0 {l : Launch} {D : va_G} {cA : ClassId} {b Ln : Nat} {xs : Nat → Int32} {q : Nat} {h : List gg_C} (hL : Ln < 2 ^ 31) (hq : 6 * q + 6 ≤ Ln) (hv : iv_h h) (hn : ∀ h2, iv_h h2 → gl_G l D cA b Ln xs 23 6970 1017 [some (.ref 99), some (.ref 0), some (.ref 14), some (.int (nI (6 * q)))] [] h2) : gl_G l D cA b Ln xs 23 6970 148 [some (.ref 99), some (.ref 0), some (.ref 14), some (.int (nI (6 * q)))] [] h := by
  obtain ⟨fs0, h0⟩ := hv.at0
  obtain ⟨Post, hD0, hn0⟩ := op_feed (l := l) (D := D) (cA := cA) (x1 := (xs (6 * q + 1))) (x2 := (xs (6 * q + 2))) (x3 := (xs (6 * q + 3))) (x4 := (xs (6 * q + 4))) (x5 := (xs (6 * q + 5))) hv
  refine gl_aload_n 1 d_law_148 rfl rfl ?_
  refine gl_sc (q := 6 * q) (i0 := 0) 1 rfl rfl d_law_149 d_law_150 d_law_151 (by decide) d_law_152 d_law_153 (by omega) hL ?_
  refine gl_sc (q := 6 * q) (i0 := 0) 2 rfl rfl d_law_154 d_law_155 d_law_156 (by decide) d_law_157 d_law_158 (by omega) hL ?_
  refine gl_sc (q := 6 * q) (i0 := 0) 3 rfl rfl d_law_159 d_law_160 d_law_161 (by decide) d_law_162 d_law_163 (by omega) hL ?_
  refine gl_sc (q := 6 * q) (i0 := 0) 4 rfl rfl d_law_164 d_law_165 d_law_166 (by decide) d_law_167 d_law_168 (by omega) hL ?_
  refine gl_sc (q := 6 * q) (i0 := 0) 5 rfl rfl d_law_169 d_law_170 d_law_171 (by decide) d_law_172 d_law_173 (by omega) hL ?_
  refine gl_call m_Law_13 d_law_174 hD0 h0 rfl rfl rfl rfl (Nat.le_of_ble_eq_true rfl) (by decide) (by decide) (fun r h1 hp1 => ?_)
  obtain ⟨x, h2, rfl, ⟨fs, h14⟩, hM, hi⟩ := hn0 r h1 hp1
  dsimp only [Option.toList, List.cons_append, List.nil_append]
  refine gl_aload_n 2 d_law_177 rfl rfl ?_
  refine gl_sc (q := 6 * q) (i0 := 0) 1 rfl rfl d_law_178 d_law_179 d_law_180 (by decide) d_law_181 d_law_182 (by omega) hL ?_
  refine gl_sc (q := 6 * q) (i0 := 0) 2 rfl rfl d_law_183 d_law_184 d_law_185 (by decide) d_law_186 d_law_187 (by omega) hL ?_
  refine gl_sc (q := 6 * q) (i0 := 0) 3 rfl rfl d_law_188 d_law_189 d_law_190 (by decide) d_law_191 d_law_192 (by omega) hL ?_
  refine gl_sc (q := 6 * q) (i0 := 0) 4 rfl rfl d_law_193 d_law_194 d_law_195 (by decide) d_law_196 d_law_197 (by omega) hL ?_
  refine gl_sc (q := 6 * q) (i0 := 0) 5 rfl rfl d_law_198 d_law_199 d_law_200 (by decide) d_law_201 d_law_202 (by omega) hL ?_
  refine gl_call m_Law_17 d_law_203 hM h14 rfl rfl rfl rfl (Nat.le_of_ble_eq_true rfl) (by decide) (by decide) (fun r2 h3 hp2 => ?_)
  obtain ⟨rfl, rfl⟩ := hp2
  dsimp only [Option.toList, List.cons_append, List.nil_append]
  exact gl_icmp_eq 1017 d_law_206 (by decide) (fun _ => hn _ hi) (fun c => absurd rfl c)
set_option maxHeartbeats 4000000 in
set_option maxRecDepth 100000 in
theorem lc_1 {l : Launch} {D : va_G} {cA : ClassId} {b Ln : Nat} {xs : Nat → Int32} {q : Nat} {h : List gg_C} (hL : Ln < 2 ^ 31) (hq : 6 * q + 6 ≤ Ln) (hv : iv_h h) (hn : ∀ h2, iv_h h2 → gl_G l D cA b Ln xs 23 6970 1017 [some (.ref 99), some (.ref 0), some (.ref 14), some (.int (nI (6 * q)))] [] h2) : gl_G l D cA b Ln xs 23 6970 211 [some (.ref 99), some (.ref 0), some (.ref 14), some (.int (nI (6 * q)))] [] h := by
  obtain ⟨fs0, h0⟩ := hv.at0
  obtain ⟨Post, hD0, hn0⟩ := op_end (l := l) (D := D) (cA := cA) (x := (xs (6 * q + 1))) hv
  refine gl_aload_n 1 d_law_211 rfl rfl ?_
  refine gl_sc (q := 6 * q) (i0 := 0) 1 rfl rfl d_law_212 d_law_213 d_law_214 (by decide) d_law_215 d_law_216 (by omega) hL ?_
  refine gl_call m_Law_18 d_law_217 hD0 h0 rfl rfl rfl rfl (Nat.le_of_ble_eq_true rfl) (by decide) (by decide) (fun r h1 hp1 => ?_)
  obtain ⟨x, h2, rfl, ⟨fs, h14⟩, hM, hi⟩ := hn0 r h1 hp1
  dsimp only [Option.toList, List.cons_append, List.nil_append]
  refine gl_aload_n 2 d_law_220 rfl rfl ?_
  refine gl_sc (q := 6 * q) (i0 := 0) 1 rfl rfl d_law_221 d_law_222 d_law_223 (by decide) d_law_224 d_law_225 (by omega) hL ?_
  refine gl_call m_Law_22 d_law_226 hM h14 rfl rfl rfl rfl (Nat.le_of_ble_eq_true rfl) (by decide) (by decide) (fun r2 h3 hp2 => ?_)
  obtain ⟨rfl, rfl⟩ := hp2
  dsimp only [Option.toList, List.cons_append, List.nil_append]
  exact gl_icmp_eq 1017 d_law_229 (by decide) (fun _ => hn _ hi) (fun c => absurd rfl c)
set_option maxHeartbeats 4000000 in
set_option maxRecDepth 100000 in
theorem lc_2 {l : Launch} {D : va_G} {cA : ClassId} {b Ln : Nat} {xs : Nat → Int32} {q : Nat} {h : List gg_C} (hL : Ln < 2 ^ 31) (hq : 6 * q + 6 ≤ Ln) (hv : iv_h h) (hn : ∀ h2, iv_h h2 → gl_G l D cA b Ln xs 23 6970 1017 [some (.ref 99), some (.ref 0), some (.ref 14), some (.int (nI (6 * q)))] [] h2) : gl_G l D cA b Ln xs 23 6970 234 [some (.ref 99), some (.ref 0), some (.ref 14), some (.int (nI (6 * q)))] [] h := by
  obtain ⟨fs0, h0⟩ := hv.at0
  obtain ⟨Post, hD0, hn0⟩ := op_write (l := l) (D := D) (cA := cA) (s := (if xs (6 * q + 1) = 0 then 0 else 1)) (t := (if xs (6 * q + 2) = 0 then 0 else 1)) hv
  refine gl_aload_n 1 d_law_234 rfl rfl ?_
  refine gl_sc (q := 6 * q) (i0 := 0) 1 rfl rfl d_law_235 d_law_236 d_law_237 (by decide) d_law_238 d_law_239 (by omega) hL ?_
  refine gl_bool d_law_240 d_law_243 d_law_244 d_law_247 ?_
  refine gl_sc (q := 6 * q) (i0 := 0) 2 rfl rfl d_law_248 d_law_249 d_law_250 (by decide) d_law_251 d_law_252 (by omega) hL ?_
  refine gl_bool d_law_253 d_law_256 d_law_257 d_law_260 ?_
  refine gl_call m_Law_23 d_law_261 hD0 h0 rfl rfl rfl rfl (Nat.le_of_ble_eq_true rfl) (by decide) (by decide) (fun r h1 hp1 => ?_)
  obtain ⟨x, h2, rfl, ⟨fs, h14⟩, hM, hi⟩ := hn0 r h1 hp1
  dsimp only [Option.toList, List.cons_append, List.nil_append]
  refine gl_aload_n 2 d_law_264 rfl rfl ?_
  refine gl_sc (q := 6 * q) (i0 := 0) 1 rfl rfl d_law_265 d_law_266 d_law_267 (by decide) d_law_268 d_law_269 (by omega) hL ?_
  refine gl_bool d_law_270 d_law_273 d_law_274 d_law_277 ?_
  refine gl_sc (q := 6 * q) (i0 := 0) 2 rfl rfl d_law_278 d_law_279 d_law_280 (by decide) d_law_281 d_law_282 (by omega) hL ?_
  refine gl_bool d_law_283 d_law_286 d_law_287 d_law_290 ?_
  refine gl_call m_Law_27 d_law_291 hM h14 rfl rfl rfl rfl (Nat.le_of_ble_eq_true rfl) (by decide) (by decide) (fun r2 h3 hp2 => ?_)
  obtain ⟨rfl, rfl⟩ := hp2
  dsimp only [Option.toList, List.cons_append, List.nil_append]
  exact gl_icmp_eq 1017 d_law_294 (by decide) (fun _ => hn _ hi) (fun c => absurd rfl c)
set_option maxHeartbeats 4000000 in
set_option maxRecDepth 100000 in
theorem lc_3 {l : Launch} {D : va_G} {cA : ClassId} {b Ln : Nat} {xs : Nat → Int32} {q : Nat} {h : List gg_C} (hL : Ln < 2 ^ 31) (hq : 6 * q + 6 ≤ Ln) (hv : iv_h h) (hn : ∀ h2, iv_h h2 → gl_G l D cA b Ln xs 23 6970 1017 [some (.ref 99), some (.ref 0), some (.ref 14), some (.int (nI (6 * q)))] [] h2) : gl_G l D cA b Ln xs 23 6970 299 [some (.ref 99), some (.ref 0), some (.ref 14), some (.int (nI (6 * q)))] [] h := by
  obtain ⟨fs0, h0⟩ := hv.at0
  obtain ⟨Post, hD0, hn0⟩ := op_read (l := l) (D := D) (cA := cA) (s := (if xs (6 * q + 1) = 0 then 0 else 1)) hv
  refine gl_aload_n 1 d_law_299 rfl rfl ?_
  refine gl_sc (q := 6 * q) (i0 := 0) 1 rfl rfl d_law_300 d_law_301 d_law_302 (by decide) d_law_303 d_law_304 (by omega) hL ?_
  refine gl_bool d_law_305 d_law_308 d_law_309 d_law_312 ?_
  refine gl_call m_Law_28 d_law_313 hD0 h0 rfl rfl rfl rfl (Nat.le_of_ble_eq_true rfl) (by decide) (by decide) (fun r h1 hp1 => ?_)
  obtain ⟨x, h2, rfl, ⟨fs, h14⟩, hM, hi⟩ := hn0 r h1 hp1
  dsimp only [Option.toList, List.cons_append, List.nil_append]
  refine gl_aload_n 2 d_law_316 rfl rfl ?_
  refine gl_sc (q := 6 * q) (i0 := 0) 1 rfl rfl d_law_317 d_law_318 d_law_319 (by decide) d_law_320 d_law_321 (by omega) hL ?_
  refine gl_bool d_law_322 d_law_325 d_law_326 d_law_329 ?_
  refine gl_call m_Law_32 d_law_330 hM h14 rfl rfl rfl rfl (Nat.le_of_ble_eq_true rfl) (by decide) (by decide) (fun r2 h3 hp2 => ?_)
  obtain ⟨rfl, rfl⟩ := hp2
  dsimp only [Option.toList, List.cons_append, List.nil_append]
  exact gl_icmp_eq 1017 d_law_333 (by decide) (fun _ => hn _ hi) (fun c => absurd rfl c)
set_option maxHeartbeats 4000000 in
set_option maxRecDepth 100000 in
theorem lc_4 {l : Launch} {D : va_G} {cA : ClassId} {b Ln : Nat} {xs : Nat → Int32} {q : Nat} {h : List gg_C} (hL : Ln < 2 ^ 31) (hq : 6 * q + 6 ≤ Ln) (hv : iv_h h) (hn : ∀ h2, iv_h h2 → gl_G l D cA b Ln xs 23 6970 1017 [some (.ref 99), some (.ref 0), some (.ref 14), some (.int (nI (6 * q)))] [] h2) : gl_G l D cA b Ln xs 23 6970 338 [some (.ref 99), some (.ref 0), some (.ref 14), some (.int (nI (6 * q)))] [] h := by
  obtain ⟨fs0, h0⟩ := hv.at0
  obtain ⟨Post, hD0, hn0⟩ := op_check (l := l) (D := D) (cA := cA) (x := (xs (6 * q + 1))) (y := (xs (6 * q + 2))) hv
  refine gl_aload_n 1 d_law_338 rfl rfl ?_
  refine gl_sc (q := 6 * q) (i0 := 0) 1 rfl rfl d_law_339 d_law_340 d_law_341 (by decide) d_law_342 d_law_343 (by omega) hL ?_
  refine gl_sc (q := 6 * q) (i0 := 0) 2 rfl rfl d_law_344 d_law_345 d_law_346 (by decide) d_law_347 d_law_348 (by omega) hL ?_
  refine gl_call m_Law_33 d_law_349 hD0 h0 rfl rfl rfl rfl (Nat.le_of_ble_eq_true rfl) (by decide) (by decide) (fun r h1 hp1 => ?_)
  obtain ⟨x, h2, rfl, ⟨fs, h14⟩, hM, hi⟩ := hn0 r h1 hp1
  dsimp only [Option.toList, List.cons_append, List.nil_append]
  refine gl_aload_n 2 d_law_352 rfl rfl ?_
  refine gl_sc (q := 6 * q) (i0 := 0) 1 rfl rfl d_law_353 d_law_354 d_law_355 (by decide) d_law_356 d_law_357 (by omega) hL ?_
  refine gl_sc (q := 6 * q) (i0 := 0) 2 rfl rfl d_law_358 d_law_359 d_law_360 (by decide) d_law_361 d_law_362 (by omega) hL ?_
  refine gl_call m_Law_37 d_law_363 hM h14 rfl rfl rfl rfl (Nat.le_of_ble_eq_true rfl) (by decide) (by decide) (fun r2 h3 hp2 => ?_)
  obtain ⟨rfl, rfl⟩ := hp2
  dsimp only [Option.toList, List.cons_append, List.nil_append]
  refine gl_lcmp d_law_366 ?_
  exact gl_if_eq 1017 d_law_367 (by decide) (fun _ => hn _ hi) (fun c => absurd (lc_self x) c)
set_option maxHeartbeats 4000000 in
set_option maxRecDepth 100000 in
theorem lc_5 {l : Launch} {D : va_G} {cA : ClassId} {b Ln : Nat} {xs : Nat → Int32} {q : Nat} {h : List gg_C} (hL : Ln < 2 ^ 31) (hq : 6 * q + 6 ≤ Ln) (hv : iv_h h) (hn : ∀ h2, iv_h h2 → gl_G l D cA b Ln xs 23 6970 1017 [some (.ref 99), some (.ref 0), some (.ref 14), some (.int (nI (6 * q)))] [] h2) : gl_G l D cA b Ln xs 23 6970 372 [some (.ref 99), some (.ref 0), some (.ref 14), some (.int (nI (6 * q)))] [] h := by
  obtain ⟨fs0, h0⟩ := hv.at0
  obtain ⟨Post, hD0, hn0⟩ := op_words (l := l) (D := D) (cA := cA) (a := (xs (6 * q + 1))) (b := (xs (6 * q + 2))) (c := (xs (6 * q + 3))) (t := (if xs (6 * q + 4) = 0 then 0 else 1)) hv
  refine gl_aload_n 1 d_law_372 rfl rfl ?_
  refine gl_sc (q := 6 * q) (i0 := 0) 1 rfl rfl d_law_373 d_law_374 d_law_375 (by decide) d_law_376 d_law_377 (by omega) hL ?_
  refine gl_sc (q := 6 * q) (i0 := 0) 2 rfl rfl d_law_378 d_law_379 d_law_380 (by decide) d_law_381 d_law_382 (by omega) hL ?_
  refine gl_sc (q := 6 * q) (i0 := 0) 3 rfl rfl d_law_383 d_law_384 d_law_385 (by decide) d_law_386 d_law_387 (by omega) hL ?_
  refine gl_sc (q := 6 * q) (i0 := 0) 4 rfl rfl d_law_388 d_law_389 d_law_390 (by decide) d_law_391 d_law_392 (by omega) hL ?_
  refine gl_bool d_law_393 d_law_396 d_law_397 d_law_400 ?_
  refine gl_call m_Law_38 d_law_401 hD0 h0 rfl rfl rfl rfl (Nat.le_of_ble_eq_true rfl) (by decide) (by decide) (fun r h1 hp1 => ?_)
  obtain ⟨x, h2, rfl, ⟨fs, h14⟩, hM, hi⟩ := hn0 r h1 hp1
  dsimp only [Option.toList, List.cons_append, List.nil_append]
  refine gl_aload_n 2 d_law_404 rfl rfl ?_
  refine gl_sc (q := 6 * q) (i0 := 0) 1 rfl rfl d_law_405 d_law_406 d_law_407 (by decide) d_law_408 d_law_409 (by omega) hL ?_
  refine gl_sc (q := 6 * q) (i0 := 0) 2 rfl rfl d_law_410 d_law_411 d_law_412 (by decide) d_law_413 d_law_414 (by omega) hL ?_
  refine gl_sc (q := 6 * q) (i0 := 0) 3 rfl rfl d_law_415 d_law_416 d_law_417 (by decide) d_law_418 d_law_419 (by omega) hL ?_
  refine gl_sc (q := 6 * q) (i0 := 0) 4 rfl rfl d_law_420 d_law_421 d_law_422 (by decide) d_law_423 d_law_424 (by omega) hL ?_
  refine gl_bool d_law_425 d_law_428 d_law_429 d_law_432 ?_
  refine gl_call m_Law_42 d_law_433 hM h14 rfl rfl rfl rfl (Nat.le_of_ble_eq_true rfl) (by decide) (by decide) (fun r2 h3 hp2 => ?_)
  obtain ⟨rfl, rfl⟩ := hp2
  dsimp only [Option.toList, List.cons_append, List.nil_append]
  exact gl_icmp_eq 1017 d_law_436 (by decide) (fun _ => hn _ hi) (fun c => absurd rfl c)
set_option maxHeartbeats 4000000 in
set_option maxRecDepth 100000 in
theorem lc_6 {l : Launch} {D : va_G} {cA : ClassId} {b Ln : Nat} {xs : Nat → Int32} {q : Nat} {h : List gg_C} (hL : Ln < 2 ^ 31) (hq : 6 * q + 6 ≤ Ln) (hv : iv_h h) (hn : ∀ h2, iv_h h2 → gl_G l D cA b Ln xs 23 6970 1017 [some (.ref 99), some (.ref 0), some (.ref 14), some (.int (nI (6 * q)))] [] h2) : gl_G l D cA b Ln xs 23 6970 441 [some (.ref 99), some (.ref 0), some (.ref 14), some (.int (nI (6 * q)))] [] h := by
  obtain ⟨fs0, h0⟩ := hv.at0
  obtain ⟨Post, hD0, hn0⟩ := op_word (l := l) (D := D) (cA := cA) (x := (xs (6 * q + 1))) hv
  refine gl_aload_n 1 d_law_441 rfl rfl ?_
  refine gl_sc (q := 6 * q) (i0 := 0) 1 rfl rfl d_law_442 d_law_443 d_law_444 (by decide) d_law_445 d_law_446 (by omega) hL ?_
  refine gl_call m_Law_43 d_law_447 hD0 h0 rfl rfl rfl rfl (Nat.le_of_ble_eq_true rfl) (by decide) (by decide) (fun r h1 hp1 => ?_)
  obtain ⟨x, h2, rfl, ⟨fs, h14⟩, hM, hi⟩ := hn0 r h1 hp1
  dsimp only [Option.toList, List.cons_append, List.nil_append]
  refine gl_aload_n 2 d_law_450 rfl rfl ?_
  refine gl_sc (q := 6 * q) (i0 := 0) 1 rfl rfl d_law_451 d_law_452 d_law_453 (by decide) d_law_454 d_law_455 (by omega) hL ?_
  refine gl_call m_Law_46 d_law_456 hM h14 rfl rfl rfl rfl (Nat.le_of_ble_eq_true rfl) (by decide) (by decide) (fun r2 h3 hp2 => ?_)
  obtain ⟨rfl, rfl⟩ := hp2
  dsimp only [Option.toList, List.cons_append, List.nil_append]
  exact gl_icmp_eq 1017 d_law_459 (by decide) (fun _ => hn _ hi) (fun c => absurd rfl c)
set_option maxHeartbeats 4000000 in
set_option maxRecDepth 100000 in
theorem lc_7 {l : Launch} {D : va_G} {cA : ClassId} {b Ln : Nat} {xs : Nat → Int32} {q : Nat} {h : List gg_C} (hL : Ln < 2 ^ 31) (hq : 6 * q + 6 ≤ Ln) (hv : iv_h h) (hn : ∀ h2, iv_h h2 → gl_G l D cA b Ln xs 23 6970 1017 [some (.ref 99), some (.ref 0), some (.ref 14), some (.int (nI (6 * q)))] [] h2) : gl_G l D cA b Ln xs 23 6970 464 [some (.ref 99), some (.ref 0), some (.ref 14), some (.int (nI (6 * q)))] [] h := by
  obtain ⟨fs0, h0⟩ := hv.at0
  obtain ⟨Post, hD0, hn0⟩ := op_octet (l := l) (D := D) (cA := cA) (x := (xs (6 * q + 1))) hv
  refine gl_aload_n 1 d_law_464 rfl rfl ?_
  refine gl_sc (q := 6 * q) (i0 := 0) 1 rfl rfl d_law_465 d_law_466 d_law_467 (by decide) d_law_468 d_law_469 (by omega) hL ?_
  refine gl_call m_Law_47 d_law_470 hD0 h0 rfl rfl rfl rfl (Nat.le_of_ble_eq_true rfl) (by decide) (by decide) (fun r h1 hp1 => ?_)
  obtain ⟨x, h2, rfl, ⟨fs, h14⟩, hM, hi⟩ := hn0 r h1 hp1
  dsimp only [Option.toList, List.cons_append, List.nil_append]
  refine gl_aload_n 2 d_law_473 rfl rfl ?_
  refine gl_sc (q := 6 * q) (i0 := 0) 1 rfl rfl d_law_474 d_law_475 d_law_476 (by decide) d_law_477 d_law_478 (by omega) hL ?_
  refine gl_call m_Law_50 d_law_479 hM h14 rfl rfl rfl rfl (Nat.le_of_ble_eq_true rfl) (by decide) (by decide) (fun r2 h3 hp2 => ?_)
  obtain ⟨rfl, rfl⟩ := hp2
  dsimp only [Option.toList, List.cons_append, List.nil_append]
  exact gl_icmp_eq 1017 d_law_482 (by decide) (fun _ => hn _ hi) (fun c => absurd rfl c)
set_option maxHeartbeats 4000000 in
set_option maxRecDepth 100000 in
theorem lc_8 {l : Launch} {D : va_G} {cA : ClassId} {b Ln : Nat} {xs : Nat → Int32} {q : Nat} {h : List gg_C} (hL : Ln < 2 ^ 31) (hq : 6 * q + 6 ≤ Ln) (hv : iv_h h) (hn : ∀ h2, iv_h h2 → gl_G l D cA b Ln xs 23 6970 1017 [some (.ref 99), some (.ref 0), some (.ref 14), some (.int (nI (6 * q)))] [] h2) : gl_G l D cA b Ln xs 23 6970 487 [some (.ref 99), some (.ref 0), some (.ref 14), some (.int (nI (6 * q)))] [] h := by
  obtain ⟨fs0, h0⟩ := hv.at0
  obtain ⟨Post, hD0, hn0⟩ := op_seed (l := l) (D := D) (cA := cA) (v := ((((xs (6 * q + 1)).toInt64) <<< ((32 : Int32).toInt64 &&& 63)) ||| (((xs (6 * q + 2)).toInt64) &&& 4294967295))) hv
  refine gl_aload_n 1 d_law_487 rfl rfl ?_
  refine gl_sc (q := 6 * q) (i0 := 0) 1 rfl rfl d_law_488 d_law_489 d_law_490 (by decide) d_law_491 d_law_492 (by omega) hL ?_
  refine gl_i2l d_law_493 rfl ?_
  refine gl_bipush (v := 32) d_law_494 (by decide) ?_
  refine gl_lshl d_law_496 rfl ?_
  refine gl_sc (q := 6 * q) (i0 := 0) 2 rfl rfl d_law_497 d_law_498 d_law_499 (by decide) d_law_500 d_law_501 (by omega) hL ?_
  refine gl_i2l d_law_502 rfl ?_
  refine gl_ldc2 k_548 d_law_503 ?_
  refine gl_land d_law_506 ?_
  refine gl_lor d_law_507 ?_
  refine gl_call m_Law_53 d_law_508 hD0 h0 rfl rfl rfl rfl (Nat.le_of_ble_eq_true rfl) (by decide) (by decide) (fun r h1 hp1 => ?_)
  obtain ⟨x, h2, rfl, ⟨fs, h14⟩, hM, hi⟩ := hn0 r h1 hp1
  dsimp only [Option.toList, List.cons_append, List.nil_append]
  refine gl_aload_n 2 d_law_511 rfl rfl ?_
  refine gl_sc (q := 6 * q) (i0 := 0) 1 rfl rfl d_law_512 d_law_513 d_law_514 (by decide) d_law_515 d_law_516 (by omega) hL ?_
  refine gl_i2l d_law_517 rfl ?_
  refine gl_bipush (v := 32) d_law_518 (by decide) ?_
  refine gl_lshl d_law_520 rfl ?_
  refine gl_sc (q := 6 * q) (i0 := 0) 2 rfl rfl d_law_521 d_law_522 d_law_523 (by decide) d_law_524 d_law_525 (by omega) hL ?_
  refine gl_i2l d_law_526 rfl ?_
  refine gl_ldc2 k_548 d_law_527 ?_
  refine gl_land d_law_530 ?_
  refine gl_lor d_law_531 ?_
  refine gl_call m_Law_57 d_law_532 hM h14 rfl rfl rfl rfl (Nat.le_of_ble_eq_true rfl) (by decide) (by decide) (fun r2 h3 hp2 => ?_)
  obtain ⟨rfl, rfl⟩ := hp2
  dsimp only [Option.toList, List.cons_append, List.nil_append]
  refine gl_lcmp d_law_535 ?_
  exact gl_if_eq 1017 d_law_536 (by decide) (fun _ => hn _ hi) (fun c => absurd (lc_self x) c)
set_option maxHeartbeats 4000000 in
set_option maxRecDepth 100000 in
theorem lc_9 {l : Launch} {D : va_G} {cA : ClassId} {b Ln : Nat} {xs : Nat → Int32} {q : Nat} {h : List gg_C} (hL : Ln < 2 ^ 31) (hq : 6 * q + 6 ≤ Ln) (hv : iv_h h) (hn : ∀ h2, iv_h h2 → gl_G l D cA b Ln xs 23 6970 1017 [some (.ref 99), some (.ref 0), some (.ref 14), some (.int (nI (6 * q)))] [] h2) : gl_G l D cA b Ln xs 23 6970 541 [some (.ref 99), some (.ref 0), some (.ref 14), some (.int (nI (6 * q)))] [] h := by
  obtain ⟨fs0, h0⟩ := hv.at0
  obtain ⟨Post, hD0, hn0⟩ := op_draw (l := l) (D := D) (cA := cA)  hv
  refine gl_aload_n 1 d_law_541 rfl rfl ?_
  refine gl_call m_Law_58 d_law_542 hD0 h0 rfl rfl rfl rfl (Nat.le_of_ble_eq_true rfl) (by decide) (by decide) (fun r h1 hp1 => ?_)
  obtain ⟨x, h2, rfl, ⟨fs, h14⟩, hM, hi⟩ := hn0 r h1 hp1
  dsimp only [Option.toList, List.cons_append, List.nil_append]
  refine gl_aload_n 2 d_law_545 rfl rfl ?_
  refine gl_call m_Law_62 d_law_546 hM h14 rfl rfl rfl rfl (Nat.le_of_ble_eq_true rfl) (by decide) (by decide) (fun r2 h3 hp2 => ?_)
  obtain ⟨rfl, rfl⟩ := hp2
  dsimp only [Option.toList, List.cons_append, List.nil_append]
  refine gl_lcmp d_law_549 ?_
  exact gl_if_eq 1017 d_law_550 (by decide) (fun _ => hn _ hi) (fun c => absurd (lc_self x) c)
set_option maxHeartbeats 4000000 in
set_option maxRecDepth 100000 in
theorem lc_10 {l : Launch} {D : va_G} {cA : ClassId} {b Ln : Nat} {xs : Nat → Int32} {q : Nat} {h : List gg_C} (hL : Ln < 2 ^ 31) (hq : 6 * q + 6 ≤ Ln) (hv : iv_h h) (hn : ∀ h2, iv_h h2 → gl_G l D cA b Ln xs 23 6970 1017 [some (.ref 99), some (.ref 0), some (.ref 14), some (.int (nI (6 * q)))] [] h2) : gl_G l D cA b Ln xs 23 6970 555 [some (.ref 99), some (.ref 0), some (.ref 14), some (.int (nI (6 * q)))] [] h := by
  obtain ⟨fs0, h0⟩ := hv.at0
  obtain ⟨Post, hD0, hn0⟩ := op_push (l := l) (D := D) (cA := cA) (x := (xs (6 * q + 1))) hv
  refine gl_aload_n 1 d_law_555 rfl rfl ?_
  refine gl_sc (q := 6 * q) (i0 := 0) 1 rfl rfl d_law_556 d_law_557 d_law_558 (by decide) d_law_559 d_law_560 (by omega) hL ?_
  refine gl_call m_Law_63 d_law_561 hD0 h0 rfl rfl rfl rfl (Nat.le_of_ble_eq_true rfl) (by decide) (by decide) (fun r h1 hp1 => ?_)
  obtain ⟨x, h2, rfl, ⟨fs, h14⟩, hM, hi⟩ := hn0 r h1 hp1
  dsimp only [Option.toList, List.cons_append, List.nil_append]
  refine gl_aload_n 2 d_law_564 rfl rfl ?_
  refine gl_sc (q := 6 * q) (i0 := 0) 1 rfl rfl d_law_565 d_law_566 d_law_567 (by decide) d_law_568 d_law_569 (by omega) hL ?_
  refine gl_call m_Law_66 d_law_570 hM h14 rfl rfl rfl rfl (Nat.le_of_ble_eq_true rfl) (by decide) (by decide) (fun r2 h3 hp2 => ?_)
  obtain ⟨rfl, rfl⟩ := hp2
  dsimp only [Option.toList, List.cons_append, List.nil_append]
  exact gl_icmp_eq 1017 d_law_573 (by decide) (fun _ => hn _ hi) (fun c => absurd rfl c)
set_option maxHeartbeats 4000000 in
set_option maxRecDepth 100000 in
theorem lc_11 {l : Launch} {D : va_G} {cA : ClassId} {b Ln : Nat} {xs : Nat → Int32} {q : Nat} {h : List gg_C} (hL : Ln < 2 ^ 31) (hq : 6 * q + 6 ≤ Ln) (hv : iv_h h) (hn : ∀ h2, iv_h h2 → gl_G l D cA b Ln xs 23 6970 1017 [some (.ref 99), some (.ref 0), some (.ref 14), some (.int (nI (6 * q)))] [] h2) : gl_G l D cA b Ln xs 23 6970 578 [some (.ref 99), some (.ref 0), some (.ref 14), some (.int (nI (6 * q)))] [] h := by
  obtain ⟨fs0, h0⟩ := hv.at0
  obtain ⟨Post, hD0, hn0⟩ := op_pop (l := l) (D := D) (cA := cA) (s := (if xs (6 * q + 1) = 0 then 0 else 1)) hv
  refine gl_aload_n 1 d_law_578 rfl rfl ?_
  refine gl_sc (q := 6 * q) (i0 := 0) 1 rfl rfl d_law_579 d_law_580 d_law_581 (by decide) d_law_582 d_law_583 (by omega) hL ?_
  refine gl_bool d_law_584 d_law_587 d_law_588 d_law_591 ?_
  refine gl_call m_Law_67 d_law_592 hD0 h0 rfl rfl rfl rfl (Nat.le_of_ble_eq_true rfl) (by decide) (by decide) (fun r h1 hp1 => ?_)
  obtain ⟨x, h2, rfl, ⟨fs, h14⟩, hM, hi⟩ := hn0 r h1 hp1
  dsimp only [Option.toList, List.cons_append, List.nil_append]
  refine gl_aload_n 2 d_law_595 rfl rfl ?_
  refine gl_sc (q := 6 * q) (i0 := 0) 1 rfl rfl d_law_596 d_law_597 d_law_598 (by decide) d_law_599 d_law_600 (by omega) hL ?_
  refine gl_bool d_law_601 d_law_604 d_law_605 d_law_608 ?_
  refine gl_call m_Law_71 d_law_609 hM h14 rfl rfl rfl rfl (Nat.le_of_ble_eq_true rfl) (by decide) (by decide) (fun r2 h3 hp2 => ?_)
  obtain ⟨rfl, rfl⟩ := hp2
  dsimp only [Option.toList, List.cons_append, List.nil_append]
  refine gl_lcmp d_law_612 ?_
  exact gl_if_eq 1017 d_law_613 (by decide) (fun _ => hn _ hi) (fun c => absurd (lc_self x) c)
set_option maxHeartbeats 4000000 in
set_option maxRecDepth 100000 in
theorem lc_12 {l : Launch} {D : va_G} {cA : ClassId} {b Ln : Nat} {xs : Nat → Int32} {q : Nat} {h : List gg_C} (hL : Ln < 2 ^ 31) (hq : 6 * q + 6 ≤ Ln) (hv : iv_h h) (hn : ∀ h2, iv_h h2 → gl_G l D cA b Ln xs 23 6970 1017 [some (.ref 99), some (.ref 0), some (.ref 14), some (.int (nI (6 * q)))] [] h2) : gl_G l D cA b Ln xs 23 6970 618 [some (.ref 99), some (.ref 0), some (.ref 14), some (.int (nI (6 * q)))] [] h := by
  obtain ⟨fs0, h0⟩ := hv.at0
  obtain ⟨Post, hD0, hn0⟩ := op_search (l := l) (D := D) (cA := cA) (v := (xs (6 * q + 1))) hv
  refine gl_aload_n 1 d_law_618 rfl rfl ?_
  refine gl_sc (q := 6 * q) (i0 := 0) 1 rfl rfl d_law_619 d_law_620 d_law_621 (by decide) d_law_622 d_law_623 (by omega) hL ?_
  refine gl_call m_Law_72 d_law_624 hD0 h0 rfl rfl rfl rfl (Nat.le_of_ble_eq_true rfl) (by decide) (by decide) (fun r h1 hp1 => ?_)
  obtain ⟨x, h2, rfl, ⟨fs, h14⟩, hM, hi⟩ := hn0 r h1 hp1
  dsimp only [Option.toList, List.cons_append, List.nil_append]
  refine gl_aload_n 2 d_law_627 rfl rfl ?_
  refine gl_sc (q := 6 * q) (i0 := 0) 1 rfl rfl d_law_628 d_law_629 d_law_630 (by decide) d_law_631 d_law_632 (by omega) hL ?_
  refine gl_call m_Law_75 d_law_633 hM h14 rfl rfl rfl rfl (Nat.le_of_ble_eq_true rfl) (by decide) (by decide) (fun r2 h3 hp2 => ?_)
  obtain ⟨rfl, rfl⟩ := hp2
  dsimp only [Option.toList, List.cons_append, List.nil_append]
  exact gl_icmp_eq 1017 d_law_636 (by decide) (fun _ => hn _ hi) (fun c => absurd rfl c)
set_option maxHeartbeats 4000000 in
set_option maxRecDepth 100000 in
theorem lc_13 {l : Launch} {D : va_G} {cA : ClassId} {b Ln : Nat} {xs : Nat → Int32} {q : Nat} {h : List gg_C} (hL : Ln < 2 ^ 31) (hq : 6 * q + 6 ≤ Ln) (hv : iv_h h) (hn : ∀ h2, iv_h h2 → gl_G l D cA b Ln xs 23 6970 1017 [some (.ref 99), some (.ref 0), some (.ref 14), some (.int (nI (6 * q)))] [] h2) : gl_G l D cA b Ln xs 23 6970 641 [some (.ref 99), some (.ref 0), some (.ref 14), some (.int (nI (6 * q)))] [] h := by
  obtain ⟨fs0, h0⟩ := hv.at0
  obtain ⟨Post, hD0, hn0⟩ := op_insert (l := l) (D := D) (cA := cA) (y := (xs (6 * q + 1))) (x := (xs (6 * q + 2))) hv
  refine gl_aload_n 1 d_law_641 rfl rfl ?_
  refine gl_sc (q := 6 * q) (i0 := 0) 1 rfl rfl d_law_642 d_law_643 d_law_644 (by decide) d_law_645 d_law_646 (by omega) hL ?_
  refine gl_sc (q := 6 * q) (i0 := 0) 2 rfl rfl d_law_647 d_law_648 d_law_649 (by decide) d_law_650 d_law_651 (by omega) hL ?_
  refine gl_call m_Law_76 d_law_652 hD0 h0 rfl rfl rfl rfl (Nat.le_of_ble_eq_true rfl) (by decide) (by decide) (fun r h1 hp1 => ?_)
  obtain ⟨x, h2, rfl, ⟨fs, h14⟩, hM, hi⟩ := hn0 r h1 hp1
  dsimp only [Option.toList, List.cons_append, List.nil_append]
  refine gl_aload_n 2 d_law_655 rfl rfl ?_
  refine gl_sc (q := 6 * q) (i0 := 0) 1 rfl rfl d_law_656 d_law_657 d_law_658 (by decide) d_law_659 d_law_660 (by omega) hL ?_
  refine gl_sc (q := 6 * q) (i0 := 0) 2 rfl rfl d_law_661 d_law_662 d_law_663 (by decide) d_law_664 d_law_665 (by omega) hL ?_
  refine gl_call m_Law_80 d_law_666 hM h14 rfl rfl rfl rfl (Nat.le_of_ble_eq_true rfl) (by decide) (by decide) (fun r2 h3 hp2 => ?_)
  obtain ⟨rfl, rfl⟩ := hp2
  dsimp only [Option.toList, List.cons_append, List.nil_append]
  exact gl_icmp_eq 1017 d_law_669 (by decide) (fun _ => hn _ hi) (fun c => absurd rfl c)
set_option maxHeartbeats 4000000 in
set_option maxRecDepth 100000 in
theorem lc_14 {l : Launch} {D : va_G} {cA : ClassId} {b Ln : Nat} {xs : Nat → Int32} {q : Nat} {h : List gg_C} (hL : Ln < 2 ^ 31) (hq : 6 * q + 6 ≤ Ln) (hv : iv_h h) (hn : ∀ h2, iv_h h2 → gl_G l D cA b Ln xs 23 6970 1017 [some (.ref 99), some (.ref 0), some (.ref 14), some (.int (nI (6 * q)))] [] h2) : gl_G l D cA b Ln xs 23 6970 674 [some (.ref 99), some (.ref 0), some (.ref 14), some (.int (nI (6 * q)))] [] h := by
  obtain ⟨fs0, h0⟩ := hv.at0
  obtain ⟨Post, hD0, hn0⟩ := op_remove (l := l) (D := D) (cA := cA) (y := (xs (6 * q + 1))) hv
  refine gl_aload_n 1 d_law_674 rfl rfl ?_
  refine gl_sc (q := 6 * q) (i0 := 0) 1 rfl rfl d_law_675 d_law_676 d_law_677 (by decide) d_law_678 d_law_679 (by omega) hL ?_
  refine gl_call m_Law_81 d_law_680 hD0 h0 rfl rfl rfl rfl (Nat.le_of_ble_eq_true rfl) (by decide) (by decide) (fun r h1 hp1 => ?_)
  obtain ⟨x, h2, rfl, ⟨fs, h14⟩, hM, hi⟩ := hn0 r h1 hp1
  dsimp only [Option.toList, List.cons_append, List.nil_append]
  refine gl_aload_n 2 d_law_683 rfl rfl ?_
  refine gl_sc (q := 6 * q) (i0 := 0) 1 rfl rfl d_law_684 d_law_685 d_law_686 (by decide) d_law_687 d_law_688 (by omega) hL ?_
  refine gl_call m_Law_85 d_law_689 hM h14 rfl rfl rfl rfl (Nat.le_of_ble_eq_true rfl) (by decide) (by decide) (fun r2 h3 hp2 => ?_)
  obtain ⟨rfl, rfl⟩ := hp2
  dsimp only [Option.toList, List.cons_append, List.nil_append]
  refine gl_lcmp d_law_692 ?_
  exact gl_if_eq 1017 d_law_693 (by decide) (fun _ => hn _ hi) (fun c => absurd (lc_self x) c)
set_option maxHeartbeats 4000000 in
set_option maxRecDepth 100000 in
theorem lc_15 {l : Launch} {D : va_G} {cA : ClassId} {b Ln : Nat} {xs : Nat → Int32} {q : Nat} {h : List gg_C} (hL : Ln < 2 ^ 31) (hq : 6 * q + 6 ≤ Ln) (hv : iv_h h) (hn : ∀ h2, iv_h h2 → gl_G l D cA b Ln xs 23 6970 1017 [some (.ref 99), some (.ref 0), some (.ref 14), some (.int (nI (6 * q)))] [] h2) : gl_G l D cA b Ln xs 23 6970 698 [some (.ref 99), some (.ref 0), some (.ref 14), some (.int (nI (6 * q)))] [] h := by
  obtain ⟨fs0, h0⟩ := hv.at0
  obtain ⟨Post, hD0, hn0⟩ := op_set (l := l) (D := D) (cA := cA) (y := (xs (6 * q + 1))) (x := (xs (6 * q + 2))) hv
  refine gl_aload_n 1 d_law_698 rfl rfl ?_
  refine gl_sc (q := 6 * q) (i0 := 0) 1 rfl rfl d_law_699 d_law_700 d_law_701 (by decide) d_law_702 d_law_703 (by omega) hL ?_
  refine gl_sc (q := 6 * q) (i0 := 0) 2 rfl rfl d_law_704 d_law_705 d_law_706 (by decide) d_law_707 d_law_708 (by omega) hL ?_
  refine gl_call m_Law_86 d_law_709 hD0 h0 rfl rfl rfl rfl (Nat.le_of_ble_eq_true rfl) (by decide) (by decide) (fun r h1 hp1 => ?_)
  obtain ⟨x, h2, rfl, ⟨fs, h14⟩, hM, hi⟩ := hn0 r h1 hp1
  dsimp only [Option.toList, List.cons_append, List.nil_append]
  refine gl_aload_n 2 d_law_712 rfl rfl ?_
  refine gl_sc (q := 6 * q) (i0 := 0) 1 rfl rfl d_law_713 d_law_714 d_law_715 (by decide) d_law_716 d_law_717 (by omega) hL ?_
  refine gl_sc (q := 6 * q) (i0 := 0) 2 rfl rfl d_law_718 d_law_719 d_law_720 (by decide) d_law_721 d_law_722 (by omega) hL ?_
  refine gl_call m_Law_89 d_law_723 hM h14 rfl rfl rfl rfl (Nat.le_of_ble_eq_true rfl) (by decide) (by decide) (fun r2 h3 hp2 => ?_)
  obtain ⟨rfl, rfl⟩ := hp2
  dsimp only [Option.toList, List.cons_append, List.nil_append]
  refine gl_lcmp d_law_726 ?_
  exact gl_if_eq 1017 d_law_727 (by decide) (fun _ => hn _ hi) (fun c => absurd (lc_self x) c)
set_option maxHeartbeats 4000000 in
set_option maxRecDepth 100000 in
theorem lc_16 {l : Launch} {D : va_G} {cA : ClassId} {b Ln : Nat} {xs : Nat → Int32} {q : Nat} {h : List gg_C} (hL : Ln < 2 ^ 31) (hq : 6 * q + 6 ≤ Ln) (hv : iv_h h) (hn : ∀ h2, iv_h h2 → gl_G l D cA b Ln xs 23 6970 1017 [some (.ref 99), some (.ref 0), some (.ref 14), some (.int (nI (6 * q)))] [] h2) : gl_G l D cA b Ln xs 23 6970 732 [some (.ref 99), some (.ref 0), some (.ref 14), some (.int (nI (6 * q)))] [] h := by
  obtain ⟨fs0, h0⟩ := hv.at0
  obtain ⟨Post, hD0, hn0⟩ := op_get (l := l) (D := D) (cA := cA) (y := (xs (6 * q + 1))) hv
  refine gl_aload_n 1 d_law_732 rfl rfl ?_
  refine gl_sc (q := 6 * q) (i0 := 0) 1 rfl rfl d_law_733 d_law_734 d_law_735 (by decide) d_law_736 d_law_737 (by omega) hL ?_
  refine gl_call m_Law_90 d_law_738 hD0 h0 rfl rfl rfl rfl (Nat.le_of_ble_eq_true rfl) (by decide) (by decide) (fun r h1 hp1 => ?_)
  obtain ⟨x, h2, rfl, ⟨fs, h14⟩, hM, hi⟩ := hn0 r h1 hp1
  dsimp only [Option.toList, List.cons_append, List.nil_append]
  refine gl_aload_n 2 d_law_741 rfl rfl ?_
  refine gl_sc (q := 6 * q) (i0 := 0) 1 rfl rfl d_law_742 d_law_743 d_law_744 (by decide) d_law_745 d_law_746 (by omega) hL ?_
  refine gl_call m_Law_93 d_law_747 hM h14 rfl rfl rfl rfl (Nat.le_of_ble_eq_true rfl) (by decide) (by decide) (fun r2 h3 hp2 => ?_)
  obtain ⟨rfl, rfl⟩ := hp2
  dsimp only [Option.toList, List.cons_append, List.nil_append]
  refine gl_lcmp d_law_750 ?_
  exact gl_if_eq 1017 d_law_751 (by decide) (fun _ => hn _ hi) (fun c => absurd (lc_self x) c)
set_option maxHeartbeats 4000000 in
set_option maxRecDepth 100000 in
theorem lc_17 {l : Launch} {D : va_G} {cA : ClassId} {b Ln : Nat} {xs : Nat → Int32} {q : Nat} {h : List gg_C} (hL : Ln < 2 ^ 31) (hq : 6 * q + 6 ≤ Ln) (hv : iv_h h) (hn : ∀ h2, iv_h h2 → gl_G l D cA b Ln xs 23 6970 1017 [some (.ref 99), some (.ref 0), some (.ref 14), some (.int (nI (6 * q)))] [] h2) : gl_G l D cA b Ln xs 23 6970 756 [some (.ref 99), some (.ref 0), some (.ref 14), some (.int (nI (6 * q)))] [] h := by
  obtain ⟨fs0, h0⟩ := hv.at0
  obtain ⟨Post, hD0, hn0⟩ := op_find (l := l) (D := D) (cA := cA) (v := (xs (6 * q + 1))) (y := (xs (6 * q + 2))) (s := (if xs (6 * q + 3) = 0 then 0 else 1)) hv
  refine gl_aload_n 1 d_law_756 rfl rfl ?_
  refine gl_sc (q := 6 * q) (i0 := 0) 1 rfl rfl d_law_757 d_law_758 d_law_759 (by decide) d_law_760 d_law_761 (by omega) hL ?_
  refine gl_sc (q := 6 * q) (i0 := 0) 2 rfl rfl d_law_762 d_law_763 d_law_764 (by decide) d_law_765 d_law_766 (by omega) hL ?_
  refine gl_sc (q := 6 * q) (i0 := 0) 3 rfl rfl d_law_767 d_law_768 d_law_769 (by decide) d_law_770 d_law_771 (by omega) hL ?_
  refine gl_bool d_law_772 d_law_775 d_law_776 d_law_779 ?_
  refine gl_call m_Law_94 d_law_780 hD0 h0 rfl rfl rfl rfl (Nat.le_of_ble_eq_true rfl) (by decide) (by decide) (fun r h1 hp1 => ?_)
  obtain ⟨x, h2, rfl, ⟨fs, h14⟩, hM, hi⟩ := hn0 r h1 hp1
  dsimp only [Option.toList, List.cons_append, List.nil_append]
  refine gl_aload_n 2 d_law_783 rfl rfl ?_
  refine gl_sc (q := 6 * q) (i0 := 0) 1 rfl rfl d_law_784 d_law_785 d_law_786 (by decide) d_law_787 d_law_788 (by omega) hL ?_
  refine gl_sc (q := 6 * q) (i0 := 0) 2 rfl rfl d_law_789 d_law_790 d_law_791 (by decide) d_law_792 d_law_793 (by omega) hL ?_
  refine gl_sc (q := 6 * q) (i0 := 0) 3 rfl rfl d_law_794 d_law_795 d_law_796 (by decide) d_law_797 d_law_798 (by omega) hL ?_
  refine gl_bool d_law_799 d_law_802 d_law_803 d_law_806 ?_
  refine gl_call m_Law_98 d_law_807 hM h14 rfl rfl rfl rfl (Nat.le_of_ble_eq_true rfl) (by decide) (by decide) (fun r2 h3 hp2 => ?_)
  obtain ⟨rfl, rfl⟩ := hp2
  dsimp only [Option.toList, List.cons_append, List.nil_append]
  exact gl_icmp_eq 1017 d_law_810 (by decide) (fun _ => hn _ hi) (fun c => absurd rfl c)
set_option maxHeartbeats 4000000 in
set_option maxRecDepth 100000 in
theorem lc_18 {l : Launch} {D : va_G} {cA : ClassId} {b Ln : Nat} {xs : Nat → Int32} {q : Nat} {h : List gg_C} (hL : Ln < 2 ^ 31) (hq : 6 * q + 6 ≤ Ln) (hv : iv_h h) (hn : ∀ h2, iv_h h2 → gl_G l D cA b Ln xs 23 6970 1017 [some (.ref 99), some (.ref 0), some (.ref 14), some (.int (nI (6 * q)))] [] h2) : gl_G l D cA b Ln xs 23 6970 815 [some (.ref 99), some (.ref 0), some (.ref 14), some (.int (nI (6 * q)))] [] h := by
  obtain ⟨fs0, h0⟩ := hv.at0
  obtain ⟨Post, hD0, hn0⟩ := op_size (l := l) (D := D) (cA := cA) (y := (xs (6 * q + 1))) hv
  refine gl_aload_n 1 d_law_815 rfl rfl ?_
  refine gl_sc (q := 6 * q) (i0 := 0) 1 rfl rfl d_law_816 d_law_817 d_law_818 (by decide) d_law_819 d_law_820 (by omega) hL ?_
  refine gl_call m_Law_99 d_law_821 hD0 h0 rfl rfl rfl rfl (Nat.le_of_ble_eq_true rfl) (by decide) (by decide) (fun r h1 hp1 => ?_)
  obtain ⟨x, h2, rfl, ⟨fs, h14⟩, hM, hi⟩ := hn0 r h1 hp1
  dsimp only [Option.toList, List.cons_append, List.nil_append]
  refine gl_aload_n 2 d_law_824 rfl rfl ?_
  refine gl_sc (q := 6 * q) (i0 := 0) 1 rfl rfl d_law_825 d_law_826 d_law_827 (by decide) d_law_828 d_law_829 (by omega) hL ?_
  refine gl_call m_Law_102 d_law_830 hM h14 rfl rfl rfl rfl (Nat.le_of_ble_eq_true rfl) (by decide) (by decide) (fun r2 h3 hp2 => ?_)
  obtain ⟨rfl, rfl⟩ := hp2
  dsimp only [Option.toList, List.cons_append, List.nil_append]
  exact gl_icmp_eq 1017 d_law_833 (by decide) (fun _ => hn _ hi) (fun c => absurd rfl c)
set_option maxHeartbeats 4000000 in
set_option maxRecDepth 100000 in
theorem lc_19 {l : Launch} {D : va_G} {cA : ClassId} {b Ln : Nat} {xs : Nat → Int32} {q : Nat} {h : List gg_C} (hL : Ln < 2 ^ 31) (hq : 6 * q + 6 ≤ Ln) (hv : iv_h h) (hn : ∀ h2, iv_h h2 → gl_G l D cA b Ln xs 23 6970 1017 [some (.ref 99), some (.ref 0), some (.ref 14), some (.int (nI (6 * q)))] [] h2) : gl_G l D cA b Ln xs 23 6970 838 [some (.ref 99), some (.ref 0), some (.ref 14), some (.int (nI (6 * q)))] [] h := by
  obtain ⟨fs0, h0⟩ := hv.at0
  obtain ⟨Post, hD0, hn0⟩ := op_turn (l := l) (D := D) (cA := cA) (y := (xs (6 * q + 1))) (x := (xs (6 * q + 2))) hv
  refine gl_aload_n 1 d_law_838 rfl rfl ?_
  refine gl_sc (q := 6 * q) (i0 := 0) 1 rfl rfl d_law_839 d_law_840 d_law_841 (by decide) d_law_842 d_law_843 (by omega) hL ?_
  refine gl_sc (q := 6 * q) (i0 := 0) 2 rfl rfl d_law_844 d_law_845 d_law_846 (by decide) d_law_847 d_law_848 (by omega) hL ?_
  refine gl_call m_Law_103 d_law_849 hD0 h0 rfl rfl rfl rfl (Nat.le_of_ble_eq_true rfl) (by decide) (by decide) (fun r h1 hp1 => ?_)
  obtain ⟨x, h2, rfl, ⟨fs, h14⟩, hM, hi⟩ := hn0 r h1 hp1
  dsimp only [Option.toList, List.cons_append, List.nil_append]
  refine gl_aload_n 2 d_law_852 rfl rfl ?_
  refine gl_sc (q := 6 * q) (i0 := 0) 1 rfl rfl d_law_853 d_law_854 d_law_855 (by decide) d_law_856 d_law_857 (by omega) hL ?_
  refine gl_sc (q := 6 * q) (i0 := 0) 2 rfl rfl d_law_858 d_law_859 d_law_860 (by decide) d_law_861 d_law_862 (by omega) hL ?_
  refine gl_call m_Law_106 d_law_863 hM h14 rfl rfl rfl rfl (Nat.le_of_ble_eq_true rfl) (by decide) (by decide) (fun r2 h3 hp2 => ?_)
  obtain ⟨rfl, rfl⟩ := hp2
  dsimp only [Option.toList, List.cons_append, List.nil_append]
  exact gl_icmp_eq 1017 d_law_866 (by decide) (fun _ => hn _ hi) (fun c => absurd rfl c)
set_option maxHeartbeats 4000000 in
set_option maxRecDepth 100000 in
theorem lc_20 {l : Launch} {D : va_G} {cA : ClassId} {b Ln : Nat} {xs : Nat → Int32} {q : Nat} {h : List gg_C} (hL : Ln < 2 ^ 31) (hq : 6 * q + 6 ≤ Ln) (hv : iv_h h) (hn : ∀ h2, iv_h h2 → gl_G l D cA b Ln xs 23 6970 1017 [some (.ref 99), some (.ref 0), some (.ref 14), some (.int (nI (6 * q)))] [] h2) : gl_G l D cA b Ln xs 23 6970 871 [some (.ref 99), some (.ref 0), some (.ref 14), some (.int (nI (6 * q)))] [] h := by
  obtain ⟨fs0, h0⟩ := hv.at0
  obtain ⟨Post, hD0, hn0⟩ := op_swap (l := l) (D := D) (cA := cA) (x := (xs (6 * q + 1))) (y := (xs (6 * q + 2))) hv
  refine gl_aload_n 1 d_law_871 rfl rfl ?_
  refine gl_sc (q := 6 * q) (i0 := 0) 1 rfl rfl d_law_872 d_law_873 d_law_874 (by decide) d_law_875 d_law_876 (by omega) hL ?_
  refine gl_sc (q := 6 * q) (i0 := 0) 2 rfl rfl d_law_877 d_law_878 d_law_879 (by decide) d_law_880 d_law_881 (by omega) hL ?_
  refine gl_call m_Law_107 d_law_882 hD0 h0 rfl rfl rfl rfl (Nat.le_of_ble_eq_true rfl) (by decide) (by decide) (fun r h1 hp1 => ?_)
  obtain ⟨x, h2, rfl, ⟨fs, h14⟩, hM, hi⟩ := hn0 r h1 hp1
  dsimp only [Option.toList, List.cons_append, List.nil_append]
  refine gl_aload_n 2 d_law_885 rfl rfl ?_
  refine gl_sc (q := 6 * q) (i0 := 0) 1 rfl rfl d_law_886 d_law_887 d_law_888 (by decide) d_law_889 d_law_890 (by omega) hL ?_
  refine gl_sc (q := 6 * q) (i0 := 0) 2 rfl rfl d_law_891 d_law_892 d_law_893 (by decide) d_law_894 d_law_895 (by omega) hL ?_
  refine gl_call m_Law_110 d_law_896 hM h14 rfl rfl rfl rfl (Nat.le_of_ble_eq_true rfl) (by decide) (by decide) (fun r2 h3 hp2 => ?_)
  obtain ⟨rfl, rfl⟩ := hp2
  dsimp only [Option.toList, List.cons_append, List.nil_append]
  exact gl_icmp_eq 1017 d_law_899 (by decide) (fun _ => hn _ hi) (fun c => absurd rfl c)
set_option maxHeartbeats 4000000 in
set_option maxRecDepth 100000 in
theorem lc_21 {l : Launch} {D : va_G} {cA : ClassId} {b Ln : Nat} {xs : Nat → Int32} {q : Nat} {h : List gg_C} (hL : Ln < 2 ^ 31) (hq : 6 * q + 6 ≤ Ln) (hv : iv_h h) (hn : ∀ h2, iv_h h2 → gl_G l D cA b Ln xs 23 6970 1017 [some (.ref 99), some (.ref 0), some (.ref 14), some (.int (nI (6 * q)))] [] h2) : gl_G l D cA b Ln xs 23 6970 904 [some (.ref 99), some (.ref 0), some (.ref 14), some (.int (nI (6 * q)))] [] h := by
  obtain ⟨fs0, h0⟩ := hv.at0
  obtain ⟨Post, hD0, hn0⟩ := op_tell (l := l) (D := D) (cA := cA) (y := (xs (6 * q + 1))) (x := (xs (6 * q + 2))) hv
  refine gl_aload_n 1 d_law_904 rfl rfl ?_
  refine gl_sc (q := 6 * q) (i0 := 0) 1 rfl rfl d_law_905 d_law_906 d_law_907 (by decide) d_law_908 d_law_909 (by omega) hL ?_
  refine gl_sc (q := 6 * q) (i0 := 0) 2 rfl rfl d_law_910 d_law_911 d_law_912 (by decide) d_law_913 d_law_914 (by omega) hL ?_
  refine gl_call m_Law_111 d_law_915 hD0 h0 rfl rfl rfl rfl (Nat.le_of_ble_eq_true rfl) (by decide) (by decide) (fun r h1 hp1 => ?_)
  obtain ⟨x, h2, rfl, ⟨fs, h14⟩, hM, hi⟩ := hn0 r h1 hp1
  dsimp only [Option.toList, List.cons_append, List.nil_append]
  refine gl_aload_n 2 d_law_918 rfl rfl ?_
  refine gl_sc (q := 6 * q) (i0 := 0) 1 rfl rfl d_law_919 d_law_920 d_law_921 (by decide) d_law_922 d_law_923 (by omega) hL ?_
  refine gl_sc (q := 6 * q) (i0 := 0) 2 rfl rfl d_law_924 d_law_925 d_law_926 (by decide) d_law_927 d_law_928 (by omega) hL ?_
  refine gl_call m_Law_114 d_law_929 hM h14 rfl rfl rfl rfl (Nat.le_of_ble_eq_true rfl) (by decide) (by decide) (fun r2 h3 hp2 => ?_)
  obtain ⟨rfl, rfl⟩ := hp2
  dsimp only [Option.toList, List.cons_append, List.nil_append]
  refine gl_lcmp d_law_932 ?_
  exact gl_if_eq 1017 d_law_933 (by decide) (fun _ => hn _ hi) (fun c => absurd (lc_self x) c)
set_option maxHeartbeats 4000000 in
set_option maxRecDepth 100000 in
theorem lc_22 {l : Launch} {D : va_G} {cA : ClassId} {b Ln : Nat} {xs : Nat → Int32} {q : Nat} {h : List gg_C} (hL : Ln < 2 ^ 31) (hq : 6 * q + 6 ≤ Ln) (hv : iv_h h) (hn : ∀ h2, iv_h h2 → gl_G l D cA b Ln xs 23 6970 1017 [some (.ref 99), some (.ref 0), some (.ref 14), some (.int (nI (6 * q)))] [] h2) : gl_G l D cA b Ln xs 23 6970 938 [some (.ref 99), some (.ref 0), some (.ref 14), some (.int (nI (6 * q)))] [] h := by
  obtain ⟨fs0, h0⟩ := hv.at0
  obtain ⟨Post, hD0, hn0⟩ := op_replace (l := l) (D := D) (cA := cA) (v := (xs (6 * q + 1))) (w := (xs (6 * q + 2))) hv
  refine gl_aload_n 1 d_law_938 rfl rfl ?_
  refine gl_sc (q := 6 * q) (i0 := 0) 1 rfl rfl d_law_939 d_law_940 d_law_941 (by decide) d_law_942 d_law_943 (by omega) hL ?_
  refine gl_sc (q := 6 * q) (i0 := 0) 2 rfl rfl d_law_944 d_law_945 d_law_946 (by decide) d_law_947 d_law_948 (by omega) hL ?_
  refine gl_call m_Law_115 d_law_949 hD0 h0 rfl rfl rfl rfl (Nat.le_of_ble_eq_true rfl) (by decide) (by decide) (fun r h1 hp1 => ?_)
  obtain ⟨x, h2, rfl, ⟨fs, h14⟩, hM, hi⟩ := hn0 r h1 hp1
  dsimp only [Option.toList, List.cons_append, List.nil_append]
  refine gl_aload_n 2 d_law_952 rfl rfl ?_
  refine gl_sc (q := 6 * q) (i0 := 0) 1 rfl rfl d_law_953 d_law_954 d_law_955 (by decide) d_law_956 d_law_957 (by omega) hL ?_
  refine gl_sc (q := 6 * q) (i0 := 0) 2 rfl rfl d_law_958 d_law_959 d_law_960 (by decide) d_law_961 d_law_962 (by omega) hL ?_
  refine gl_call m_Law_118 d_law_963 hM h14 rfl rfl rfl rfl (Nat.le_of_ble_eq_true rfl) (by decide) (by decide) (fun r2 h3 hp2 => ?_)
  obtain ⟨rfl, rfl⟩ := hp2
  dsimp only [Option.toList, List.cons_append, List.nil_append]
  exact gl_icmp_eq 1017 d_law_966 (by decide) (fun _ => hn _ hi) (fun c => absurd rfl c)
set_option maxHeartbeats 4000000 in
set_option maxRecDepth 100000 in
theorem lc_23 {l : Launch} {D : va_G} {cA : ClassId} {b Ln : Nat} {xs : Nat → Int32} {q : Nat} {h : List gg_C} (hL : Ln < 2 ^ 31) (hq : 6 * q + 6 ≤ Ln) (hv : iv_h h) (hn : ∀ h2, iv_h h2 → gl_G l D cA b Ln xs 23 6970 1017 [some (.ref 99), some (.ref 0), some (.ref 14), some (.int (nI (6 * q)))] [] h2) : gl_G l D cA b Ln xs 23 6970 971 [some (.ref 99), some (.ref 0), some (.ref 14), some (.int (nI (6 * q)))] [] h := by
  obtain ⟨fs0, h0⟩ := hv.at0
  obtain ⟨Post, hD0, hn0⟩ := op_seek (l := l) (D := D) (cA := cA) (v := (xs (6 * q + 1))) hv
  refine gl_aload_n 1 d_law_971 rfl rfl ?_
  refine gl_sc (q := 6 * q) (i0 := 0) 1 rfl rfl d_law_972 d_law_973 d_law_974 (by decide) d_law_975 d_law_976 (by omega) hL ?_
  refine gl_call m_Law_119 d_law_977 hD0 h0 rfl rfl rfl rfl (Nat.le_of_ble_eq_true rfl) (by decide) (by decide) (fun r h1 hp1 => ?_)
  obtain ⟨x, h2, rfl, ⟨fs, h14⟩, hM, hi⟩ := hn0 r h1 hp1
  dsimp only [Option.toList, List.cons_append, List.nil_append]
  refine gl_aload_n 2 d_law_980 rfl rfl ?_
  refine gl_sc (q := 6 * q) (i0 := 0) 1 rfl rfl d_law_981 d_law_982 d_law_983 (by decide) d_law_984 d_law_985 (by omega) hL ?_
  refine gl_call m_Law_122 d_law_986 hM h14 rfl rfl rfl rfl (Nat.le_of_ble_eq_true rfl) (by decide) (by decide) (fun r2 h3 hp2 => ?_)
  obtain ⟨rfl, rfl⟩ := hp2
  dsimp only [Option.toList, List.cons_append, List.nil_append]
  exact gl_icmp_eq 1017 d_law_989 (by decide) (fun _ => hn _ hi) (fun c => absurd rfl c)
set_option maxHeartbeats 4000000 in
set_option maxRecDepth 100000 in
theorem lc_24 {l : Launch} {D : va_G} {cA : ClassId} {b Ln : Nat} {xs : Nat → Int32} {q : Nat} {h : List gg_C} (hL : Ln < 2 ^ 31) (hq : 6 * q + 6 ≤ Ln) (hv : iv_h h) (hn : ∀ h2, iv_h h2 → gl_G l D cA b Ln xs 23 6970 1017 [some (.ref 99), some (.ref 0), some (.ref 14), some (.int (nI (6 * q)))] [] h2) : gl_G l D cA b Ln xs 23 6970 994 [some (.ref 99), some (.ref 0), some (.ref 14), some (.int (nI (6 * q)))] [] h := by
  obtain ⟨fs0, h0⟩ := hv.at0
  obtain ⟨Post, hD0, hn0⟩ := op_count (l := l) (D := D) (cA := cA) (y := (xs (6 * q + 1))) hv
  refine gl_aload_n 1 d_law_994 rfl rfl ?_
  refine gl_sc (q := 6 * q) (i0 := 0) 1 rfl rfl d_law_995 d_law_996 d_law_997 (by decide) d_law_998 d_law_999 (by omega) hL ?_
  refine gl_call m_Law_123 d_law_1000 hD0 h0 rfl rfl rfl rfl (Nat.le_of_ble_eq_true rfl) (by decide) (by decide) (fun r h1 hp1 => ?_)
  obtain ⟨x, h2, rfl, ⟨fs, h14⟩, hM, hi⟩ := hn0 r h1 hp1
  dsimp only [Option.toList, List.cons_append, List.nil_append]
  refine gl_aload_n 2 d_law_1003 rfl rfl ?_
  refine gl_sc (q := 6 * q) (i0 := 0) 1 rfl rfl d_law_1004 d_law_1005 d_law_1006 (by decide) d_law_1007 d_law_1008 (by omega) hL ?_
  refine gl_call m_Law_126 d_law_1009 hM h14 rfl rfl rfl rfl (Nat.le_of_ble_eq_true rfl) (by decide) (by decide) (fun r2 h3 hp2 => ?_)
  obtain ⟨rfl, rfl⟩ := hp2
  dsimp only [Option.toList, List.cons_append, List.nil_append]
  exact gl_icmp_eq 1017 d_law_1012 (by decide) (fun _ => hn _ hi) (fun c => absurd rfl c)
set_option maxHeartbeats 4000000 in
set_option maxRecDepth 100000 in
theorem law_loop {l : Launch} {D : va_G} {cA : ClassId} {b Ln : Nat} {xs : Nat → Int32} (hL : Ln ≤ 3072) : ∀ (k q : Nat) (h : List gg_C), Ln < 6 * q + k → 6 * q ≤ Ln + 6 → iv_h h → gl_G l D cA b Ln xs 23 6970 18 [some (.ref 99), some (.ref 0), some (.ref 14), some (.int (nI (6 * q)))] [] h := by
  intro k
  induction k with
  | zero =>
    intro q h h1 h2 hv
    refine gl_iload_n 3 d_law_18 rfl rfl ?_
    refine gl_aload_n 0 d_law_19 rfl rfl ?_
    refine gl_slen d_law_20 ?_
    refine gl_bipush (v := nI 6) d_law_21 (by decide) ?_
    refine gl_isub d_law_23 ?_
    refine gl_icmp_gt 1023 d_law_24 (by decide) (fun c => ?_) (fun c => ?_)
    · refine gl_iconst (v := 1) d_law_1023 (by decide) ?_
      exact gl_ret d_law_1024 (by decide) (by decide)
    · exact absurd ((sp_slt (by omega) (by omega) (by omega)).mpr (by omega)) c
  | succ k ih =>
    intro q h h1 h2 hv
    refine gl_iload_n 3 d_law_18 rfl rfl ?_
    refine gl_aload_n 0 d_law_19 rfl rfl ?_
    refine gl_slen d_law_20 ?_
    refine gl_bipush (v := nI 6) d_law_21 (by decide) ?_
    refine gl_isub d_law_23 ?_
    refine gl_icmp_gt 1023 d_law_24 (by decide) (fun c => ?_) (fun c => ?_)
    · refine gl_iconst (v := 1) d_law_1023 (by decide) ?_
      exact gl_ret d_law_1024 (by decide) (by decide)
    · rw [sp_slt (by omega) (by omega) (by omega)] at c
      have hn : ∀ h2, iv_h h2 → gl_G l D cA b Ln xs 23 6970 1017 [some (.ref 99), some (.ref 0), some (.ref 14), some (.int (nI (6 * q)))] [] h2 := fun h2 hv2 => by
        refine gl_iinc 6 d_law_1017 rfl (by decide) (by decide) rfl ?_
        dsimp only [List.set]
        refine gl_goto 18 d_law_1020 (by decide) ?_
        rw [show (6 : Int32) = nI 6 from rfl, nI_add]
        exact ih (q + 1) h2 (by omega) (by omega) hv2
      refine gl_aload_n 0 d_law_27 rfl rfl ?_
      refine gl_iload_n 3 d_law_28 rfl rfl ?_
      refine gl_sld d_law_29 (by omega) (by omega) ?_
      refine gl_bipush (v := 31) d_law_30 (by decide) ?_
      refine gl_iand d_law_32 ?_
      obtain ⟨j, hj, e⟩ := pk_andE (xs (6 * q)) (m := 31) 5 (by decide)
      rw [e]
      rcases (show j = 0 ∨ j = 1 ∨ j = 2 ∨ j = 3 ∨ j = 4 ∨ j = 5 ∨ j = 6 ∨ j = 7 ∨ j = 8 ∨ j = 9 ∨ j = 10 ∨ j = 11 ∨ j = 12 ∨ j = 13 ∨ j = 14 ∨ j = 15 ∨ j = 16 ∨ j = 17 ∨ j = 18 ∨ j = 19 ∨ j = 20 ∨ j = 21 ∨ j = 22 ∨ j = 23 ∨ j = 24 ∨ 25 ≤ j by omega) with rfl | rfl | rfl | rfl | rfl | rfl | rfl | rfl | rfl | rfl | rfl | rfl | rfl | rfl | rfl | rfl | rfl | rfl | rfl | rfl | rfl | rfl | rfl | rfl | rfl | h25
      · exact gl_tableIn (off := 115) 148 d_law_33 (by decide) (by decide) (by decide) (by decide) (lc_0 (by omega) (by omega) hv hn)
      · exact gl_tableIn (off := 178) 211 d_law_33 (by decide) (by decide) (by decide) (by decide) (lc_1 (by omega) (by omega) hv hn)
      · exact gl_tableIn (off := 201) 234 d_law_33 (by decide) (by decide) (by decide) (by decide) (lc_2 (by omega) (by omega) hv hn)
      · exact gl_tableIn (off := 266) 299 d_law_33 (by decide) (by decide) (by decide) (by decide) (lc_3 (by omega) (by omega) hv hn)
      · exact gl_tableIn (off := 305) 338 d_law_33 (by decide) (by decide) (by decide) (by decide) (lc_4 (by omega) (by omega) hv hn)
      · exact gl_tableIn (off := 339) 372 d_law_33 (by decide) (by decide) (by decide) (by decide) (lc_5 (by omega) (by omega) hv hn)
      · exact gl_tableIn (off := 408) 441 d_law_33 (by decide) (by decide) (by decide) (by decide) (lc_6 (by omega) (by omega) hv hn)
      · exact gl_tableIn (off := 431) 464 d_law_33 (by decide) (by decide) (by decide) (by decide) (lc_7 (by omega) (by omega) hv hn)
      · exact gl_tableIn (off := 454) 487 d_law_33 (by decide) (by decide) (by decide) (by decide) (lc_8 (by omega) (by omega) hv hn)
      · exact gl_tableIn (off := 508) 541 d_law_33 (by decide) (by decide) (by decide) (by decide) (lc_9 (by omega) (by omega) hv hn)
      · exact gl_tableIn (off := 522) 555 d_law_33 (by decide) (by decide) (by decide) (by decide) (lc_10 (by omega) (by omega) hv hn)
      · exact gl_tableIn (off := 545) 578 d_law_33 (by decide) (by decide) (by decide) (by decide) (lc_11 (by omega) (by omega) hv hn)
      · exact gl_tableIn (off := 585) 618 d_law_33 (by decide) (by decide) (by decide) (by decide) (lc_12 (by omega) (by omega) hv hn)
      · exact gl_tableIn (off := 608) 641 d_law_33 (by decide) (by decide) (by decide) (by decide) (lc_13 (by omega) (by omega) hv hn)
      · exact gl_tableIn (off := 641) 674 d_law_33 (by decide) (by decide) (by decide) (by decide) (lc_14 (by omega) (by omega) hv hn)
      · exact gl_tableIn (off := 665) 698 d_law_33 (by decide) (by decide) (by decide) (by decide) (lc_15 (by omega) (by omega) hv hn)
      · exact gl_tableIn (off := 699) 732 d_law_33 (by decide) (by decide) (by decide) (by decide) (lc_16 (by omega) (by omega) hv hn)
      · exact gl_tableIn (off := 723) 756 d_law_33 (by decide) (by decide) (by decide) (by decide) (lc_17 (by omega) (by omega) hv hn)
      · exact gl_tableIn (off := 782) 815 d_law_33 (by decide) (by decide) (by decide) (by decide) (lc_18 (by omega) (by omega) hv hn)
      · exact gl_tableIn (off := 805) 838 d_law_33 (by decide) (by decide) (by decide) (by decide) (lc_19 (by omega) (by omega) hv hn)
      · exact gl_tableIn (off := 838) 871 d_law_33 (by decide) (by decide) (by decide) (by decide) (lc_20 (by omega) (by omega) hv hn)
      · exact gl_tableIn (off := 871) 904 d_law_33 (by decide) (by decide) (by decide) (by decide) (lc_21 (by omega) (by omega) hv hn)
      · exact gl_tableIn (off := 905) 938 d_law_33 (by decide) (by decide) (by decide) (by decide) (lc_22 (by omega) (by omega) hv hn)
      · exact gl_tableIn (off := 938) 971 d_law_33 (by decide) (by decide) (by decide) (by decide) (lc_23 (by omega) (by omega) hv hn)
      · exact gl_tableIn (off := 961) 994 d_law_33 (by decide) (by decide) (by decide) (by decide) (lc_24 (by omega) (by omega) hv hn)
      · exact gl_tableOut 1017 d_law_33 (Or.inr (by rw [nI_toInt (by omega)]; omega)) (by decide) (hn _ hv)
theorem iv_start : iv_h [.inr (0, [.ref 1, .ref 3, .ref 5, .ref 7, .ref 9, .long 0]), .inr (1, [.ref 2, .int (nI 0)]), .inl (400, fun _ => 0), .inr (1, [.ref 4, .int (nI 0)]), .inl (536, fun _ => 0), .inr (1, [.ref 6, .int (nI 0)]), .inl (600, fun _ => 0), .inr (1, [.ref 8, .int (nI 0)]), .inl (600, fun _ => 0), .inr (2, [.ref 10, .ref 12]), .inr (1, [.ref 11, .int (nI 0)]), .inl (400, fun _ => 0), .inr (1, [.ref 13, .int (nI 0)]), .inl (400, fun _ => 0), .inr (3, [.ref 15, .ref 16, .ref 17, .ref 18, .ref 19, .ref 20, .ref 21, .ref 22, .int 0, .int 0, .int 0, .int 0, .int 0, .long 0]), .inl (400, fun _ => 0), .inl (600, fun _ => 0), .inl (400, fun _ => 0), .inl (400, fun _ => 0), .inl (400, fun _ => 0), .inl (600, fun _ => 0), .inl (600, fun _ => 0), .inl (600, fun _ => 0)] := by
  refine ⟨0, fun _ => 0, 0, fun _ => 0, 0, fun _ => 0, 0, fun _ => 0, 0, fun _ => 0, 0, fun _ => 0, 0, 0, 0, 0, 0, 0, fun _ => 0, fun _ => 0, fun _ => 0, fun _ => 0, fun _ => 0, fun _ => 0, fun _ => 0, fun _ => 0, 0, rfl, rfl, by decide, ?_, ?_, rfl, by decide, ?_, rfl, by decide, ?_, rfl, by decide, ?_, rfl, rfl, by decide, by decide, fun _ => 0, fun _ => 0, ?_⟩ <;> exact fun k hk => absurd hk (Nat.not_lt_zero k)
set_option maxHeartbeats 4000000 in
set_option maxRecDepth 100000 in
theorem law_begin {l : Launch} {D : va_G} {cA : ClassId} {b Ln : Nat} {xs : Nat → Int32} (hL : Ln ≤ 3072) : gl_G l D cA b Ln xs 0 0 0 [some (.ref 99), none, none, none] [] [] := by
  refine gl_new (ci := 0) (fs := [.null, .null, .null, .null, .null, .long 0]) rfl i_Dsk t_Dsk_ok k_9 k_10 k_1 d_law_0 (by decide +kernel) rfl rfl rfl rfl (by decide) (by decide) (by decide) ?_
  show gl_G _ _ _ _ _ _ 1 6 3 [some (.ref 99), none, none, none] [.ref 0] [.inr (0, [.null, .null, .null, .null, .null, .long 0])]
  refine gl_dup d_law_3 rfl ?_
  refine gl_ctor o_Law_9 d_law_4 c_Dsk_init rfl ⟨(Nat.le_of_ble_eq_true rfl), (Nat.le_of_ble_eq_true rfl)⟩ rfl (Nat.le_of_ble_eq_true rfl) rfl rfl (Nat.le_of_ble_eq_true rfl) rfl (Nat.le_of_ble_eq_true rfl) ⟨(Nat.le_of_ble_eq_true rfl), (Nat.le_of_ble_eq_true rfl)⟩ ?_
  show gl_G _ _ _ _ _ _ 14 2956 7 [some (.ref 99), none, none, none] [.ref 0] [.inr (0, [.ref 1, .ref 3, .ref 5, .ref 7, .ref 9, .long 0]), .inr (1, [.ref 2, .int (nI 0)]), .inl (400, fun _ => 0), .inr (1, [.ref 4, .int (nI 0)]), .inl (536, fun _ => 0), .inr (1, [.ref 6, .int (nI 0)]), .inl (600, fun _ => 0), .inr (1, [.ref 8, .int (nI 0)]), .inl (600, fun _ => 0), .inr (2, [.ref 10, .ref 12]), .inr (1, [.ref 11, .int (nI 0)]), .inl (400, fun _ => 0), .inr (1, [.ref 13, .int (nI 0)]), .inl (400, fun _ => 0)]
  refine gl_astore_n 1 d_law_7 rfl (by decide) rfl ?_
  dsimp only [List.set]
  refine gl_new (ci := 3) (fs := [.null, .null, .null, .null, .null, .null, .null, .null, .int 0, .int 0, .int 0, .int 0, .int 0, .long 0]) rfl i_Mdl t_Mdl_ok k_355 k_356 k_4 d_law_8 (by decide +kernel) rfl rfl rfl rfl (Nat.le_of_ble_eq_true rfl) (by decide) (by decide) ?_
  show gl_G _ _ _ _ _ _ 15 2970 11 [some (.ref 99), some (.ref 0), none, none] [.ref 14] [.inr (0, [.ref 1, .ref 3, .ref 5, .ref 7, .ref 9, .long 0]), .inr (1, [.ref 2, .int (nI 0)]), .inl (400, fun _ => 0), .inr (1, [.ref 4, .int (nI 0)]), .inl (536, fun _ => 0), .inr (1, [.ref 6, .int (nI 0)]), .inl (600, fun _ => 0), .inr (1, [.ref 8, .int (nI 0)]), .inl (600, fun _ => 0), .inr (2, [.ref 10, .ref 12]), .inr (1, [.ref 11, .int (nI 0)]), .inl (400, fun _ => 0), .inr (1, [.ref 13, .int (nI 0)]), .inl (400, fun _ => 0), .inr (3, [.null, .null, .null, .null, .null, .null, .null, .null, .int 0, .int 0, .int 0, .int 0, .int 0, .long 0])]
  refine gl_dup d_law_11 rfl ?_
  refine gl_ctor o_Law_12 d_law_12 c_Mdl_init rfl ⟨(Nat.le_of_ble_eq_true rfl), (Nat.le_of_ble_eq_true rfl)⟩ rfl (Nat.le_of_ble_eq_true rfl) rfl rfl (Nat.le_of_ble_eq_true rfl) rfl (Nat.le_of_ble_eq_true rfl) ⟨(Nat.le_of_ble_eq_true rfl), (Nat.le_of_ble_eq_true rfl)⟩ ?_
  show gl_G _ _ _ _ _ _ 23 6970 15 [some (.ref 99), some (.ref 0), none, none] [.ref 14] [.inr (0, [.ref 1, .ref 3, .ref 5, .ref 7, .ref 9, .long 0]), .inr (1, [.ref 2, .int (nI 0)]), .inl (400, fun _ => 0), .inr (1, [.ref 4, .int (nI 0)]), .inl (536, fun _ => 0), .inr (1, [.ref 6, .int (nI 0)]), .inl (600, fun _ => 0), .inr (1, [.ref 8, .int (nI 0)]), .inl (600, fun _ => 0), .inr (2, [.ref 10, .ref 12]), .inr (1, [.ref 11, .int (nI 0)]), .inl (400, fun _ => 0), .inr (1, [.ref 13, .int (nI 0)]), .inl (400, fun _ => 0), .inr (3, [.ref 15, .ref 16, .ref 17, .ref 18, .ref 19, .ref 20, .ref 21, .ref 22, .int 0, .int 0, .int 0, .int 0, .int 0, .long 0]), .inl (400, fun _ => 0), .inl (600, fun _ => 0), .inl (400, fun _ => 0), .inl (400, fun _ => 0), .inl (400, fun _ => 0), .inl (600, fun _ => 0), .inl (600, fun _ => 0), .inl (600, fun _ => 0)]
  refine gl_astore_n 2 d_law_15 rfl (by decide) rfl ?_
  dsimp only [List.set]
  refine gl_iconst (v := nI (6 * 0)) d_law_16 (by decide) ?_
  refine gl_istore_n 3 d_law_17 rfl (by decide) rfl ?_
  dsimp only [List.set]
  exact law_loop hL (Ln + 1) 0 _ (by omega) (by omega) iv_start
