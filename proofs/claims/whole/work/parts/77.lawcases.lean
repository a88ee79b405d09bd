section YLc
variable {K : yK} {l : Launch} {D : va_G} {cy : Nat → ClassId} {cL : ClassId} {adr : Nat → Nat} {Q : State → Prop} {M : yM} {ret : Option FieldType} {q b L i : Nat} {xs : Nat → Int32} {B S : Nat} {f : Nat → Int64}
set_option maxRecDepth 100000 in
set_option maxHeartbeats 4000000 in
theorem lc_order (hlf : l.stackTraces = false) (C0 : Cx K cL_law RL wsL_law 9 ret D cy) (hX : CX K) (hN : CN K) (hL : CL K D cL) (hB : CB K b L xs) (hl : L ≤ 2048) (hi : i + 4 ≤ L) (h : LInv M B S) (next : ∀ N B S f', LInv N B S → Y K l room_1 D cy adr 9 (100 + i + 4) (4000 + 5 * i + 20) Q N (yEo cL q f') (LL adr q b i) 1157 []) : Y K l room_1 D cy adr 9 (100 + i) (4000 + 5 * i) Q M (yEo cL q f) (LL adr q b i) 128 [] := by
  have E56 : (mo (ordO B (xs (i + 1)) (xs (i + 2)) (xs (i + 3))) (ordM M B (xs (i + 1)) (xs (i + 2)) (xs (i + 3))) M) 56 = enc M 0 B S := e56_order h
  refine y_aload_n C0 3 dL_law_128 rfl rfl ?_
  refine y_arg C0 hB hl 4 0 (n := 1) (by omega) rfl rfl dL_law_129 dL_law_130 dL_law_132 (by decide) dL_law_133 dL_law_134 ?_
  refine y_arg C0 hB hl 4 0 (n := 2) (by omega) rfl rfl dL_law_135 dL_law_136 dL_law_138 (by decide) dL_law_139 dL_law_140 ?_
  refine y_arg C0 hB hl 4 0 (n := 3) (by omega) rfl rfl dL_law_141 dL_law_142 dL_law_144 (by decide) dL_law_145 dL_law_146 ?_
  refine y_aload_n C0 1 dL_law_147 rfl rfl ?_
  refine y_callW (As := [_, _, _, _, _]) (rest := []) (n := 5) C0 hX hN hL (mL_order l hlf D cy cL adr M q f (xs (i + 1)) (xs (i + 2)) (xs (i + 3)) B h.1.hB h.1.o3) gL_law_L_order rfl rfl rfl (by decide +kernel) ⟨by decide, by decide⟩ rfl rfl (Nat.le_of_ble_eq_true rfl) dL_law_148 ⟨show 100 + i + 1 ≤ 634875 by omega, show 4000 + 5 * i + 6 ≤ 7191478 by omega⟩ ?_
  refine y_istore C0 ((5, _) :: LL adr q b i) dL_law_151 (by decide) rfl ?_
  refine y_mem (up_id (j := 56)).symm ?_
  refine y_aload_n C0 3 dL_law_153 rfl rfl ?_
  refine y_arg C0 hB hl 5 1 (n := 1) (by omega) rfl rfl dL_law_154 dL_law_155 dL_law_157 (by decide) dL_law_158 dL_law_159 ?_
  refine y_arg C0 hB hl 5 1 (n := 2) (by omega) rfl rfl dL_law_160 dL_law_161 dL_law_163 (by decide) dL_law_164 dL_law_165 ?_
  refine y_arg C0 hB hl 5 1 (n := 3) (by omega) rfl rfl dL_law_166 dL_law_167 dL_law_169 (by decide) dL_law_170 dL_law_171 ?_
  refine y_callV (As := [_, _, _]) (rest := []) (n := 3) C0 (mX5_order l D cy adr (mo (ordO B (xs (i + 1)) (xs (i + 2)) (xs (i + 3))) (ordM M B (xs (i + 1)) (xs (i + 2)) (xs (i + 3))) M) ((mo (ordO B (xs (i + 1)) (xs (i + 2)) (xs (i + 3))) (ordM M B (xs (i + 1)) (xs (i + 2)) (xs (i + 3))) M) 56) (xs (i + 1)) (xs (i + 2)) (xs (i + 3)) B h.1.hB (by rw [E56]; exact h.1.o3)) 5 rfl (by decide) ykd_55 gL_law_X5_order rfl rfl rfl (by decide +kernel) ⟨by decide, by decide⟩ rfl rfl (Nat.le_of_ble_eq_true rfl) dL_law_172 ⟨show 100 + i + 1 + 0 ≤ 634875 by omega, show 4000 + 5 * i + 6 + 0 ≤ 7191478 by omega⟩ ?_
  refine y_istore C0 ((6, _) :: (5, _) :: LL adr q b i) dL_law_175 (by decide) rfl ?_
  refine y_widen (k := 100 + i + 4) (n := 4000 + 5 * i + 20) (by omega) (by omega) ?_
  exact law_tail C0 hL (by omega) (by omega) (order_step h) 177 dL_law_177 dL_law_178 dL_law_181 dL_law_183 dL_law_188 dL_law_190 dL_law_193 dL_law_194 dL_law_195 dL_law_196 dL_law_198 dL_law_199 dL_law_200 dL_law_205 (by decide) next
set_option maxRecDepth 100000 in
set_option maxHeartbeats 4000000 in
theorem lc_unpick (hlf : l.stackTraces = false) (C0 : Cx K cL_law RL wsL_law 9 ret D cy) (hX : CX K) (hN : CN K) (hL : CL K D cL) (hB : CB K b L xs) (hl : L ≤ 2048) (hi : i + 4 ≤ L) (h : LInv M B S) (next : ∀ N B S f', LInv N B S → Y K l room_1 D cy adr 9 (100 + i + 4) (4000 + 5 * i + 20) Q N (yEo cL q f') (LL adr q b i) 1157 []) : Y K l room_1 D cy adr 9 (100 + i) (4000 + 5 * i) Q M (yEo cL q f) (LL adr q b i) 208 [] := by
  have E56 : (mo (unpO M (xs (i + 1))) (unpM M (bkI (xs (i + 1)))) M) 56 = enc M 0 B S := e56_unpick h
  refine y_aload_n C0 3 dL_law_208 rfl rfl ?_
  refine y_arg C0 hB hl 4 0 (n := 1) (by omega) rfl rfl dL_law_209 dL_law_210 dL_law_212 (by decide) dL_law_213 dL_law_214 ?_
  refine y_aload_n C0 1 dL_law_215 rfl rfl ?_
  refine y_callW (As := [_, _, _]) (rest := []) (n := 3) C0 hX hN hL (mL_unpick l hlf D cy cL adr M q f (xs (i + 1)) ) gL_law_L_unpick rfl rfl rfl (by decide +kernel) ⟨by decide, by decide⟩ rfl rfl (Nat.le_of_ble_eq_true rfl) dL_law_216 ⟨show 100 + i + 2 ≤ 634875 by omega, show 4000 + 5 * i + 12 ≤ 7191478 by omega⟩ ?_
  refine y_istore C0 ((5, _) :: LL adr q b i) dL_law_219 (by decide) rfl ?_
  refine y_mem (up_id (j := 56)).symm ?_
  refine y_aload_n C0 3 dL_law_221 rfl rfl ?_
  refine y_arg C0 hB hl 5 1 (n := 1) (by omega) rfl rfl dL_law_222 dL_law_223 dL_law_225 (by decide) dL_law_226 dL_law_227 ?_
  refine y_callV (As := [_]) (rest := []) (n := 1) C0 (mX5_unpick l D cy adr (mo (unpO M (xs (i + 1))) (unpM M (bkI (xs (i + 1)))) M) ((mo (unpO M (xs (i + 1))) (unpM M (bkI (xs (i + 1)))) M) 56) (xs (i + 1)) B h.1.hB (by rw [E56]; exact h.1.o3) (hfr_unpick h E56)) 5 rfl (by decide) ykd_55 gL_law_X5_unpick rfl rfl rfl (by decide +kernel) ⟨by decide, by decide⟩ rfl rfl (Nat.le_of_ble_eq_true rfl) dL_law_228 ⟨show 100 + i + 2 + 1 ≤ 634875 by omega, show 4000 + 5 * i + 12 + 5 ≤ 7191478 by omega⟩ ?_
  refine y_istore C0 ((6, _) :: (5, _) :: LL adr q b i) dL_law_231 (by decide) rfl ?_
  refine y_widen (k := 100 + i + 4) (n := 4000 + 5 * i + 20) (by omega) (by omega) ?_
  exact law_tail C0 hL (by omega) (by omega) (unpick_step h) 233 dL_law_233 dL_law_234 dL_law_237 dL_law_239 dL_law_244 dL_law_246 dL_law_249 dL_law_250 dL_law_251 dL_law_252 dL_law_254 dL_law_255 dL_law_256 dL_law_261 (by decide) next
set_option maxRecDepth 100000 in
set_option maxHeartbeats 4000000 in
theorem lc_sell (hlf : l.stackTraces = false) (C0 : Cx K cL_law RL wsL_law 9 ret D cy) (hX : CX K) (hN : CN K) (hL : CL K D cL) (hB : CB K b L xs) (hl : L ≤ 2048) (hi : i + 4 ≤ L) (h : LInv M B S) (next : ∀ N B S f', LInv N B S → Y K l room_1 D cy adr 9 (100 + i + 4) (4000 + 5 * i + 20) Q N (yEo cL q f') (LL adr q b i) 1157 []) : Y K l room_1 D cy adr 9 (100 + i) (4000 + 5 * i) Q M (yEo cL q f) (LL adr q b i) 264 [] := by
  have E56 : (mo (selO M (xs (i + 1))) (selM M (bkI (xs (i + 1)))) M) 56 = enc M 0 B S := e56_sell h
  refine y_aload_n C0 3 dL_law_264 rfl rfl ?_
  refine y_arg C0 hB hl 4 0 (n := 1) (by omega) rfl rfl dL_law_265 dL_law_266 dL_law_268 (by decide) dL_law_269 dL_law_270 ?_
  refine y_aload_n C0 1 dL_law_271 rfl rfl ?_
  refine y_callW (As := [_, _, _]) (rest := []) (n := 3) C0 hX hN hL (mL_sell l hlf D cy cL adr M q f (xs (i + 1)) ) gL_law_L_sell rfl rfl rfl (by decide +kernel) ⟨by decide, by decide⟩ rfl rfl (Nat.le_of_ble_eq_true rfl) dL_law_272 ⟨show 100 + i + 2 ≤ 634875 by omega, show 4000 + 5 * i + 12 ≤ 7191478 by omega⟩ ?_
  refine y_istore C0 ((5, _) :: LL adr q b i) dL_law_275 (by decide) rfl ?_
  refine y_mem (up_id (j := 56)).symm ?_
  refine y_aload_n C0 3 dL_law_277 rfl rfl ?_
  refine y_arg C0 hB hl 5 1 (n := 1) (by omega) rfl rfl dL_law_278 dL_law_279 dL_law_281 (by decide) dL_law_282 dL_law_283 ?_
  refine y_callV (As := [_]) (rest := []) (n := 1) C0 (mX5_sell l D cy adr (mo (selO M (xs (i + 1))) (selM M (bkI (xs (i + 1)))) M) ((mo (selO M (xs (i + 1))) (selM M (bkI (xs (i + 1)))) M) 56) (xs (i + 1)) B h.1.hB (by rw [E56]; exact h.1.o3)) 5 rfl (by decide) ykd_55 gL_law_X5_sell rfl rfl rfl (by decide +kernel) ⟨by decide, by decide⟩ rfl rfl (Nat.le_of_ble_eq_true rfl) dL_law_284 ⟨show 100 + i + 2 + 0 ≤ 634875 by omega, show 4000 + 5 * i + 12 + 0 ≤ 7191478 by omega⟩ ?_
  refine y_istore C0 ((6, _) :: (5, _) :: LL adr q b i) dL_law_287 (by decide) rfl ?_
  refine y_widen (k := 100 + i + 4) (n := 4000 + 5 * i + 20) (by omega) (by omega) ?_
  exact law_tail C0 hL (by omega) (by omega) (sell_step h) 289 dL_law_289 dL_law_290 dL_law_293 dL_law_295 dL_law_300 dL_law_302 dL_law_305 dL_law_306 dL_law_307 dL_law_308 dL_law_310 dL_law_311 dL_law_312 dL_law_317 (by decide) next
set_option maxRecDepth 100000 in
set_option maxHeartbeats 4000000 in
theorem lc_told (hlf : l.stackTraces = false) (C0 : Cx K cL_law RL wsL_law 9 ret D cy) (hX : CX K) (hN : CN K) (hL : CL K D cL) (hB : CB K b L xs) (hl : L ≤ 2048) (hi : i + 4 ≤ L) (h : LInv M B S) (next : ∀ N B S f', LInv N B S → Y K l room_1 D cy adr 9 (100 + i + 4) (4000 + 5 * i + 20) Q N (yEo cL q f') (LL adr q b i) 1157 []) : Y K l room_1 D cy adr 9 (100 + i) (4000 + 5 * i) Q M (yEo cL q f) (LL adr q b i) 320 [] := by
  have E56 : (M) 56 = enc M 0 B S := h.2.1
  refine y_aload_n C0 3 dL_law_320 rfl rfl ?_
  refine y_arg C0 hB hl 4 0 (n := 1) (by omega) rfl rfl dL_law_321 dL_law_322 dL_law_324 (by decide) dL_law_325 dL_law_326 ?_
  refine y_arg C0 hB hl 4 0 (n := 2) (by omega) rfl rfl dL_law_327 dL_law_328 dL_law_330 (by decide) dL_law_331 dL_law_332 ?_
  refine y_aload_n C0 1 dL_law_333 rfl rfl ?_
  refine y_callW (As := [_, _, _, _]) (rest := []) (n := 4) C0 hX hN hL (mL_told l hlf D cy cL adr M q f (xs (i + 1)) (xs (i + 2)) ) gL_law_L_told rfl rfl rfl (by decide +kernel) ⟨by decide, by decide⟩ rfl rfl (Nat.le_of_ble_eq_true rfl) dL_law_334 ⟨show 100 + i + 2 ≤ 634875 by omega, show 4000 + 5 * i + 12 ≤ 7191478 by omega⟩ ?_
  refine y_istore C0 ((5, _) :: LL adr q b i) dL_law_337 (by decide) rfl ?_
  refine y_mem (up_id (j := 56)).symm ?_
  refine y_aload_n C0 3 dL_law_339 rfl rfl ?_
  refine y_arg C0 hB hl 5 1 (n := 1) (by omega) rfl rfl dL_law_340 dL_law_341 dL_law_343 (by decide) dL_law_344 dL_law_345 ?_
  refine y_arg C0 hB hl 5 1 (n := 2) (by omega) rfl rfl dL_law_346 dL_law_347 dL_law_349 (by decide) dL_law_350 dL_law_351 ?_
  refine y_callV (As := [_, _]) (rest := []) (n := 2) C0 (mX5_told l D cy adr (M) ((M) 56) (xs (i + 1)) (xs (i + 2)) B h.1.hB (by rw [E56]; exact h.1.o3)) 5 rfl (by decide) ykd_55 gL_law_X5_told rfl rfl rfl (by decide +kernel) ⟨by decide, by decide⟩ rfl rfl (Nat.le_of_ble_eq_true rfl) dL_law_352 ⟨show 100 + i + 2 + 0 ≤ 634875 by omega, show 4000 + 5 * i + 12 + 0 ≤ 7191478 by omega⟩ ?_
  refine y_istore C0 ((6, _) :: (5, _) :: LL adr q b i) dL_law_355 (by decide) rfl ?_
  refine y_widen (k := 100 + i + 4) (n := 4000 + 5 * i + 20) (by omega) (by omega) ?_
  exact law_tail C0 hL (by omega) (by omega) (told_step h) 357 dL_law_357 dL_law_358 dL_law_361 dL_law_363 dL_law_368 dL_law_370 dL_law_373 dL_law_374 dL_law_375 dL_law_376 dL_law_378 dL_law_379 dL_law_380 dL_law_385 (by decide) next
set_option maxRecDepth 100000 in
set_option maxHeartbeats 4000000 in
theorem lc_hire (hlf : l.stackTraces = false) (C0 : Cx K cL_law RL wsL_law 9 ret D cy) (hX : CX K) (hN : CN K) (hL : CL K D cL) (hB : CB K b L xs) (hl : L ≤ 2048) (hi : i + 4 ≤ L) (h : LInv M B S) (next : ∀ N B S f', LInv N B S → Y K l room_1 D cy adr 9 (100 + i + 4) (4000 + 5 * i + 20) Q N (yEo cL q f') (LL adr q b i) 1157 []) : Y K l room_1 D cy adr 9 (100 + i) (4000 + 5 * i) Q M (yEo cL q f) (LL adr q b i) 388 [] := by
  have E56 : (mo (hirO S (xs (i + 1))) (hirM M S (xs (i + 1))) M) 56 = enc M 0 B S := e56_hire h
  refine y_aload_n C0 3 dL_law_388 rfl rfl ?_
  refine y_arg C0 hB hl 4 0 (n := 1) (by omega) rfl rfl dL_law_389 dL_law_390 dL_law_392 (by decide) dL_law_393 dL_law_394 ?_
  refine y_aload_n C0 1 dL_law_395 rfl rfl ?_
  refine y_callW (As := [_, _, _]) (rest := []) (n := 3) C0 hX hN hL (mL_hire l hlf D cy cL adr M q f (xs (i + 1)) S h.1.hS h.1.o4) gL_law_L_hire rfl rfl rfl (by decide +kernel) ⟨by decide, by decide⟩ rfl rfl (Nat.le_of_ble_eq_true rfl) dL_law_396 ⟨show 100 + i + 1 ≤ 634875 by omega, show 4000 + 5 * i + 6 ≤ 7191478 by omega⟩ ?_
  refine y_istore C0 ((5, _) :: LL adr q b i) dL_law_399 (by decide) rfl ?_
  refine y_mem (up_id (j := 56)).symm ?_
  refine y_aload_n C0 3 dL_law_401 rfl rfl ?_
  refine y_arg C0 hB hl 5 1 (n := 1) (by omega) rfl rfl dL_law_402 dL_law_403 dL_law_405 (by decide) dL_law_406 dL_law_407 ?_
  refine y_callV (As := [_]) (rest := []) (n := 1) C0 (mX5_hire l D cy adr (mo (hirO S (xs (i + 1))) (hirM M S (xs (i + 1))) M) ((mo (hirO S (xs (i + 1))) (hirM M S (xs (i + 1))) M) 56) (xs (i + 1)) S h.1.hS (by rw [E56]; exact h.1.o4)) 5 rfl (by decide) ykd_55 gL_law_X5_hire rfl rfl rfl (by decide +kernel) ⟨by decide, by decide⟩ rfl rfl (Nat.le_of_ble_eq_true rfl) dL_law_408 ⟨show 100 + i + 1 + 0 ≤ 634875 by omega, show 4000 + 5 * i + 6 + 0 ≤ 7191478 by omega⟩ ?_
  refine y_istore C0 ((6, _) :: (5, _) :: LL adr q b i) dL_law_411 (by decide) rfl ?_
  refine y_widen (k := 100 + i + 4) (n := 4000 + 5 * i + 20) (by omega) (by omega) ?_
  exact law_tail C0 hL (by omega) (by omega) (hire_step h) 413 dL_law_413 dL_law_414 dL_law_417 dL_law_419 dL_law_424 dL_law_426 dL_law_429 dL_law_430 dL_law_431 dL_law_432 dL_law_434 dL_law_435 dL_law_436 dL_law_441 (by decide) next
set_option maxRecDepth 100000 in
set_option maxHeartbeats 4000000 in
theorem lc_seat (hlf : l.stackTraces = false) (C0 : Cx K cL_law RL wsL_law 9 ret D cy) (hX : CX K) (hN : CN K) (hL : CL K D cL) (hB : CB K b L xs) (hl : L ≤ 2048) (hi : i + 4 ≤ L) (h : LInv M B S) (next : ∀ N B S f', LInv N B S → Y K l room_1 D cy adr 9 (100 + i + 4) (4000 + 5 * i + 20) Q N (yEo cL q f') (LL adr q b i) 1157 []) : Y K l room_1 D cy adr 9 (100 + i) (4000 + 5 * i) Q M (yEo cL q f) (LL adr q b i) 444 [] := by
  have E56 : (mo (seaO M (xs (i + 1)) (xs (i + 2))) (yst M (swI (xs (i + 1))) 2 (xs (i + 2))) M) 56 = enc M 0 B S := e56_seat h
  refine y_aload_n C0 3 dL_law_444 rfl rfl ?_
  refine y_arg C0 hB hl 4 0 (n := 1) (by omega) rfl rfl dL_law_445 dL_law_446 dL_law_448 (by decide) dL_law_449 dL_law_450 ?_
  refine y_arg C0 hB hl 4 0 (n := 2) (by omega) rfl rfl dL_law_451 dL_law_452 dL_law_454 (by decide) dL_law_455 dL_law_456 ?_
  refine y_aload_n C0 1 dL_law_457 rfl rfl ?_
  refine y_callW (As := [_, _, _, _]) (rest := []) (n := 4) C0 hX hN hL (mL_seat l hlf D cy cL adr M q f (xs (i + 1)) (xs (i + 2)) ) gL_law_L_seat rfl rfl rfl (by decide +kernel) ⟨by decide, by decide⟩ rfl rfl (Nat.le_of_ble_eq_true rfl) dL_law_458 ⟨show 100 + i + 2 ≤ 634875 by omega, show 4000 + 5 * i + 12 ≤ 7191478 by omega⟩ ?_
  refine y_istore C0 ((5, _) :: LL adr q b i) dL_law_461 (by decide) rfl ?_
  refine y_mem (up_id (j := 56)).symm ?_
  refine y_aload_n C0 3 dL_law_463 rfl rfl ?_
  refine y_arg C0 hB hl 5 1 (n := 1) (by omega) rfl rfl dL_law_464 dL_law_465 dL_law_467 (by decide) dL_law_468 dL_law_469 ?_
  refine y_arg C0 hB hl 5 1 (n := 2) (by omega) rfl rfl dL_law_470 dL_law_471 dL_law_473 (by decide) dL_law_474 dL_law_475 ?_
  refine y_callV (As := [_, _]) (rest := []) (n := 2) C0 (mX5_seat l D cy adr (mo (seaO M (xs (i + 1)) (xs (i + 2))) (yst M (swI (xs (i + 1))) 2 (xs (i + 2))) M) ((mo (seaO M (xs (i + 1)) (xs (i + 2))) (yst M (swI (xs (i + 1))) 2 (xs (i + 2))) M) 56) (xs (i + 1)) (xs (i + 2)) S h.1.hS (by rw [E56]; exact h.1.o4)) 5 rfl (by decide) ykd_55 gL_law_X5_seat rfl rfl rfl (by decide +kernel) ⟨by decide, by decide⟩ rfl rfl (Nat.le_of_ble_eq_true rfl) dL_law_476 ⟨show 100 + i + 2 + 0 ≤ 634875 by omega, show 4000 + 5 * i + 12 + 0 ≤ 7191478 by omega⟩ ?_
  refine y_istore C0 ((6, _) :: (5, _) :: LL adr q b i) dL_law_479 (by decide) rfl ?_
  refine y_widen (k := 100 + i + 4) (n := 4000 + 5 * i + 20) (by omega) (by omega) ?_
  exact law_tail C0 hL (by omega) (by omega) (seat_step h) 481 dL_law_481 dL_law_482 dL_law_485 dL_law_487 dL_law_492 dL_law_494 dL_law_497 dL_law_498 dL_law_499 dL_law_500 dL_law_502 dL_law_503 dL_law_504 dL_law_509 (by decide) next
set_option maxRecDepth 100000 in
set_option maxHeartbeats 4000000 in
theorem lc_sewer (hlf : l.stackTraces = false) (C0 : Cx K cL_law RL wsL_law 9 ret D cy) (hX : CX K) (hN : CN K) (hL : CL K D cL) (hB : CB K b L xs) (hl : L ≤ 2048) (hi : i + 4 ≤ L) (h : LInv M B S) (next : ∀ N B S f', LInv N B S → Y K l room_1 D cy adr 9 (100 + i + 4) (4000 + 5 * i + 20) Q N (yEo cL q f') (LL adr q b i) 1157 []) : Y K l room_1 D cy adr 9 (100 + i) (4000 + 5 * i) Q M (yEo cL q f) (LL adr q b i) 512 [] := by
  have E56 : (M) 56 = enc M 0 B S := h.2.1
  refine y_aload_n C0 3 dL_law_512 rfl rfl ?_
  refine y_arg C0 hB hl 4 0 (n := 1) (by omega) rfl rfl dL_law_513 dL_law_514 dL_law_516 (by decide) dL_law_517 dL_law_518 ?_
  refine y_arg C0 hB hl 4 0 (n := 2) (by omega) rfl rfl dL_law_519 dL_law_520 dL_law_522 (by decide) dL_law_523 dL_law_524 ?_
  refine y_aload_n C0 1 dL_law_525 rfl rfl ?_
  refine y_callW (As := [_, _, _, _]) (rest := []) (n := 4) C0 hX hN hL (mL_sewer l hlf D cy cL adr M q f (xs (i + 1)) (xs (i + 2)) ) gL_law_L_sewer rfl rfl rfl (by decide +kernel) ⟨by decide, by decide⟩ rfl rfl (Nat.le_of_ble_eq_true rfl) dL_law_526 ⟨show 100 + i + 2 ≤ 634875 by omega, show 4000 + 5 * i + 12 ≤ 7191478 by omega⟩ ?_
  refine y_istore C0 ((5, _) :: LL adr q b i) dL_law_529 (by decide) rfl ?_
  refine y_mem (up_id (j := 56)).symm ?_
  refine y_aload_n C0 3 dL_law_531 rfl rfl ?_
  refine y_arg C0 hB hl 5 1 (n := 1) (by omega) rfl rfl dL_law_532 dL_law_533 dL_law_535 (by decide) dL_law_536 dL_law_537 ?_
  refine y_arg C0 hB hl 5 1 (n := 2) (by omega) rfl rfl dL_law_538 dL_law_539 dL_law_541 (by decide) dL_law_542 dL_law_543 ?_
  refine y_callV (As := [_, _]) (rest := []) (n := 2) C0 (mX5_sewer l D cy adr (M) ((M) 56) (xs (i + 1)) (xs (i + 2)) S h.1.hS (by rw [E56]; exact h.1.o4)) 5 rfl (by decide) ykd_55 gL_law_X5_sewer rfl rfl rfl (by decide +kernel) ⟨by decide, by decide⟩ rfl rfl (Nat.le_of_ble_eq_true rfl) dL_law_544 ⟨show 100 + i + 2 + 0 ≤ 634875 by omega, show 4000 + 5 * i + 12 + 0 ≤ 7191478 by omega⟩ ?_
  refine y_istore C0 ((6, _) :: (5, _) :: LL adr q b i) dL_law_547 (by decide) rfl ?_
  refine y_widen (k := 100 + i + 4) (n := 4000 + 5 * i + 20) (by omega) (by omega) ?_
  exact law_tail C0 hL (by omega) (by omega) (sewer_step h) 549 dL_law_549 dL_law_550 dL_law_553 dL_law_555 dL_law_560 dL_law_562 dL_law_565 dL_law_566 dL_law_567 dL_law_568 dL_law_570 dL_law_571 dL_law_572 dL_law_577 (by decide) next
set_option maxRecDepth 100000 in
set_option maxHeartbeats 4000000 in
theorem lc_string (hlf : l.stackTraces = false) (C0 : Cx K cL_law RL wsL_law 9 ret D cy) (hX : CX K) (hN : CN K) (hL : CL K D cL) (hB : CB K b L xs) (hl : L ≤ 2048) (hi : i + 4 ≤ L) (h : LInv M B S) (next : ∀ N B S f', LInv N B S → Y K l room_1 D cy adr 9 (100 + i + 4) (4000 + 5 * i + 20) Q N (yEo cL q f') (LL adr q b i) 1157 []) : Y K l room_1 D cy adr 9 (100 + i) (4000 + 5 * i) Q M (yEo cL q f) (LL adr q b i) 580 [] := by
  have E56 : (mo (strO M (xs (i + 1)) (xs (i + 2))) (yst M (frI (xs (i + 1))) 1 (xs (i + 2))) M) 56 = enc M 0 B S := e56_string h
  refine y_aload_n C0 3 dL_law_580 rfl rfl ?_
  refine y_arg C0 hB hl 4 0 (n := 1) (by omega) rfl rfl dL_law_581 dL_law_582 dL_law_584 (by decide) dL_law_585 dL_law_586 ?_
  refine y_arg C0 hB hl 4 0 (n := 2) (by omega) rfl rfl dL_law_587 dL_law_588 dL_law_590 (by decide) dL_law_591 dL_law_592 ?_
  refine y_aload_n C0 1 dL_law_593 rfl rfl ?_
  refine y_callW (As := [_, _, _, _]) (rest := []) (n := 4) C0 hX hN hL (mL_string l hlf D cy cL adr M q f (xs (i + 1)) (xs (i + 2)) ) gL_law_L_string rfl rfl rfl (by decide +kernel) ⟨by decide, by decide⟩ rfl rfl (Nat.le_of_ble_eq_true rfl) dL_law_594 ⟨show 100 + i + 2 ≤ 634875 by omega, show 4000 + 5 * i + 12 ≤ 7191478 by omega⟩ ?_
  refine y_istore C0 ((5, _) :: LL adr q b i) dL_law_597 (by decide) rfl ?_
  refine y_mem (up_id (j := 56)).symm ?_
  refine y_aload_n C0 3 dL_law_599 rfl rfl ?_
  refine y_arg C0 hB hl 5 1 (n := 1) (by omega) rfl rfl dL_law_600 dL_law_601 dL_law_603 (by decide) dL_law_604 dL_law_605 ?_
  refine y_arg C0 hB hl 5 1 (n := 2) (by omega) rfl rfl dL_law_606 dL_law_607 dL_law_609 (by decide) dL_law_610 dL_law_611 ?_
  refine y_callV (As := [_, _]) (rest := []) (n := 2) C0 (mX5_string l D cy adr (mo (strO M (xs (i + 1)) (xs (i + 2))) (yst M (frI (xs (i + 1))) 1 (xs (i + 2))) M) ((mo (strO M (xs (i + 1)) (xs (i + 2))) (yst M (frI (xs (i + 1))) 1 (xs (i + 2))) M) 56) (xs (i + 1)) (xs (i + 2)) ) 5 rfl (by decide) ykd_55 gL_law_X5_string rfl rfl rfl (by decide +kernel) ⟨by decide, by decide⟩ rfl rfl (Nat.le_of_ble_eq_true rfl) dL_law_612 ⟨show 100 + i + 2 + 0 ≤ 634875 by omega, show 4000 + 5 * i + 12 + 0 ≤ 7191478 by omega⟩ ?_
  refine y_istore C0 ((6, _) :: (5, _) :: LL adr q b i) dL_law_615 (by decide) rfl ?_
  refine y_widen (k := 100 + i + 4) (n := 4000 + 5 * i + 20) (by omega) (by omega) ?_
  exact law_tail C0 hL (by omega) (by omega) (string_step h) 617 dL_law_617 dL_law_618 dL_law_621 dL_law_623 dL_law_628 dL_law_630 dL_law_633 dL_law_634 dL_law_635 dL_law_636 dL_law_638 dL_law_639 dL_law_640 dL_law_645 (by decide) next
set_option maxRecDepth 100000 in
set_option maxHeartbeats 4000000 in
theorem lc_frame (hlf : l.stackTraces = false) (C0 : Cx K cL_law RL wsL_law 9 ret D cy) (hX : CX K) (hN : CN K) (hL : CL K D cL) (hB : CB K b L xs) (hl : L ≤ 2048) (hi : i + 4 ≤ L) (h : LInv M B S) (next : ∀ N B S f', LInv N B S → Y K l room_1 D cy adr 9 (100 + i + 4) (4000 + 5 * i + 20) Q N (yEo cL q f') (LL adr q b i) 1157 []) : Y K l room_1 D cy adr 9 (100 + i) (4000 + 5 * i) Q M (yEo cL q f) (LL adr q b i) 648 [] := by
  have E56 : (M) 56 = enc M 0 B S := h.2.1
  refine y_aload_n C0 3 dL_law_648 rfl rfl ?_
  refine y_arg C0 hB hl 4 0 (n := 1) (by omega) rfl rfl dL_law_649 dL_law_650 dL_law_652 (by decide) dL_law_653 dL_law_654 ?_
  refine y_arg C0 hB hl 4 0 (n := 2) (by omega) rfl rfl dL_law_655 dL_law_656 dL_law_658 (by decide) dL_law_659 dL_law_660 ?_
  refine y_aload_n C0 1 dL_law_661 rfl rfl ?_
  refine y_callW (As := [_, _, _, _]) (rest := []) (n := 4) C0 hX hN hL (mL_frame l hlf D cy cL adr M q f (xs (i + 1)) (xs (i + 2)) ) gL_law_L_frame rfl rfl rfl (by decide +kernel) ⟨by decide, by decide⟩ rfl rfl (Nat.le_of_ble_eq_true rfl) dL_law_662 ⟨show 100 + i + 2 ≤ 634875 by omega, show 4000 + 5 * i + 12 ≤ 7191478 by omega⟩ ?_
  refine y_istore C0 ((5, _) :: LL adr q b i) dL_law_665 (by decide) rfl ?_
  refine y_mem (up_id (j := 56)).symm ?_
  refine y_aload_n C0 3 dL_law_667 rfl rfl ?_
  refine y_arg C0 hB hl 5 1 (n := 1) (by omega) rfl rfl dL_law_668 dL_law_669 dL_law_671 (by decide) dL_law_672 dL_law_673 ?_
  refine y_arg C0 hB hl 5 1 (n := 2) (by omega) rfl rfl dL_law_674 dL_law_675 dL_law_677 (by decide) dL_law_678 dL_law_679 ?_
  refine y_callV (As := [_, _]) (rest := []) (n := 2) C0 (mX5_frame l D cy adr (M) ((M) 56) (xs (i + 1)) (xs (i + 2)) B S (by rw [E56]; exact mOK_enc h.1)) 5 rfl (by decide) ykd_55 gL_law_X5_frame rfl rfl rfl (by decide +kernel) ⟨by decide, by decide⟩ rfl rfl (Nat.le_of_ble_eq_true rfl) dL_law_680 ⟨show 100 + i + 2 + 0 ≤ 634875 by omega, show 4000 + 5 * i + 12 + 0 ≤ 7191478 by omega⟩ ?_
  refine y_istore C0 ((6, _) :: (5, _) :: LL adr q b i) dL_law_683 (by decide) rfl ?_
  refine y_widen (k := 100 + i + 4) (n := 4000 + 5 * i + 20) (by omega) (by omega) ?_
  exact law_tail C0 hL (by omega) (by omega) (frame_step h) 685 dL_law_685 dL_law_686 dL_law_689 dL_law_691 dL_law_696 dL_law_698 dL_law_701 dL_law_702 dL_law_703 dL_law_704 dL_law_706 dL_law_707 dL_law_708 dL_law_713 (by decide) next
set_option maxRecDepth 100000 in
set_option maxHeartbeats 4000000 in
theorem lc_buy (hlf : l.stackTraces = false) (C0 : Cx K cL_law RL wsL_law 9 ret D cy) (hX : CX K) (hN : CN K) (hL : CL K D cL) (hB : CB K b L xs) (hl : L ≤ 2048) (hi : i + 4 ≤ L) (h : LInv M B S) (next : ∀ N B S f', LInv N B S → Y K l room_1 D cy adr 9 (100 + i + 4) (4000 + 5 * i + 20) Q N (yEo cL q f') (LL adr q b i) 1157 []) : Y K l room_1 D cy adr 9 (100 + i) (4000 + 5 * i) Q M (yEo cL q f) (LL adr q b i) 716 [] := by
  have E56 : (mo (buyO M (xs (i + 1)) (xs (i + 2))) (wStore (buyA M (xs (i + 1)) (xs (i + 2))) 0 (xs (i + 1)) (xs (i + 2))) M) 56 = enc M 0 B S := e56_buy h
  refine y_aload_n C0 3 dL_law_716 rfl rfl ?_
  refine y_arg C0 hB hl 4 0 (n := 1) (by omega) rfl rfl dL_law_717 dL_law_718 dL_law_720 (by decide) dL_law_721 dL_law_722 ?_
  refine y_arg C0 hB hl 4 0 (n := 2) (by omega) rfl rfl dL_law_723 dL_law_724 dL_law_726 (by decide) dL_law_727 dL_law_728 ?_
  refine y_aload_n C0 1 dL_law_729 rfl rfl ?_
  refine y_callW (As := [_, _, _, _]) (rest := []) (n := 4) C0 hX hN hL (mL_buy l hlf D cy cL adr M q f (xs (i + 1)) (xs (i + 2)) ) gL_law_L_buy rfl rfl rfl (by decide +kernel) ⟨by decide, by decide⟩ rfl rfl (Nat.le_of_ble_eq_true rfl) dL_law_730 ⟨show 100 + i + 1 ≤ 634875 by omega, show 4000 + 5 * i + 6 ≤ 7191478 by omega⟩ ?_
  refine y_istore C0 ((5, _) :: LL adr q b i) dL_law_733 (by decide) rfl ?_
  refine y_mem (up_id (j := 56)).symm ?_
  refine y_aload_n C0 3 dL_law_735 rfl rfl ?_
  refine y_arg C0 hB hl 5 1 (n := 1) (by omega) rfl rfl dL_law_736 dL_law_737 dL_law_739 (by decide) dL_law_740 dL_law_741 ?_
  refine y_arg C0 hB hl 5 1 (n := 2) (by omega) rfl rfl dL_law_742 dL_law_743 dL_law_745 (by decide) dL_law_746 dL_law_747 ?_
  refine y_callV (As := [_, _]) (rest := []) (n := 2) C0 (mX5_buy l D cy adr (mo (buyO M (xs (i + 1)) (xs (i + 2))) (wStore (buyA M (xs (i + 1)) (xs (i + 2))) 0 (xs (i + 1)) (xs (i + 2))) M) ((mo (buyO M (xs (i + 1)) (xs (i + 2))) (wStore (buyA M (xs (i + 1)) (xs (i + 2))) 0 (xs (i + 1)) (xs (i + 2))) M) 56) (xs (i + 1)) (xs (i + 2)) ) 5 rfl (by decide) ykd_55 gL_law_X5_buy rfl rfl rfl (by decide +kernel) ⟨by decide, by decide⟩ rfl rfl (Nat.le_of_ble_eq_true rfl) dL_law_748 ⟨show 100 + i + 1 + 0 ≤ 634875 by omega, show 4000 + 5 * i + 6 + 0 ≤ 7191478 by omega⟩ ?_
  refine y_istore C0 ((6, _) :: (5, _) :: LL adr q b i) dL_law_751 (by decide) rfl ?_
  refine y_widen (k := 100 + i + 4) (n := 4000 + 5 * i + 20) (by omega) (by omega) ?_
  exact law_tail C0 hL (by omega) (by omega) (buy_step h) 753 dL_law_753 dL_law_754 dL_law_757 dL_law_759 dL_law_764 dL_law_766 dL_law_769 dL_law_770 dL_law_771 dL_law_772 dL_law_774 dL_law_775 dL_law_776 dL_law_781 (by decide) next
set_option maxRecDepth 100000 in
set_option maxHeartbeats 4000000 in
theorem lc_count (hlf : l.stackTraces = false) (C0 : Cx K cL_law RL wsL_law 9 ret D cy) (hX : CX K) (hN : CN K) (hL : CL K D cL) (hB : CB K b L xs) (hl : L ≤ 2048) (hi : i + 4 ≤ L) (h : LInv M B S) (next : ∀ N B S f', LInv N B S → Y K l room_1 D cy adr 9 (100 + i + 4) (4000 + 5 * i + 20) Q N (yEo cL q f') (LL adr q b i) 1157 []) : Y K l room_1 D cy adr 9 (100 + i) (4000 + 5 * i) Q M (yEo cL q f) (LL adr q b i) 784 [] := by
  have E56 : (M) 56 = enc M 0 B S := h.2.1
  refine y_aload_n C0 3 dL_law_784 rfl rfl ?_
  refine y_arg C0 hB hl 4 0 (n := 1) (by omega) rfl rfl dL_law_785 dL_law_786 dL_law_788 (by decide) dL_law_789 dL_law_790 ?_
  refine y_aload_n C0 1 dL_law_791 rfl rfl ?_
  refine y_callW (As := [_, _, _]) (rest := []) (n := 3) C0 hX hN hL (mL_count l hlf D cy cL adr M q f (xs (i + 1)) ) gL_law_L_count rfl rfl rfl (by decide +kernel) ⟨by decide, by decide⟩ rfl rfl (Nat.le_of_ble_eq_true rfl) dL_law_792 ⟨show 100 + i + 1 ≤ 634875 by omega, show 4000 + 5 * i + 6 ≤ 7191478 by omega⟩ ?_
  refine y_istore C0 ((5, _) :: LL adr q b i) dL_law_795 (by decide) rfl ?_
  refine y_mem (up_id (j := 56)).symm ?_
  refine y_aload_n C0 3 dL_law_797 rfl rfl ?_
  refine y_arg C0 hB hl 5 1 (n := 1) (by omega) rfl rfl dL_law_798 dL_law_799 dL_law_801 (by decide) dL_law_802 dL_law_803 ?_
  refine y_callV (As := [_]) (rest := []) (n := 1) C0 (mX5_count l D cy adr (M) ((M) 56) (xs (i + 1)) B h.1.hB (by rw [E56]; exact h.1.o3)) 5 rfl (by decide) ykd_55 gL_law_X5_count rfl rfl rfl (by decide +kernel) ⟨by decide, by decide⟩ rfl rfl (Nat.le_of_ble_eq_true rfl) dL_law_804 ⟨show 100 + i + 1 + 0 ≤ 634875 by omega, show 4000 + 5 * i + 6 + 0 ≤ 7191478 by omega⟩ ?_
  refine y_istore C0 ((6, _) :: (5, _) :: LL adr q b i) dL_law_807 (by decide) rfl ?_
  refine y_widen (k := 100 + i + 4) (n := 4000 + 5 * i + 20) (by omega) (by omega) ?_
  exact law_tail C0 hL (by omega) (by omega) (count_step h) 809 dL_law_809 dL_law_810 dL_law_813 dL_law_815 dL_law_820 dL_law_822 dL_law_825 dL_law_826 dL_law_827 dL_law_828 dL_law_830 dL_law_831 dL_law_832 dL_law_837 (by decide) next
set_option maxRecDepth 100000 in
set_option maxHeartbeats 4000000 in
theorem lc_pass (hlf : l.stackTraces = false) (C0 : Cx K cL_law RL wsL_law 9 ret D cy) (hX : CX K) (hN : CN K) (hL : CL K D cL) (hB : CB K b L xs) (hl : L ≤ 2048) (hi : i + 4 ≤ L) (h : LInv M B S) (next : ∀ N B S f', LInv N B S → Y K l room_1 D cy adr 9 (100 + i + 4) (4000 + 5 * i + 20) Q N (yEo cL q f') (LL adr q b i) 1157 []) : Y K l room_1 D cy adr 9 (100 + i) (4000 + 5 * i) Q M (yEo cL q f) (LL adr q b i) 840 [] := by
  have E56 : (mo (okH (xs (i + 1))) (wHours M 0 (xs (i + 1)).toNatClampNeg) M) 56 = enc M 0 B S := e56_pass h
  refine y_aload_n C0 3 dL_law_840 rfl rfl ?_
  refine y_arg C0 hB hl 4 0 (n := 1) (by omega) rfl rfl dL_law_841 dL_law_842 dL_law_844 (by decide) dL_law_845 dL_law_846 ?_
  refine y_aload_n C0 1 dL_law_847 rfl rfl ?_
  refine y_callW (As := [_, _, _]) (rest := []) (n := 3) C0 hX hN hL (mL_pass l hlf D cy cL adr M q f (xs (i + 1)) h.1.sp) gL_law_L_pass rfl rfl rfl (by decide +kernel) ⟨by decide, by decide⟩ rfl rfl (Nat.le_of_ble_eq_true rfl) dL_law_848 ⟨show 100 + i + 1 ≤ 634875 by omega, show 4000 + 5 * i + 6 ≤ 7191478 by omega⟩ ?_
  refine y_istore C0 ((5, _) :: LL adr q b i) dL_law_851 (by decide) rfl ?_
  refine y_mem (up_id (j := 56)).symm ?_
  refine y_aload_n C0 3 dL_law_853 rfl rfl ?_
  refine y_arg C0 hB hl 5 1 (n := 1) (by omega) rfl rfl dL_law_854 dL_law_855 dL_law_857 (by decide) dL_law_858 dL_law_859 ?_
  refine y_callV (As := [_]) (rest := []) (n := 1) C0 (mX5_pass_ l D cy adr (mo (okH (xs (i + 1))) (wHours M 0 (xs (i + 1)).toNatClampNeg) M) ((mo (okH (xs (i + 1))) (wHours M 0 (xs (i + 1)).toNatClampNeg) M) 56) (xs (i + 1)) B S (by rw [E56]; exact mOK_enc h.1)) 5 rfl (by decide) ykd_55 gL_law_X5_pass_ rfl rfl rfl (by decide +kernel) ⟨by decide, by decide⟩ rfl rfl (Nat.le_of_ble_eq_true rfl) dL_law_860 ⟨show 100 + i + 1 + 0 ≤ 634875 by omega, show 4000 + 5 * i + 6 + 0 ≤ 7191478 by omega⟩ ?_
  refine y_istore C0 ((6, _) :: (5, _) :: LL adr q b i) dL_law_863 (by decide) rfl ?_
  refine y_widen (k := 100 + i + 4) (n := 4000 + 5 * i + 20) (by omega) (by omega) ?_
  exact law_tail C0 hL (by omega) (by omega) (pass_step h) 865 dL_law_865 dL_law_866 dL_law_869 dL_law_871 dL_law_876 dL_law_878 dL_law_881 dL_law_882 dL_law_883 dL_law_884 dL_law_886 dL_law_887 dL_law_888 dL_law_893 (by decide) next
set_option maxRecDepth 100000 in
set_option maxHeartbeats 4000000 in
theorem lc_foresee (hlf : l.stackTraces = false) (C0 : Cx K cL_law RL wsL_law 9 ret D cy) (hX : CX K) (hN : CN K) (hL : CL K D cL) (hB : CB K b L xs) (hl : L ≤ 2048) (hi : i + 4 ≤ L) (h : LInv M B S) (next : ∀ N B S f', LInv N B S → Y K l room_1 D cy adr 9 (100 + i + 4) (4000 + 5 * i + 20) Q N (yEo cL q f') (LL adr q b i) 1157 []) : Y K l room_1 D cy adr 9 (100 + i) (4000 + 5 * i) Q M (yEo cL q f) (LL adr q b i) 896 [] := by
  have E56 : (mo (forO (xs (i + 1)) (xs (i + 2))) (wHours (wSet M 27 0) 27 (xs (i + 1)).toNatClampNeg) M) 56 = enc M 0 B S := e56_foresee h
  refine y_aload_n C0 3 dL_law_896 rfl rfl ?_
  refine y_arg C0 hB hl 4 0 (n := 1) (by omega) rfl rfl dL_law_897 dL_law_898 dL_law_900 (by decide) dL_law_901 dL_law_902 ?_
  refine y_arg C0 hB hl 4 0 (n := 2) (by omega) rfl rfl dL_law_903 dL_law_904 dL_law_906 (by decide) dL_law_907 dL_law_908 ?_
  refine y_aload_n C0 1 dL_law_909 rfl rfl ?_
  refine y_callW (As := [_, _, _, _]) (rest := []) (n := 4) C0 hX hN hL (mL_foresee l hlf D cy cL adr M q f (xs (i + 1)) (xs (i + 2)) h.1.sp) gL_law_L_foresee rfl rfl rfl (by decide +kernel) ⟨by decide, by decide⟩ rfl rfl (Nat.le_of_ble_eq_true rfl) dL_law_910 ⟨show 100 + i + 2 ≤ 634875 by omega, show 4000 + 5 * i + 12 ≤ 7191478 by omega⟩ ?_
  refine y_istore C0 ((5, _) :: LL adr q b i) dL_law_913 (by decide) rfl ?_
  refine y_mem (up_id (j := 56)).symm ?_
  refine y_aload_n C0 3 dL_law_915 rfl rfl ?_
  refine y_arg C0 hB hl 5 1 (n := 1) (by omega) rfl rfl dL_law_916 dL_law_917 dL_law_919 (by decide) dL_law_920 dL_law_921 ?_
  refine y_arg C0 hB hl 5 1 (n := 2) (by omega) rfl rfl dL_law_922 dL_law_923 dL_law_925 (by decide) dL_law_926 dL_law_927 ?_
  refine y_callV (As := [_, _]) (rest := []) (n := 2) C0 (mX5_foresee l D cy adr (mo (forO (xs (i + 1)) (xs (i + 2))) (wHours (wSet M 27 0) 27 (xs (i + 1)).toNatClampNeg) M) ((mo (forO (xs (i + 1)) (xs (i + 2))) (wHours (wSet M 27 0) 27 (xs (i + 1)).toNatClampNeg) M) 56) (xs (i + 1)) (xs (i + 2)) B S (by rw [E56]; exact mOK_enc h.1)) 5 rfl (by decide) ykd_55 gL_law_X5_foresee rfl rfl rfl (by decide +kernel) ⟨by decide, by decide⟩ rfl rfl (Nat.le_of_ble_eq_true rfl) dL_law_928 ⟨show 100 + i + 2 + 0 ≤ 634875 by omega, show 4000 + 5 * i + 12 + 0 ≤ 7191478 by omega⟩ ?_
  refine y_istore C0 ((6, _) :: (5, _) :: LL adr q b i) dL_law_931 (by decide) rfl ?_
  refine y_widen (k := 100 + i + 4) (n := 4000 + 5 * i + 20) (by omega) (by omega) ?_
  exact law_tail C0 hL (by omega) (by omega) (foresee_step h) 933 dL_law_933 dL_law_934 dL_law_937 dL_law_939 dL_law_944 dL_law_946 dL_law_949 dL_law_950 dL_law_951 dL_law_952 dL_law_954 dL_law_955 dL_law_956 dL_law_961 (by decide) next
set_option maxRecDepth 100000 in
set_option maxHeartbeats 4000000 in
theorem lc_until (hlf : l.stackTraces = false) (C0 : Cx K cL_law RL wsL_law 9 ret D cy) (hX : CX K) (hN : CN K) (hL : CL K D cL) (hB : CB K b L xs) (hl : L ≤ 2048) (hi : i + 4 ≤ L) (h : LInv M B S) (next : ∀ N B S f', LInv N B S → Y K l room_1 D cy adr 9 (100 + i + 4) (4000 + 5 * i + 20) Q N (yEo cL q f') (LL adr q b i) 1157 []) : Y K l room_1 D cy adr 9 (100 + i) (4000 + 5 * i) Q M (yEo cL q f) (LL adr q b i) 964 [] := by
  have E56 : (mo (okB M (xs (i + 1))) (utM M (cN (xs (i + 1)))) M) 56 = enc M 0 B S := e56_until h
  refine y_aload_n C0 3 dL_law_964 rfl rfl ?_
  refine y_arg C0 hB hl 4 0 (n := 1) (by omega) rfl rfl dL_law_965 dL_law_966 dL_law_968 (by decide) dL_law_969 dL_law_970 ?_
  refine y_aload_n C0 1 dL_law_971 rfl rfl ?_
  refine y_callW (As := [_, _, _]) (rest := []) (n := 3) C0 hX hN hL (mL_until l hlf D cy cL adr M q f (xs (i + 1)) h.1.sp) gL_law_L_until rfl rfl rfl (by decide +kernel) ⟨by decide, by decide⟩ rfl rfl (Nat.le_of_ble_eq_true rfl) dL_law_972 ⟨show 100 + i + 1 ≤ 634875 by omega, show 4000 + 5 * i + 6 ≤ 7191478 by omega⟩ ?_
  refine y_istore C0 ((5, _) :: LL adr q b i) dL_law_975 (by decide) rfl ?_
  refine y_mem (up_id (j := 56)).symm ?_
  refine y_aload_n C0 3 dL_law_977 rfl rfl ?_
  refine y_arg C0 hB hl 5 1 (n := 1) (by omega) rfl rfl dL_law_978 dL_law_979 dL_law_981 (by decide) dL_law_982 dL_law_983 ?_
  refine y_callV (As := [_]) (rest := []) (n := 1) C0 (mX5_until l D cy adr (mo (okB M (xs (i + 1))) (utM M (cN (xs (i + 1)))) M) ((mo (okB M (xs (i + 1))) (utM M (cN (xs (i + 1)))) M) 56) (xs (i + 1)) B S (by rw [E56]; exact mOK_enc h.1)) 5 rfl (by decide) ykd_55 gL_law_X5_until rfl rfl rfl (by decide +kernel) ⟨by decide, by decide⟩ rfl rfl (Nat.le_of_ble_eq_true rfl) dL_law_984 ⟨show 100 + i + 1 + 0 ≤ 634875 by omega, show 4000 + 5 * i + 6 + 0 ≤ 7191478 by omega⟩ ?_
  refine y_istore C0 ((6, _) :: (5, _) :: LL adr q b i) dL_law_987 (by decide) rfl ?_
  refine y_widen (k := 100 + i + 4) (n := 4000 + 5 * i + 20) (by omega) (by omega) ?_
  exact law_tail C0 hL (by omega) (by omega) (until_step h) 989 dL_law_989 dL_law_990 dL_law_993 dL_law_995 dL_law_1000 dL_law_1002 dL_law_1005 dL_law_1006 dL_law_1007 dL_law_1008 dL_law_1010 dL_law_1011 dL_law_1012 dL_law_1017 (by decide) next
set_option maxRecDepth 100000 in
set_option maxHeartbeats 4000000 in
theorem lc_advise (hlf : l.stackTraces = false) (C0 : Cx K cL_law RL wsL_law 9 ret D cy) (hX : CX K) (hN : CN K) (hL : CL K D cL) (hB : CB K b L xs) (hl : L ≤ 2048) (hi : i + 4 ≤ L) (h : LInv M B S) (next : ∀ N B S f', LInv N B S → Y K l room_1 D cy adr 9 (100 + i + 4) (4000 + 5 * i + 20) Q N (yEo cL q f') (LL adr q b i) 1157 []) : Y K l room_1 D cy adr 9 (100 + i) (4000 + 5 * i) Q M (yEo cL q f) (LL adr q b i) 1033 [] := by
  have E56 : (mo (okS M (xs (i + 1))) (adM M (xs (i + 1)) 3) M) 56 = enc M 0 B S := e56_advise h
  refine y_aload_n C0 3 dL_law_1033 rfl rfl ?_
  refine y_arg C0 hB hl 4 0 (n := 1) (by omega) rfl rfl dL_law_1034 dL_law_1035 dL_law_1037 (by decide) dL_law_1038 dL_law_1039 ?_
  refine y_aload_n C0 1 dL_law_1040 rfl rfl ?_
  refine y_callW (As := [_, _, _]) (rest := []) (n := 3) C0 hX hN hL (mL_advise l hlf D cy cL adr M q f (xs (i + 1)) h.1.sp) gL_law_L_advise rfl rfl rfl (by decide +kernel) ⟨by decide, by decide⟩ rfl rfl (Nat.le_of_ble_eq_true rfl) dL_law_1041 ⟨show 100 + i + 1 ≤ 634875 by omega, show 4000 + 5 * i + 6 ≤ 7191478 by omega⟩ ?_
  refine y_istore C0 ((5, _) :: LL adr q b i) dL_law_1044 (by decide) rfl ?_
  refine y_mem (up_id (j := 56)).symm ?_
  refine y_aload_n C0 3 dL_law_1046 rfl rfl ?_
  refine y_arg C0 hB hl 5 1 (n := 1) (by omega) rfl rfl dL_law_1047 dL_law_1048 dL_law_1050 (by decide) dL_law_1051 dL_law_1052 ?_
  refine y_callV (As := [_]) (rest := []) (n := 1) C0 (mX5_advise l D cy adr (mo (okS M (xs (i + 1))) (adM M (xs (i + 1)) 3) M) ((mo (okS M (xs (i + 1))) (adM M (xs (i + 1)) 3) M) 56) (xs (i + 1)) B S (by rw [E56]; exact mOK_enc h.1)) 5 rfl (by decide) ykd_55 gL_law_X5_advise rfl rfl rfl (by decide +kernel) ⟨by decide, by decide⟩ rfl rfl (Nat.le_of_ble_eq_true rfl) dL_law_1053 ⟨show 100 + i + 1 + 0 ≤ 634875 by omega, show 4000 + 5 * i + 6 + 0 ≤ 7191478 by omega⟩ ?_
  refine y_istore C0 ((6, _) :: (5, _) :: LL adr q b i) dL_law_1056 (by decide) rfl ?_
  refine y_widen (k := 100 + i + 4) (n := 4000 + 5 * i + 20) (by omega) (by omega) ?_
  exact law_tail C0 hL (by omega) (by omega) (advise_step h) 1058 dL_law_1058 dL_law_1059 dL_law_1062 dL_law_1064 dL_law_1069 dL_law_1071 dL_law_1074 dL_law_1075 dL_law_1076 dL_law_1077 dL_law_1079 dL_law_1080 dL_law_1081 dL_law_1086 (by decide) next
set_option maxRecDepth 100000 in
set_option maxHeartbeats 4000000 in
theorem lc_next (hlf : l.stackTraces = false) (C0 : Cx K cL_law RL wsL_law 9 ret D cy) (hX : CX K) (hN : CN K) (hL : CL K D cL) (hB : CB K b L xs) (hl : L ≤ 2048) (hi : i + 4 ≤ L) (h : LInv M B S) (next : ∀ N B S f', LInv N B S → Y K l room_1 D cy adr 9 (100 + i + 4) (4000 + 5 * i + 20) Q N (yEo cL q f') (LL adr q b i) 1157 []) : Y K l room_1 D cy adr 9 (100 + i) (4000 + 5 * i) Q M (yEo cL q f) (LL adr q b i) 1020 [] := by
  have hn := (nx_LI h).1
  have E56 : nxM M 56 = enc M 0 B S := (hn 56 (by omega)).trans h.2.1
  refine y_aload_n C0 3 dL_law_1020 rfl rfl ?_
  refine y_callV (As := []) (rest := []) (n := 0) C0 (mX4_next l D cy adr M h.1.sp) 4 rfl (by decide) ykd_54 gL_law_X4_next rfl rfl rfl (by decide +kernel) ⟨by decide, by decide⟩ rfl rfl (Nat.le_of_ble_eq_true rfl) dL_law_1021 ⟨show 100 + i + 0 ≤ 634875 by omega, show 4000 + 5 * i + 0 ≤ 7191478 by omega⟩ ?_
  refine y_mem (up_id (j := 56)).symm ?_
  refine y_aload_n C0 2 dL_law_1024 rfl rfl ?_
  refine y_callV (As := []) (rest := [_]) (n := 0) C0 (mX5_next l D cy adr (nxM M) (nxM M 56) B S (by rw [E56]; exact mOK_enc h.1)) 5 rfl (by decide) ykd_55 gL_law_X5_next rfl rfl rfl (by decide +kernel) ⟨by decide, by decide⟩ rfl rfl (Nat.le_of_ble_eq_true rfl) dL_law_1025 ⟨show 100 + i + 0 + 0 ≤ 634875 by omega, show 4000 + 5 * i + 0 + 0 ≤ 7191478 by omega⟩ ?_
  refine y_icmp_eq C0 1157 dL_law_1028 (by decide) (fun _ => ?_) (fun hh => absurd (by rw [E56]; exact (next_tie h).symm) hh)
  refine y_widen (k := 100 + i + 4) (n := 4000 + 5 * i + 20) (by omega) (by omega) ?_
  exact next _ B S _ (LInv.of (A := nxM M) (h.1.n hn) (nx_LI h).2 (fun j hj => up4_lt hj) (by rw [up_s, E56, enc_n h.1 hn]))
set_option maxRecDepth 100000 in
set_option maxHeartbeats 4000000 in
theorem lc_worth (hlf : l.stackTraces = false) (C0 : Cx K cL_law RL wsL_law 9 ret D cy) (hX : CX K) (hN : CN K) (hL : CL K D cL) (hB : CB K b L xs) (hl : L ≤ 2048) (hi : i + 4 ≤ L) (h : LInv M B S) (next : ∀ N B S f', LInv N B S → Y K l room_1 D cy adr 9 (100 + i + 4) (4000 + 5 * i + 20) Q N (yEo cL q f') (LL adr q b i) 1157 []) : Y K l room_1 D cy adr 9 (100 + i) (4000 + 5 * i) Q M (yEo cL q f) (LL adr q b i) 1089 [] := by
  have E56 := h.2.1
  refine y_aload_n C0 3 dL_law_1089 rfl rfl ?_
  refine y_callV (As := []) (rest := []) (n := 0) C0 (mX4_worth l D cy adr M) 4 rfl (by decide) ykd_54 gL_law_X4_worth rfl rfl rfl (by decide +kernel) ⟨by decide, by decide⟩ rfl rfl (Nat.le_of_ble_eq_true rfl) dL_law_1090 ⟨show 100 + i + 0 ≤ 634875 by omega, show 4000 + 5 * i + 0 ≤ 7191478 by omega⟩ ?_
  refine y_mem (up_id (j := 56)).symm ?_
  refine y_aload_n C0 2 dL_law_1093 rfl rfl ?_
  refine y_callV (As := []) (rest := [_]) (n := 0) C0 (mX5_worth l D cy adr M (M 56) B h.1.hB (by rw [E56]; exact h.1.o3)) 5 rfl (by decide) ykd_55 gL_law_X5_worth rfl rfl rfl (by decide +kernel) ⟨by decide, by decide⟩ rfl rfl (Nat.le_of_ble_eq_true rfl) dL_law_1094 ⟨show 100 + i + 0 + 0 ≤ 634875 by omega, show 4000 + 5 * i + 0 + 0 ≤ 7191478 by omega⟩ ?_
  refine y_icmp_eq C0 1157 dL_law_1097 (by decide) (fun _ => ?_) (fun hh => absurd (by rw [E56]; exact (worth_tie h).symm) hh)
  refine y_widen (k := 100 + i + 4) (n := 4000 + 5 * i + 20) (by omega) (by omega) ?_
  exact next _ B S _ (LInv.tn h.1 h.2.2 h.2.1)
set_option maxRecDepth 100000 in
set_option maxHeartbeats 4000000 in
theorem lc_mean (hlf : l.stackTraces = false) (C0 : Cx K cL_law RL wsL_law 9 ret D cy) (hX : CX K) (hN : CN K) (hL : CL K D cL) (hB : CB K b L xs) (hl : L ≤ 2048) (hi : i + 4 ≤ L) (h : LInv M B S) (next : ∀ N B S f', LInv N B S → Y K l room_1 D cy adr 9 (100 + i + 4) (4000 + 5 * i + 20) Q N (yEo cL q f') (LL adr q b i) 1157 []) : Y K l room_1 D cy adr 9 (100 + i) (4000 + 5 * i) Q M (yEo cL q f) (LL adr q b i) 1102 [] := by
  have E56 := h.2.1
  obtain ⟨m1, m2⟩ := mean_tie h
  refine y_aload_n C0 3 dL_law_1102 rfl rfl ?_
  refine y_callV (As := []) (rest := []) (n := 0) C0 (mX4_mean l D cy adr M) 4 rfl (by decide) ykd_54 gL_law_X4_mean rfl rfl rfl (by decide +kernel) ⟨by decide, by decide⟩ rfl rfl (Nat.le_of_ble_eq_true rfl) dL_law_1103 ⟨show 100 + i + 0 ≤ 634875 by omega, show 4000 + 5 * i + 0 ≤ 7191478 by omega⟩ ?_
  refine y_dstore C0 ((5, _) :: LL adr q b i) dL_law_1106 (by decide) rfl ?_
  refine y_mem (up_id (j := 56)).symm ?_
  refine y_aload_n C0 3 dL_law_1108 rfl rfl ?_
  refine y_callV (As := []) (rest := []) (n := 0) C0 (mX5_mean l D cy adr M (M 56) B h.1.hB (by rw [E56]; exact h.1.o3)) 5 rfl (by decide) ykd_55 gL_law_X5_mean rfl rfl rfl (by decide +kernel) ⟨by decide, by decide⟩ rfl rfl (Nat.le_of_ble_eq_true rfl) dL_law_1109 ⟨show 100 + i + 0 + 0 ≤ 634875 by omega, show 4000 + 5 * i + 0 + 0 ≤ 7191478 by omega⟩ ?_
  refine y_dstore C0 ((7, .double (meD (meT M 15) (nI (meN M 15)))) :: (5, _) :: LL adr q b i) dL_law_1112 (by decide) (by rw [E56, m1, m2]; rfl) ?_
  generalize meD (meT M 15) (nI (meN M 15)) = w
  have fin : Y K l room_1 D cy adr 9 (100 + i + 0 + 0) (4000 + 5 * i + 0 + 0) Q (va_up (TN M 0) 56 (M 56)) (yEo cL q f) ((7, .double w) :: (5, .double w) :: LL adr q b i) 1140 [] := by
    refine y_goto C0 1157 dL_law_1140 (by decide) ?_
    refine y_sub [2, 3, 4, 5, 6] (LL adr q b i) rfl ?_
    refine y_widen (k := 100 + i + 4) (n := 4000 + 5 * i + 20) (by omega) (by omega) ?_
    exact next _ B S _ (LInv.tn h.1 h.2.2 h.2.1)
  refine y_dload C0 1 dL_law_1114 rfl ?_
  refine y_dload C0 0 dL_law_1116 rfl ?_
  refine y_dcmp C0 dL_law_1118 ?_
  refine y_if_eq C0 1140 dL_law_1119 (by decide) (fun _ => fin) (fun z => ?_)
  refine y_dload C0 1 dL_law_1122 rfl ?_
  refine y_dload C0 1 dL_law_1124 rfl ?_
  refine y_dcmp C0 dL_law_1126 ?_
  refine y_if_eq C0 1138 dL_law_1127 (by decide) (fun z2 => absurd z2 z) (fun _ => ?_)
  refine y_dload C0 0 dL_law_1130 rfl ?_
  refine y_dload C0 0 dL_law_1132 rfl ?_
  refine y_dcmp C0 dL_law_1134 ?_
  exact y_if_ne C0 1140 dL_law_1135 (by decide) (fun _ => fin) (fun z2 => absurd z2 z)
set_option maxRecDepth 100000 in
set_option maxHeartbeats 4000000 in
theorem lc_digest (hlf : l.stackTraces = false) (C0 : Cx K cL_law RL wsL_law 9 ret D cy) (hX : CX K) (hN : CN K) (hL : CL K D cL) (hB : CB K b L xs) (hl : L ≤ 2048) (hi : i + 4 ≤ L) (h : LInv M B S) (next : ∀ N B S f', LInv N B S → Y K l room_1 D cy adr 9 (100 + i + 4) (4000 + 5 * i + 20) Q N (yEo cL q f') (LL adr q b i) 1157 []) : Y K l room_1 D cy adr 9 (100 + i) (4000 + 5 * i) Q M (yEo cL q f) (LL adr q b i) 1143 [] := by
  have E56 := h.2.1
  refine y_aload_n C0 3 dL_law_1143 rfl rfl ?_
  refine y_callV (As := []) (rest := []) (n := 0) C0 (mX4_digest l D cy adr M B S h.1.hB h.1.hS h.1.o3 h.1.o4) 4 rfl (by decide) ykd_54 gL_law_X4_digest rfl rfl rfl (by decide +kernel) ⟨by decide, by decide⟩ rfl rfl (Nat.le_of_ble_eq_true rfl) dL_law_1144 ⟨show 100 + i + 0 ≤ 634875 by omega, show 4000 + 5 * i + 0 ≤ 7191478 by omega⟩ ?_
  refine y_mem (up_id (j := 56)).symm ?_
  refine y_aload_n C0 2 dL_law_1147 rfl rfl ?_
  refine y_callV (As := []) (rest := [_]) (n := 0) C0 (mX5_digest l D cy adr M (M 56) B S (by rw [E56]; exact mOK_enc h.1)) 5 rfl (by decide) ykd_55 gL_law_X5_digest rfl rfl rfl (by decide +kernel) ⟨by decide, by decide⟩ rfl rfl (Nat.le_of_ble_eq_true rfl) dL_law_1148 ⟨show 100 + i + 0 + 0 ≤ 634875 by omega, show 4000 + 5 * i + 0 + 0 ≤ 7191478 by omega⟩ ?_
  refine y_lcmpE C0 (by rw [E56]; exact (digest_tie h).symm) dL_law_1151 ?_
  refine y_if_eq C0 1157 dL_law_1152 (by decide) (fun _ => ?_) (fun z => absurd rfl z)
  refine y_widen (k := 100 + i + 4) (n := 4000 + 5 * i + 20) (by omega) (by omega) ?_
  exact next _ B S _ (LInv.tn h.1 h.2.2 h.2.1)
theorem law_go {i L : Nat} (hL : L ≤ 2048) (hi : i ≤ L) (h : ¬ nI L - 4 < nI i) : i + 4 ≤ L := by
  have e : (nI L - nI 4).toInt = (L : Int) - (4 : Nat) := pk_sub_toInt (by omega) (by omega)
  have k := Int32.not_lt.mp h
  have k2 := Int32.le_iff_toInt_le.mp k
  rw [nI_toInt (by omega)] at k2
  have k3 : (i : Int) ≤ (nI L - nI 4).toInt := k2
  rw [e] at k3
  omega
set_option maxRecDepth 100000 in
set_option maxHeartbeats 4000000 in
theorem law_loop (hlf : l.stackTraces = false) (C0 : Cx K cL_law RL wsL_law 9 ret D cy) (hX : CX K) (hN : CN K) (hL : CL K D cL) (hB : CB K b L xs) (hl : L ≤ 2048) (hq : ∀ M f lv, Y K l room_1 D cy adr 9 634875 7191478 Q M (yEo cL q f) lv 1164 [.int 1]) : ∀ (n i : Nat), L - i = n → i ≤ L → ∀ M B S f, LInv M B S → Y K l room_1 D cy adr 9 (100 + i) (4000 + 5 * i) Q M (yEo cL q f) (LL adr q b i) 23 [] := by
  intro n
  induction n using Nat.strongRecOn with
  | _ n ih =>
    intro i hn hi M B S f h
    refine y_iload C0 0 dL_law_23 rfl ?_
    refine y_aload_n C0 4 dL_law_25 rfl rfl ?_
    refine y_slen C0 hB dL_law_26 ?_
    refine y_iconst (v := 4) C0 dL_law_27 (by decide) ?_
    refine y_isub C0 dL_law_28 ?_
    refine y_icmp_gt C0 1163 dL_law_29 (by decide) (fun _ => ?_) (fun hg => ?_)
    · refine y_iconst (v := 1) C0 dL_law_1163 (by decide) ?_
      refine y_widen (k := 634875) (n := 7191478) (by omega) (by omega) ?_
      exact hq _ _ _
    · have hi4 := law_go hl hi hg
      have next : ∀ N B S f', LInv N B S → Y K l room_1 D cy adr 9 (100 + i + 4) (4000 + 5 * i + 20) Q N (yEo cL q f') (LL adr q b i) 1157 [] := by
        intro N B' S' f' h'
        refine y_iinc (v := nI (i + 4)) C0 0 (LL adr q b (i + 4)) dL_law_1157 rfl (nI_add i 4) (by decide) rfl ?_
        refine y_goto C0 23 dL_law_1160 (by decide) ?_
        refine y_widen (k := 100 + (i + 4)) (n := 4000 + 5 * (i + 4)) (by omega) (by omega) ?_
        exact ih _ (by omega) (i + 4) rfl hi4 N B' S' f' h'
      refine y_aload_n C0 4 dL_law_32 rfl rfl ?_
      refine y_iload C0 0 dL_law_33 rfl ?_
      refine y_sld C0 hB (j := i) (by omega) hl rfl dL_law_35 ?_
      refine y_bipush (v := 31) C0 dL_law_36 (by decide) ?_
      refine y_iand C0 dL_law_38 ?_
      by_cases s_0 : xs i &&& 31 = 0
      · refine y_tswI (v := 0) C0 dL_law_39 (by rw [s_0]; rfl) (by decide) (by decide) rfl (tgt := 128) (by decide) ?_
        exact lc_order hlf C0 hX hN hL hB hl hi4 h next
      by_cases s_1 : xs i &&& 31 = 1
      · refine y_tswI (v := 1) C0 dL_law_39 (by rw [s_1]; rfl) (by decide) (by decide) rfl (tgt := 208) (by decide) ?_
        exact lc_unpick hlf C0 hX hN hL hB hl hi4 h next
      by_cases s_2 : xs i &&& 31 = 2
      · refine y_tswI (v := 2) C0 dL_law_39 (by rw [s_2]; rfl) (by decide) (by decide) rfl (tgt := 264) (by decide) ?_
        exact lc_sell hlf C0 hX hN hL hB hl hi4 h next
      by_cases s_3 : xs i &&& 31 = 3
      · refine y_tswI (v := 3) C0 dL_law_39 (by rw [s_3]; rfl) (by decide) (by decide) rfl (tgt := 320) (by decide) ?_
        exact lc_told hlf C0 hX hN hL hB hl hi4 h next
      by_cases s_4 : xs i &&& 31 = 4
      · refine y_tswI (v := 4) C0 dL_law_39 (by rw [s_4]; rfl) (by decide) (by decide) rfl (tgt := 388) (by decide) ?_
        exact lc_hire hlf C0 hX hN hL hB hl hi4 h next
      by_cases s_5 : xs i &&& 31 = 5
      · refine y_tswI (v := 5) C0 dL_law_39 (by rw [s_5]; rfl) (by decide) (by decide) rfl (tgt := 444) (by decide) ?_
        exact lc_seat hlf C0 hX hN hL hB hl hi4 h next
      by_cases s_6 : xs i &&& 31 = 6
      · refine y_tswI (v := 6) C0 dL_law_39 (by rw [s_6]; rfl) (by decide) (by decide) rfl (tgt := 512) (by decide) ?_
        exact lc_sewer hlf C0 hX hN hL hB hl hi4 h next
      by_cases s_7 : xs i &&& 31 = 7
      · refine y_tswI (v := 7) C0 dL_law_39 (by rw [s_7]; rfl) (by decide) (by decide) rfl (tgt := 580) (by decide) ?_
        exact lc_string hlf C0 hX hN hL hB hl hi4 h next
      by_cases s_8 : xs i &&& 31 = 8
      · refine y_tswI (v := 8) C0 dL_law_39 (by rw [s_8]; rfl) (by decide) (by decide) rfl (tgt := 648) (by decide) ?_
        exact lc_frame hlf C0 hX hN hL hB hl hi4 h next
      by_cases s_9 : xs i &&& 31 = 9
      · refine y_tswI (v := 9) C0 dL_law_39 (by rw [s_9]; rfl) (by decide) (by decide) rfl (tgt := 716) (by decide) ?_
        exact lc_buy hlf C0 hX hN hL hB hl hi4 h next
      by_cases s_10 : xs i &&& 31 = 10
      · refine y_tswI (v := 10) C0 dL_law_39 (by rw [s_10]; rfl) (by decide) (by decide) rfl (tgt := 784) (by decide) ?_
        exact lc_count hlf C0 hX hN hL hB hl hi4 h next
      by_cases s_11 : xs i &&& 31 = 11
      · refine y_tswI (v := 11) C0 dL_law_39 (by rw [s_11]; rfl) (by decide) (by decide) rfl (tgt := 840) (by decide) ?_
        exact lc_pass hlf C0 hX hN hL hB hl hi4 h next
      by_cases s_12 : xs i &&& 31 = 12
      · refine y_tswI (v := 12) C0 dL_law_39 (by rw [s_12]; rfl) (by decide) (by decide) rfl (tgt := 896) (by decide) ?_
        exact lc_foresee hlf C0 hX hN hL hB hl hi4 h next
      by_cases s_13 : xs i &&& 31 = 13
      · refine y_tswI (v := 13) C0 dL_law_39 (by rw [s_13]; rfl) (by decide) (by decide) rfl (tgt := 964) (by decide) ?_
        exact lc_until hlf C0 hX hN hL hB hl hi4 h next
      by_cases s_14 : xs i &&& 31 = 14
      · refine y_tswI (v := 14) C0 dL_law_39 (by rw [s_14]; rfl) (by decide) (by decide) rfl (tgt := 1020) (by decide) ?_
        exact lc_next hlf C0 hX hN hL hB hl hi4 h next
      by_cases s_15 : xs i &&& 31 = 15
      · refine y_tswI (v := 15) C0 dL_law_39 (by rw [s_15]; rfl) (by decide) (by decide) rfl (tgt := 1033) (by decide) ?_
        exact lc_advise hlf C0 hX hN hL hB hl hi4 h next
      by_cases s_16 : xs i &&& 31 = 16
      · refine y_tswI (v := 16) C0 dL_law_39 (by rw [s_16]; rfl) (by decide) (by decide) rfl (tgt := 1089) (by decide) ?_
        exact lc_worth hlf C0 hX hN hL hB hl hi4 h next
      by_cases s_17 : xs i &&& 31 = 17
      · refine y_tswI (v := 17) C0 dL_law_39 (by rw [s_17]; rfl) (by decide) (by decide) rfl (tgt := 1102) (by decide) ?_
        exact lc_mean hlf C0 hX hN hL hB hl hi4 h next
      by_cases s_18 : xs i &&& 31 = 18
      · refine y_tswI (v := 18) C0 dL_law_39 (by rw [s_18]; rfl) (by decide) (by decide) rfl (tgt := 1143) (by decide) ?_
        exact lc_digest hlf C0 hX hN hL hB hl hi4 h next
      refine y_tswO C0 dL_law_39 (by have z0 := lv_neT s_0 (a := 0) rfl; have z1 := lv_neT s_1 (a := 1) rfl; have z2 := lv_neT s_2 (a := 2) rfl; have z3 := lv_neT s_3 (a := 3) rfl; have z4 := lv_neT s_4 (a := 4) rfl; have z5 := lv_neT s_5 (a := 5) rfl; have z6 := lv_neT s_6 (a := 6) rfl; have z7 := lv_neT s_7 (a := 7) rfl; have z8 := lv_neT s_8 (a := 8) rfl; have z9 := lv_neT s_9 (a := 9) rfl; have z10 := lv_neT s_10 (a := 10) rfl; have z11 := lv_neT s_11 (a := 11) rfl; have z12 := lv_neT s_12 (a := 12) rfl; have z13 := lv_neT s_13 (a := 13) rfl; have z14 := lv_neT s_14 (a := 14) rfl; have z15 := lv_neT s_15 (a := 15) rfl; have z16 := lv_neT s_16 (a := 16) rfl; have z17 := lv_neT s_17 (a := 17) rfl; have z18 := lv_neT s_18 (a := 18) rfl; omega) (tgt := 1157) (by decide) ?_
      exact y_widen (by omega) (by omega) (next _ _ _ _ h)
end YLc
