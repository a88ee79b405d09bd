section YLaw
variable {K : yK} {l : Launch} {D : va_G} {cy : Nat → ClassId} {adr : Nat → Nat} {Q : State → Prop} {ret : Option FieldType} {b L B : Nat} {xs : Nat → Int32}
set_option maxRecDepth 100000 in
set_option maxHeartbeats 4000000 in
theorem law_what (hlf : l.stackTraces = false) (C0 : Cx K cL_law RL wsL_law 20 ret D cy) (hX : CX K) (hB : CB K b L xs) {c s t n cm : Nat} (hb7 : B ≤ 7) (hc : c ≤ 20000) (hs : s ≤ 100000) (ht : t ≤ 20) (hn : n ≤ 1000) (hcm : cm ≤ 10000) {M : yM} {k x : Nat} {v u w best seen : Int32} {dd : Int64} (hk : k < B) (hx : x < 3) (h : PI M B 3 (300 + n) cm) (hbest : best = -1 ∨ ∃ f, f < 3 ∧ best = nI f ∧ sOth M (nI f) x 5 ≤ 1) (hseen : wHours M 0 3 0 10 = seen)
    (next : ∀ (M' : yM) (n' cm' : Nat), PI M' B 3 (300 + n') cm' → n' ≤ n + 40 → cm' ≤ cm + 126 → Y K l room_1 D cy adr 20 (c + 10) (s + 60) Q M' [] [(4, .int (nI t)), (3, .int (nI n')), (2, .ref (adr 54)), (1, .int (nI B)), (0, .ref b)] 323 []) : Y K l room_1 D cy adr 20 (c) (s) Q M [] [(13, .int w), (12, .int best), (11, .int u), (10, .int seen), (8, .long dd), (7, .int (nI x)), (6, .int (nI k)), (5, .int v), (4, .int (nI t)), (3, .int (nI n)), (2, .ref (adr 54)), (1, .int (nI B)), (0, .ref b)] 167 [] := by
  have l302 : ∀ zz : Int32, Y K l room_1 D cy adr 20 (c + 5) (s + 30) Q M [] [(14, .int zz), (13, .int w), (12, .int best), (11, .int u), (10, .int seen), (8, .long dd), (7, .int (nI x)), (6, .int (nI k)), (5, .int v), (4, .int (nI t)), (3, .int (nI n)), (2, .ref (adr 54)), (1, .int (nI B)), (0, .ref b)] 302 [] := by
    intro zz
    refine y_aload_n C0 11 dL_law_302 rfl rfl ?_
    refine y_iconst (v := 3) C0 dL_law_303 (by decide) ?_
    refine y_callK (As := [_]) (rest := _) (n := 1) C0 hX (mX4_pass l hlf D cy adr M 3 h.I.sp) (show okH 3 = none by decide) 4 rfl (by decide) ykd_54 gL_law_X4_pass rfl rfl rfl (by decide +kernel) ⟨by decide, by decide⟩ rfl rfl (Nat.le_of_ble_eq_true rfl) dL_law_304 ⟨(by show _ ≤ 600130; omega), (by show _ ≤ 7301080; omega)⟩ ?_
    refine y_mem (mo_none (show okH 3 = none by decide)) ?_
    refine y_if_lt C0 321 dL_law_307 (by decide) (fun c => absurd c (pass_ge h.I 3)) (fun _ => ?_)
    refine y_aload_n C0 11 dL_law_310 rfl rfl ?_
    refine y_bipush (v := 13) C0 dL_law_311 (by decide) ?_
    refine y_callK (As := [_]) (rest := _) (n := 1) C0 hX (mX4_count l hlf D cy adr (wHours M 0 3) 13) (ok_count (k := 13) (by decide)) 4 rfl (by decide) ykd_54 gL_law_X4_count rfl rfl rfl (by decide +kernel) ⟨by decide, by decide⟩ rfl rfl (Nat.le_of_ble_eq_true rfl) dL_law_313 ⟨(by show _ ≤ 600130; omega), (by show _ ≤ 7301080; omega)⟩ ?_
    refine y_top (cT13.trans hseen) ?_
    refine y_iload C0 4 dL_law_316 rfl ?_
    refine y_icmp_eq C0 323 dL_law_318 (by decide) (fun _ => ?_) (fun c => absurd (rfl) c)
    refine y_sub [9, 10, 11, 12, 13] [(4, _), (3, _), (2, _), (1, _), (0, _)] rfl ?_
    refine y_widen (k := c + 10) (n := s + 60) (by omega) (by omega) ?_
    exact next _ n cm (h.pass 3) (by omega) (by omega)
  have l271 : ∀ zz : Int32, Y K l room_1 D cy adr 20 (c + 4) (s + 24) Q M [] [(14, .int zz), (13, .int w), (12, .int best), (11, .int u), (10, .int seen), (8, .long dd), (7, .int (nI x)), (6, .int (nI k)), (5, .int v), (4, .int (nI t)), (3, .int (nI n)), (2, .ref (adr 54)), (1, .int (nI B)), (0, .ref b)] 271 [] := by
    intro zz
    refine y_iload C0 0 dL_law_271 rfl ?_
    refine y_iconst (v := 4) C0 dL_law_273 (by decide) ?_
    refine y_icmp_ne C0 302 dL_law_274 (by decide) (fun c_274 => y_widen (k := c + 5) (n := s + 30) (by omega) (by omega) (l302 zz)) (fun c_274 => ?_)
    refine y_aload_n C0 11 dL_law_277 rfl rfl ?_
    refine y_bipush (v := 9) C0 dL_law_278 (by decide) ?_
    refine y_callK (As := [_]) (rest := _) (n := 1) C0 hX (mX4_count l hlf D cy adr M 9) (ok_count (k := 9) (by decide)) 4 rfl (by decide) ykd_54 gL_law_X4_count rfl rfl rfl (by decide +kernel) ⟨by decide, by decide⟩ rfl rfl (Nat.le_of_ble_eq_true rfl) dL_law_280 ⟨(by show _ ≤ 600130; omega), (by show _ ≤ 7301080; omega)⟩ ?_
    refine y_top (cT9) ?_
    refine y_bipush (v := 8) C0 dL_law_283 (by decide) ?_
    refine y_icmp_lt C0 302 dL_law_285 (by decide) (fun c_285 => y_widen (k := c + 5) (n := s + 30) (by omega) (by omega) (l302 zz)) (fun c_285 => ?_)
    refine y_aload_n C0 11 dL_law_288 rfl rfl ?_
    refine y_iconst (v := 0) C0 dL_law_289 (by decide) ?_
    refine y_bipush (v := 40) C0 dL_law_290 (by decide) ?_
    refine y_callK (As := [_, _]) (rest := _) (n := 2) C0 hX (mX4_buy l hlf D cy adr M 0 40) (buy_ok h c_285) 4 rfl (by decide) ykd_54 gL_law_X4_buy rfl rfl rfl (by decide +kernel) ⟨by decide, by decide⟩ rfl rfl (Nat.le_of_ble_eq_true rfl) dL_law_292 ⟨(by show _ ≤ 600130; omega), (by show _ ≤ 7301080; omega)⟩ ?_
    refine y_mem (mo_none (buy_ok h c_285)) ?_
    refine y_pop C0 dL_law_295 rfl ?_
    refine y_iinc (v := nI (n + 40)) C0 10 [(3, _), (14, _), (13, _), (12, _), (11, _), (10, _), (8, _), (7, _), (6, _), (5, _), (4, _), (2, _), (1, _), (0, _)] dL_law_296 rfl (yinc_ok rfl rfl) (by decide) rfl ?_
    refine y_goto C0 323 dL_law_299 (by decide) ?_
    have h9 := h.buy c_285 (by omega) (by omega)
    rw [Nat.add_assoc] at h9
    refine y_sub [10, 0, 11, 12, 13] [(4, _), (3, _), (2, _), (1, _), (0, _)] rfl ?_
    refine y_widen (k := c + 10) (n := s + 60) (by omega) (by omega) ?_
    exact next _ (n + 40) cm h9 (by omega) (by omega)
  have l248 : ∀ zz : Int32, Y K l room_1 D cy adr 20 (c + 4) (s + 24) Q M [] [(14, .int zz), (13, .int w), (12, .int best), (11, .int u), (10, .int seen), (8, .long dd), (7, .int (nI x)), (6, .int (nI k)), (5, .int v), (4, .int (nI t)), (3, .int (nI n)), (2, .ref (adr 54)), (1, .int (nI B)), (0, .ref b)] 248 [] := by
    intro zz
    refine y_iload C0 0 dL_law_248 rfl ?_
    refine y_iconst (v := 3) C0 dL_law_250 (by decide) ?_
    refine y_icmp_ne C0 271 dL_law_251 (by decide) (fun c_251 => l271 zz) (fun c_251 => ?_)
    refine y_iload C0 2 dL_law_254 rfl ?_
    refine y_if_lt C0 271 dL_law_256 (by decide) (fun c_256 => l271 zz) (fun c_256 => ?_)
    refine y_aload_n C0 11 dL_law_259 rfl rfl ?_
    refine y_iload C0 6 dL_law_260 rfl ?_
    refine y_iload C0 2 dL_law_262 rfl ?_
    refine y_callK (As := [_, _]) (rest := _) (n := 2) C0 hX (mX4_seat l hlf D cy adr M (nI x) best) (seat_ok h hx hbest) 4 rfl (by decide) ykd_54 gL_law_X4_seat rfl rfl rfl (by decide +kernel) ⟨by decide, by decide⟩ rfl rfl (Nat.le_of_ble_eq_true rfl) dL_law_264 ⟨(by show _ ≤ 600130; omega), (by show _ ≤ 7301080; omega)⟩ ?_
    refine y_mem (show mo (seaO M (nI x) best) (yst M (swI (nI x)) 2 best) M = yst M (0 + 19 + x) 2 best by rw [mo_none (seat_ok h hx hbest), swI_n (by omega)]) ?_
    refine y_pop C0 dL_law_267 rfl ?_
    refine y_goto C0 323 dL_law_268 (by decide) ?_
    refine y_sub [9, 10, 11, 12, 13] [(4, _), (3, _), (2, _), (1, _), (0, _)] rfl ?_
    refine y_widen (k := c + 10) (n := s + 60) (by omega) (by omega) ?_
    exact next _ n cm (h.seat hx hbest) (by omega) (by omega)
  have l231 : ∀ zz : Int32, Y K l room_1 D cy adr 20 (c + 4) (s + 24) Q M [] [(14, .int zz), (13, .int w), (12, .int best), (11, .int u), (10, .int seen), (8, .long dd), (7, .int (nI x)), (6, .int (nI k)), (5, .int v), (4, .int (nI t)), (3, .int (nI n)), (2, .ref (adr 54)), (1, .int (nI B)), (0, .ref b)] 231 [] := by
    intro zz
    refine y_iload C0 0 dL_law_231 rfl ?_
    refine y_iconst (v := 2) C0 dL_law_233 (by decide) ?_
    refine y_icmp_ne C0 248 dL_law_234 (by decide) (fun c_234 => l248 zz) (fun c_234 => ?_)
    refine y_aload_n C0 11 dL_law_237 rfl rfl ?_
    refine y_iload C0 6 dL_law_238 rfl ?_
    refine y_iconst (v := (-1)) C0 dL_law_240 (by decide) ?_
    refine y_callK (As := [_, _]) (rest := _) (n := 2) C0 hX (mX4_seat l hlf D cy adr M (nI x) (-1)) (seat_ok h hx (Or.inl rfl)) 4 rfl (by decide) ykd_54 gL_law_X4_seat rfl rfl rfl (by decide +kernel) ⟨by decide, by decide⟩ rfl rfl (Nat.le_of_ble_eq_true rfl) dL_law_241 ⟨(by show _ ≤ 600130; omega), (by show _ ≤ 7301080; omega)⟩ ?_
    refine y_mem (show mo (seaO M (nI x) (-1)) (yst M (swI (nI x)) 2 (-1)) M = yst M (0 + 19 + x) 2 (-1) by rw [mo_none (seat_ok h hx (Or.inl rfl)), swI_n (by omega)]) ?_
    refine y_pop C0 dL_law_244 rfl ?_
    refine y_goto C0 323 dL_law_245 (by decide) ?_
    refine y_sub [9, 10, 11, 12, 13] [(4, _), (3, _), (2, _), (1, _), (0, _)] rfl ?_
    refine y_widen (k := c + 10) (n := s + 60) (by omega) (by omega) ?_
    exact next _ n cm (h.seat hx (Or.inl rfl)) (by omega) (by omega)
  have l204 : ∀ zz : Int32, Y K l room_1 D cy adr 20 (c + 2) (s + 12) Q M [] [(14, .int zz), (13, .int w), (12, .int best), (11, .int u), (10, .int seen), (8, .long dd), (7, .int (nI x)), (6, .int (nI k)), (5, .int v), (4, .int (nI t)), (3, .int (nI n)), (2, .ref (adr 54)), (1, .int (nI B)), (0, .ref b)] 204 [] := by
    intro zz
    refine y_iload C0 0 dL_law_204 rfl ?_
    refine y_iconst (v := 1) C0 dL_law_206 (by decide) ?_
    refine y_icmp_ne C0 231 dL_law_207 (by decide) (fun c_207 => y_widen (k := c + 4) (n := s + 24) (by omega) (by omega) (l231 zz)) (fun c_207 => ?_)
    refine y_aload_n C0 11 dL_law_210 rfl rfl ?_
    refine y_iload C0 7 dL_law_211 rfl ?_
    refine y_iconst (v := 3) C0 dL_law_213 (by decide) ?_
    refine y_callK (As := [_, _]) (rest := _) (n := 2) C0 hX (mX4_told l hlf D cy adr M (nI k) 3) (ok_told h.I hk (k := 3) (by decide)) 4 rfl (by decide) ykd_54 gL_law_X4_told rfl rfl rfl (by decide +kernel) ⟨by decide, by decide⟩ rfl rfl (Nat.le_of_ble_eq_true rfl) dL_law_214 ⟨(by show _ ≤ 600130; omega), (by show _ ≤ 7301080; omega)⟩ ?_
    refine y_top (tl (by omega) (bT3)) ?_
    refine y_iconst (v := 1) C0 dL_law_217 (by decide) ?_
    refine y_icmp_ne C0 231 dL_law_218 (by decide) (fun c_218 => y_widen (k := c + 4) (n := s + 24) (by omega) (by omega) (l231 zz)) (fun c_218 => ?_)
    refine y_aload_n C0 11 dL_law_221 rfl rfl ?_
    refine y_iload C0 7 dL_law_222 rfl ?_
    refine y_callK (As := [_]) (rest := _) (n := 1) C0 hX (mX4_unpick l hlf D cy adr M (nI k)) (unpick_ok h hk c_218) 4 rfl (by decide) ykd_54 gL_law_X4_unpick rfl rfl rfl (by decide +kernel) ⟨by decide, by decide⟩ rfl rfl (Nat.le_of_ble_eq_true rfl) dL_law_224 ⟨(by show _ ≤ 600130; omega), (by show _ ≤ 7301080; omega)⟩ ?_
    refine y_mem (show mo (unpO M (nI k)) (unpM M (bkI (nI k))) M = unpM M (0 + 4 + k) by rw [mo_none (unpick_ok h hk c_218), bkI_n (by omega)]) ?_
    refine y_pop C0 dL_law_227 rfl ?_
    refine y_goto C0 323 dL_law_228 (by decide) ?_
    refine y_sub [9, 10, 11, 12, 13] [(4, _), (3, _), (2, _), (1, _), (0, _)] rfl ?_
    refine y_widen (k := c + 10) (n := s + 60) (by omega) (by omega) ?_
    exact next _ n cm (h.unpick hk c_218) (by omega) (by omega)
  obtain ⟨z, hz, ez⟩ := bel_n (v >>> ((5 : Int32) &&& 31)) (k := 8) (by decide) (by decide)
  refine y_iload C0 7 dL_law_167 rfl ?_
  refine y_iconst (v := 5) C0 dL_law_169 (by decide) ?_
  refine y_ishr C0 dL_law_170 ?_
  refine y_bipush (v := 8) C0 dL_law_171 (by decide) ?_
  refine y_callH (As := [_, _]) (rest := _) (n := 2) C0 hB (mL_below l D cy b L xs _ _ (by decide)) gL_law_L_below rfl rfl rfl (by decide +kernel) ⟨by decide, by decide⟩ rfl rfl (Nat.le_of_ble_eq_true rfl) dL_law_173 ⟨(by show _ ≤ 600130; omega), (by show _ ≤ 7301080; omega)⟩ ?_
  refine y_top (ez) ?_
  refine y_istore C0 [(14, _), (13, _), (12, _), (11, _), (10, _), (8, _), (7, _), (6, _), (5, _), (4, _), (3, _), (2, _), (1, _), (0, _)] dL_law_176 (by decide) rfl ?_
  refine y_iload C0 0 dL_law_178 rfl ?_
  refine y_if_ne C0 204 dL_law_180 (by decide) (fun c_180 => y_widen (k := c + 2) (n := s + 12) (by omega) (by omega) (l204 (nI z))) (fun c_180 => ?_)
  refine y_aload_n C0 11 dL_law_183 rfl rfl ?_
  refine y_iload C0 7 dL_law_184 rfl ?_
  refine y_iconst (v := 3) C0 dL_law_186 (by decide) ?_
  refine y_callK (As := [_, _]) (rest := _) (n := 2) C0 hX (mX4_told l hlf D cy adr M (nI k) 3) (ok_told h.I hk (k := 3) (by decide)) 4 rfl (by decide) ykd_54 gL_law_X4_told rfl rfl rfl (by decide +kernel) ⟨by decide, by decide⟩ rfl rfl (Nat.le_of_ble_eq_true rfl) dL_law_187 ⟨(by show _ ≤ 600130; omega), (by show _ ≤ 7301080; omega)⟩ ?_
  refine y_top (tl (by omega) (bT3)) ?_
  refine y_iconst (v := 5) C0 dL_law_190 (by decide) ?_
  refine y_icmp_ne C0 204 dL_law_191 (by decide) (fun c_191 => y_widen (k := c + 2) (n := s + 12) (by omega) (by omega) (l204 (nI z))) (fun c_191 => ?_)
  refine y_aload_n C0 11 dL_law_194 rfl rfl ?_
  refine y_iload C0 7 dL_law_195 rfl ?_
  refine y_callK (As := [_]) (rest := _) (n := 1) C0 hX (mX4_sell l hlf D cy adr M (nI k)) (sell_ok h hk c_191) 4 rfl (by decide) ykd_54 gL_law_X4_sell rfl rfl rfl (by decide +kernel) ⟨by decide, by decide⟩ rfl rfl (Nat.le_of_ble_eq_true rfl) dL_law_197 ⟨(by show _ ≤ 600130; omega), (by show _ ≤ 7301080; omega)⟩ ?_
  refine y_mem (show mo (selO M (nI k)) (selM M (bkI (nI k))) M = selM M (0 + 4 + k) by rw [mo_none (sell_ok h hk c_191), bkI_n (by omega)]) ?_
  refine y_pop C0 dL_law_200 rfl ?_
  refine y_goto C0 323 dL_law_201 (by decide) ?_
  refine y_sub [9, 10, 11, 12, 13] [(4, _), (3, _), (2, _), (1, _), (0, _)] rfl ?_
  refine y_widen (k := c + 10) (n := s + 60) (by omega) (by omega) ?_
  exact next _ n (cm + 126) (h.sell hk c_191) (by omega) (by omega)
end YLaw
