section YLaw
variable {K : yK} {l : Launch} {D : va_G} {cy : Nat → ClassId} {adr : Nat → Nat} {Q : State → Prop} {ret : Option FieldType} {b L B : Nat} {xs : Nat → Int32}
set_option maxRecDepth 100000 in
set_option maxHeartbeats 4000000 in
theorem law_sums (hlf : l.stackTraces = false) (C0 : Cx K cL_law RL wsL_law 20 ret D cy) (hX : CX K) {c s t n cm : Nat} (hb7 : B ≤ 7) (hc : c ≤ 20000) (hs : s ≤ 100000) (ht : t ≤ 20) (hn : n ≤ 1000) (hcm : cm ≤ 10000) {M : yM} (h : PI M B 3 (300 + n) cm)
    (next : Y K l room_1 D cy adr 20 (c + 8) (s + 48) Q M [] [(4, .int (nI t)), (3, .int (nI n)), (2, .ref (adr 54)), (1, .int (nI B)), (0, .ref b)] 397 []) : Y K l room_1 D cy adr 20 (c) (s) Q M [] [(4, .int (nI t)), (3, .int (nI n)), (2, .ref (adr 54)), (1, .int (nI B)), (0, .ref b)] 323 [] := by
  obtain ⟨T, W, Lo, bo, g, co, w, ⟨e7, e10, eT⟩, ⟨e11, hLo⟩, ⟨e8, hbo⟩, ⟨e9, hg⟩, ⟨e6, hco⟩, ef, ew⟩ := h.1.2.2
  refine y_aload_n C0 2 dL_law_323 rfl rfl ?_
  refine y_bipush (v := 10) C0 dL_law_324 (by decide) ?_
  refine y_callK (As := [_]) (rest := _) (n := 1) C0 hX (mX4_count l hlf D cy adr M 10) (ok_count (k := 10) (by decide)) 4 rfl (by decide) ykd_54 gL_law_X4_count rfl rfl rfl (by decide +kernel) ⟨by decide, by decide⟩ rfl rfl (Nat.le_of_ble_eq_true rfl) dL_law_326 ⟨(by show _ ≤ 600130; omega), (by show _ ≤ 7301080; omega)⟩ ?_
  refine y_top (cT10.trans e7) ?_
  refine y_sipush (v := nI 300) C0 dL_law_329 (by decide) ?_
  refine y_iload_n C0 1 dL_law_332 rfl rfl ?_
  refine y_iadd C0 dL_law_333 ?_
  refine y_top (nI_add 300 n) ?_
  refine y_aload_n C0 2 dL_law_334 rfl rfl ?_
  refine y_bipush (v := 13) C0 dL_law_335 (by decide) ?_
  refine y_callK (As := [_]) (rest := _) (n := 1) C0 hX (mX4_count l hlf D cy adr M 13) (ok_count (k := 13) (by decide)) 4 rfl (by decide) ykd_54 gL_law_X4_count rfl rfl rfl (by decide +kernel) ⟨by decide, by decide⟩ rfl rfl (Nat.le_of_ble_eq_true rfl) dL_law_337 ⟨(by show _ ≤ 600130; omega), (by show _ ≤ 7301080; omega)⟩ ?_
  refine y_top (cT13.trans e10) ?_
  refine y_isub C0 dL_law_340 ?_
  refine y_top (pk_sub (by omega)) ?_
  refine y_icmp_ne C0 395 dL_law_341 (by decide) (fun c => absurd c ((fun z => z (by rw [show T = 300 + n - W by omega])))) (fun _ => ?_)
  refine y_aload_n C0 2 dL_law_344 rfl rfl ?_
  refine y_bipush (v := 10) C0 dL_law_345 (by decide) ?_
  refine y_callK (As := [_]) (rest := _) (n := 1) C0 hX (mX4_count l hlf D cy adr M 10) (ok_count (k := 10) (by decide)) 4 rfl (by decide) ykd_54 gL_law_X4_count rfl rfl rfl (by decide +kernel) ⟨by decide, by decide⟩ rfl rfl (Nat.le_of_ble_eq_true rfl) dL_law_347 ⟨(by show _ ≤ 600130; omega), (by show _ ≤ 7301080; omega)⟩ ?_
  refine y_top (cT10.trans e7) ?_
  refine y_if_lt C0 395 dL_law_350 (by decide) (fun c => absurd c (nI_pos (by omega))) (fun _ => ?_)
  refine y_aload_n C0 2 dL_law_353 rfl rfl ?_
  refine y_bipush (v := 11) C0 dL_law_354 (by decide) ?_
  refine y_callK (As := [_]) (rest := _) (n := 1) C0 hX (mX4_count l hlf D cy adr M 11) (ok_count (k := 11) (by decide)) 4 rfl (by decide) ykd_54 gL_law_X4_count rfl rfl rfl (by decide +kernel) ⟨by decide, by decide⟩ rfl rfl (Nat.le_of_ble_eq_true rfl) dL_law_356 ⟨(by show _ ≤ 600130; omega), (by show _ ≤ 7301080; omega)⟩ ?_
  refine y_top (cT11.trans e8) ?_
  refine y_if_lt C0 395 dL_law_359 (by decide) (fun c => absurd c (nI_pos (by omega))) (fun _ => ?_)
  refine y_aload_n C0 2 dL_law_362 rfl rfl ?_
  refine y_bipush (v := 12) C0 dL_law_363 (by decide) ?_
  refine y_callK (As := [_]) (rest := _) (n := 1) C0 hX (mX4_count l hlf D cy adr M 12) (ok_count (k := 12) (by decide)) 4 rfl (by decide) ykd_54 gL_law_X4_count rfl rfl rfl (by decide +kernel) ⟨by decide, by decide⟩ rfl rfl (Nat.le_of_ble_eq_true rfl) dL_law_365 ⟨(by show _ ≤ 600130; omega), (by show _ ≤ 7301080; omega)⟩ ?_
  refine y_top (cT12.trans e9) ?_
  refine y_if_lt C0 395 dL_law_368 (by decide) (fun c => absurd c (nI_pos (by omega))) (fun _ => ?_)
  refine y_aload_n C0 2 dL_law_371 rfl rfl ?_
  refine y_bipush (v := 9) C0 dL_law_372 (by decide) ?_
  refine y_callK (As := [_]) (rest := _) (n := 1) C0 hX (mX4_count l hlf D cy adr M 9) (ok_count (k := 9) (by decide)) 4 rfl (by decide) ykd_54 gL_law_X4_count rfl rfl rfl (by decide +kernel) ⟨by decide, by decide⟩ rfl rfl (Nat.le_of_ble_eq_true rfl) dL_law_374 ⟨(by show _ ≤ 600130; omega), (by show _ ≤ 7301080; omega)⟩ ?_
  refine y_top (cT9.trans e6) ?_
  refine y_if_lt C0 395 dL_law_377 (by decide) (fun c => absurd c (nI_pos (by omega))) (fun _ => ?_)
  refine y_aload_n C0 2 dL_law_380 rfl rfl ?_
  refine y_bipush (v := 14) C0 dL_law_381 (by decide) ?_
  refine y_callK (As := [_]) (rest := _) (n := 1) C0 hX (mX4_count l hlf D cy adr M 14) (ok_count (k := 14) (by decide)) 4 rfl (by decide) ykd_54 gL_law_X4_count rfl rfl rfl (by decide +kernel) ⟨by decide, by decide⟩ rfl rfl (Nat.le_of_ble_eq_true rfl) dL_law_383 ⟨(by show _ ≤ 600130; omega), (by show _ ≤ 7301080; omega)⟩ ?_
  refine y_top (cT14.trans e11) ?_
  refine y_aload_n C0 2 dL_law_386 rfl rfl ?_
  refine y_bipush (v := 13) C0 dL_law_387 (by decide) ?_
  refine y_callK (As := [_]) (rest := _) (n := 1) C0 hX (mX4_count l hlf D cy adr M 13) (ok_count (k := 13) (by decide)) 4 rfl (by decide) ykd_54 gL_law_X4_count rfl rfl rfl (by decide +kernel) ⟨by decide, by decide⟩ rfl rfl (Nat.le_of_ble_eq_true rfl) dL_law_389 ⟨(by show _ ≤ 600130; omega), (by show _ ≤ 7301080; omega)⟩ ?_
  refine y_top (cT13.trans e10) ?_
  refine y_icmp_le C0 397 dL_law_392 (by decide) (fun _ => ?_) (fun c => absurd (nI_le (by omega) (by omega)) c)
  exact next
set_option maxRecDepth 100000 in
set_option maxHeartbeats 4000000 in
theorem law_books (hlf : l.stackTraces = false) (C0 : Cx K cL_law RL wsL_law 20 ret D cy) (hX : CX K) {c s t n cm q : Nat} (hb7 : B ≤ 7) (hc : c ≤ 20000) (hs : s ≤ 100000) (ht : t ≤ 20) (hn : n ≤ 1000) (hcm : cm ≤ 10000) {M : yM} (h : PI M B 3 (300 + n) cm)
    (next : Y K l room_1 D cy adr 20 (c + 280) (s + 1680) Q M [(q, .inl (cy 0, 7, .inl (fun j => nI (stC M j (B)))))] [(17, .int (nI (B))), (16, .int (nI 0)), (15, .ref q), (4, .int (nI t)), (3, .int (nI n)), (2, .ref (adr 54)), (1, .int (nI B)), (0, .ref b)] 638 []) : ∀ (m k : Nat), B - k = m → k ≤ B → Y K l room_1 D cy adr 20 (c + 40 * k) (s + 240 * k) Q M [(q, .inl (cy 0, 7, .inl (fun j => nI (stC M j (k)))))] [(17, .int (nI (k))), (16, .int (nI 0)), (15, .ref q), (4, .int (nI t)), (3, .int (nI n)), (2, .ref (adr 54)), (1, .int (nI B)), (0, .ref b)] 409 [] := by
  intro m
  induction m using Nat.strongRecOn with
  | _ m ih =>
    intro k hm hkB
    refine y_iload C0 0 dL_law_409 rfl ?_
    refine y_iload_n C0 6 dL_law_411 rfl rfl ?_
    refine y_icmp_ge C0 638 dL_law_412 (by decide) (fun c9 => ?_) (fun c9 => ?_)
    · have he := ct_end (N := B) (by omega) hkB c9
      subst he
      refine y_widen (k := c + 280) (n := s + 1680) (by omega) (by omega) ?_
      exact next
    · have hk := ct_lt (N := B) (by omega) hkB c9
      have hdec : B - (k + 1) < m := by omega
      obtain ⟨t9, ht9, et, f1, f5, f2, f11, ⟨g1, g2, g3, g4⟩, f0, f8⟩ := book_f h hk
      have ect : cN (M (0 + 4 + k) 4) = t9 := by rw [et, cN_n (by omega)]
      refine y_aload_n C0 5 dL_law_415 rfl rfl ?_
      refine y_iload C0 0 dL_law_416 rfl ?_
      refine y_iconst (v := 3) C0 dL_law_418 (by decide) ?_
      refine y_callK (As := [_, _]) (rest := _) (n := 2) C0 hX (mX4_told l hlf D cy adr M (nI k) 3) (ok_told h.I hk (k := 3) (by decide)) 4 rfl (by decide) ykd_54 gL_law_X4_told rfl rfl rfl (by decide +kernel) ⟨by decide, by decide⟩ rfl rfl (Nat.le_of_ble_eq_true rfl) dL_law_419 ⟨(by show _ ≤ 600130; omega), (by show _ ≤ 7301080; omega)⟩ ?_
      refine y_top (tl (by omega) (bT3.trans et)) ?_
      refine y_istore C0 [(18, _), (17, _), (16, _), (15, _), (4, _), (3, _), (2, _), (1, _), (0, _)] dL_law_422 (by decide) rfl ?_
      refine y_aload C0 3 dL_law_424 rfl ?_
      refine y_iload C0 0 dL_law_426 rfl ?_
      refine y_dup2 C0 dL_law_428 rfl rfl ?_
      refine y_ialdE C0 (t9) rfl (by omega) dL_law_429 ?_
      refine y_iconst (v := 1) C0 dL_law_430 (by decide) ?_
      refine y_iadd C0 dL_law_431 ?_
      refine y_iastE C0 (t9) rfl (by omega) dL_law_432 ?_
      refine y_E (show _ = [(q, .inl (cy 0, 7, .inl (fun j => nI (stC M j (k + 1)))))] by rw [many_up ect]) ?_
      rcases (show t9 = 0 ∨ t9 = 1 ∨ t9 = 2 ∨ 3 ≤ t9 by omega) with q0 | q1 | q2 | q3
      · subst q0
        refine y_aload_n C0 6 dL_law_433 rfl rfl ?_
        refine y_iload C0 1 dL_law_434 rfl ?_
        refine y_iconst (v := 4) C0 dL_law_436 (by decide) ?_
        refine y_callK (As := [_, _]) (rest := _) (n := 2) C0 hX (mX4_told l hlf D cy adr M (nI k) 4) (ok_told h.I hk (k := 4) (by decide)) 4 rfl (by decide) ykd_54 gL_law_X4_told rfl rfl rfl (by decide +kernel) ⟨by decide, by decide⟩ rfl rfl (Nat.le_of_ble_eq_true rfl) dL_law_437 ⟨(by show _ ≤ 600130; omega), (by show _ ≤ 7301080; omega)⟩ ?_
        refine y_top (tl (by omega) (bT4.trans (f5 (by decide)))) ?_
        refine y_if_lt C0 447 dL_law_440 (by decide) (fun _ => ?_) (fun c => absurd ((by decide : (-1 : Int32) < 0)) c)
        refine y_iconst (v := 0) C0 dL_law_447 (by decide) ?_
        refine y_istore C0 [(19, _), (18, _), (17, _), (16, _), (15, _), (4, _), (3, _), (2, _), (1, _), (0, _)] dL_law_448 (by decide) rfl ?_
        refine y_iload C0 0 dL_law_450 rfl ?_
        refine y_iload C0 1 dL_law_452 rfl ?_
        refine y_iconst (v := 1) C0 dL_law_454 (by decide) ?_
        refine y_icmp_ne C0 462 dL_law_455 (by decide) (fun _ => ?_) (fun c => absurd c ((by decide : ¬ nI 0 = (1 : Int32))))
        refine y_iconst (v := 0) C0 dL_law_462 (by decide) ?_
        refine y_icmp_ne C0 630 dL_law_463 (by decide) (fun c => absurd c ((fun z => z rfl))) (fun _ => ?_)
        refine y_iload C0 0 dL_law_466 rfl ?_
        refine y_if_eq C0 488 dL_law_468 (by decide) (fun _ => ?_) (fun c => absurd (rfl) c)
        refine y_aload_n C0 7 dL_law_488 rfl rfl ?_
        refine y_iload C0 2 dL_law_489 rfl ?_
        refine y_bipush (v := 8) C0 dL_law_491 (by decide) ?_
        refine y_callK (As := [_, _]) (rest := _) (n := 2) C0 hX (mX4_told l hlf D cy adr M (nI k) 8) (ok_told h.I hk (k := 8) (by decide)) 4 rfl (by decide) ykd_54 gL_law_X4_told rfl rfl rfl (by decide +kernel) ⟨by decide, by decide⟩ rfl rfl (Nat.le_of_ble_eq_true rfl) dL_law_493 ⟨(by show _ ≤ 600130; omega), (by show _ ≤ 7301080; omega)⟩ ?_
        refine y_top (tl (by omega) (bT8.trans (f11 (by decide)))) ?_
        refine y_if_le C0 503 dL_law_496 (by decide) (fun _ => ?_) (fun c => absurd ((by decide : (0 : Int32) ≤ 0)) c)
        refine y_iconst (v := 0) C0 dL_law_503 (by decide) ?_
        refine y_iload C0 1 dL_law_504 rfl ?_
        refine y_iconst (v := 2) C0 dL_law_506 (by decide) ?_
        refine y_icmp_ne C0 514 dL_law_507 (by decide) (fun _ => ?_) (fun c => absurd c ((by decide : ¬ nI 0 = (2 : Int32))))
        refine y_iconst (v := 0) C0 dL_law_514 (by decide) ?_
        refine y_icmp_ne C0 630 dL_law_515 (by decide) (fun c => absurd c ((fun z => z rfl))) (fun _ => ?_)
        refine y_aload_n C0 7 dL_law_518 rfl rfl ?_
        refine y_iload C0 2 dL_law_519 rfl ?_
        refine y_iconst (v := 5) C0 dL_law_521 (by decide) ?_
        refine y_callK (As := [_, _]) (rest := _) (n := 2) C0 hX (mX4_told l hlf D cy adr M (nI k) 5) (ok_told h.I hk (k := 5) (by decide)) 4 rfl (by decide) ykd_54 gL_law_X4_told rfl rfl rfl (by decide +kernel) ⟨by decide, by decide⟩ rfl rfl (Nat.le_of_ble_eq_true rfl) dL_law_522 ⟨(by show _ ≤ 600130; omega), (by show _ ≤ 7301080; omega)⟩ ?_
        refine y_top (tl (by omega) (bT5)) ?_
        refine y_aload_n C0 7 dL_law_525 rfl rfl ?_
        refine y_iload C0 2 dL_law_526 rfl ?_
        refine y_iconst (v := 0) C0 dL_law_528 (by decide) ?_
        refine y_callK (As := [_, _]) (rest := _) (n := 2) C0 hX (mX4_told l hlf D cy adr M (nI k) 0) (ok_told h.I hk (k := 0) (by decide)) 4 rfl (by decide) ykd_54 gL_law_X4_told rfl rfl rfl (by decide +kernel) ⟨by decide, by decide⟩ rfl rfl (Nat.le_of_ble_eq_true rfl) dL_law_529 ⟨(by show _ ≤ 600130; omega), (by show _ ≤ 7301080; omega)⟩ ?_
        refine y_top (tl (by omega) (bT0)) ?_
        refine y_icmp_gt C0 630 dL_law_532 (by decide) (fun c => absurd c (g1)) (fun _ => ?_)
        refine y_aload_n C0 7 dL_law_535 rfl rfl ?_
        refine y_iload C0 2 dL_law_536 rfl ?_
        refine y_bipush (v := 7) C0 dL_law_538 (by decide) ?_
        refine y_callK (As := [_, _]) (rest := _) (n := 2) C0 hX (mX4_told l hlf D cy adr M (nI k) 7) (ok_told h.I hk (k := 7) (by decide)) 4 rfl (by decide) ykd_54 gL_law_X4_told rfl rfl rfl (by decide +kernel) ⟨by decide, by decide⟩ rfl rfl (Nat.le_of_ble_eq_true rfl) dL_law_540 ⟨(by show _ ≤ 600130; omega), (by show _ ≤ 7301080; omega)⟩ ?_
        refine y_top (tl (by omega) (bT7)) ?_
        refine y_aload_n C0 7 dL_law_543 rfl rfl ?_
        refine y_iload C0 2 dL_law_544 rfl ?_
        refine y_iconst (v := 5) C0 dL_law_546 (by decide) ?_
        refine y_callK (As := [_, _]) (rest := _) (n := 2) C0 hX (mX4_told l hlf D cy adr M (nI k) 5) (ok_told h.I hk (k := 5) (by decide)) 4 rfl (by decide) ykd_54 gL_law_X4_told rfl rfl rfl (by decide +kernel) ⟨by decide, by decide⟩ rfl rfl (Nat.le_of_ble_eq_true rfl) dL_law_547 ⟨(by show _ ≤ 600130; omega), (by show _ ≤ 7301080; omega)⟩ ?_
        refine y_top (tl (by omega) (bT5)) ?_
        refine y_icmp_gt C0 630 dL_law_550 (by decide) (fun c => absurd c (g2)) (fun _ => ?_)
        refine y_aload_n C0 7 dL_law_553 rfl rfl ?_
        refine y_iload C0 2 dL_law_554 rfl ?_
        refine y_bipush (v := 9) C0 dL_law_556 (by decide) ?_
        refine y_callK (As := [_, _]) (rest := _) (n := 2) C0 hX (mX4_told l hlf D cy adr M (nI k) 9) (ok_told h.I hk (k := 9) (by decide)) 4 rfl (by decide) ykd_54 gL_law_X4_told rfl rfl rfl (by decide +kernel) ⟨by decide, by decide⟩ rfl rfl (Nat.le_of_ble_eq_true rfl) dL_law_558 ⟨(by show _ ≤ 600130; omega), (by show _ ≤ 7301080; omega)⟩ ?_
        refine y_top (tl (by omega) (bT9)) ?_
        refine y_aload_n C0 7 dL_law_561 rfl rfl ?_
        refine y_iload C0 2 dL_law_562 rfl ?_
        refine y_iconst (v := 2) C0 dL_law_564 (by decide) ?_
        refine y_callK (As := [_, _]) (rest := _) (n := 2) C0 hX (mX4_told l hlf D cy adr M (nI k) 2) (ok_told h.I hk (k := 2) (by decide)) 4 rfl (by decide) ykd_54 gL_law_X4_told rfl rfl rfl (by decide +kernel) ⟨by decide, by decide⟩ rfl rfl (Nat.le_of_ble_eq_true rfl) dL_law_565 ⟨(by show _ ≤ 600130; omega), (by show _ ≤ 7301080; omega)⟩ ?_
        refine y_top (tl (by omega) (bT2)) ?_
        refine y_icmp_gt C0 630 dL_law_568 (by decide) (fun c => absurd c (g3)) (fun _ => ?_)
        refine y_aload_n C0 7 dL_law_571 rfl rfl ?_
        refine y_iload C0 2 dL_law_572 rfl ?_
        refine y_bipush (v := 10) C0 dL_law_574 (by decide) ?_
        refine y_callK (As := [_, _]) (rest := _) (n := 2) C0 hX (mX4_told l hlf D cy adr M (nI k) 10) (ok_told h.I hk (k := 10) (by decide)) 4 rfl (by decide) ykd_54 gL_law_X4_told rfl rfl rfl (by decide +kernel) ⟨by decide, by decide⟩ rfl rfl (Nat.le_of_ble_eq_true rfl) dL_law_576 ⟨(by show _ ≤ 600130; omega), (by show _ ≤ 7301080; omega)⟩ ?_
        refine y_top (tl (by omega) (bT10)) ?_
        refine y_iconst (v := 1) C0 dL_law_579 (by decide) ?_
        refine y_icmp_lt C0 630 dL_law_580 (by decide) (fun c => absurd c (g4)) (fun _ => ?_)
        refine y_iload C0 1 dL_law_583 rfl ?_
        refine y_if_ne C0 607 dL_law_585 (by decide) (fun c => absurd c ((fun z => z rfl))) (fun _ => ?_)
        refine y_aload_n C0 7 dL_law_588 rfl rfl ?_
        refine y_iload C0 2 dL_law_589 rfl ?_
        refine y_iconst (v := 5) C0 dL_law_591 (by decide) ?_
        refine y_callK (As := [_, _]) (rest := _) (n := 2) C0 hX (mX4_told l hlf D cy adr M (nI k) 5) (ok_told h.I hk (k := 5) (by decide)) 4 rfl (by decide) ykd_54 gL_law_X4_told rfl rfl rfl (by decide +kernel) ⟨by decide, by decide⟩ rfl rfl (Nat.le_of_ble_eq_true rfl) dL_law_592 ⟨(by show _ ≤ 600130; omega), (by show _ ≤ 7301080; omega)⟩ ?_
        refine y_top (tl (by omega) (bT5.trans (f0 rfl).1)) ?_
        refine y_aload_n C0 7 dL_law_595 rfl rfl ?_
        refine y_iload C0 2 dL_law_596 rfl ?_
        refine y_bipush (v := 6) C0 dL_law_598 (by decide) ?_
        refine y_callK (As := [_, _]) (rest := _) (n := 2) C0 hX (mX4_told l hlf D cy adr M (nI k) 6) (ok_told h.I hk (k := 6) (by decide)) 4 rfl (by decide) ykd_54 gL_law_X4_told rfl rfl rfl (by decide +kernel) ⟨by decide, by decide⟩ rfl rfl (Nat.le_of_ble_eq_true rfl) dL_law_600 ⟨(by show _ ≤ 600130; omega), (by show _ ≤ 7301080; omega)⟩ ?_
        refine y_top (tl (by omega) (bT6.trans (f0 rfl).2)) ?_
        refine y_iadd C0 dL_law_603 ?_
        refine y_if_gt C0 630 dL_law_604 (by decide) (fun c => absurd c ((by decide : ¬ (0 : Int32) < 0 + 0))) (fun _ => ?_)
        refine y_iload C0 1 dL_law_607 rfl ?_
        refine y_iconst (v := 1) C0 dL_law_609 (by decide) ?_
        refine y_icmp_le C0 632 dL_law_610 (by decide) (fun _ => ?_) (fun c => absurd ((by decide : nI 0 ≤ (1 : Int32))) c)
        refine y_iinc (v := nI (k + 1)) C0 2 [(17, _), (19, _), (18, _), (16, _), (15, _), (4, _), (3, _), (2, _), (1, _), (0, _)] dL_law_632 rfl (yinc_ok rfl rfl) (by decide) rfl ?_
        refine y_goto C0 409 dL_law_635 (by decide) ?_
        refine y_sub [0, 3, 4, 5, 6, 7, 8, 9] [(17, _), (16, _), (15, _), (4, _), (3, _), (2, _), (1, _), (0, _)] rfl ?_
        refine y_widen (k := c + 40 * (k + 1)) (n := s + 240 * (k + 1)) (by omega) (by omega) ?_
        exact ih (B - (k + 1)) hdec (k + 1) rfl hk
      · subst q1
        obtain ⟨g, hg, eg, ebk⟩ := f1 rfl
        refine y_aload_n C0 6 dL_law_433 rfl rfl ?_
        refine y_iload C0 1 dL_law_434 rfl ?_
        refine y_iconst (v := 4) C0 dL_law_436 (by decide) ?_
        refine y_callK (As := [_, _]) (rest := _) (n := 2) C0 hX (mX4_told l hlf D cy adr M (nI k) 4) (ok_told h.I hk (k := 4) (by decide)) 4 rfl (by decide) ykd_54 gL_law_X4_told rfl rfl rfl (by decide +kernel) ⟨by decide, by decide⟩ rfl rfl (Nat.le_of_ble_eq_true rfl) dL_law_437 ⟨(by show _ ≤ 600130; omega), (by show _ ≤ 7301080; omega)⟩ ?_
        refine y_top (tl (by omega) (bT4.trans eg)) ?_
        refine y_if_lt C0 447 dL_law_440 (by decide) (fun c => absurd c (nI_pos (by omega))) (fun _ => ?_)
        refine y_iconst (v := 1) C0 dL_law_443 (by decide) ?_
        refine y_goto C0 448 dL_law_444 (by decide) ?_
        refine y_istore C0 [(19, _), (18, _), (17, _), (16, _), (15, _), (4, _), (3, _), (2, _), (1, _), (0, _)] dL_law_448 (by decide) rfl ?_
        refine y_iload C0 0 dL_law_450 rfl ?_
        refine y_iload C0 1 dL_law_452 rfl ?_
        refine y_iconst (v := 1) C0 dL_law_454 (by decide) ?_
        refine y_icmp_ne C0 462 dL_law_455 (by decide) (fun c => absurd c ((fun z => z rfl))) (fun _ => ?_)
        refine y_iconst (v := 1) C0 dL_law_458 (by decide) ?_
        refine y_goto C0 463 dL_law_459 (by decide) ?_
        refine y_icmp_ne C0 630 dL_law_463 (by decide) (fun c => absurd c ((fun z => z rfl))) (fun _ => ?_)
        refine y_iload C0 0 dL_law_466 rfl ?_
        refine y_if_eq C0 488 dL_law_468 (by decide) (fun c => absurd c ((by decide : ¬ (1 : Int32) = 0))) (fun _ => ?_)
        refine y_aload_n C0 7 dL_law_471 rfl rfl ?_
        refine y_aload_n C0 7 dL_law_472 rfl rfl ?_
        refine y_iload C0 2 dL_law_473 rfl ?_
        refine y_iconst (v := 4) C0 dL_law_475 (by decide) ?_
        refine y_callK (As := [_, _]) (rest := _) (n := 2) C0 hX (mX4_told l hlf D cy adr M (nI k) 4) (ok_told h.I hk (k := 4) (by decide)) 4 rfl (by decide) ykd_54 gL_law_X4_told rfl rfl rfl (by decide +kernel) ⟨by decide, by decide⟩ rfl rfl (Nat.le_of_ble_eq_true rfl) dL_law_476 ⟨(by show _ ≤ 600130; omega), (by show _ ≤ 7301080; omega)⟩ ?_
        refine y_top (tl (by omega) (bT4.trans eg)) ?_
        refine y_iconst (v := 1) C0 dL_law_479 (by decide) ?_
        refine y_callK (As := [_, _]) (rest := _) (n := 2) C0 hX (mX4_frame l hlf D cy adr M (nI g) 1) (ok_frame hg (k := 1) (by decide)) 4 rfl (by decide) ykd_54 gL_law_X4_frame rfl rfl rfl (by decide +kernel) ⟨by decide, by decide⟩ rfl rfl (Nat.le_of_ble_eq_true rfl) dL_law_480 ⟨(by show _ ≤ 600130; omega), (by show _ ≤ 7301080; omega)⟩ ?_
        refine y_top (fl hg (fT1.trans ebk)) ?_
        refine y_iload C0 2 dL_law_483 rfl ?_
        refine y_icmp_ne C0 630 dL_law_485 (by decide) (fun c => absurd c ((fun z => z rfl))) (fun _ => ?_)
        refine y_aload_n C0 7 dL_law_488 rfl rfl ?_
        refine y_iload C0 2 dL_law_489 rfl ?_
        refine y_bipush (v := 8) C0 dL_law_491 (by decide) ?_
        refine y_callK (As := [_, _]) (rest := _) (n := 2) C0 hX (mX4_told l hlf D cy adr M (nI k) 8) (ok_told h.I hk (k := 8) (by decide)) 4 rfl (by decide) ykd_54 gL_law_X4_told rfl rfl rfl (by decide +kernel) ⟨by decide, by decide⟩ rfl rfl (Nat.le_of_ble_eq_true rfl) dL_law_493 ⟨(by show _ ≤ 600130; omega), (by show _ ≤ 7301080; omega)⟩ ?_
        refine y_top (tl (by omega) (bT8.trans (f11 (by decide)))) ?_
        refine y_if_le C0 503 dL_law_496 (by decide) (fun _ => ?_) (fun c => absurd ((by decide : (0 : Int32) ≤ 0)) c)
        refine y_iconst (v := 0) C0 dL_law_503 (by decide) ?_
        refine y_iload C0 1 dL_law_504 rfl ?_
        refine y_iconst (v := 2) C0 dL_law_506 (by decide) ?_
        refine y_icmp_ne C0 514 dL_law_507 (by decide) (fun _ => ?_) (fun c => absurd c ((by decide : ¬ nI 1 = (2 : Int32))))
        refine y_iconst (v := 0) C0 dL_law_514 (by decide) ?_
        refine y_icmp_ne C0 630 dL_law_515 (by decide) (fun c => absurd c ((fun z => z rfl))) (fun _ => ?_)
        refine y_aload_n C0 7 dL_law_518 rfl rfl ?_
        refine y_iload C0 2 dL_law_519 rfl ?_
        refine y_iconst (v := 5) C0 dL_law_521 (by decide) ?_
        refine y_callK (As := [_, _]) (rest := _) (n := 2) C0 hX (mX4_told l hlf D cy adr M (nI k) 5) (ok_told h.I hk (k := 5) (by decide)) 4 rfl (by decide) ykd_54 gL_law_X4_told rfl rfl rfl (by decide +kernel) ⟨by decide, by decide⟩ rfl rfl (Nat.le_of_ble_eq_true rfl) dL_law_522 ⟨(by show _ ≤ 600130; omega), (by show _ ≤ 7301080; omega)⟩ ?_
        refine y_top (tl (by omega) (bT5)) ?_
        refine y_aload_n C0 7 dL_law_525 rfl rfl ?_
        refine y_iload C0 2 dL_law_526 rfl ?_
        refine y_iconst (v := 0) C0 dL_law_528 (by decide) ?_
        refine y_callK (As := [_, _]) (rest := _) (n := 2) C0 hX (mX4_told l hlf D cy adr M (nI k) 0) (ok_told h.I hk (k := 0) (by decide)) 4 rfl (by decide) ykd_54 gL_law_X4_told rfl rfl rfl (by decide +kernel) ⟨by decide, by decide⟩ rfl rfl (Nat.le_of_ble_eq_true rfl) dL_law_529 ⟨(by show _ ≤ 600130; omega), (by show _ ≤ 7301080; omega)⟩ ?_
        refine y_top (tl (by omega) (bT0)) ?_
        refine y_icmp_gt C0 630 dL_law_532 (by decide) (fun c => absurd c (g1)) (fun _ => ?_)
        refine y_aload_n C0 7 dL_law_535 rfl rfl ?_
        refine y_iload C0 2 dL_law_536 rfl ?_
        refine y_bipush (v := 7) C0 dL_law_538 (by decide) ?_
        refine y_callK (As := [_, _]) (rest := _) (n := 2) C0 hX (mX4_told l hlf D cy adr M (nI k) 7) (ok_told h.I hk (k := 7) (by decide)) 4 rfl (by decide) ykd_54 gL_law_X4_told rfl rfl rfl (by decide +kernel) ⟨by decide, by decide⟩ rfl rfl (Nat.le_of_ble_eq_true rfl) dL_law_540 ⟨(by show _ ≤ 600130; omega), (by show _ ≤ 7301080; omega)⟩ ?_
        refine y_top (tl (by omega) (bT7)) ?_
        refine y_aload_n C0 7 dL_law_543 rfl rfl ?_
        refine y_iload C0 2 dL_law_544 rfl ?_
        refine y_iconst (v := 5) C0 dL_law_546 (by decide) ?_
        refine y_callK (As := [_, _]) (rest := _) (n := 2) C0 hX (mX4_told l hlf D cy adr M (nI k) 5) (ok_told h.I hk (k := 5) (by decide)) 4 rfl (by decide) ykd_54 gL_law_X4_told rfl rfl rfl (by decide +kernel) ⟨by decide, by decide⟩ rfl rfl (Nat.le_of_ble_eq_true rfl) dL_law_547 ⟨(by show _ ≤ 600130; omega), (by show _ ≤ 7301080; omega)⟩ ?_
        refine y_top (tl (by omega) (bT5)) ?_
        refine y_icmp_gt C0 630 dL_law_550 (by decide) (fun c => absurd c (g2)) (fun _ => ?_)
        refine y_aload_n C0 7 dL_law_553 rfl rfl ?_
        refine y_iload C0 2 dL_law_554 rfl ?_
        refine y_bipush (v := 9) C0 dL_law_556 (by decide) ?_
        refine y_callK (As := [_, _]) (rest := _) (n := 2) C0 hX (mX4_told l hlf D cy adr M (nI k) 9) (ok_told h.I hk (k := 9) (by decide)) 4 rfl (by decide) ykd_54 gL_law_X4_told rfl rfl rfl (by decide +kernel) ⟨by decide, by decide⟩ rfl rfl (Nat.le_of_ble_eq_true rfl) dL_law_558 ⟨(by show _ ≤ 600130; omega), (by show _ ≤ 7301080; omega)⟩ ?_
        refine y_top (tl (by omega) (bT9)) ?_
        refine y_aload_n C0 7 dL_law_561 rfl rfl ?_
        refine y_iload C0 2 dL_law_562 rfl ?_
        refine y_iconst (v := 2) C0 dL_law_564 (by decide) ?_
        refine y_callK (As := [_, _]) (rest := _) (n := 2) C0 hX (mX4_told l hlf D cy adr M (nI k) 2) (ok_told h.I hk (k := 2) (by decide)) 4 rfl (by decide) ykd_54 gL_law_X4_told rfl rfl rfl (by decide +kernel) ⟨by decide, by decide⟩ rfl rfl (Nat.le_of_ble_eq_true rfl) dL_law_565 ⟨(by show _ ≤ 600130; omega), (by show _ ≤ 7301080; omega)⟩ ?_
        refine y_top (tl (by omega) (bT2)) ?_
        refine y_icmp_gt C0 630 dL_law_568 (by decide) (fun c => absurd c (g3)) (fun _ => ?_)
        refine y_aload_n C0 7 dL_law_571 rfl rfl ?_
        refine y_iload C0 2 dL_law_572 rfl ?_
        refine y_bipush (v := 10) C0 dL_law_574 (by decide) ?_
        refine y_callK (As := [_, _]) (rest := _) (n := 2) C0 hX (mX4_told l hlf D cy adr M (nI k) 10) (ok_told h.I hk (k := 10) (by decide)) 4 rfl (by decide) ykd_54 gL_law_X4_told rfl rfl rfl (by decide +kernel) ⟨by decide, by decide⟩ rfl rfl (Nat.le_of_ble_eq_true rfl) dL_law_576 ⟨(by show _ ≤ 600130; omega), (by show _ ≤ 7301080; omega)⟩ ?_
        refine y_top (tl (by omega) (bT10)) ?_
        refine y_iconst (v := 1) C0 dL_law_579 (by decide) ?_
        refine y_icmp_lt C0 630 dL_law_580 (by decide) (fun c => absurd c (g4)) (fun _ => ?_)
        refine y_iload C0 1 dL_law_583 rfl ?_
        refine y_if_ne C0 607 dL_law_585 (by decide) (fun _ => ?_) (fun c => absurd c ((by decide : ¬ nI 1 = (0 : Int32))))
        refine y_iload C0 1 dL_law_607 rfl ?_
        refine y_iconst (v := 1) C0 dL_law_609 (by decide) ?_
        refine y_icmp_le C0 632 dL_law_610 (by decide) (fun _ => ?_) (fun c => absurd ((by decide : nI 1 ≤ (1 : Int32))) c)
        refine y_iinc (v := nI (k + 1)) C0 2 [(17, _), (19, _), (18, _), (16, _), (15, _), (4, _), (3, _), (2, _), (1, _), (0, _)] dL_law_632 rfl (yinc_ok rfl rfl) (by decide) rfl ?_
        refine y_goto C0 409 dL_law_635 (by decide) ?_
        refine y_sub [0, 3, 4, 5, 6, 7, 8, 9] [(17, _), (16, _), (15, _), (4, _), (3, _), (2, _), (1, _), (0, _)] rfl ?_
        refine y_widen (k := c + 40 * (k + 1)) (n := s + 240 * (k + 1)) (by omega) (by omega) ?_
        exact ih (B - (k + 1)) hdec (k + 1) rfl hk
      · subst q2
        refine y_aload_n C0 6 dL_law_433 rfl rfl ?_
        refine y_iload C0 1 dL_law_434 rfl ?_
        refine y_iconst (v := 4) C0 dL_law_436 (by decide) ?_
        refine y_callK (As := [_, _]) (rest := _) (n := 2) C0 hX (mX4_told l hlf D cy adr M (nI k) 4) (ok_told h.I hk (k := 4) (by decide)) 4 rfl (by decide) ykd_54 gL_law_X4_told rfl rfl rfl (by decide +kernel) ⟨by decide, by decide⟩ rfl rfl (Nat.le_of_ble_eq_true rfl) dL_law_437 ⟨(by show _ ≤ 600130; omega), (by show _ ≤ 7301080; omega)⟩ ?_
        refine y_top (tl (by omega) (bT4.trans (f5 (by decide)))) ?_
        refine y_if_lt C0 447 dL_law_440 (by decide) (fun _ => ?_) (fun c => absurd ((by decide : (-1 : Int32) < 0)) c)
        refine y_iconst (v := 0) C0 dL_law_447 (by decide) ?_
        refine y_istore C0 [(19, _), (18, _), (17, _), (16, _), (15, _), (4, _), (3, _), (2, _), (1, _), (0, _)] dL_law_448 (by decide) rfl ?_
        refine y_iload C0 0 dL_law_450 rfl ?_
        refine y_iload C0 1 dL_law_452 rfl ?_
        refine y_iconst (v := 1) C0 dL_law_454 (by decide) ?_
        refine y_icmp_ne C0 462 dL_law_455 (by decide) (fun _ => ?_) (fun c => absurd c ((by decide : ¬ nI 2 = (1 : Int32))))
        refine y_iconst (v := 0) C0 dL_law_462 (by decide) ?_
        refine y_icmp_ne C0 630 dL_law_463 (by decide) (fun c => absurd c ((fun z => z rfl))) (fun _ => ?_)
        refine y_iload C0 0 dL_law_466 rfl ?_
        refine y_if_eq C0 488 dL_law_468 (by decide) (fun _ => ?_) (fun c => absurd (rfl) c)
        refine y_aload_n C0 7 dL_law_488 rfl rfl ?_
        refine y_iload C0 2 dL_law_489 rfl ?_
        refine y_bipush (v := 8) C0 dL_law_491 (by decide) ?_
        refine y_callK (As := [_, _]) (rest := _) (n := 2) C0 hX (mX4_told l hlf D cy adr M (nI k) 8) (ok_told h.I hk (k := 8) (by decide)) 4 rfl (by decide) ykd_54 gL_law_X4_told rfl rfl rfl (by decide +kernel) ⟨by decide, by decide⟩ rfl rfl (Nat.le_of_ble_eq_true rfl) dL_law_493 ⟨(by show _ ≤ 600130; omega), (by show _ ≤ 7301080; omega)⟩ ?_
        refine y_top (tl (by omega) (bT8)) ?_
        refine y_if_le C0 503 dL_law_496 (by decide) (fun c => absurd c (f2 rfl)) (fun _ => ?_)
        refine y_iconst (v := 1) C0 dL_law_499 (by decide) ?_
        refine y_goto C0 504 dL_law_500 (by decide) ?_
        refine y_iload C0 1 dL_law_504 rfl ?_
        refine y_iconst (v := 2) C0 dL_law_506 (by decide) ?_
        refine y_icmp_ne C0 514 dL_law_507 (by decide) (fun c => absurd c ((fun z => z rfl))) (fun _ => ?_)
        refine y_iconst (v := 1) C0 dL_law_510 (by decide) ?_
        refine y_goto C0 515 dL_law_511 (by decide) ?_
        refine y_icmp_ne C0 630 dL_law_515 (by decide) (fun c => absurd c ((fun z => z rfl))) (fun _ => ?_)
        refine y_aload_n C0 7 dL_law_518 rfl rfl ?_
        refine y_iload C0 2 dL_law_519 rfl ?_
        refine y_iconst (v := 5) C0 dL_law_521 (by decide) ?_
        refine y_callK (As := [_, _]) (rest := _) (n := 2) C0 hX (mX4_told l hlf D cy adr M (nI k) 5) (ok_told h.I hk (k := 5) (by decide)) 4 rfl (by decide) ykd_54 gL_law_X4_told rfl rfl rfl (by decide +kernel) ⟨by decide, by decide⟩ rfl rfl (Nat.le_of_ble_eq_true rfl) dL_law_522 ⟨(by show _ ≤ 600130; omega), (by show _ ≤ 7301080; omega)⟩ ?_
        refine y_top (tl (by omega) (bT5)) ?_
        refine y_aload_n C0 7 dL_law_525 rfl rfl ?_
        refine y_iload C0 2 dL_law_526 rfl ?_
        refine y_iconst (v := 0) C0 dL_law_528 (by decide) ?_
        refine y_callK (As := [_, _]) (rest := _) (n := 2) C0 hX (mX4_told l hlf D cy adr M (nI k) 0) (ok_told h.I hk (k := 0) (by decide)) 4 rfl (by decide) ykd_54 gL_law_X4_told rfl rfl rfl (by decide +kernel) ⟨by decide, by decide⟩ rfl rfl (Nat.le_of_ble_eq_true rfl) dL_law_529 ⟨(by show _ ≤ 600130; omega), (by show _ ≤ 7301080; omega)⟩ ?_
        refine y_top (tl (by omega) (bT0)) ?_
        refine y_icmp_gt C0 630 dL_law_532 (by decide) (fun c => absurd c (g1)) (fun _ => ?_)
        refine y_aload_n C0 7 dL_law_535 rfl rfl ?_
        refine y_iload C0 2 dL_law_536 rfl ?_
        refine y_bipush (v := 7) C0 dL_law_538 (by decide) ?_
        refine y_callK (As := [_, _]) (rest := _) (n := 2) C0 hX (mX4_told l hlf D cy adr M (nI k) 7) (ok_told h.I hk (k := 7) (by decide)) 4 rfl (by decide) ykd_54 gL_law_X4_told rfl rfl rfl (by decide +kernel) ⟨by decide, by decide⟩ rfl rfl (Nat.le_of_ble_eq_true rfl) dL_law_540 ⟨(by show _ ≤ 600130; omega), (by show _ ≤ 7301080; omega)⟩ ?_
        refine y_top (tl (by omega) (bT7)) ?_
        refine y_aload_n C0 7 dL_law_543 rfl rfl ?_
        refine y_iload C0 2 dL_law_544 rfl ?_
        refine y_iconst (v := 5) C0 dL_law_546 (by decide) ?_
        refine y_callK (As := [_, _]) (rest := _) (n := 2) C0 hX (mX4_told l hlf D cy adr M (nI k) 5) (ok_told h.I hk (k := 5) (by decide)) 4 rfl (by decide) ykd_54 gL_law_X4_told rfl rfl rfl (by decide +kernel) ⟨by decide, by decide⟩ rfl rfl (Nat.le_of_ble_eq_true rfl) dL_law_547 ⟨(by show _ ≤ 600130; omega), (by show _ ≤ 7301080; omega)⟩ ?_
        refine y_top (tl (by omega) (bT5)) ?_
        refine y_icmp_gt C0 630 dL_law_550 (by decide) (fun c => absurd c (g2)) (fun _ => ?_)
        refine y_aload_n C0 7 dL_law_553 rfl rfl ?_
        refine y_iload C0 2 dL_law_554 rfl ?_
        refine y_bipush (v := 9) C0 dL_law_556 (by decide) ?_
        refine y_callK (As := [_, _]) (rest := _) (n := 2) C0 hX (mX4_told l hlf D cy adr M (nI k) 9) (ok_told h.I hk (k := 9) (by decide)) 4 rfl (by decide) ykd_54 gL_law_X4_told rfl rfl rfl (by decide +kernel) ⟨by decide, by decide⟩ rfl rfl (Nat.le_of_ble_eq_true rfl) dL_law_558 ⟨(by show _ ≤ 600130; omega), (by show _ ≤ 7301080; omega)⟩ ?_
        refine y_top (tl (by omega) (bT9)) ?_
        refine y_aload_n C0 7 dL_law_561 rfl rfl ?_
        refine y_iload C0 2 dL_law_562 rfl ?_
        refine y_iconst (v := 2) C0 dL_law_564 (by decide) ?_
        refine y_callK (As := [_, _]) (rest := _) (n := 2) C0 hX (mX4_told l hlf D cy adr M (nI k) 2) (ok_told h.I hk (k := 2) (by decide)) 4 rfl (by decide) ykd_54 gL_law_X4_told rfl rfl rfl (by decide +kernel) ⟨by decide, by decide⟩ rfl rfl (Nat.le_of_ble_eq_true rfl) dL_law_565 ⟨(by show _ ≤ 600130; omega), (by show _ ≤ 7301080; omega)⟩ ?_
        refine y_top (tl (by omega) (bT2)) ?_
        refine y_icmp_gt C0 630 dL_law_568 (by decide) (fun c => absurd c (g3)) (fun _ => ?_)
        refine y_aload_n C0 7 dL_law_571 rfl rfl ?_
        refine y_iload C0 2 dL_law_572 rfl ?_
        refine y_bipush (v := 10) C0 dL_law_574 (by decide) ?_
        refine y_callK (As := [_, _]) (rest := _) (n := 2) C0 hX (mX4_told l hlf D cy adr M (nI k) 10) (ok_told h.I hk (k := 10) (by decide)) 4 rfl (by decide) ykd_54 gL_law_X4_told rfl rfl rfl (by decide +kernel) ⟨by decide, by decide⟩ rfl rfl (Nat.le_of_ble_eq_true rfl) dL_law_576 ⟨(by show _ ≤ 600130; omega), (by show _ ≤ 7301080; omega)⟩ ?_
        refine y_top (tl (by omega) (bT10)) ?_
        refine y_iconst (v := 1) C0 dL_law_579 (by decide) ?_
        refine y_icmp_lt C0 630 dL_law_580 (by decide) (fun c => absurd c (g4)) (fun _ => ?_)
        refine y_iload C0 1 dL_law_583 rfl ?_
        refine y_if_ne C0 607 dL_law_585 (by decide) (fun _ => ?_) (fun c => absurd c ((by decide : ¬ nI 2 = (0 : Int32))))
        refine y_iload C0 1 dL_law_607 rfl ?_
        refine y_iconst (v := 1) C0 dL_law_609 (by decide) ?_
        refine y_icmp_le C0 632 dL_law_610 (by decide) (fun c => absurd c ((by decide : ¬ nI 2 ≤ (1 : Int32)))) (fun _ => ?_)
        refine y_aload_n C0 7 dL_law_613 rfl rfl ?_
        refine y_iload C0 2 dL_law_614 rfl ?_
        refine y_iconst (v := 5) C0 dL_law_616 (by decide) ?_
        refine y_callK (As := [_, _]) (rest := _) (n := 2) C0 hX (mX4_told l hlf D cy adr M (nI k) 5) (ok_told h.I hk (k := 5) (by decide)) 4 rfl (by decide) ykd_54 gL_law_X4_told rfl rfl rfl (by decide +kernel) ⟨by decide, by decide⟩ rfl rfl (Nat.le_of_ble_eq_true rfl) dL_law_617 ⟨(by show _ ≤ 600130; omega), (by show _ ≤ 7301080; omega)⟩ ?_
        refine y_top (tl (by omega) (bT5.trans (f8 (by decide)))) ?_
        refine y_aload_n C0 7 dL_law_620 rfl rfl ?_
        refine y_iload C0 2 dL_law_621 rfl ?_
        refine y_iconst (v := 0) C0 dL_law_623 (by decide) ?_
        refine y_callK (As := [_, _]) (rest := _) (n := 2) C0 hX (mX4_told l hlf D cy adr M (nI k) 0) (ok_told h.I hk (k := 0) (by decide)) 4 rfl (by decide) ykd_54 gL_law_X4_told rfl rfl rfl (by decide +kernel) ⟨by decide, by decide⟩ rfl rfl (Nat.le_of_ble_eq_true rfl) dL_law_624 ⟨(by show _ ≤ 600130; omega), (by show _ ≤ 7301080; omega)⟩ ?_
        refine y_top (tl (by omega) (bT0)) ?_
        refine y_icmp_eq C0 632 dL_law_627 (by decide) (fun _ => ?_) (fun c => absurd (rfl) c)
        refine y_iinc (v := nI (k + 1)) C0 2 [(17, _), (19, _), (18, _), (16, _), (15, _), (4, _), (3, _), (2, _), (1, _), (0, _)] dL_law_632 rfl (yinc_ok rfl rfl) (by decide) rfl ?_
        refine y_goto C0 409 dL_law_635 (by decide) ?_
        refine y_sub [0, 3, 4, 5, 6, 7, 8, 9] [(17, _), (16, _), (15, _), (4, _), (3, _), (2, _), (1, _), (0, _)] rfl ?_
        refine y_widen (k := c + 40 * (k + 1)) (n := s + 240 * (k + 1)) (by omega) (by omega) ?_
        exact ih (B - (k + 1)) hdec (k + 1) rfl hk
      · have z1 : ¬ nI t9 = 1 := fun z => by
          have := nI_inj (b := 1) (by omega) (by decide) z
          omega
        have z2 : ¬ nI t9 = 2 := fun z => by
          have := nI_inj (b := 2) (by omega) (by decide) z
          omega
        have z0 : ¬ nI t9 = 0 := nI_ne0 (by omega) (by omega)
        have z3 : ¬ nI t9 ≤ 1 := nI_ge (a := 1) (by omega) (by omega)
        refine y_aload_n C0 6 dL_law_433 rfl rfl ?_
        refine y_iload C0 1 dL_law_434 rfl ?_
        refine y_iconst (v := 4) C0 dL_law_436 (by decide) ?_
        refine y_callK (As := [_, _]) (rest := _) (n := 2) C0 hX (mX4_told l hlf D cy adr M (nI k) 4) (ok_told h.I hk (k := 4) (by decide)) 4 rfl (by decide) ykd_54 gL_law_X4_told rfl rfl rfl (by decide +kernel) ⟨by decide, by decide⟩ rfl rfl (Nat.le_of_ble_eq_true rfl) dL_law_437 ⟨(by show _ ≤ 600130; omega), (by show _ ≤ 7301080; omega)⟩ ?_
        refine y_top (tl (by omega) (bT4.trans (f5 (by omega)))) ?_
        refine y_if_lt C0 447 dL_law_440 (by decide) (fun _ => ?_) (fun c => absurd ((by decide : (-1 : Int32) < 0)) c)
        refine y_iconst (v := 0) C0 dL_law_447 (by decide) ?_
        refine y_istore C0 [(19, _), (18, _), (17, _), (16, _), (15, _), (4, _), (3, _), (2, _), (1, _), (0, _)] dL_law_448 (by decide) rfl ?_
        refine y_iload C0 0 dL_law_450 rfl ?_
        refine y_iload C0 1 dL_law_452 rfl ?_
        refine y_iconst (v := 1) C0 dL_law_454 (by decide) ?_
        refine y_icmp_ne C0 462 dL_law_455 (by decide) (fun _ => ?_) (fun c => absurd c (z1))
        refine y_iconst (v := 0) C0 dL_law_462 (by decide) ?_
        refine y_icmp_ne C0 630 dL_law_463 (by decide) (fun c => absurd c ((fun z => z rfl))) (fun _ => ?_)
        refine y_iload C0 0 dL_law_466 rfl ?_
        refine y_if_eq C0 488 dL_law_468 (by decide) (fun _ => ?_) (fun c => absurd (rfl) c)
        refine y_aload_n C0 7 dL_law_488 rfl rfl ?_
        refine y_iload C0 2 dL_law_489 rfl ?_
        refine y_bipush (v := 8) C0 dL_law_491 (by decide) ?_
        refine y_callK (As := [_, _]) (rest := _) (n := 2) C0 hX (mX4_told l hlf D cy adr M (nI k) 8) (ok_told h.I hk (k := 8) (by decide)) 4 rfl (by decide) ykd_54 gL_law_X4_told rfl rfl rfl (by decide +kernel) ⟨by decide, by decide⟩ rfl rfl (Nat.le_of_ble_eq_true rfl) dL_law_493 ⟨(by show _ ≤ 600130; omega), (by show _ ≤ 7301080; omega)⟩ ?_
        refine y_top (tl (by omega) (bT8.trans (f11 (by omega)))) ?_
        refine y_if_le C0 503 dL_law_496 (by decide) (fun _ => ?_) (fun c => absurd ((by decide : (0 : Int32) ≤ 0)) c)
        refine y_iconst (v := 0) C0 dL_law_503 (by decide) ?_
        refine y_iload C0 1 dL_law_504 rfl ?_
        refine y_iconst (v := 2) C0 dL_law_506 (by decide) ?_
        refine y_icmp_ne C0 514 dL_law_507 (by decide) (fun _ => ?_) (fun c => absurd c (z2))
        refine y_iconst (v := 0) C0 dL_law_514 (by decide) ?_
        refine y_icmp_ne C0 630 dL_law_515 (by decide) (fun c => absurd c ((fun z => z rfl))) (fun _ => ?_)
        refine y_aload_n C0 7 dL_law_518 rfl rfl ?_
        refine y_iload C0 2 dL_law_519 rfl ?_
        refine y_iconst (v := 5) C0 dL_law_521 (by decide) ?_
        refine y_callK (As := [_, _]) (rest := _) (n := 2) C0 hX (mX4_told l hlf D cy adr M (nI k) 5) (ok_told h.I hk (k := 5) (by decide)) 4 rfl (by decide) ykd_54 gL_law_X4_told rfl rfl rfl (by decide +kernel) ⟨by decide, by decide⟩ rfl rfl (Nat.le_of_ble_eq_true rfl) dL_law_522 ⟨(by show _ ≤ 600130; omega), (by show _ ≤ 7301080; omega)⟩ ?_
        refine y_top (tl (by omega) (bT5)) ?_
        refine y_aload_n C0 7 dL_law_525 rfl rfl ?_
        refine y_iload C0 2 dL_law_526 rfl ?_
        refine y_iconst (v := 0) C0 dL_law_528 (by decide) ?_
        refine y_callK (As := [_, _]) (rest := _) (n := 2) C0 hX (mX4_told l hlf D cy adr M (nI k) 0) (ok_told h.I hk (k := 0) (by decide)) 4 rfl (by decide) ykd_54 gL_law_X4_told rfl rfl rfl (by decide +kernel) ⟨by decide, by decide⟩ rfl rfl (Nat.le_of_ble_eq_true rfl) dL_law_529 ⟨(by show _ ≤ 600130; omega), (by show _ ≤ 7301080; omega)⟩ ?_
        refine y_top (tl (by omega) (bT0)) ?_
        refine y_icmp_gt C0 630 dL_law_532 (by decide) (fun c => absurd c (g1)) (fun _ => ?_)
        refine y_aload_n C0 7 dL_law_535 rfl rfl ?_
        refine y_iload C0 2 dL_law_536 rfl ?_
        refine y_bipush (v := 7) C0 dL_law_538 (by decide) ?_
        refine y_callK (As := [_, _]) (rest := _) (n := 2) C0 hX (mX4_told l hlf D cy adr M (nI k) 7) (ok_told h.I hk (k := 7) (by decide)) 4 rfl (by decide) ykd_54 gL_law_X4_told rfl rfl rfl (by decide +kernel) ⟨by decide, by decide⟩ rfl rfl (Nat.le_of_ble_eq_true rfl) dL_law_540 ⟨(by show _ ≤ 600130; omega), (by show _ ≤ 7301080; omega)⟩ ?_
        refine y_top (tl (by omega) (bT7)) ?_
        refine y_aload_n C0 7 dL_law_543 rfl rfl ?_
        refine y_iload C0 2 dL_law_544 rfl ?_
        refine y_iconst (v := 5) C0 dL_law_546 (by decide) ?_
        refine y_callK (As := [_, _]) (rest := _) (n := 2) C0 hX (mX4_told l hlf D cy adr M (nI k) 5) (ok_told h.I hk (k := 5) (by decide)) 4 rfl (by decide) ykd_54 gL_law_X4_told rfl rfl rfl (by decide +kernel) ⟨by decide, by decide⟩ rfl rfl (Nat.le_of_ble_eq_true rfl) dL_law_547 ⟨(by show _ ≤ 600130; omega), (by show _ ≤ 7301080; omega)⟩ ?_
        refine y_top (tl (by omega) (bT5)) ?_
        refine y_icmp_gt C0 630 dL_law_550 (by decide) (fun c => absurd c (g2)) (fun _ => ?_)
        refine y_aload_n C0 7 dL_law_553 rfl rfl ?_
        refine y_iload C0 2 dL_law_554 rfl ?_
        refine y_bipush (v := 9) C0 dL_law_556 (by decide) ?_
        refine y_callK (As := [_, _]) (rest := _) (n := 2) C0 hX (mX4_told l hlf D cy adr M (nI k) 9) (ok_told h.I hk (k := 9) (by decide)) 4 rfl (by decide) ykd_54 gL_law_X4_told rfl rfl rfl (by decide +kernel) ⟨by decide, by decide⟩ rfl rfl (Nat.le_of_ble_eq_true rfl) dL_law_558 ⟨(by show _ ≤ 600130; omega), (by show _ ≤ 7301080; omega)⟩ ?_
        refine y_top (tl (by omega) (bT9)) ?_
        refine y_aload_n C0 7 dL_law_561 rfl rfl ?_
        refine y_iload C0 2 dL_law_562 rfl ?_
        refine y_iconst (v := 2) C0 dL_law_564 (by decide) ?_
        refine y_callK (As := [_, _]) (rest := _) (n := 2) C0 hX (mX4_told l hlf D cy adr M (nI k) 2) (ok_told h.I hk (k := 2) (by decide)) 4 rfl (by decide) ykd_54 gL_law_X4_told rfl rfl rfl (by decide +kernel) ⟨by decide, by decide⟩ rfl rfl (Nat.le_of_ble_eq_true rfl) dL_law_565 ⟨(by show _ ≤ 600130; omega), (by show _ ≤ 7301080; omega)⟩ ?_
        refine y_top (tl (by omega) (bT2)) ?_
        refine y_icmp_gt C0 630 dL_law_568 (by decide) (fun c => absurd c (g3)) (fun _ => ?_)
        refine y_aload_n C0 7 dL_law_571 rfl rfl ?_
        refine y_iload C0 2 dL_law_572 rfl ?_
        refine y_bipush (v := 10) C0 dL_law_574 (by decide) ?_
        refine y_callK (As := [_, _]) (rest := _) (n := 2) C0 hX (mX4_told l hlf D cy adr M (nI k) 10) (ok_told h.I hk (k := 10) (by decide)) 4 rfl (by decide) ykd_54 gL_law_X4_told rfl rfl rfl (by decide +kernel) ⟨by decide, by decide⟩ rfl rfl (Nat.le_of_ble_eq_true rfl) dL_law_576 ⟨(by show _ ≤ 600130; omega), (by show _ ≤ 7301080; omega)⟩ ?_
        refine y_top (tl (by omega) (bT10)) ?_
        refine y_iconst (v := 1) C0 dL_law_579 (by decide) ?_
        refine y_icmp_lt C0 630 dL_law_580 (by decide) (fun c => absurd c (g4)) (fun _ => ?_)
        refine y_iload C0 1 dL_law_583 rfl ?_
        refine y_if_ne C0 607 dL_law_585 (by decide) (fun _ => ?_) (fun c => absurd c (z0))
        refine y_iload C0 1 dL_law_607 rfl ?_
        refine y_iconst (v := 1) C0 dL_law_609 (by decide) ?_
        refine y_icmp_le C0 632 dL_law_610 (by decide) (fun c => absurd c (z3)) (fun _ => ?_)
        refine y_aload_n C0 7 dL_law_613 rfl rfl ?_
        refine y_iload C0 2 dL_law_614 rfl ?_
        refine y_iconst (v := 5) C0 dL_law_616 (by decide) ?_
        refine y_callK (As := [_, _]) (rest := _) (n := 2) C0 hX (mX4_told l hlf D cy adr M (nI k) 5) (ok_told h.I hk (k := 5) (by decide)) 4 rfl (by decide) ykd_54 gL_law_X4_told rfl rfl rfl (by decide +kernel) ⟨by decide, by decide⟩ rfl rfl (Nat.le_of_ble_eq_true rfl) dL_law_617 ⟨(by show _ ≤ 600130; omega), (by show _ ≤ 7301080; omega)⟩ ?_
        refine y_top (tl (by omega) (bT5.trans (f8 (by omega)))) ?_
        refine y_aload_n C0 7 dL_law_620 rfl rfl ?_
        refine y_iload C0 2 dL_law_621 rfl ?_
        refine y_iconst (v := 0) C0 dL_law_623 (by decide) ?_
        refine y_callK (As := [_, _]) (rest := _) (n := 2) C0 hX (mX4_told l hlf D cy adr M (nI k) 0) (ok_told h.I hk (k := 0) (by decide)) 4 rfl (by decide) ykd_54 gL_law_X4_told rfl rfl rfl (by decide +kernel) ⟨by decide, by decide⟩ rfl rfl (Nat.le_of_ble_eq_true rfl) dL_law_624 ⟨(by show _ ≤ 600130; omega), (by show _ ≤ 7301080; omega)⟩ ?_
        refine y_top (tl (by omega) (bT0)) ?_
        refine y_icmp_eq C0 632 dL_law_627 (by decide) (fun _ => ?_) (fun c => absurd (rfl) c)
        refine y_iinc (v := nI (k + 1)) C0 2 [(17, _), (19, _), (18, _), (16, _), (15, _), (4, _), (3, _), (2, _), (1, _), (0, _)] dL_law_632 rfl (yinc_ok rfl rfl) (by decide) rfl ?_
        refine y_goto C0 409 dL_law_635 (by decide) ?_
        refine y_sub [0, 3, 4, 5, 6, 7, 8, 9] [(17, _), (16, _), (15, _), (4, _), (3, _), (2, _), (1, _), (0, _)] rfl ?_
        refine y_widen (k := c + 40 * (k + 1)) (n := s + 240 * (k + 1)) (by omega) (by omega) ?_
        exact ih (B - (k + 1)) hdec (k + 1) rfl hk
end YLaw
