section YAl
variable {K : yK} {l : Launch} {D : va_G} {cy : Nat → ClassId} {Q : State → Prop} {ret : Option FieldType} {b L B : Nat} {xs : Nat → Int32}
set_option maxRecDepth 100000 in
set_option maxHeartbeats 4000000 in
theorem law_loop {adr : Nat → Nat} (hlf : l.stackTraces = false) (C0 : Cx K cL_law RL wsL_law 20 ret D cy) (hX : CX K) (hB : CB K b L xs) (hL : L ≤ 2048) (hb2 : 2 ≤ B) (hb7 : B ≤ 7) (hq : ∀ M lv, Y K l room_1 D cy adr 20 600130 7301080 Q M [] lv 765 [.int 1]) : ∀ (m t : Nat), 20 - t = m → t ≤ 20 → ∀ (M : yM) (n cm : Nat), PI M B 3 (300 + n) cm → n ≤ 40 * t → cm ≤ 30 + 126 * t → Y K l room_1 D cy adr 20 (200 + 500 * t) (2000 + 3000 * t) Q M [] [(4, .int (nI t)), (3, .int (nI n)), (2, .ref (adr 54)), (1, .int (nI B)), (0, .ref b)] 25 [] := by
  intro m
  induction m using Nat.strongRecOn with
  | _ m ih =>
    intro t hm ht M n cm h hn hcm
    refine y_iload C0 0 dL_law_25 rfl ?_
    refine y_bipush (v := nI 20) C0 dL_law_27 (by decide) ?_
    refine y_icmp_ge C0 764 dL_law_29 (by decide) (fun c9 => ?_) (fun c9 => ?_)
    · refine y_iconst (v := 1) C0 dL_law_764 (by decide) ?_
      refine y_widen (k := 600130) (n := 7301080) (by omega) (by omega) ?_
      exact hq _ _
    · have hlt := ct_lt (N := 20) (by decide) ht c9
      have hdec : 20 - (t + 1) < m := by omega
      refine law_ask hlf C0 hX hB hL hb2 hb7 (by omega) (by omega) ht (by omega) (by omega) h (fun M1 k x v u w best seen dd hk hx h1 hbest hseen => ?_)
      refine law_what hlf C0 hX hB hb7 (by omega) (by omega) ht (by omega) (by omega) hk hx h1 hbest hseen (fun M2 n2 cm2 h2 hn2 hcm2 => ?_)
      refine law_sums hlf C0 hX hb7 (by omega) (by omega) ht (by omega) (by omega) h2 ?_
      refine y_bipush (v := 7) C0 dL_law_397 (by decide) ?_
      refine y_newE C0 (by decide +kernel) dL_law_399 (by show _ ≤ 600130; omega) (by show _ ≤ 7301080; omega) (fun q => ?_)
      refine y_astore C0 [(15, _), (4, _), (3, _), (2, _), (1, _), (0, _)] dL_law_401 (by decide) rfl ?_
      refine y_iconst (v := nI 0) C0 dL_law_403 (by decide) ?_
      refine y_istore C0 [(16, _), (15, _), (4, _), (3, _), (2, _), (1, _), (0, _)] dL_law_404 (by decide) rfl ?_
      refine y_iconst (v := nI 0) C0 dL_law_406 (by decide) ?_
      refine y_istore C0 [(17, _), (16, _), (15, _), (4, _), (3, _), (2, _), (1, _), (0, _)] dL_law_407 (by decide) rfl ?_
      refine y_widen (k := (200 + 500 * t + 40) + 40 * 0) (n := (2000 + 3000 * t + 240) + 240 * 0) (by omega) (by omega) ?_
      refine law_books hlf C0 hX hb7 (c := 200 + 500 * t + 40) (s := 2000 + 3000 * t + 240) (by omega) (by omega) ht (by omega) (by omega) h2 ?_ (B - 0) 0 rfl (Nat.zero_le _)
      refine y_iconst (v := nI 0) C0 dL_law_638 (by decide) ?_
      refine y_istore C0 [(17, _), (16, _), (15, _), (4, _), (3, _), (2, _), (1, _), (0, _)] dL_law_639 (by decide) rfl ?_
      refine y_widen (k := (200 + 500 * t + 330) + 0) (n := (2000 + 3000 * t + 2000) + 6 * 0) (by omega) (by omega) ?_
      refine law_counts hlf C0 hX hb7 (c := 200 + 500 * t + 330) (s := 2000 + 3000 * t + 2000) (by omega) (by omega) ht (by omega) (by omega) h2 ?_ (7 - 0) 0 rfl (Nat.zero_le _)
      refine y_drop ?_
      obtain ⟨T, W, Lo, bo, g, co, w, ⟨e7, e10, eT⟩, -, -, -, -, ef, ew⟩ := h2.1.2.2
      refine y_iconst (v := nI 0) C0 dL_law_672 (by decide) ?_
      refine y_istore C0 [(17, _), (16, _), (15, _), (4, _), (3, _), (2, _), (1, _), (0, _)] dL_law_673 (by decide) rfl ?_
      refine y_sub [0, 1, 3, 4, 5, 6, 7] [(17, .int (nI 0)), (16, .int (nI (wS w 0))), (4, .int (nI t)), (3, .int (nI n2)), (2, .ref (adr 54)), (1, .int (nI B)), (0, .ref b)] rfl ?_
      refine y_widen (k := (200 + 500 * t + 350) + 10 * 0) (n := (2000 + 3000 * t + 2100) + 60 * 0) (by omega) (by omega) ?_
      refine law_frames hlf C0 hX hb7 (c := 200 + 500 * t + 350) (s := 2000 + 3000 * t + 2100) (by omega) (by omega) ht (by omega) (by omega) h2 ef ?_ (3 - 0) 0 rfl (Nat.zero_le _)
      refine y_iload C0 1 dL_law_745 rfl ?_
      refine y_aload_n C0 4 dL_law_747 rfl rfl ?_
      refine y_bipush (v := 13) C0 dL_law_748 (by decide) ?_
      refine y_callK (As := [_]) (rest := _) (n := 1) C0 hX (mX4_count l hlf D cy adr M2 13) (ok_count (k := 13) (by decide)) 4 rfl (by decide) ykd_54 gL_law_X4_count rfl rfl rfl (by decide +kernel) ⟨by decide, by decide⟩ rfl rfl (Nat.le_of_ble_eq_true rfl) dL_law_750 ⟨(by show _ ≤ 600130; omega), (by show _ ≤ 7301080; omega)⟩ ?_
      refine y_top (cT13.trans e10) ?_
      have es : wS w 3 = W := by
        show 0 + w 0 + w 1 + w 2 = W
        omega
      refine y_icmp_eq C0 758 dL_law_753 (by decide) (fun _ => ?_) (fun c => absurd (by rw [es]) c)
      refine y_iinc (v := nI (t + 1)) C0 2 [(4, _), (17, _), (16, _), (3, _), (2, _), (1, _), (0, _)] dL_law_758 rfl (yinc_ok rfl rfl) (by decide) rfl ?_
      refine y_goto C0 25 dL_law_761 (by decide) ?_
      refine y_sub [0, 3, 4, 5, 6] [(4, _), (3, _), (2, _), (1, _), (0, _)] rfl ?_
      refine y_widen (k := 200 + 500 * (t + 1)) (n := 2000 + 3000 * (t + 1)) (by omega) (by omega) ?_
      exact ih (20 - (t + 1)) hdec (t + 1) rfl hlt M2 n2 cm2 h2 (by omega) (by omega)
/-- the shop is called -/
theorem z_shop {R : Room} {nL cells slots index n : Nat} {lv : List (Nat × Value)} {pc : Nat} {cc : ByteArray} {own : String} {Ts : List Cond} {rest st0 : List Value} {ws' : List Cond} (C0 : Cx K cc own Ts nL ret D cy) (hO : CO K) (hX : CX K) (hB : CB K b L xs) (hA9 : match K with | (_, _, s, _, _, _, _, _, A) => ∀ q, A q ↔ s.heap.size ≤ q)
    (hM : Sh l D cy b L B xs) (hG : GoodIn Ts (va_wsS own index yL_shop wsL_shop)) (hw : wsL_shop = Cond.code yL_shop cL_shop 4 (some (.object "SewingFrames")) :: ws')
    (hd : yL_shop.cls ≠ "java/lang/invoke/MethodHandle" ∧ yL_shop.cls ≠ "java/lang/invoke/VarHandle" ∧ (parseMethodDescriptor yL_shop.desc).map (fun d => d.parameters.length) = some n) (hR : rL_shop.frames + 1 ≤ R.frames ∧ 8 + (4 + 11) + rL_shop.locals ≤ R.locals)
    (hn : 2 = n) (hst : st0 = .int (nI B) :: .ref b :: rest) (hcat : (rest.map fun v => v.category).sum ≤ 8) (d : decode cc pc = .ok (.invokestatic index, 3)) (hf : cells + 100 ≤ R.cells ∧ slots + 1000 ≤ R.slots)
    (kk : ∀ (adr : Nat → Nat) (M : yM), PI M B 3 300 30 → Y K l R D cy adr nL (cells + 100) (slots + 1000) Q M [] lv (pc + 3) (.ref (adr 54) :: rest)) : Z K l R D nL cells slots Q [] lv pc st0 := by
  obtain ⟨p, e, s, m, args, below, meth, c, A⟩ := K
  obtain ⟨hx, hb, hml, hown, hts, hK, hA, hr, hlk⟩ := C0
  obtain ⟨hXs, hbs, hbA⟩ := hB
  intro H locs ls hP hD hS hl
  have hF : ∀ q, H.size ≤ q → A q := fun q h => (hA9 q).mpr (Nat.le_trans hS.1 h)
  have hrun := va_runS (As := [.ref b, .int (nI B)]) (rest := rest) ⟨hx, hb, hml, hown, hts⟩ (hM H.size) (va_cwS n hts hG hw rfl rfl hd hR) (H := H) ⟨Psh_blind, fun U hU hW => ⟨rfl, by rw [hU], by rw [hU]; exact va_X.moved hW.alike (va_X.kept hXs (hS.2.1 b hbs hbA)), by rw [hU]; exact Nat.lt_of_lt_of_le hbs hS.1, va_K.moved hW.alike hK, yAO.moved hW.alike hO, yXP.to hX hU hW hS hF⟩⟩ (p := p) (l := l) (e := e) (below := below) (meth := meth) (c := c) (locs := locs) (cells := cells) (slots := slots) (g := F0 m pc ls st0) rfl hn hl.1 hst (lv_room (Nat.le_trans hcat (Nat.le_refl 8))) d hf
  intro T hT X
  obtain ⟨v9, st₀, t, T', L9, h0, X', hLL, e1, e2, ⟨adr, M, hv, hI, hp, hd9, hz, hk⟩, sg⟩ := hrun T hT X
  cases hv
  rw [h0] at hz hk
  have hPn : va_P D vwCl (ypl adr cy M ++ []) T'.heap := by rw [List.append_nil, e1]; exact hp
  have hDn : va_D A (ypl adr cy M ++ []) := by rw [List.append_nil]; exact hd9.weaken (fun _ q _ h => hF q.1 h)
  have hS1 : va_S A s.heap T'.heap (locs ++ L9) := by
    refine ⟨Nat.le_trans hS.1 (by rw [e1]; exact hz), fun z h1 h2 => ?_, fun z hz9 => ?_⟩
    · rw [e1, hk z (Nat.lt_of_lt_of_le h1 hS.1) (fun w => h2 (hF z w))]
      exact hS.2.1 z h1 h2
    · rcases List.mem_append.mp hz9 with h | h
      · exact hS.2.2 z h
      · exact hF _ (hLL z h)
  obtain ⟨t2, a1, b1⟩ := kk adr M hI T'.heap (locs ++ L9) ls hPn hDn hS1 hl T' rfl X'
  exact ⟨t2, sg t2 a1, b1⟩
set_option maxRecDepth 100000 in
set_option maxHeartbeats 4000000 in
/-- the law, from its start -/
theorem law_all (hlf : l.stackTraces = false) (C0 : Cx K cL_law RL wsL_law 20 ret D cy) (hO : CO K) (hX : CX K) (hB : CB K b L xs) (hA9 : match K with | (_, _, s, _, _, _, _, _, A) => ∀ q, A q ↔ s.heap.size ≤ q) (hL : L ≤ 2048) (hq : ∀ adr M lv, Y K l room_1 D cy adr 20 600130 7301080 Q M [] lv 765 [.int 1]) : Z K l room_1 D 20 0 0 Q [] [(0, .ref b)] 0 [] := by
  obtain ⟨j, hj, ej⟩ := bel_n (celV xs L 9) (k := 6) (by decide) (by decide)
  refine z_iconst (v := nI 2) C0 dL_law_0 (by decide) ?_
  refine z_aload_n C0 0 dL_law_1 rfl rfl ?_
  refine z_bipush (v := nI 9) C0 dL_law_2 (by decide) ?_
  refine z_callH (As := [_, _]) (rest := _) (n := 2) C0 hB (mL_cell l D cy b L xs 9 (by decide) hL) gL_law_L_cell rfl rfl rfl (by decide +kernel) ⟨by decide, by decide⟩ rfl rfl (Nat.le_of_ble_eq_true rfl) dL_law_4 ⟨(by show _ ≤ 600130; omega), (by show _ ≤ 7301080; omega)⟩ ?_
  refine z_bipush (v := 6) C0 dL_law_7 (by decide) ?_
  refine z_callH (As := [_, _]) (rest := _) (n := 2) C0 hB (mL_below l D cy b L xs _ _ (by decide)) gL_law_L_below rfl rfl rfl (by decide +kernel) ⟨by decide, by decide⟩ rfl rfl (Nat.le_of_ble_eq_true rfl) dL_law_9 ⟨(by show _ ≤ 600130; omega), (by show _ ≤ 7301080; omega)⟩ ?_
  refine z_iaddN C0 (a := 2) (b := j) rfl ej dL_law_12 ?_
  refine z_istore_n C0 [(1, _), (0, _)] dL_law_13 rfl (by decide) rfl ?_
  refine z_aload_n C0 1 dL_law_14 rfl rfl ?_
  refine z_iload_n C0 0 dL_law_15 rfl rfl ?_
  refine z_shop (B := 2 + j) (n := 2) C0 hO hX hB hA9 (mL_shop l hlf D cy b L (2 + j) xs hL (by omega)) gL_law_L_shop rfl (by decide +kernel) ⟨by decide, by decide⟩ rfl rfl (Nat.le_of_ble_eq_true rfl) dL_law_16 ⟨(by show _ ≤ 600130; omega), (by show _ ≤ 7301080; omega)⟩ (fun adr M h => ?_)
  refine y_astore_n C0 [(2, _), (1, _), (0, _)] dL_law_19 rfl (by decide) rfl ?_
  refine y_iconst (v := nI 0) C0 dL_law_20 (by decide) ?_
  refine y_istore_n C0 [(3, _), (2, _), (1, _), (0, _)] dL_law_21 rfl (by decide) rfl ?_
  refine y_iconst (v := nI 0) C0 dL_law_22 (by decide) ?_
  refine y_istore C0 [(4, _), (3, _), (2, _), (1, _), (0, _)] dL_law_23 (by decide) rfl ?_
  refine y_widen (k := 200 + 500 * 0) (n := 2000 + 3000 * 0) (by omega) (by omega) ?_
  exact law_loop hlf C0 hX hB hL (by omega) (by omega) (hq adr) (20 - 0) 0 rfl (Nat.zero_le _) M 0 30 h (by omega) (by omega)
end YAl
