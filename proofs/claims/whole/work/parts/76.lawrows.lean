section YLw
/-- the script that the law runs -/
def CB (K : yK) (b L : Nat) (xs : Nat → Int32) : Prop := match K with
  | (_, _, s, _, _, _, _, _, A) => va_X b L xs s s.heap ∧ b < s.heap.size ∧ ¬ A b
section
variable {K : yK} {l : Launch} {R : Room} {D : va_G} {cy : Nat → ClassId} {cL : ClassId} {adr : Nat → Nat} {nL cells slots mc ms : Nat} {Q : State → Prop} {M : yM} {E : va_W} {lv : List (Nat × Value)} {pc : Nat} {st : List Value} {cc : ByteArray} {own : String} {Ts : List Cond} {ret : Option FieldType} {q b L i : Nat} {xs : Nat → Int32}
theorem y_slen (C0 : Cx K cc own Ts nL ret D cy) (hB : CB K b L xs) (d : decode cc pc = .ok (.arraylength, 1)) (kk : Y K l R D cy adr nL cells slots Q M E lv (pc + 1) (.int (nI L) :: st)) : Y K l R D cy adr nL cells slots Q M E lv pc (.ref b :: st) := by
  obtain ⟨p, e, s, m, args, below, meth, c, A⟩ := K
  obtain ⟨hX, hb, hA⟩ := hB
  exact fun H locs ls hP hD hS hl => va_slen C0.1 C0.2.1 hX hb hA hS d (kk H locs ls hP hD hS hl)
theorem y_sld (C0 : Cx K cc own Ts nL ret D cy) (hB : CB K b L xs) {j : Nat} (hj : j < L) (hL : L ≤ 2048) {x : Int32} (hx : x = nI j) (d : decode cc pc = .ok (.iaload, 1)) (kk : Y K l R D cy adr nL cells slots Q M E lv (pc + 1) (.int (xs j) :: st)) : Y K l R D cy adr nL cells slots Q M E lv pc (.int x :: .ref b :: st) := by
  subst hx
  obtain ⟨p, e, s, m, args, below, meth, c, A⟩ := K
  obtain ⟨hX, hb, hA⟩ := hB
  intro H locs ls hP hD hS hl
  refine va_sld C0.1 C0.2.1 hX hb hA hS (vp_in_nI hj (by omega)) d ?_
  rw [nI_clamp (by omega)]
  exact kk H locs ls hP hD hS hl
theorem y_arg (C0 : Cx K cc own Ts nL ret D cy) (hB : CB K b L xs) (hL : L ≤ 2048) (k0 k4 : Nat) {n : Nat} (hn : i + n < L) (h0 : lv[k0]? = some (0, .ref b)) (h4 : lv[k4]? = some (4, .int (nI i))) {v : Int} (d0 : decode cc pc = .ok (.aload_n 0, 1)) (d1 : decode cc (pc + 1) = .ok (.iload 4, 2)) (d3 : decode cc (pc + 3) = .ok (.iconst v, 1)) (hv : Int32.ofInt v = nI n) (d4 : decode cc (pc + 4) = .ok (.iadd, 1)) (d5 : decode cc (pc + 5) = .ok (.iaload, 1)) (kk : Y K l R D cy adr nL cells slots Q M E lv (pc + 6) (.int (xs (i + n)) :: st)) : Y K l R D cy adr nL cells slots Q M E lv pc st := by
  refine y_aload_n C0 k0 d0 rfl h0 ?_
  refine y_iload C0 k4 d1 h4 ?_
  refine y_iconst C0 d3 hv ?_
  refine y_iaddN C0 (a := i) (b := n) rfl rfl d4 ?_
  exact y_sld C0 hB hn hL rfl d5 kk
theorem y_lcmpE (C0 : Cx K cc own Ts nL ret D cy) {x y : Int64} (h : x = y) (d : decode cc pc = .ok (.lcmp, 1)) (kk : Y K l R D cy adr nL cells slots Q M E lv (pc + 1) (.int 0 :: st)) : Y K l R D cy adr nL cells slots Q M E lv pc (.long y :: .long x :: st) := by
  subst h
  obtain ⟨p, e, s, m, args, below, meth, c, A⟩ := K
  intro H locs ls hP hD hS hl
  refine W.lcmp C0.1 C0.2.1 d ?_
  rw [(lg_cmp_eq x x).mpr rfl]
  exact kk H locs ls hP hD hS hl
theorem y_dload (C0 : Cx K cc own Ts nL ret D cy) (k : Nat) {j : Nat} {x : UInt64} (d : decode cc pc = .ok (.dload j, 2)) (hk : lv[k]? = some (j, .double x)) (kk : Y K l R D cy adr nL cells slots Q M E lv (pc + 2) (.double x :: st)) : Y K l R D cy adr nL cells slots Q M E lv pc st := by
  obtain ⟨p, e, s, m, args, below, meth, c, A⟩ := K
  exact fun H locs ls hP hD hS hl => lv_dload C0.1 C0.2.1 d (lv_at hl k hk) (kk H locs ls hP hD hS hl)
theorem y_dstore (C0 : Cx K cc own Ts nL ret D cy) {j : Nat} {x : UInt64} (lv' : List (Nat × Value)) (d : decode cc pc = .ok (.dstore j, 2)) (hn : j + 1 < nL) (hl' : (j, Value.double x) :: lv.filter (fun q => !(q.1 == j) && (!(q.1 == j + 1) && !(q.1 + 1 == j && q.2.category == 2))) = lv') (kk : Y K l R D cy adr nL cells slots Q M E lv' (pc + 2) st) : Y K l R D cy adr nL cells slots Q M E lv pc (.double x :: st) := by
  obtain ⟨p, e, s, m, args, below, meth, c, A⟩ := K
  exact fun H locs ls hP hD hS hl => lv_dstore C0.1 C0.2.1 d hl hn hl' (fun ls hl => kk H locs ls hP hD hS hl)
theorem y_dcmp (C0 : Cx K cc own Ts nL ret D cy) {x y : UInt64} {op : CmpOp} (d : decode cc pc = .ok (.dcmp op, 1)) (kk : Y K l R D cy adr nL cells slots Q M E lv (pc + 1) (.int (Op.cmpValue (FP.dcmp x y) op) :: st)) : Y K l R D cy adr nL cells slots Q M E lv pc (.double y :: .double x :: st) := by
  obtain ⟨p, e, s, m, args, below, meth, c, A⟩ := K
  exact fun H locs ls hP hD hS hl => lv_dcmp C0.1 C0.2.1 d (kk H locs ls hP hD hS hl)
abbrev LL (adr : Nat → Nat) (q b i : Nat) : List (Nat × Value) := [(4, .int (nI i)), (3, .ref q), (2, .ref (adr 55)), (1, .ref (adr 54)), (0, .ref b)]
/-- what follows the two calls -/
theorem law_tail (C0 : Cx K cL_law RL wsL_law 9 ret D cy) (hL : CL K D cL) (hc : cells ≤ 600000) (hs9 : slots ≤ 7000000) {N : yM} {k v bx : Int32} {o : Option String} {f : Nat → Int64} (hs : Step N o k v bx) (t : Nat)
    (d0 : decode cL_law t = .ok (.aload_n 2, 1)) (d1 : decode cL_law (t + 1) = .ok (.invokevirtual 73, 3)) (d4 : decode cL_law (t + 4) = .ok (.iload 5, 2)) (d6 : decode cL_law (t + 6) = .ok (.if_icmp .eq 5, 3)) (d11 : decode cL_law (t + 11) = .ok (.iload 5, 2)) (d13 : decode cL_law (t + 13) = .ok (.ifCond .ne 15, 3)) (d16 : decode cL_law (t + 16) = .ok (.aload_n 3, 1)) (d17 : decode cL_law (t + 17) = .ok (.iconst 0, 1)) (d18 : decode cL_law (t + 18) = .ok (.laload, 1)) (d19 : decode cL_law (t + 19) = .ok (.iload 6, 2)) (d21 : decode cL_law (t + 21) = .ok (.i2l, 1)) (d22 : decode cL_law (t + 22) = .ok (.lcmp, 1)) (d23 : decode cL_law (t + 23) = .ok (.ifCond .eq 5, 3)) {off : Int} (d28 : decode cL_law (t + 28) = .ok (.goto off, 3)) (hoff : ((t + 28 : Nat) : Int) + off = ((1157 : Nat) : Int))
    (next : ∀ N B S f', LInv N B S → Y K l room_1 D cy adr 9 cells slots Q N (yEo cL q f') (LL adr q b i) 1157 []) : Y K l room_1 D cy adr 9 cells slots Q N (yEo cL q (fo o f v)) [(6, .int bx), (5, .int k), (4, .int (nI i)), (3, .ref q), (2, .ref (adr 55)), (1, .ref (adr 54)), (0, .ref b)] t [] := by
  obtain ⟨⟨B', S', hI⟩, hk, hv⟩ := hs
  have fin : Y K l room_1 D cy adr 9 cells slots Q N (yEo cL q (fo o f v)) [(6, .int bx), (5, .int k), (4, .int (nI i)), (3, .ref q), (2, .ref (adr 55)), (1, .ref (adr 54)), (0, .ref b)] (t + 28) [] := by
    refine y_goto C0 1157 d28 hoff ?_
    refine y_sub [2, 3, 4, 5, 6] (LL adr q b i) rfl ?_
    exact next _ _ _ _ hI
  refine y_aload_n C0 4 d0 rfl rfl ?_
  refine y_callV (As := []) (rest := []) (n := 0) C0 (mX5_thrown l D cy adr N) 5 rfl (by decide) ykd_55 gL_law_X5_thrown rfl rfl rfl (by decide +kernel) ⟨by decide, by decide⟩ rfl rfl (Nat.le_of_ble_eq_true rfl) d1 ⟨show cells + 0 ≤ 634875 by omega, show slots + 0 ≤ 7191478 by omega⟩ ?_
  refine y_top hk ?_
  refine y_iload C0 1 d4 rfl ?_
  refine y_icmp_eq C0 (t + 11) d6 (by omega) (fun _ => ?_) (fun h => absurd rfl h)
  refine y_iload C0 1 d11 rfl ?_
  refine y_if_ne C0 (t + 28) d13 (by omega) (fun _ => fin) (fun h0 => ?_)
  refine y_aload_n C0 3 d16 rfl rfl ?_
  refine y_iconst (v := 0) C0 d17 (by decide) ?_
  refine y_lastL C0 hL d18 ?_
  refine y_iload C0 0 d19 rfl ?_
  refine y_i2l C0 d21 ?_
  refine y_lcmpE C0 (hv h0 f) d22 ?_
  exact y_if_eq C0 (t + 28) d23 (by omega) (fun _ => fin) (fun h => absurd rfl h)
end
/-! the model's row after the class's call -/
theorem mo_56 {A M : yM} {o : Option String} {r : Rw} (h : M 56 = r) (hA : o = none → A 56 = M 56) : mo o A M 56 = r := by
  cases o with
  | none => exact (hA rfl).trans h
  | some E => exact h
section
variable {M : yM} {B S : Nat}
theorem e56_order (h : LInv M B S) {s hh e : Int32} : mo (ordO B s hh e) (ordM M B s hh e) M 56 = enc M 0 B S := mo_56 h.2.1 (fun _ => by
  have := h.1.hB
  unfold ordM yinc
  rw [yst_row (by decide), up_n (by omega)])
theorem e56_hire (h : LInv M B S) {s : Int32} : mo (hirO S s) (hirM M S s) M 56 = enc M 0 B S := mo_56 h.2.1 (fun _ => by
  have := h.1.hS
  unfold hirM yinc
  rw [yst_row (by decide), yst_row (by omega)])
theorem e56_unpick (h : LInv M B S) {x : Int32} : mo (unpO M x) (unpM M (bkI x)) M 56 = enc M 0 B S := mo_56 h.2.1 (fun ho => by
  have hB := h.1.hB
  rcases book_cs (x := x) h.1 with ⟨a, b⟩ | ⟨a, b, c, d⟩
  · rw [show unpO M x = some yIOE by unfold unpO; rw [a]; rfl] at ho
    cases ho
  · by_cases h5 : M (bkI x) 4 = 1
    · exact (unpick_tie h.1 c h5).2.2 56 (by omega) (by omega)
    · rw [show unpO M x = some yISE by unfold unpO; rw [a, if_neg h5]; rfl] at ho
      cases ho)
theorem e56_sell (h : LInv M B S) {x : Int32} : mo (selO M x) (selM M (bkI x)) M 56 = enc M 0 B S := mo_56 h.2.1 (fun ho => by
  have hB := h.1.hB
  rcases book_cs (x := x) h.1 with ⟨a, b⟩ | ⟨a, b, c, d⟩
  · rw [show selO M x = some yIOE by unfold selO; rw [a]; rfl] at ho
    cases ho
  · unfold selM yinc
    rw [yst_row (by decide), yst_row (by unfold bkI; omega)])
theorem e56_seat (h : LInv M B S) {x f : Int32} : mo (seaO M x f) (yst M (swI x) 2 f) M 56 = enc M 0 B S := mo_56 h.2.1 (fun ho => by
  have hS := h.1.hS
  rcases sewer_cs (x := x) h.1 with ⟨a, b⟩ | ⟨a, b, c, d⟩
  · rw [show seaO M x f = some yIOE by unfold seaO; rw [a]; rfl] at ho
    cases ho
  · exact yst_row (by unfold swI; omega))
theorem e56_string (h : LInv M B S) {f c : Int32} : mo (strO M f c) (yst M (frI f) 1 c) M 56 = enc M 0 B S := mo_56 h.2.1 (fun ho => by
  rcases frame_cs (x := f) with ⟨a, b⟩ | ⟨a, b, d, e⟩
  · rw [show strO M f c = some yIOE by unfold strO; rw [a]; rfl] at ho
    cases ho
  · exact yst_row (by unfold frI; omega))
theorem e56_buy (h : LInv M B S) {w x : Int32} : mo (buyO M w x) (wStore (buyA M w x) 0 w x) M 56 = enc M 0 B S := mo_56 h.2.1 (fun _ => by
  unfold wStore buyA ydec
  repeat' split
  all_goals rw [yst_row (by decide), yst_row (by decide)])
theorem e56_pass (h : LInv M B S) {x : Int32} : mo (okH x) (wHours M 0 x.toNatClampNeg) M 56 = enc M 0 B S := mo_56 h.2.1 (fun _ => wOut_hours _ 56 (by decide) (by decide) (by decide))
theorem e56_foresee (h : LInv M B S) {x w : Int32} : mo (forO x w) (wHours (wSet M 27 0) 27 x.toNatClampNeg) M 56 = enc M 0 B S := mo_56 h.2.1 (fun _ => W_out _ 56 (by omega))
theorem e56_until (h : LInv M B S) {x : Int32} : mo (okB M x) (utM M (cN x)) M 56 = enc M 0 B S := mo_56 h.2.1 (fun _ => (ut_LI h).1 56 (by omega))
theorem e56_advise (h : LInv M B S) {x : Int32} : mo (okS M x) (adM M x 3) M 56 = enc M 0 B S := mo_56 h.2.1 (fun ho => by
  rcases sewer_cs (x := x) h.1 with ⟨a, b⟩ | ⟨a, b, c, d⟩
  · rw [a] at ho
    cases ho
  · exact (ad_LI h c 3).1 56 (by omega))
theorem hfr_unpick (h : LInv M B S) {r : Rw} (hr : r = enc M 0 B S) : ∀ b, b < B → r (11 * b + 3) = 1 → cN (r (11 * b + 4)) < 3 ∧ r (11 * b + 4) = nI (cN (r (11 * b + 4))) := by
  subst hr
  intro b hb h1
  have hB := h.1.hB
  rw [enc_b3 hb hB] at h1
  rw [enc_b4 hb hB]
  obtain ⟨f, hf, e, _⟩ := h.1.2.2.2.2.1 b hb h1
  rw [e, cN_n (by omega)]
  exact ⟨hf, rfl⟩
end
end YLw
