section YLr
section
variable {K : yK} {l : Launch} {Ro : Room} {R : Room} {D : va_G} {cy : Nat → ClassId} {adr : Nat → Nat} {nL cells slots mc ms : Nat} {Q : State → Prop} {M M' : yM} {E : va_W} {lv : List (Nat × Value)} {pc : Nat} {st : List Value} {cc : ByteArray} {own : String} {Ts : List Cond} {ret : Option FieldType} {q : Nat} {f : Nat → Int32} {r : Option Value} {o : Option String}
theorem ypl_setE {adr : Nat → Nat} {cy : Nat → ClassId} {M : yM} {e e' : Nat × va_E} : (ypl adr cy M ++ [e]).set 55 e' = ypl adr cy M ++ [e'] := by
  rw [List.set_append_right _ _ (by rw [ypl_len]; omega), ypl_len]
  rfl
theorem y_newE (C0 : Cx K cc own Ts nL ret D cy) (hw : Cond.arrayClass .int ∈ Ts) (d : decode cc pc = .ok (.newarray .int, 2)) (hc : cells + 1 ≤ Ro.cells) (hs : slots + 7 ≤ Ro.slots) (kk : ∀ q : Nat, Y K l Ro D cy adr nL (cells + 1) (slots + 7) Q M [(q, .inl (cy 0, 7, .inl (fun _ => 0)))] lv (pc + 2) (.ref q :: st)) : Y K l Ro D cy adr nL cells slots Q M [] lv pc (.int 7 :: st) := by
  obtain ⟨p, e, s, m, args, below, meth, c, A⟩ := K
  obtain ⟨hx, hb, hml, hown, hts, hK, hA, hr, hlk⟩ := C0
  intro H locs ls hP hD hS hl
  rw [List.append_nil] at hP hD
  refine va_newa (atype := .int) (ty := .int) (N' := 7) (a0 := (7, .inl (fun _ => 0))) hx hb (hts _ hw) rfl hK hP hD hS hA (fun _ => rfl) (by decide) (by decide) (by decide) hc hs d (fun q cA H1 hK1 hP1 hD1 hS1 => ?_)
  have h1 := (hK1.2 4 (cA, .int) rfl).2
  have h2 := (hK.2 0 (cy 0, .int) rfl).2
  have e9 : cA = cy 0 := Option.some.inj (h1.symm.trans h2)
  subst e9
  exact kk q H1 locs ls hP1 hD1 hS1 hl
theorem y_iastE (C0 : Cx K cc own Ts nL ret D cy) (k : Nat) {i x : Int32} (hi : i = nI k) (hk : k < 7) (d : decode cc pc = .ok (.iastore, 1)) (kk : Y K l Ro D cy adr nL cells slots Q M [(q, .inl (cy 0, 7, .inl (upd f k x)))] lv (pc + 1) st) : Y K l Ro D cy adr nL cells slots Q M [(q, .inl (cy 0, 7, .inl f))] lv pc (.int x :: .int i :: .ref q :: st) := by
  obtain ⟨p, e, s, m, args, below, meth, c, A⟩ := K
  obtain ⟨hx, hb, hml, hown, hts, hK, hA, hr, hlk⟩ := C0
  intro H locs ls hP hD hS hl
  have e0 : (ypl adr cy M ++ [(q, (Sum.inl (cy 0, 7, .inl f) : va_E))])[55]? = some (q, .inl (cy 0, 7, .inl f)) := ypl_E (k := 0)
  subst hi
  refine va_iast hx hb hK hP hD hS 55 0 e0 rfl (vp_in_nI hk (by decide)) d (fun H1 locs1 hP1 hD1 hS1 => ?_)
  rw [ypl_setE, nI_clamp (by omega)] at hP1 hD1
  exact kk H1 locs1 ls hP1 hD1 hS1 hl
theorem y_ialdE (C0 : Cx K cc own Ts nL ret D cy) (k : Nat) {i : Int32} (hi : i = nI k) (hk : k < 7) (d : decode cc pc = .ok (.iaload, 1)) (kk : Y K l Ro D cy adr nL cells slots Q M [(q, .inl (cy 0, 7, .inl f))] lv (pc + 1) (.int (f k) :: st)) : Y K l Ro D cy adr nL cells slots Q M [(q, .inl (cy 0, 7, .inl f))] lv pc (.int i :: .ref q :: st) := by
  obtain ⟨p, e, s, m, args, below, meth, c, A⟩ := K
  obtain ⟨hx, hb, hml, hown, hts, hK, hA, hr, hlk⟩ := C0
  intro H locs ls hP hD hS hl
  have e0 : (ypl adr cy M ++ [(q, (Sum.inl (cy 0, 7, .inl f) : va_E))])[55]? = some (q, .inl (cy 0, 7, .inl f)) := ypl_E (k := 0)
  subst hi
  refine va_iald hx hb hK hP 55 0 e0 rfl (vp_in_nI hk (by decide)) d ?_
  rw [nI_clamp (by omega)]
  exact kk H locs ls hP hD hS hl
theorem y_drop {e : Nat × va_E} (k : Y K l R D cy adr nL cells slots Q M [] lv pc st) : Y K l R D cy adr nL cells slots Q M [e] lv pc st := by
  obtain ⟨p, e9, s, m, args, below, meth, c, A⟩ := K
  intro H locs ls hP hD hS hl
  refine k H locs ls (by rw [List.append_nil]; exact ypl_P hP) ?_ hS hl
  rw [List.append_nil]
  refine ⟨fun i j y z h1 h2 he => hD.1 i j y z ?_ ?_ he, fun i z h1 => hD.2 i z ?_⟩
  · rw [List.getElem?_append_left (List.getElem?_eq_some_iff.mp h1).1]; exact h1
  · rw [List.getElem?_append_left (List.getElem?_eq_some_iff.mp h2).1]; exact h2
  · rw [List.getElem?_append_left (List.getElem?_eq_some_iff.mp h1).1]; exact h1
theorem y_E {E' : va_W} (h : E = E') (k : Y K l R D cy adr nL cells slots Q M E' lv pc st) : Y K l R D cy adr nL cells slots Q M E lv pc st := by subst h; exact k
theorem y_ishr (C0 : Cx K cc own Ts nL ret D cy) {x y : Int32} (d : decode cc pc = .ok (.ishr, 1)) (k : Y K l R D cy adr nL cells slots Q M E lv (pc + 1) (.int (x >>> (y &&& 31)) :: st)) : Y K l R D cy adr nL cells slots Q M E lv pc (.int y :: .int x :: st) := by
  obtain ⟨p, e, s, m, args, below, meth, c, A⟩ := K
  exact fun H locs ls hP hD hS hl => lv_ishr C0.1 C0.2.1 d (k H locs ls hP hD hS hl)
theorem y_lload (C0 : Cx K cc own Ts nL ret D cy) (k : Nat) {i : Nat} {x : Int64} (d : decode cc pc = .ok (.lload i, 2)) (hk : lv[k]? = some (i, .long x)) (kk : Y K l R D cy adr nL cells slots Q M E lv (pc + 2) (.long x :: st)) : Y K l R D cy adr nL cells slots Q M E lv pc st := by
  obtain ⟨p, e, s, m, args, below, meth, c, A⟩ := K
  exact fun H locs ls hP hD hS hl => lv_lload C0.1 C0.2.1 d (lv_at hl k hk) (kk H locs ls hP hD hS hl)
theorem y_lstore (C0 : Cx K cc own Ts nL ret D cy) {i : Nat} {x : Int64} (lv' : List (Nat × Value)) (d : decode cc pc = .ok (.lstore i, 2)) (hn : i + 1 < nL) (hl' : (i, Value.long x) :: lv.filter (fun q => !(q.1 == i) && (!(q.1 == i + 1) && !(q.1 + 1 == i && q.2.category == 2))) = lv') (kk : Y K l R D cy adr nL cells slots Q M E lv' (pc + 2) st) : Y K l R D cy adr nL cells slots Q M E lv pc (.long x :: st) := by
  obtain ⟨p, e, s, m, args, below, meth, c, A⟩ := K
  exact fun H locs ls hP hD hS hl => lv_lstore C0.1 C0.2.1 d hl hn hl' (fun ls hl => kk H locs ls hP hD hS hl)
theorem y_lcmpE (C0 : Cx K cc own Ts nL ret D cy) {x y : Int64} (h : x = y) (d : decode cc pc = .ok (.lcmp, 1)) (kk : Y K l R D cy adr nL cells slots Q M E lv (pc + 1) (.int 0 :: st)) : Y K l R D cy adr nL cells slots Q M E lv pc (.long y :: .long x :: st) := by
  subst h
  obtain ⟨p, e, s, m, args, below, meth, c, A⟩ := K
  intro H locs ls hP hD hS hl
  refine W.lcmp C0.1 C0.2.1 d ?_
  rw [(lg_cmp_eq x x).mpr rfl]
  exact kk H locs ls hP hD hS hl
theorem y_topL {x y : Int64} (h : x = y) (k : Y K l R D cy adr nL cells slots Q M E lv pc (.long y :: st)) : Y K l R D cy adr nL cells slots Q M E lv pc (.long x :: st) := by subst h; exact k
/-- a call of the class's object that doesn't throw -/
theorem y_callK (C0 : Cx K cc own Ts nL ret D cy) (hX : CX K) {y : MethodName} {bytes : ByteArray} {maxL index : Nat} {rety : Option FieldType} {ws ws' : List Cond} {rm : Room} {C : String} {T : u_T} {N jb n : Nat} {As rest st0 : List Value}
    (hM : Cv l y ws rm D cy adr (.ref (adr jb) :: As) M o r M' mc ms) (ho : o = none) (ci : Nat) (hc : vwCl[ci]? = some (C, T, N)) (hci : ci < 6) (hkd : ykd jb = ci)
    (hG : GoodIn Ts (wsV own index C y ws)) (hw : ws = Cond.code y bytes maxL rety :: ws') (hrc : rm.cells = mc) (hrs : rm.slots = ms)
    (hd : y.cls = C ∧ y.cls ≠ "java/lang/invoke/MethodHandle" ∧ y.cls ≠ "java/lang/invoke/VarHandle" ∧ (parseMethodDescriptor y.desc).map (fun d => d.parameters.length) = some n) (hR : rm.frames + 1 ≤ R.frames ∧ 8 + (maxL + 11) + rm.locals ≤ R.locals)
    (hn : As.length = n) (hst : st0 = As.reverse ++ .ref (adr jb) :: rest) (hcat : (rest.map fun v => v.category).sum ≤ 8) (d : decode cc pc = .ok (.invokevirtual index, 3)) (hf : cells + mc ≤ R.cells ∧ slots + ms ≤ R.slots)
    (kk : Y K l R D cy adr nL (cells + mc) (slots + ms) Q M' E lv (pc + 3) (r.toList ++ rest)) : Y K l R D cy adr nL cells slots Q M E lv pc st0 := by
  obtain ⟨p, e, s, m, args, below, meth, c, A⟩ := K
  obtain ⟨hx, hb, hml, hown, hts, hK, hA, hr, hlk⟩ := C0
  intro H locs ls hP hD hS hl
  have he : (ypl adr cy M ++ E)[jb]? = some (adr jb, .inr (ci, yfs adr M jb (ynf ci))) := by
    rw [ypl_get (ykd_lt (by omega))]
    unfold ycl
    rw [if_pos (by omega), hkd]
  have hF : ∀ q, yAA adr H.size q → A q := by
    intro q h
    rcases h with ⟨j, hj, rfl⟩ | h
    · exact hD.2 j _ (ypl_get hj)
    · exact hA q (Nat.le_trans hS.1 h)
  refine y_joinX hA hP hD hS hl (vx_runV (As := As) (rest := rest) ⟨hx, hb, hml, hown, hts⟩ (hM H.size) (cwV n hts hG hw hrc hrs hd hR) ⟨Pxy_blind, va_recv hK hP hc he, fun U hU hW => ⟨⟨rfl, by rw [hU], by rw [hU]; exact ypl_P hP, va_K.moved hW.alike hK, y_whole hD⟩, yXP.to hX hU hW hS hF⟩⟩ rfl hn hl.1 hst (lv_room (Nat.le_trans hcat (Nat.le_refl 8))) d hf) (fun _ => kk) ?_
  intro Ex H1 locs1 q ce h9
  rw [ho] at h9
  cases h9
end
end YLr
