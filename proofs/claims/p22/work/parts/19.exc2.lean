section YX
/-! what leaves a method as an exception -/
abbrev yNs : List String := ["java/lang/RuntimeException", "java/lang/Exception"]
abbrev yIAE : String := "java/lang/IllegalArgumentException"
abbrev yISE : String := "java/lang/IllegalStateException"
abbrev yIOE : String := "java/lang/IndexOutOfBoundsException"
abbrev yExs : List String := [yIAE, yISE, yIOE]
abbrev yStrs : List (Nat × String) := [(21, "signatures are 1 to 24"), (26, "sheets are 1 to 8"), (28, "edges are 0 to 3"), (36, "no more books can be ordered"), (200, "there is no such book"), (59, "the book is not on a frame"), (71, "the book is not done, or sold"), (207, "nothing is told under this number"), (88, "speed is 1 to 9"), (94, "no more sewers can be hired"), (205, "there is no such sewer"), (111, "there is no such frame"), (118, "two others sit at the frame"), (128, "cords are 2 to 6"), (135, "there is a book on the frame"), (144, "what is 0 to 2"), (146, "many is 1 to 200"), (151, "there are not so many coins"), (209, "hours are 1 to 120"), (166, "what is 2 to 7, or 10 to 14")]
abbrev yBad : List Cond := [.castable yIAE yIAE, .castable yISE yISE, .castable yIOE yIOE, .declares (Bundle.initS "java/lang/RuntimeException"), .declares (Bundle.initS "java/lang/Exception"), .declares (Bundle.initS Bundle.tN)]
theorem yBad_tabs : ∀ w ∈ yBad, w.onTables = true := by decide +kernel
theorem yBad_warm {s U : State} (hW : s.WarmedH U.vm) : ∀ w ∈ yBad, va_Nw w s → va_Nw w U := by
  intro w hw h
  simp only [yBad, List.mem_cons, List.not_mem_nil, or_false] at hw
  rcases hw with rfl | rfl | rfl | rfl | rfl | rfl
  · exact va_Nw.warmC hW h
  · exact va_Nw.warmC hW h
  · exact va_Nw.warmC hW h
  · exact va_Nw.warmD hW h
  · exact va_Nw.warmD hW h
  · exact va_Nw.warmD hW h
/-- what a throw takes as given: the two statics of Throwable, the texts, the classes -/
def yXP (A : Nat → Prop) (U : State) (H : Heap) : Prop := vx_Zq Bundle.tN "UNASSIGNED_STACK" Bundle.steD A U H ∧ vx_Zq Bundle.tN "SUPPRESSED_SENTINEL" Bundle.listD A U H ∧ (∀ q ∈ yStrs, ∃ sa, vk_R RX4 q.1 q.2 sa U) ∧ (∀ w ∈ yBad, va_Nw w U)
theorem yXP.to {A B : Nat → Prop} {s U : State} {H : Heap} {locs : List Loc} (h : yXP A s s.heap) (hU : U.heap = H) (hW : s.WarmedH U.vm) (hS : va_S A s.heap H locs) (hBA : ∀ q, B q → A q) : yXP B U U.heap := by
  rw [hU]
  refine ⟨?_, ?_, fun q hq => ?_, fun w hw => yBad_warm hW w hw (h.2.2.2 w hw)⟩
  · exact vx_Zq.narrow (vx_Zq.kept (vx_Zq.moved hW.alike h.1) hS.2.1) hBA
  · exact vx_Zq.narrow (vx_Zq.kept (vx_Zq.moved hW.alike h.2.1) hS.2.1) hBA
  · obtain ⟨sa, h1⟩ := h.2.2.1 q hq
    exact ⟨sa, vk_R.warm hW h1⟩
theorem yXP.calling {A : Nat → Prop} {U : State} (g : JFrame) (mk : MethodId) (a : Array Value) (h : yXP A U U.heap) : yXP A (U.calling g mk a) (U.calling g mk a).heap := by
  refine ⟨vx_Zq.moved (u := U) (U := U.calling g mk a) (Vm.Alike.refl U.vm) h.1, vx_Zq.moved (u := U) (U := U.calling g mk a) (Vm.Alike.refl U.vm) h.2.1, fun q hq => ?_, fun w hw => va_Nw.same (u := U) (U := U.calling g mk a) (yBad_tabs w hw) rfl (h.2.2.2 w hw)⟩
  obtain ⟨sa, h1⟩ := h.2.2.1 q hq
  exact ⟨sa, vk_R.same (u := U) (U := U.calling g mk a) rfl h1⟩
def Pxy (D : va_G) (cy : Nat → ClassId) (adr : Nat → Nat) (sz : Nat) (As : List Value) (M : yM) : Array Value → State → Prop := fun v U => Py D cy adr sz As M v U ∧ yXP (yAA adr sz) U U.heap
theorem Pxy_blind {D : va_G} {cy : Nat → ClassId} {adr : Nat → Nat} {sz : Nat} {As : List Value} {M : yM} : FrameBlind (Pxy D cy adr sz As M) := fun a U g mk q => ⟨Py_blind a U g mk q.1, q.2.calling g mk a⟩
/-- THE CONTRACT of a method that may throw: o none: it answers r; o some E: it throws an E -/
def Qox (o : Option String) (D : va_G) (cy : Nat → ClassId) (adr : Nat → Nat) (A : Nat → Prop) (r : Option Value) (M' : yM) : Array Value → State → Outcome → State → Prop := fun a st oc t => o = none ∧ Qy D cy adr A r M' a st oc t
def Xox (o : Option String) (D : va_G) (cy : Nat → ClassId) (adr : Nat → Nat) (A : Nat → Prop) (M' : yM) : String → State → State → Prop := fun E st t => o = some E ∧ va_P D vwCl (ypl adr cy M') t.heap ∧ va_F A st t
def Cv (l : Launch) (y : MethodName) (ws : List Cond) (rm : Room) (D : va_G) (cy : Nat → ClassId) (adr : Nat → Nat) (As : List Value) (M : yM) (o : Option String) (r : Option Value) (M' : yM) (mc ms : Nat) : Prop := ∀ sz, vx_Met l y ws rm (Pxy D cy adr sz As M) (Qox o D cy adr (yAA adr sz) r M') (Xox o D cy adr (yAA adr sz) M') mc ms (yAA adr sz)
def QX (K : yK) (D : va_G) (cy : Nat → ClassId) (adr : Nat → Nat) (o : Option String) (r : Option Value) (M' : yM) (mc ms : Nat) : State → Prop := match K with
  | (_, _, s, _, args, below, _, _, A) => vx_MQ below (Qox o D cy adr A r M') (Xox o D cy adr A M') args s mc ms A
def CX (K : yK) : Prop := match K with
  | (_, _, s, _, _, _, _, _, A) => yXP A s s.heap
def CT (K : yK) : Prop := match K with
  | (_, _, _, _, _, _, _, c, _) => ∀ x ∈ c.exceptionTable.toList, False
theorem Cv.mk {l : Launch} {y : MethodName} {ws ws' : List Cond} {rm : Room} {D : va_G} {cy : Nat → ClassId} {adr : Nat → Nat} {As : List Value} {M : yM} {o : Option String} {r : Option Value} {M' : yM} {mc ms : Nat} (cc : ByteArray) (maxL : Nat) (ret : Option FieldType) (own : String)
    (hy : plainName y.cls = true) (hw : ws = Cond.code y cc maxL ret :: ws') (ho : y.cls = own) (hn : (lg_sl As).length ≤ maxL)
    (body : ∀ K : yK, Cx K cc own ws maxL ret D cy → CX K → CT K → Y K l rm D cy adr maxL 0 0 (QX K D cy adr o r M' mc ms) M [] (lv_args 0 As) 0 []) : Cv l y ws rm D cy adr As M o r M' mc ms := by
  intro sz
  refine vx_ofW (cc := cc) (maxL := maxL) (ret := ret) hy hw ?_
  intro p e s m args below meth c s₁ B hml hct hv
  obtain ⟨⟨rfl, hsz, hP, hK, hD0⟩, hX⟩ := hv
  have hts := atoms_spec (ws := ws) B.pre
  have hown : s.vm.findClass own = some m.cls := by rw [← ho]; exact findClass_of_methodNamed B.named
  subst hsz
  have hl := lv_entry As (n := maxL) hn
  rw [lg_entry_eq]
  refine body (p, e, s, m, As.toArray, below, meth, c, yAA adr s.heap.size) ⟨B.exec, B.bytes, hml, hown, hts, hK, fun q h => Or.inr h, B.returns, B.notSynchronized⟩ hX hct s.heap [] _ (by rw [List.append_nil]; exact hP) ?_ va_S.rf hl
  rw [List.append_nil]
  refine ⟨hD0.1, fun k q hq => ?_⟩
  have hk : k < 55 := by
    have := (List.getElem?_eq_some_iff.mp hq).1
    rwa [ypl_len] at this
  have hq' := ypl_get (adr := adr) (cy := cy) (M := M) (E := []) hk
  rw [List.append_nil, hq] at hq'
  cases hq'
  exact Or.inl ⟨k, hk, rfl⟩
section
variable {K : yK} {l : Launch} {R : Room} {D : va_G} {cy : Nat → ClassId} {adr : Nat → Nat} {nL cells slots mc ms mc2 ms2 : Nat} {Q : State → Prop} {M M' M'' : yM} {E : va_W} {lv : List (Nat × Value)} {pc : Nat} {st : List Value} {cc : ByteArray} {own : String} {Ts : List Cond} {ret : Option FieldType} {r r2 : Option Value} {o o2 : Option String}
/-- it answers -/
theorem y_ok (ho : o = none) (k : Y K l R D cy adr nL cells slots (QT K D cy adr r M' mc ms) M E lv pc st) : Y K l R D cy adr nL cells slots (QX K D cy adr o r M' mc ms) M E lv pc st := by
  obtain ⟨p, e, s, m, args, below, meth, c, A⟩ := K
  intro H locs ls hP hD hS hl T hT X
  obtain ⟨t, a1, oc, b1, b2, b3, b4⟩ := k H locs ls hP hD hS hl T hT X
  exact ⟨t, a1, oc, b1, b2, Or.inl ⟨⟨ho, b3⟩, b4⟩⟩
theorem y_thr (C0 : Cx K cc own Ts nL ret D cy) (hX : CX K) (hT : CT K) (hlf : l.stackTraces = false) (hown4 : own = RX4) {ik is ic : Nat} {cls text : String} (hcls : cls ∈ yExs) (hq : (is, text) ∈ yStrs) (hk : Cond.classLink own ik cls ∈ Ts) (hini : Cond.initialized cls ∈ Ts) (hgw : ∀ w ∈ (vx_atS own ic cls yNs).filter goodWord, w ∈ Ts) (hng : ∀ w ∈ (vx_atS own ic cls yNs).filter (fun w => !goodWord w), w ∈ yBad) (hgood : ∀ w ∈ Cond.classLink own ik cls :: Cond.initialized cls :: vx_atS own ic cls yNs, vx_ot w = true)
    (d0 : decode cc pc = .ok (.new ik, 3)) (d3 : decode cc (pc + 3) = .ok (.dup, 1)) (d4 : decode cc (pc + 4) = .ok (.ldc is, 2)) (d6 : decode cc (pc + 6) = .ok (.invokespecial ic, 3)) (d9 : decode cc (pc + 9) = .ok (.athrow, 1))
    (hRf : 6 ≤ R.frames) (hRl : (st.map fun v => v.category).sum + 82 ≤ R.locals) (hRc : cells + 1 ≤ R.cells) (hRs : slots + 6 ≤ R.slots) (hc : cells + 1 ≤ mc) (hs : slots + 6 ≤ ms) (ho : o = some cls) (hM : M = M') : Y K l R D cy adr nL cells slots (QX K D cy adr o r M' mc ms) M E lv pc st := by
  subst hM
  obtain ⟨p, e, s, m, args, below, meth, c, A⟩ := K
  obtain ⟨hx, hb, hml, hown, hts, hK, hA, hr, hlk⟩ := C0
  obtain ⟨hU, hN, hst, hca⟩ := hX
  intro H locs ls hP hD hS hl
  obtain ⟨sa, hsa⟩ := hst _ hq
  refine vx_throwS (names := yNs) (text := text) (sa := sa) hx hb hlf hown ?_ (by decide +kernel) (hts _ hk) (hts _ hini) (by rw [hown4]; exact hsa) ?_ hgood hU hN hS (hl.1.trans hml.symm) d0 d3 d4 d6 d9 (fun x hx => (hT x hx).elim) hRf hRl hRc hRs hlk ?_ hS.2.2 hc hs
  · revert hcls; clear hng hgood; intro hcls
    simp only [yExs, List.mem_cons, List.not_mem_nil, or_false] at hcls
    rcases hcls with rfl | rfl | rfl <;> decide +kernel
  · exact vx_hat (B := yBad) (fun w hw => hts w (hgw w hw)) hng (fun w hw => va_Nw.use (yBad_tabs w hw) (hca w hw))
  · intro t hvm hz hk9
    refine ⟨ho, ?_, ?_⟩
    · exact (ypl_P hP).kept (fun k q hq => hk9 q.1 ((ypl_P hP) k q hq).lt)
    · refine ⟨Nat.le_trans hS.1 hz, fun q h1 h2 => ?_⟩
      rw [hk9 q (Nat.lt_of_lt_of_le h1 hS.1)]
      exact hS.2.1 q h1 h2
theorem y_whole {A : Nat → Prop} (hD : va_D A (ypl adr cy M ++ E)) : va_D (fun _ => True) (ypl adr cy M) := by
  have h9 := hD.sub (A := A) (ws' := ypl adr cy M) (List.range 55) (by decide +kernel) (by
    apply List.ext_getElem?
    intro i
    by_cases hi : i < 55
    · have := ypl_get (adr := adr) (cy := cy) (M := M) (E := []) hi
      rw [List.append_nil] at this
      simp [hi, ypl_get, this]
    · have h2 : (ypl adr cy M)[i]? = none := by rw [List.getElem?_eq_none_iff, ypl_len]; omega
      simp [hi, h2])
  exact h9.weaken (fun _ _ _ _ => trivial)
/-- behind a call that answered or threw -/
theorem y_joinX {p : Program} {e : Env} {s : State} {m : MethodId} {args : Array Value} {below : List Frame} {meth : Method} {c : Code} {A : Nat → Prop} {H : Heap} {locs : List Loc} {ls : Array Slot} {st0 rest : List Value} {a : Array Value}
    (hA : ∀ q, s.heap.size ≤ q → A q) (hP : va_P D vwCl (ypl adr cy M ++ E) H) (hD : va_D A (ypl adr cy M ++ E)) (hS : va_S A s.heap H locs) (hl : lv_has ls nL lv)
    (hr : vx_Run p l e R s m args below meth c H locs cells slots mc ms (F0 m pc ls st0) rest (Qox o D cy adr (yAA adr H.size) r M' a) (Xox o D cy adr (yAA adr H.size) M') (yAA adr H.size))
    (kk : o = none → Y (p, e, s, m, args, below, meth, c, A) l R D cy adr nL (cells + mc) (slots + ms) Q M' E lv (pc + 3) (r.toList ++ rest))
    (kx : ∀ (Ex : String) (H1 : Heap) (locs1 : List Loc) (q : Addr) (ce : Cell), o = some Ex → va_P D vwCl (ypl adr cy M' ++ E) H1 → va_D A (ypl adr cy M' ++ E) → va_S A s.heap H1 locs1 → H1[q]? = some ce → ce.vm = .none → s.vm.findClass Ex = some ce.cls → vx_W p l e R s m args below meth c H1 locs1 (cells + mc) (slots + ms) Q (F0 m pc ls rest) q) : W p l e R s m args below meth c H locs cells slots Q (F0 m pc ls st0) := by
  have hF : ∀ q, yAA adr H.size q → A q := by
    intro q h
    rcases h with ⟨j, hj, rfl⟩ | h
    · exact hD.2 j _ (ypl_get hj)
    · exact hA q (Nat.le_trans hS.1 h)
  have hE : ∀ (k : Nat) (q : Nat × va_E), E[k]? = some q → va_at D vwCl q H ∧ q.1 < H.size ∧ ¬ yAA adr H.size q.1 := by
    intro k q hq
    have hq' : (ypl adr cy M ++ E)[55 + k]? = some q := by rw [ypl_E]; exact hq
    refine ⟨hP _ _ hq', (hP _ _ hq').lt, fun h => ?_⟩
    rcases h with ⟨j, hj, h⟩ | h
    · have := hD.1 _ _ _ _ hq' (ypl_get (M := M) (cy := cy) (adr := adr) hj) h
      omega
    · have := (hP _ _ hq').lt
      omega
  intro T hT X
  have key : ∀ (st₀ t T' : State) (L : List Loc), st₀.heap = H → T'.heap = t.heap → (∀ q ∈ L, yAA adr H.size q.base) → va_P D vwCl (ypl adr cy M') t.heap → va_F (yAA adr H.size) st₀ t → va_P D vwCl (ypl adr cy M' ++ E) T'.heap ∧ va_S A s.heap T'.heap (locs ++ L) := by
    intro st₀ t T' L h0 e1 hL hp ⟨hz, hk⟩
    rw [h0] at hz hk
    refine ⟨?_, ?_⟩
    · rw [e1]
      exact va_P.app hp (fun k q hq => (hE k q hq).1.kept (hk q.1 (hE k q hq).2.1 (hE k q hq).2.2))
    · refine ⟨Nat.le_trans hS.1 (by rw [e1]; exact hz), fun q h1 h2 => ?_, fun q hq => ?_⟩
      · rw [e1, hk q (Nat.lt_of_lt_of_le h1 hS.1) (fun z => h2 (hF q z))]
        exact hS.2.1 q h1 h2
      · rcases List.mem_append.mp hq with h | h
        · exact hS.2.2 q h
        · exact hF _ (hL q h)
  rcases hr T hT X with ⟨v, st₀, t, T', L, h0, X', hL, e1, e2, ⟨ho, hv, hp, hF9⟩, sg⟩ | ⟨q, st₀, t, T', L, Ex, ce, h0, X', hL, e1, e2, ⟨ho, hp, hF9⟩, hce, hcv, hcl, sg⟩
  · cases hv
    obtain ⟨hP1, hS1⟩ := key st₀ t T' L h0 e1 hL hp hF9
    obtain ⟨t2, a1, b1⟩ := kk ho T'.heap (locs ++ L) ls hP1 (ypl_D hD) hS1 hl T' rfl X'
    exact ⟨t2, sg t2 a1, b1⟩
  · obtain ⟨hP1, hS1⟩ := key st₀ t T' L h0 e1 hL hp hF9
    obtain ⟨t2, a1, b1⟩ := kx Ex T'.heap (locs ++ L) q ce ho hP1 (ypl_D hD) hS1 (by rw [e1]; exact hce) hcv hcl T' rfl X'
    exact ⟨t2, sg.trans a1, b1⟩
/-- it goes on to the caller -/
theorem y_out {p : Program} {e : Env} {s : State} {m : MethodId} {args : Array Value} {below : List Frame} {meth : Method} {c : Code} {A : Nat → Prop} (hct : ∀ x ∈ c.exceptionTable.toList, False) (hlk : meth.locks = false) {ls : Array Slot} {rest : List Value} (hc : cells + mc ≤ mc2) (hs : slots + ms ≤ ms2)
    (Ex : String) (H1 : Heap) (locs1 : List Loc) (q : Addr) (ce : Cell) (ho : o2 = some Ex) (hP : va_P D vwCl (ypl adr cy M' ++ E) H1) (hS : va_S A s.heap H1 locs1) (hce : H1[q]? = some ce) (hcv : ce.vm = .none) (hcl : s.vm.findClass Ex = some ce.cls) :
    vx_W p l e R s m args below meth c H1 locs1 (cells + mc) (slots + ms) (QX (p, e, s, m, args, below, meth, c, A) D cy adr o2 r2 M' mc2 ms2) (F0 m pc ls rest) q :=
  vx_out (fun x hx => (hct x hx).elim) hlk hce hcv hcl (fun t ht hvm => ⟨ho, by rw [ht]; exact ypl_P hP, hS.F ht⟩) hS.2.2 hc hs
theorem y_callVX (C0 : Cx K cc own Ts nL ret D cy) (hX : CX K) (hT : CT K) {y : MethodName} {bytes : ByteArray} {maxL index : Nat} {rety : Option FieldType} {ws ws' : List Cond} {rm : Room} {C : String} {T : u_T} {N jb n : Nat} {As rest st0 : List Value}
    (hM : Cv l y ws rm D cy adr (.ref (adr jb) :: As) M o r M' mc ms) (ci : Nat) (hc : vwCl[ci]? = some (C, T, N)) (hci : ci < 6) (hkd : ykd jb = ci)
    (hG : GoodIn Ts (wsV own index C y ws)) (hw : ws = Cond.code y bytes maxL rety :: ws') (hrc : rm.cells = mc) (hrs : rm.slots = ms)
    (hd : y.cls = C ∧ y.cls ≠ "java/lang/invoke/MethodHandle" ∧ y.cls ≠ "java/lang/invoke/VarHandle" ∧ (parseMethodDescriptor y.desc).map (fun d => d.parameters.length) = some n) (hR : rm.frames + 1 ≤ R.frames ∧ 8 + (maxL + 11) + rm.locals ≤ R.locals)
    (hn : As.length = n) (hst : st0 = As.reverse ++ .ref (adr jb) :: rest) (hcat : (rest.map fun v => v.category).sum ≤ 8) (d : decode cc pc = .ok (.invokevirtual index, 3)) (hf : cells + mc ≤ R.cells ∧ slots + ms ≤ R.slots)
    (hox : ∀ Ex, o = some Ex → o2 = some Ex ∧ M' = M'') (hmc : cells + mc ≤ mc2) (hms : slots + ms ≤ ms2)
    (kk : o = none → Y K l R D cy adr nL (cells + mc) (slots + ms) (QX K D cy adr o2 r2 M'' mc2 ms2) M' E lv (pc + 3) (r.toList ++ rest)) : Y K l R D cy adr nL cells slots (QX K D cy adr o2 r2 M'' mc2 ms2) M E lv pc st0 := by
  obtain ⟨p, e, s, m, args, below, meth, c, A⟩ := K
  obtain ⟨hx, hb, hml, hown, hts, hK, hA, hr, hlk⟩ := C0
  intro H locs ls hP hD hS hl
  have he : (ypl adr cy M ++ E)[jb]? = some (adr jb, .inr (ci, yfs adr M jb (ynf ci))) := by
    rw [ypl_get (ykd_lt (by omega))]
    unfold ycl
    rw [if_pos (by omega), hkd]
  have hF : ∀ q, yAA adr H.size q → A q := by
    intro q h
    rcases h with ⟨j, hj, rfl⟩ | h
    · exact hD.2 j _ (ypl_get hj)
    · exact hA q (Nat.le_trans hS.1 h)
  refine y_joinX hA hP hD hS hl (vx_runV (As := As) (rest := rest) ⟨hx, hb, hml, hown, hts⟩ (hM H.size) (cwV n hts hG hw hrc hrs hd hR) ⟨Pxy_blind, va_recv hK hP hc he, fun U hU hW => ⟨⟨rfl, by rw [hU], by rw [hU]; exact ypl_P hP, va_K.moved hW.alike hK, y_whole hD⟩, yXP.to hX hU hW hS hF⟩⟩ rfl hn hl.1 hst (lv_room (Nat.le_trans hcat (Nat.le_refl 8))) d hf) kk ?_
  intro Ex H1 locs1 q ce ho hP1 hD1 hS1 hce hcv hcl
  obtain ⟨h1, h2⟩ := hox Ex ho
  subst h2
  exact y_out hT hlk hmc hms Ex H1 locs1 q ce h1 hP1 hS1 hce hcv hcl
theorem y_callSX (C0 : Cx K cc own Ts nL ret D cy) (hX : CX K) (hT : CT K) {y : MethodName} {bytes : ByteArray} {maxL index : Nat} {rety : Option FieldType} {ws ws' : List Cond} {rm : Room} {n : Nat} {As rest st0 : List Value}
    (hM : Cv l y ws rm D cy adr As M o r M' mc ms)
    (hG : GoodIn Ts (va_wsS own index y ws)) (hw : ws = Cond.code y bytes maxL rety :: ws') (hrc : rm.cells = mc) (hrs : rm.slots = ms)
    (hd : y.cls ≠ "java/lang/invoke/MethodHandle" ∧ y.cls ≠ "java/lang/invoke/VarHandle" ∧ (parseMethodDescriptor y.desc).map (fun d => d.parameters.length) = some n) (hR : rm.frames + 1 ≤ R.frames ∧ 8 + (maxL + 11) + rm.locals ≤ R.locals)
    (hn : As.length = n) (hst : st0 = As.reverse ++ rest) (hcat : (rest.map fun v => v.category).sum ≤ 8) (d : decode cc pc = .ok (.invokestatic index, 3)) (hf : cells + mc ≤ R.cells ∧ slots + ms ≤ R.slots)
    (hox : ∀ Ex, o = some Ex → o2 = some Ex ∧ M' = M'') (hmc : cells + mc ≤ mc2) (hms : slots + ms ≤ ms2)
    (kk : o = none → Y K l R D cy adr nL (cells + mc) (slots + ms) (QX K D cy adr o2 r2 M'' mc2 ms2) M' E lv (pc + 3) (r.toList ++ rest)) : Y K l R D cy adr nL cells slots (QX K D cy adr o2 r2 M'' mc2 ms2) M E lv pc st0 := by
  obtain ⟨p, e, s, m, args, below, meth, c, A⟩ := K
  obtain ⟨hx, hb, hml, hown, hts, hK, hA, hr, hlk⟩ := C0
  intro H locs ls hP hD hS hl
  have hF : ∀ q, yAA adr H.size q → A q := by
    intro q h
    rcases h with ⟨j, hj, rfl⟩ | h
    · exact hD.2 j _ (ypl_get hj)
    · exact hA q (Nat.le_trans hS.1 h)
  refine y_joinX hA hP hD hS hl (vx_runS (As := As) (rest := rest) ⟨hx, hb, hml, hown, hts⟩ (hM H.size) (va_cwS n hts hG hw hrc hrs hd hR) ⟨Pxy_blind, fun U hU hW => ⟨⟨rfl, by rw [hU], by rw [hU]; exact ypl_P hP, va_K.moved hW.alike hK, y_whole hD⟩, yXP.to hX hU hW hS hF⟩⟩ rfl hn hl.1 hst (lv_room (Nat.le_trans hcat (Nat.le_refl 8))) d hf) kk ?_
  intro Ex H1 locs1 q ce ho hP1 hD1 hS1 hce hcv hcl
  obtain ⟨h1, h2⟩ := hox Ex ho
  subst h2
  exact y_out hT hlk hmc hms Ex H1 locs1 q ce h1 hP1 hS1 hce hcv hcl
end
end YX
