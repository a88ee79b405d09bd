section YWr
def yPairs : List (String × String) := [(yIAE, yISE), (yIAE, yIOE), (yISE, yIAE), (yISE, yIOE), (yIOE, yIAE), (yIOE, yISE)]
/-- none of the three exceptions is another -/
def yNC (U : State) : Prop := ∀ p ∈ yPairs, va_Nc p.1 p.2 U
theorem yNC.moved {u U : State} (hvm : u.vm.Alike U.vm) (h : yNC u) : yNC U := fun p hp => va_Nc.moved hvm (h p hp)
/-- the law's row of one long -/
abbrev yEo (cL : ClassId) (q : Nat) (f : Nat → Int64) : va_W := [(q, .inl (cL, 1, .inr (.inl f)))]
def yAQ (adr : Nat → Nat) (q sz : Nat) : Nat → Prop := fun z => yAA adr sz z ∨ z = q
def Pwo (D : va_G) (cy : Nat → ClassId) (cL : ClassId) (adr : Nat → Nat) (sz q : Nat) (As : List Value) (M : yM) (f : Nat → Int64) : Array Value → State → Prop := va_Pc As (fun U => U.heap.size = sz ∧ va_P D vwCl (ypl adr cy M ++ yEo cL q f) U.heap ∧ va_K D vwCl (ytys cy) U ∧ va_K D vwCl [(cL, .long)] U ∧ va_D (fun _ => True) (ypl adr cy M ++ yEo cL q f) ∧ yXP (yAQ adr q sz) U U.heap ∧ yNC U)
theorem Pwo_blind {D : va_G} {cy : Nat → ClassId} {cL : ClassId} {adr : Nat → Nat} {sz q : Nat} {As : List Value} {M : yM} {f : Nat → Int64} : FrameBlind (Pwo D cy cL adr sz q As M f) := fun a U g mk z => by
  obtain ⟨q0, q1, qP, qK, qL, qD, qX, qN⟩ := z
  exact ⟨q0, q1, qP, va_K.moved (u := U) (U := U.calling g mk a) (Vm.Alike.refl U.vm) qK, va_K.moved (u := U) (U := U.calling g mk a) (Vm.Alike.refl U.vm) qL, qD, qX.calling g mk a, yNC.moved (u := U) (U := U.calling g mk a) (Vm.Alike.refl U.vm) qN⟩
def Qwo (D : va_G) (cy : Nat → ClassId) (cL : ClassId) (adr : Nat → Nat) (A : Nat → Prop) (q : Nat) (k : Int32) (M' : yM) (f' : Nat → Int64) : Array Value → State → Outcome → State → Prop := fun _ st oc t => oc = .returned (some (.int k)) ∧ va_P D vwCl (ypl adr cy M' ++ yEo cL q f') t.heap ∧ va_F A st t
/-- THE CONTRACT of one of the law's calls: its code, the memory, the row of one long -/
def Cw (l : Launch) (y : MethodName) (ws : List Cond) (rm : Room) (D : va_G) (cy : Nat → ClassId) (cL : ClassId) (adr : Nat → Nat) (q : Nat) (As : List Value) (M : yM) (f : Nat → Int64) (k : Int32) (M' : yM) (f' : Nat → Int64) (mc ms : Nat) : Prop := ∀ sz, Met l y ws rm (Pwo D cy cL adr sz q As M f) (Qwo D cy cL adr (yAQ adr q sz) q k M' f') mc ms (yAQ adr q sz)
def QW (K : yK) (D : va_G) (cy : Nat → ClassId) (cL : ClassId) (adr : Nat → Nat) (q : Nat) (k : Int32) (M' : yM) (f' : Nat → Int64) (mc ms : Nat) : State → Prop := match K with
  | (_, _, s, _, args, below, _, _, A) => MQ below (Qwo D cy cL adr A q k M' f') args s mc ms A
def CH (K : yK) (hh : List (Nat × Nat × Nat × Nat)) : Prop := match K with
  | (_, _, _, _, _, _, _, c, _) => c.exceptionTable.toList = tableOf hh
def CN (K : yK) : Prop := match K with
  | (_, _, s, _, _, _, _, _, _) => yNC s
def CL (K : yK) (D : va_G) (cL : ClassId) : Prop := match K with
  | (_, _, s, _, _, _, _, _, _) => va_K D vwCl [(cL, .long)] s
theorem Cw.mk {l : Launch} {y : MethodName} {ws ws' : List Cond} {rm : Room} {D : va_G} {cy : Nat → ClassId} {cL : ClassId} {adr : Nat → Nat} {q : Nat} {As : List Value} {M : yM} {f : Nat → Int64} {k : Int32} {M' : yM} {f' : Nat → Int64} {mc ms : Nat} (cc : ByteArray) (maxL : Nat) (ret : Option FieldType) (own : String) (hh : List (Nat × Nat × Nat × Nat))
    (hy : plainName y.cls = true) (hw : ws = Cond.codeWith y cc maxL ret hh :: ws') (ho : y.cls = own) (hn : (lg_sl As).length ≤ maxL)
    (body : ∀ K : yK, Cx K cc own ws maxL ret D cy → CX K → CH K hh → CN K → CL K D cL → Y K l rm D cy adr maxL 0 0 (QW K D cy cL adr q k M' f' mc ms) M (yEo cL q f) (lv_args 0 As) 0 []) : Cw l y ws rm D cy cL adr q As M f k M' f' mc ms := by
  intro sz
  refine va_MetW (cc := cc) (maxL := maxL) (ret := ret) (hh := hh) hy hw ?_
  intro p e s m args below meth c s₁ B hml hv
  obtain ⟨rfl, hsz, hP, hK, hL, hD0, hX, hN⟩ := hv
  have hts := atoms_spec (ws := ws) B.pre
  have hown : s.vm.findClass own = some m.cls := by rw [← ho]; exact findClass_of_methodNamed B.named
  subst hsz
  have hl := lv_entry As (n := maxL) hn
  rw [lg_entry_eq]
  have htab := vx_table (x := y) B (hts _ (by rw [hw]; exact List.mem_cons_self))
  refine body (p, e, s, m, As.toArray, below, meth, c, yAQ adr q s.heap.size) ⟨B.exec, B.bytes, hml, hown, hts, hK, fun q h => Or.inl (Or.inr h), B.returns, B.notSynchronized⟩ hX htab hN hL s.heap [] _ hP ?_ va_S.rf hl
  refine ⟨hD0.1, fun k z hz => ?_⟩
  by_cases hk : k < 58
  · rw [ypl_get hk] at hz
    cases hz
    exact Or.inl (Or.inl ⟨k, hk, rfl⟩)
  · obtain ⟨i, rfl⟩ : ∃ i, k = 58 + i := ⟨k - 58, by omega⟩
    rw [ypl_E] at hz
    match i, hz with
    | 0, hz => cases hz; exact Or.inr rfl
    | i + 1, hz => simp at hz
def YX (K : yK) (l : Launch) (R : Room) (D : va_G) (cy : Nat → ClassId) (adr : Nat → Nat) (nL cells slots : Nat) (Q : State → Prop) (M : yM) (E : va_W) (lv : List (Nat × Value)) (pc : Nat) (Ex : String) : Prop := match K with
  | (p, e, s, m, args, below, meth, c, A) => ∀ (H : Heap) (locs : List Loc) (ls : Array Slot) (rest : List Value) (q9 : Addr) (ce : Cell), va_P D vwCl (ypl adr cy M ++ E) H → va_D A (ypl adr cy M ++ E) → va_S A s.heap H locs → lv_has ls nL lv → H[q9]? = some ce → ce.vm = .none → s.vm.findClass Ex = some ce.cls → vx_W p l e R s m args below meth c H locs cells slots Q (F0 m pc ls rest) q9
section
variable {K : yK} {l : Launch} {R : Room} {D : va_G} {cy : Nat → ClassId} {cL : ClassId} {adr : Nat → Nat} {nL cells slots mc ms : Nat} {Q : State → Prop} {M M' : yM} {E : va_W} {lv : List (Nat × Value)} {pc : Nat} {st : List Value} {cc : ByteArray} {own : String} {Ts : List Cond} {ret : Option FieldType} {r : Option Value} {o : Option String} {hh : List (Nat × Nat × Nat × Nat)} {q : Nat} {f : Nat → Int64}
theorem y_catch (C0 : Cx K cc own Ts nL ret D cy) (hX : CX K) (hC : CH K hh) (hN : CN K) {Ex : String} (pre : List ExceptionTableEntry) (x : ExceptionTableEntry) (suf : List ExceptionTableEntry) (hsplit : tableOf hh = pre ++ x :: suf) (hpass : ∀ z ∈ pre, z.catchType ≠ 0 ∧ ∃ nm, Cond.classLink own z.catchType nm ∈ Ts ∧ (Ex, nm) ∈ yPairs) (hx : covers x pc = true) (h0 : x.catchType ≠ 0) (hlink : Cond.classLink own x.catchType Ex ∈ Ts) (hin : Ex ∈ yExs) (kk : ∀ q9 : Nat, Y K l R D cy adr nL cells slots Q M E lv x.handlerPc [.ref q9]) : YX K l R D cy adr nL cells slots Q M E lv pc Ex := by
  obtain ⟨p, e, s, m, args, below, meth, c, A⟩ := K
  obtain ⟨hx1, hb, hml, hown, hts, hK, hA, hr, hlk⟩ := C0
  intro H locs ls rest q9 ce hP hD hS hl hce hcv hcl
  have hcb : Cond.castable Ex Ex ∈ yBad := by
    revert hin; clear hpass hlink hcl; intro hin
    simp only [yExs, List.mem_cons, List.not_mem_nil, or_false] at hin
    rcases hin with rfl | rfl | rfl <;> decide +kernel
  refine vx_catch (own := own) (name := Ex) (E := Ex) hown pre x suf (hC.trans hsplit) (fun z hz => Or.inr ?_) hx h0 (hts _ hlink) (va_Nw.use (yBad_tabs _ hcb) (hX.2.2.2 _ hcb)) hce hcv hcl (kk q9 H locs ls hP hD hS hl)
  obtain ⟨h1, nm, h2, h3⟩ := hpass z hz
  exact ⟨h1, nm, hts _ h2, hN _ h3⟩
theorem y_callVXc (C0 : Cx K cc own Ts nL ret D cy) (hX : CX K) {y : MethodName} {bytes : ByteArray} {maxL index : Nat} {rety : Option FieldType} {ws ws' : List Cond} {rm : Room} {C : String} {T : u_T} {N jb n : Nat} {As rest st0 : List Value}
    (hM : Cv l y ws rm D cy adr (.ref (adr jb) :: As) M o r M' mc ms) (ci : Nat) (hc : vwCl[ci]? = some (C, T, N)) (hci : ci < 6) (hkd : ykd jb = ci)
    (hG : GoodIn Ts (wsV own index C y ws)) (hw : ws = Cond.code y bytes maxL rety :: ws') (hrc : rm.cells = mc) (hrs : rm.slots = ms)
    (hd : y.cls = C ∧ y.cls ≠ "java/lang/invoke/MethodHandle" ∧ y.cls ≠ "java/lang/invoke/VarHandle" ∧ (parseMethodDescriptor y.desc).map (fun d => d.parameters.length) = some n) (hR : rm.frames + 1 ≤ R.frames ∧ 8 + (maxL + 11) + rm.locals ≤ R.locals)
    (hn : As.length = n) (hst : st0 = As.reverse ++ .ref (adr jb) :: rest) (hcat : (rest.map fun v => v.category).sum ≤ 8) (d : decode cc pc = .ok (.invokevirtual index, 3)) (hf : cells + mc ≤ R.cells ∧ slots + ms ≤ R.slots)
    (kk : o = none → Y K l R D cy adr nL (cells + mc) (slots + ms) Q M' E lv (pc + 3) (r.toList ++ rest))
    (kx : ∀ Ex, o = some Ex → YX K l R D cy adr nL (cells + mc) (slots + ms) Q M' E lv pc Ex) : Y K l R D cy adr nL cells slots Q M E lv pc st0 := by
  obtain ⟨p, e, s, m, args, below, meth, c, A⟩ := K
  obtain ⟨hx, hb, hml, hown, hts, hK, hA, hr, hlk⟩ := C0
  intro H locs ls hP hD hS hl
  have he : (ypl adr cy M ++ E)[jb]? = some (adr jb, .inr (ci, yfs adr M jb (ynf ci))) := by
    rw [ypl_get (ykd_lt (by omega))]
    unfold ycl
    rw [if_pos (by omega), hkd]
  have hF : ∀ q, yAA adr H.size q → A q := by
    intro q h
    rcases h with ⟨j, hj, rfl⟩ | h
    · exact hD.2 j _ (ypl_get hj)
    · exact hA q (Nat.le_trans hS.1 h)
  refine y_joinX hA hP hD hS hl (vx_runV (As := As) (rest := rest) ⟨hx, hb, hml, hown, hts⟩ (hM H.size) (cwV n hts hG hw hrc hrs hd hR) ⟨Pxy_blind, va_recv hK hP hc he, fun U hU hW => ⟨⟨rfl, by rw [hU], by rw [hU]; exact ypl_P hP, va_K.moved hW.alike hK, y_whole hD⟩, yXP.to hX hU hW hS hF⟩⟩ rfl hn hl.1 hst (lv_room (Nat.le_trans hcat (Nat.le_refl 8))) d hf) kk ?_
  intro Ex H1 locs1 q ce ho hP1 hD1 hS1 hce hcv hcl
  exact kx Ex ho H1 locs1 ls rest q ce hP1 hD1 hS1 hl hce hcv hcl
theorem y_lastE (C0 : Cx K cc own Ts nL ret D cy) (hL : CL K D cL) {x : Int64} (d : decode cc pc = .ok (.lastore, 1)) (kk : Y K l R D cy adr nL cells slots Q M (yEo cL q (vp_updL f 0 x)) lv (pc + 1) st) : Y K l R D cy adr nL cells slots Q M (yEo cL q f) lv pc (.long x :: .int 0 :: .ref q :: st) := by
  obtain ⟨p, e, s, m, args, below, meth, c, A⟩ := K
  obtain ⟨hx, hb, hml, hown, hts, hK, hA, hr, hlk⟩ := C0
  intro H locs ls hP hD hS hl
  have e0 : (ypl adr cy M ++ yEo cL q f)[58]? = some (q, .inl (cL, 1, .inr (.inl f))) := ypl_E (k := 0)
  refine va_last hx hb hL hP hD hS 58 0 e0 rfl (show vp_in (0 : Int32) 1 from vp_in_nI (n := 0) (N := 1) (by decide) (by decide)) d (fun H1 locs1 hP1 hD1 hS1 => ?_)
  rw [ypl_setE] at hP1 hD1
  exact kk H1 locs1 ls hP1 hD1 hS1 hl
theorem y_lastL (C0 : Cx K cc own Ts nL ret D cy) (hL : CL K D cL) (d : decode cc pc = .ok (.laload, 1)) (kk : Y K l R D cy adr nL cells slots Q M (yEo cL q f) lv (pc + 1) (.long (f 0) :: st)) : Y K l R D cy adr nL cells slots Q M (yEo cL q f) lv pc (.int 0 :: .ref q :: st) := by
  obtain ⟨p, e, s, m, args, below, meth, c, A⟩ := K
  obtain ⟨hx, hb, hml, hown, hts, hK, hA, hr, hlk⟩ := C0
  intro H locs ls hP hD hS hl
  have e0 : (ypl adr cy M ++ yEo cL q f)[58]? = some (q, .inl (cL, 1, .inr (.inl f))) := ypl_E (k := 0)
  exact va_lald hx hb hL hP 58 0 e0 rfl (show vp_in (0 : Int32) 1 from vp_in_nI (n := 0) (N := 1) (by decide) (by decide)) d (kk H locs ls hP hD hS hl)
theorem y_iretW {k : Int32} {M' : yM} {f' : Nat → Int64} (C0 : Cx K cc own Ts nL (some .int) D cy) {v : Int32} (d : decode cc pc = .ok (.ireturn, 1)) (e1 : v = k) (e2 : M = M') (e3 : f = f') : Y K l R D cy adr nL mc ms (QW K D cy cL adr q k M' f' mc ms) M (yEo cL q f) lv pc [.int v] := by
  subst e1; subst e2; subst e3
  obtain ⟨p, e, s, m, args, below, meth, c, A⟩ := K
  obtain ⟨hx, hb, hml, hown, hts, hK, hA, hr, hlk⟩ := C0
  exact fun H locs ls hP hD hS hl => W.iret hx hb hr (fun t ht hW => ⟨rfl, by rw [ht]; exact hP, hS.F ht⟩) hS.2.2 d hlk
/-- the law calls one of these -/
theorem y_callW (C0 : Cx K cc own Ts nL ret D cy) (hX : CX K) (hN : CN K) (hL : CL K D cL) {y : MethodName} {bytes : ByteArray} {maxL index : Nat} {rety : Option FieldType} {ws ws' : List Cond} {rm : Room} {n : Nat} {As rest st0 : List Value} {k : Int32} {f' : Nat → Int64}
    (hM : Cw l y ws rm D cy cL adr q As M f k M' f' mc ms)
    (hG : GoodIn Ts (va_wsS own index y ws)) (hw : ws = Cond.codeWith y bytes maxL rety hh :: ws') (hrc : rm.cells = mc) (hrs : rm.slots = ms)
    (hd : y.cls ≠ "java/lang/invoke/MethodHandle" ∧ y.cls ≠ "java/lang/invoke/VarHandle" ∧ (parseMethodDescriptor y.desc).map (fun d => d.parameters.length) = some n) (hR : rm.frames + 1 ≤ R.frames ∧ 8 + (maxL + 11) + rm.locals ≤ R.locals)
    (hn : As.length = n) (hst : st0 = As.reverse ++ rest) (hcat : (rest.map fun v => v.category).sum ≤ 8) (d : decode cc pc = .ok (.invokestatic index, 3)) (hf : cells + mc ≤ R.cells ∧ slots + ms ≤ R.slots)
    (kk : Y K l R D cy adr nL (cells + mc) (slots + ms) Q M' (yEo cL q f') lv (pc + 3) (.int k :: rest)) : Y K l R D cy adr nL cells slots Q M (yEo cL q f) lv pc st0 := by
  obtain ⟨p, e, s, m, args, below, meth, c, A⟩ := K
  obtain ⟨hx, hb, hml, hown, hts, hK, hA, hr, hlk⟩ := C0
  intro H locs ls hP hD hS hl
  have hF : ∀ z, yAQ adr q H.size z → A z := by
    intro z h
    rcases h with (⟨j, hj, rfl⟩ | h) | rfl
    · exact hD.2 j _ (ypl_get hj)
    · exact hA z (Nat.le_trans hS.1 h)
    · exact hD.2 58 _ (ypl_E (k := 0))
  have hrun := vx_runSW (As := As) (rest := rest) ⟨hx, hb, hml, hown, hts⟩ (hM H.size) (vx_cwSW n hts hG hw hrc hrs hd hR) (H := H) ⟨Pwo_blind, fun U hU hW => ⟨rfl, by rw [hU], by rw [hU]; exact hP, va_K.moved hW.alike hK, va_K.moved hW.alike hL, ⟨hD.1, fun _ _ _ => trivial⟩, yXP.to hX hU hW hS hF, yNC.moved hW.alike hN⟩⟩ (p := p) (l := l) (e := e) (below := below) (meth := meth) (c := c) (locs := locs) (cells := cells) (slots := slots) (g := F0 m pc ls st0) rfl hn hl.1 hst (lv_room (Nat.le_trans hcat (Nat.le_refl 8))) d hf
  intro T hT X
  obtain ⟨v, st₀, t, T', L, h0, X', hLL, e1, e2, ⟨hv, hp, hz, hk⟩, sg⟩ := hrun T hT X
  cases hv
  rw [h0] at hz hk
  have hS1 : va_S A s.heap T'.heap (locs ++ L) := by
    refine ⟨Nat.le_trans hS.1 (by rw [e1]; exact hz), fun z h1 h2 => ?_, fun z hz9 => ?_⟩
    · rw [e1, hk z (Nat.lt_of_lt_of_le h1 hS.1) (fun w => h2 (hF z w))]
      exact hS.2.1 z h1 h2
    · rcases List.mem_append.mp hz9 with h | h
      · exact hS.2.2 z h
      · exact hF _ (hLL z h)
  have hD1 : va_D A (ypl adr cy M' ++ yEo cL q f') := by
    have h9 := ypl_D (M' := M') hD
    have e9 : (ypl adr cy M' ++ yEo cL q f).set 58 (q, .inl (cL, 1, .inr (.inl f'))) = ypl adr cy M' ++ yEo cL q f' := ypl_setE
    rw [← e9]
    exact h9.set (ypl_E (k := 0))
  obtain ⟨t2, a1, b1⟩ := kk T'.heap (locs ++ L) ls (by rw [e1]; exact hp) hD1 hS1 hl T' rfl X'
  exact ⟨t2, sg t2 a1, b1⟩
end
/-- the law's code of what was thrown -/
def kc (a b c : String) (o : Option String) : Int32 := match o with | none => 0 | some E => if E = a then 1 else if E = b then 2 else if E = c then 3 else 4
def fo (o : Option String) (f : Nat → Int64) (v : Int32) : Nat → Int64 := match o with | none => vp_updL f 0 v.toInt64 | some _ => f
theorem fo_n {o : Option String} {f : Nat → Int64} {v : Int32} (h : o = none) : vp_updL f 0 v.toInt64 = fo o f v := by subst h; rfl
theorem fo_s {o : Option String} {f : Nat → Int64} {v : Int32} {E : String} (h : o = some E) : f = fo o f v := by subst h; rfl
theorem kc_n {a b c : String} {o : Option String} (h : o = none) : 0 = kc a b c o := by subst h; rfl
theorem kc_1 {a b c : String} {o : Option String} (h : o = some a) : 1 = kc a b c o := by subst h; simp [kc]
theorem kc_2 {a b c : String} {o : Option String} (h : o = some b) (hab : b ≠ a) : 2 = kc a b c o := by subst h; simp [kc, hab]
theorem kc_3 {a b c : String} {o : Option String} (h : o = some c) (ha : c ≠ a) (hb : c ≠ b) : 3 = kc a b c o := by subst h; simp [kc, ha, hb]
end YWr
