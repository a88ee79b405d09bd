section YHp
/-- the script that a method reads beside its world -/
def CB (K : yK) (b L : Nat) (xs : Nat → Int32) : Prop := match K with
  | (_, _, s, _, _, _, _, _, A) => va_X b L xs s s.heap ∧ b < s.heap.size ∧ ¬ A b
/-! A METHOD THAT WRITES NOTHING: its heap stays as it is -/
def N (K : yK) (l : Launch) (R : Room) (nL cells slots : Nat) (Q : State → Prop) (lv : List (Nat × Value)) (pc : Nat) (st : List Value) : Prop := match K with
  | (p, e, s, m, args, below, meth, c, _) => ∀ (ls : Array Slot), lv_has ls nL lv → W p l e R s m args below meth c s.heap [] cells slots Q (F0 m pc ls st)
/-- the script that it reads -/
def CS (K : yK) (b L : Nat) (xs : Nat → Int32) : Prop := match K with
  | (_, _, s, _, _, _, _, _, _) => va_X b L xs s s.heap
def Pn (D : va_G) (cy : Nat → ClassId) (b L : Nat) (xs : Nat → Int32) (As : List Value) : Array Value → State → Prop := va_Pc As (fun U => va_X b L xs U U.heap ∧ va_K D vwCl (ytys cy) U)
def Qn (v : Int32) : Array Value → State → Outcome → State → Prop := fun _ st oc t => oc = .returned (some (.int v)) ∧ t.heap = st.heap
/-- its contract -/
def Ch (l : Launch) (y : MethodName) (ws : List Cond) (rm : Room) (D : va_G) (cy : Nat → ClassId) (b L : Nat) (xs : Nat → Int32) (As : List Value) (v : Int32) : Prop := Met l y ws rm (Pn D cy b L xs As) (Qn v) 0 0 (fun _ => False)
def QH (K : yK) (v : Int32) : State → Prop := match K with
  | (_, _, s, _, args, below, _, _, _) => MQ below (Qn v) args s 0 0 (fun _ => False)
theorem Pn_blind {D : va_G} {cy : Nat → ClassId} {b L : Nat} {xs : Nat → Int32} {As : List Value} : FrameBlind (Pn D cy b L xs As) := fun a U g mk q => by
  obtain ⟨q0, q1, q2⟩ := q
  exact ⟨q0, va_X.moved (u := U) (U := U.calling g mk a) (Vm.Alike.refl U.vm) q1, va_K.moved (u := U) (U := U.calling g mk a) (Vm.Alike.refl U.vm) q2⟩
theorem Ch.mk {l : Launch} {y : MethodName} {ws ws' : List Cond} {rm : Room} {D : va_G} {cy : Nat → ClassId} {b L : Nat} {xs : Nat → Int32} {As : List Value} {v : Int32} (cc : ByteArray) (maxL : Nat) (own : String)
    (hy : plainName y.cls = true) (hw : ws = Cond.code y cc maxL (some .int) :: ws') (ho : y.cls = own) (hn : (lg_sl As).length ≤ maxL)
    (body : ∀ K : yK, Cx K cc own ws maxL (some .int) D cy → CS K b L xs → N K l rm maxL 0 0 (QH K v) (lv_args 0 As) 0 []) : Ch l y ws rm D cy b L xs As v := by
  refine Met.ofW (cc := cc) (maxL := maxL) (ret := some .int) hy hw ?_
  intro p e s m args below meth c s₁ B hml hv
  obtain ⟨rfl, hX, hK⟩ := hv
  have hts := atoms_spec (ws := ws) B.pre
  have hown : s.vm.findClass own = some m.cls := by rw [← ho]; exact findClass_of_methodNamed B.named
  have hl := lv_entry As (n := maxL) hn
  rw [lg_entry_eq]
  exact body (p, e, s, m, As.toArray, below, meth, c, fun q => s.heap.size ≤ q) ⟨B.exec, B.bytes, hml, hown, hts, hK, fun q h => h, B.returns, B.notSynchronized⟩ hX _ hl
section
variable {K : yK} {l : Launch} {R : Room} {D : va_G} {cy : Nat → ClassId} {nL cells slots : Nat} {Q : State → Prop} {lv : List (Nat × Value)} {pc : Nat} {st : List Value} {cc : ByteArray} {own : String} {Ts : List Cond} {ret : Option FieldType}
theorem n_iconst (C0 : Cx K cc own Ts nL ret D cy) {n : Int} {v : Int32} (d : decode cc pc = .ok (.iconst n, 1)) (hv : Int32.ofInt n = v) (k : N K l R nL cells slots Q lv (pc + 1) (.int v :: st)) : N K l R nL cells slots Q lv pc st := by
  obtain ⟨p, e, s, m, args, below, meth, c, A⟩ := K
  exact fun ls hl => lv_iconst C0.1 C0.2.1 d hv (k ls hl)
theorem n_bipush (C0 : Cx K cc own Ts nL ret D cy) {n : Int} {v : Int32} (d : decode cc pc = .ok (.bipush n, 2)) (hv : (Int8.ofInt n).toInt32 = v) (k : N K l R nL cells slots Q lv (pc + 2) (.int v :: st)) : N K l R nL cells slots Q lv pc st := by
  obtain ⟨p, e, s, m, args, below, meth, c, A⟩ := K
  exact fun ls hl => lv_bipush C0.1 C0.2.1 d hv (k ls hl)
theorem n_iload_n (C0 : Cx K cc own Ts nL ret D cy) (k : Nat) {q : Fin 4} {i : Nat} {x : Int32} (d : decode cc pc = .ok (.iload_n q, 1)) (hi : (q : Nat) = i) (hk : lv[k]? = some (i, .int x)) (kk : N K l R nL cells slots Q lv (pc + 1) (.int x :: st)) : N K l R nL cells slots Q lv pc st := by
  obtain ⟨p, e, s, m, args, below, meth, c, A⟩ := K
  exact fun ls hl => lv_iload_n C0.1 C0.2.1 d hi (lv_at hl k hk) (kk ls hl)
theorem n_aload_n (C0 : Cx K cc own Ts nL ret D cy) (k : Nat) {q : Fin 4} {i : Nat} {x : Nat} (d : decode cc pc = .ok (.aload_n q, 1)) (hi : (q : Nat) = i) (hk : lv[k]? = some (i, .ref x)) (kk : N K l R nL cells slots Q lv (pc + 1) (.ref x :: st)) : N K l R nL cells slots Q lv pc st := by
  obtain ⟨p, e, s, m, args, below, meth, c, A⟩ := K
  exact fun ls hl => lv_aload_n C0.1 C0.2.1 d hi (lv_at hl k hk) (kk ls hl)
theorem n_iadd (C0 : Cx K cc own Ts nL ret D cy) {x y : Int32} (d : decode cc pc = .ok (.iadd, 1)) (k : N K l R nL cells slots Q lv (pc + 1) (.int (x + y) :: st)) : N K l R nL cells slots Q lv pc (.int y :: .int x :: st) := by
  obtain ⟨p, e, s, m, args, below, meth, c, A⟩ := K
  exact fun ls hl => lv_iadd C0.1 C0.2.1 d (k ls hl)
theorem n_imul (C0 : Cx K cc own Ts nL ret D cy) {x y : Int32} (d : decode cc pc = .ok (.imul, 1)) (k : N K l R nL cells slots Q lv (pc + 1) (.int (x * y) :: st)) : N K l R nL cells slots Q lv pc (.int y :: .int x :: st) := by
  obtain ⟨p, e, s, m, args, below, meth, c, A⟩ := K
  exact fun ls hl => lv_imul C0.1 C0.2.1 d (k ls hl)
theorem n_irem (C0 : Cx K cc own Ts nL ret D cy) {x y v : Int32} (d : decode cc pc = .ok (.irem, 1)) (hne : ¬ y = 0) (hv : x - x / y * y = v) (k : N K l R nL cells slots Q lv (pc + 1) (.int v :: st)) : N K l R nL cells slots Q lv pc (.int y :: .int x :: st) := by
  subst hv
  obtain ⟨p, e, s, m, args, below, meth, c, A⟩ := K
  exact fun ls hl => lv_irem C0.1 C0.2.1 d hne (k ls hl)
theorem n_iand (C0 : Cx K cc own Ts nL ret D cy) {x y : Int32} (d : decode cc pc = .ok (.iand, 1)) (k : N K l R nL cells slots Q lv (pc + 1) (.int (x &&& y) :: st)) : N K l R nL cells slots Q lv pc (.int y :: .int x :: st) := by
  obtain ⟨p, e, s, m, args, below, meth, c, A⟩ := K
  exact fun ls hl => lv_iand C0.1 C0.2.1 d (k ls hl)
theorem n_goto (C0 : Cx K cc own Ts nL ret D cy) {off : Int} (tgt : Nat) (d : decode cc pc = .ok (.goto off, 3)) (ht : (pc : Int) + off = (tgt : Int)) (k : N K l R nL cells slots Q lv tgt st) : N K l R nL cells slots Q lv pc st := by
  obtain ⟨p, e, s, m, args, below, meth, c, A⟩ := K
  exact fun ls hl => lv_goto C0.1 C0.2.1 d ht (k ls hl)
theorem n_icmp_ge (C0 : Cx K cc own Ts nL ret D cy) {x y : Int32} {off : Int} (tgt : Nat) (d : decode cc pc = .ok (.if_icmp .ge off, 3)) (ht : (pc : Int) + off = (tgt : Int)) (kt : y ≤ x → N K l R nL cells slots Q lv tgt st) (kf : ¬ y ≤ x → N K l R nL cells slots Q lv (pc + 3) st) : N K l R nL cells slots Q lv pc (.int y :: .int x :: st) := by
  obtain ⟨p, e, s, m, args, below, meth, c, A⟩ := K
  exact fun ls hl => lv_icmp_ge C0.1 C0.2.1 d ht (fun q => kt q ls hl) (fun q => kf q ls hl)
theorem n_icmp_ne (C0 : Cx K cc own Ts nL ret D cy) {x y : Int32} {off : Int} (tgt : Nat) (d : decode cc pc = .ok (.if_icmp .ne off, 3)) (ht : (pc : Int) + off = (tgt : Int)) (kt : ¬ x = y → N K l R nL cells slots Q lv tgt st) (kf : x = y → N K l R nL cells slots Q lv (pc + 3) st) : N K l R nL cells slots Q lv pc (.int y :: .int x :: st) := by
  obtain ⟨p, e, s, m, args, below, meth, c, A⟩ := K
  exact fun ls hl => lv_icmp_ne C0.1 C0.2.1 d ht (fun q => kt q ls hl) (fun q => kf q ls hl)
theorem n_if_ne (C0 : Cx K cc own Ts nL ret D cy) {x : Int32} {off : Int} (tgt : Nat) (d : decode cc pc = .ok (.ifCond .ne off, 3)) (ht : (pc : Int) + off = (tgt : Int)) (kt : ¬ x = 0 → N K l R nL cells slots Q lv tgt st) (kf : x = 0 → N K l R nL cells slots Q lv (pc + 3) st) : N K l R nL cells slots Q lv pc (.int x :: st) := by
  obtain ⟨p, e, s, m, args, below, meth, c, A⟩ := K
  exact fun ls hl => lv_if_ne C0.1 C0.2.1 d ht (fun q => kt q ls hl) (fun q => kf q ls hl)
theorem n_ishr (C0 : Cx K cc own Ts nL ret D cy) {x y : Int32} (d : decode cc pc = .ok (.ishr, 1)) (k : N K l R nL cells slots Q lv (pc + 1) (.int (x >>> (y &&& 31)) :: st)) : N K l R nL cells slots Q lv pc (.int y :: .int x :: st) := by
  obtain ⟨p, e, s, m, args, below, meth, c, A⟩ := K
  exact fun ls hl => lv_ishr C0.1 C0.2.1 d (k ls hl)
theorem n_ldc (C0 : Cx K cc own Ts nL ret D cy) {index : Nat} {v : Int32} (hw : Jvm.Cond.constant own index v ∈ Ts) (d : decode cc pc = .ok (.ldc index, 2)) (k : N K l R nL cells slots Q lv (pc + 2) (.int v :: st)) : N K l R nL cells slots Q lv pc st := by
  obtain ⟨p, e, s, m, args, below, meth, c, A⟩ := K
  exact fun ls hl => lv_ldc C0.1 C0.2.1 C0.2.2.2.1 (C0.2.2.2.2.1 _ hw) d (k ls hl)
theorem n_slen {b L : Nat} {xs : Nat → Int32} (C0 : Cx K cc own Ts nL ret D cy) (hB : CS K b L xs) (d : decode cc pc = .ok (.arraylength, 1)) (kk : N K l R nL cells slots Q lv (pc + 1) (.int (nI L) :: st)) : N K l R nL cells slots Q lv pc (.ref b :: st) := by
  obtain ⟨p, e, s, m, args, below, meth, c, A⟩ := K
  have hlt : b < s.heap.size := by
    obtain ⟨scr, h1, _⟩ := hB
    exact (Array.getElem?_eq_some_iff.mp h1).1
  exact fun ls hl => va_slen (A := fun _ => False) C0.1 C0.2.1 hB hlt (fun q => q) va_S.rf d (kk ls hl)
theorem n_sld {b L : Nat} {xs : Nat → Int32} (C0 : Cx K cc own Ts nL ret D cy) (hB : CS K b L xs) {j : Nat} (hj : j < L) (hL : L ≤ 2048) (d : decode cc pc = .ok (.iaload, 1)) (kk : N K l R nL cells slots Q lv (pc + 1) (.int (xs j) :: st)) : N K l R nL cells slots Q lv pc (.int (nI j) :: .ref b :: st) := by
  obtain ⟨p, e, s, m, args, below, meth, c, A⟩ := K
  have hlt : b < s.heap.size := by
    obtain ⟨scr, h1, _⟩ := hB
    exact (Array.getElem?_eq_some_iff.mp h1).1
  intro ls hl
  refine va_sld (A := fun _ => False) C0.1 C0.2.1 hB hlt (fun q => q) va_S.rf (vp_in_nI hj (by omega)) d ?_
  rw [nI_clamp (by omega)]
  exact kk ls hl
theorem n_top {x y : Int32} (h : x = y) (k : N K l R nL cells slots Q lv pc (.int y :: st)) : N K l R nL cells slots Q lv pc (.int x :: st) := by subst h; exact k
theorem n_eq {lv' : List (Nat × Value)} (h2 : lv' = lv) (k : N K l R nL cells slots Q lv' pc st) : N K l R nL cells slots Q lv pc st := by subst h2; exact k
theorem n_iret (C0 : Cx K cc own Ts nL (some .int) D cy) {v w : Int32} (d : decode cc pc = .ok (.ireturn, 1)) (e1 : v = w) : N K l R nL 0 0 (QH K w) lv pc [.int v] := by
  subst e1
  obtain ⟨p, e, s, m, args, below, meth, c, A⟩ := K
  obtain ⟨hx, hb, hml, hown, hts, hK, hA, hr, hlk⟩ := C0
  intro ls hl
  show W p l e R s m args below meth c s.heap [] 0 0 (MQ below (Qn v) args s 0 0 (fun _ => False)) _
  exact W.iret (Qc := Qn v) (free := fun _ => False) hx hb hr (fun t ht hW => ⟨rfl, ht⟩) (fun q h => absurd h List.not_mem_nil) d hlk
/-- a helper is called -/
theorem hp_run {p : Program} {e : Env} {s : State} {m : MethodId} {args : Array Value} {below : List Frame} {meth : Method} {c : Code} {H : Heap} {locs : List Loc} {ls : Array Slot} {rest st0 As : List Value} {b L : Nat} {xs : Nat → Int32} {v : Int32} {y : MethodName} {bytes : ByteArray} {maxL index n : Nat} {ws ws' : List Cond} {rm : Room}
    (hx : p.tables.exec = Jvm.exec) (hb : c.code = cc) (hml : c.maxLocals = nL) (hown : s.vm.findClass own = some m.cls) (hts : ∀ w ∈ Ts, w.before args s = true) (hK : va_K D vwCl (ytys cy) s)
    (hX : va_X b L xs s H) (hls : ls.size = nL)
    (hM : Ch l y ws rm D cy b L xs As v) (hG : GoodIn Ts (va_wsS own index y ws)) (hw : ws = Cond.code y bytes maxL (some .int) :: ws') (hrc : rm.cells = 0) (hrs : rm.slots = 0)
    (hd : y.cls ≠ "java/lang/invoke/MethodHandle" ∧ y.cls ≠ "java/lang/invoke/VarHandle" ∧ (parseMethodDescriptor y.desc).map (fun d => d.parameters.length) = some n) (hR : rm.frames + 1 ≤ R.frames ∧ 8 + (maxL + 11) + rm.locals ≤ R.locals)
    (hn : As.length = n) (hst : st0 = As.reverse ++ rest) (hcat : (rest.map fun v => v.category).sum ≤ 8) (d : decode cc pc = .ok (.invokestatic index, 3)) (hf : cells ≤ R.cells ∧ slots ≤ R.slots)
    (kk : W p l e R s m args below meth c H locs cells slots Q (F0 m (pc + 3) ls (.int v :: rest))) : W p l e R s m args below meth c H locs cells slots Q (F0 m pc ls st0) := by
  have hrun := va_runS (As := As) (rest := rest) ⟨hx, hb, hml, hown, hts⟩ hM (va_cwS n hts hG hw hrc hrs hd hR) (H := H) ⟨Pn_blind, fun U hU hW => ⟨rfl, by rw [hU]; exact va_X.moved hW.alike hX, va_K.moved hW.alike hK⟩⟩ (p := p) (l := l) (e := e) (below := below) (meth := meth) (c := c) (locs := locs) (cells := cells) (slots := slots) (g := F0 m pc ls st0) rfl hn hls hst (lv_room (Nat.le_trans hcat (Nat.le_refl 8))) d hf
  intro T hT X
  obtain ⟨v9, st₀, t, T', L9, h0, X', hLL, e1, e2, ⟨hv, hh⟩, sg⟩ := hrun T hT X
  cases hv
  have hL0 : L9 = [] := List.eq_nil_iff_forall_not_mem.mpr (fun q hq => hLL q hq)
  subst hL0
  rw [List.append_nil] at X'
  obtain ⟨t2, a1, b1⟩ := kk T' (by rw [e1, hh, h0]) X'
  exact ⟨t2, sg t2 a1, b1⟩
theorem n_callS {b L : Nat} {xs : Nat → Int32} (C0 : Cx K cc own Ts nL ret D cy) (hB : CS K b L xs) {y : MethodName} {bytes : ByteArray} {maxL index n : Nat} {ws ws' : List Cond} {rm : Room} {As rest st0 : List Value} {v : Int32}
    (hM : Ch l y ws rm D cy b L xs As v) (hG : GoodIn Ts (va_wsS own index y ws)) (hw : ws = Cond.code y bytes maxL (some .int) :: ws') (hrc : rm.cells = 0) (hrs : rm.slots = 0)
    (hd : y.cls ≠ "java/lang/invoke/MethodHandle" ∧ y.cls ≠ "java/lang/invoke/VarHandle" ∧ (parseMethodDescriptor y.desc).map (fun d => d.parameters.length) = some n) (hR : rm.frames + 1 ≤ R.frames ∧ 8 + (maxL + 11) + rm.locals ≤ R.locals)
    (hn : As.length = n) (hst : st0 = As.reverse ++ rest) (hcat : (rest.map fun v => v.category).sum ≤ 8) (d : decode cc pc = .ok (.invokestatic index, 3)) (hf : cells ≤ R.cells ∧ slots ≤ R.slots)
    (kk : N K l R nL cells slots Q lv (pc + 3) (.int v :: rest)) : N K l R nL cells slots Q lv pc st0 := by
  obtain ⟨p, e, s, m, args, below, meth, c, A⟩ := K
  obtain ⟨hx, hb, hml, hown, hts, hK, hA, hr, hlk⟩ := C0
  exact fun ls hl => hp_run hx hb hml hown hts hK hB hl.1 hM hG hw hrc hrs hd hR hn hst hcat d hf (kk ls hl)
theorem y_callH {b L : Nat} {xs : Nat → Int32} {adr : Nat → Nat} {M : yM} {E : va_W} (C0 : Cx K cc own Ts nL ret D cy) (hB : CB K b L xs) {y : MethodName} {bytes : ByteArray} {maxL index n : Nat} {ws ws' : List Cond} {rm : Room} {As rest st0 : List Value} {v : Int32}
    (hM : Ch l y ws rm D cy b L xs As v) (hG : GoodIn Ts (va_wsS own index y ws)) (hw : ws = Cond.code y bytes maxL (some .int) :: ws') (hrc : rm.cells = 0) (hrs : rm.slots = 0)
    (hd : y.cls ≠ "java/lang/invoke/MethodHandle" ∧ y.cls ≠ "java/lang/invoke/VarHandle" ∧ (parseMethodDescriptor y.desc).map (fun d => d.parameters.length) = some n) (hR : rm.frames + 1 ≤ R.frames ∧ 8 + (maxL + 11) + rm.locals ≤ R.locals)
    (hn : As.length = n) (hst : st0 = As.reverse ++ rest) (hcat : (rest.map fun v => v.category).sum ≤ 8) (d : decode cc pc = .ok (.invokestatic index, 3)) (hf : cells ≤ R.cells ∧ slots ≤ R.slots)
    (kk : Y K l R D cy adr nL cells slots Q M E lv (pc + 3) (.int v :: rest)) : Y K l R D cy adr nL cells slots Q M E lv pc st0 := by
  obtain ⟨p, e, s, m, args, below, meth, c, A⟩ := K
  obtain ⟨hx, hb, hml, hown, hts, hK, hA, hr, hlk⟩ := C0
  obtain ⟨hX, hbs, hbA⟩ := hB
  exact fun H locs ls hP hD hS hl => hp_run hx hb hml hown hts hK (va_X.kept hX (hS.2.1 b hbs hbA)) hl.1 hM hG hw hrc hrs hd hR hn hst hcat d hf (kk H locs ls hP hD hS hl)
theorem z_callH {b L : Nat} {xs : Nat → Int32} {W0 : va_W} (C0 : Cx K cc own Ts nL ret D cy) (hB : CB K b L xs) {y : MethodName} {bytes : ByteArray} {maxL index n : Nat} {ws ws' : List Cond} {rm : Room} {As rest st0 : List Value} {v : Int32}
    (hM : Ch l y ws rm D cy b L xs As v) (hG : GoodIn Ts (va_wsS own index y ws)) (hw : ws = Cond.code y bytes maxL (some .int) :: ws') (hrc : rm.cells = 0) (hrs : rm.slots = 0)
    (hd : y.cls ≠ "java/lang/invoke/MethodHandle" ∧ y.cls ≠ "java/lang/invoke/VarHandle" ∧ (parseMethodDescriptor y.desc).map (fun d => d.parameters.length) = some n) (hR : rm.frames + 1 ≤ R.frames ∧ 8 + (maxL + 11) + rm.locals ≤ R.locals)
    (hn : As.length = n) (hst : st0 = As.reverse ++ rest) (hcat : (rest.map fun v => v.category).sum ≤ 8) (d : decode cc pc = .ok (.invokestatic index, 3)) (hf : cells ≤ R.cells ∧ slots ≤ R.slots)
    (kk : Z K l R D nL cells slots Q W0 lv (pc + 3) (.int v :: rest)) : Z K l R D nL cells slots Q W0 lv pc st0 := by
  obtain ⟨p, e, s, m, args, below, meth, c, A⟩ := K
  obtain ⟨hx, hb, hml, hown, hts, hK, hA, hr, hlk⟩ := C0
  obtain ⟨hX, hbs, hbA⟩ := hB
  exact fun H locs ls hP hD hS hl => hp_run hx hb hml hown hts hK (va_X.kept hX (hS.2.1 b hbs hbA)) hl.1 hM hG hw hrc hrs hd hR hn hst hcat d hf (kk H locs ls hP hD hS hl)
end
end YHp
