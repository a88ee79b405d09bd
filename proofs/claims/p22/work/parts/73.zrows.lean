section YZr
/-! WORLDS THAT GROW: the constructors. ws: any list of cells -/
def yAO (U : State) : Prop := va_AO "SewingFrames$Book" U ∧ va_AO "SewingFrames$Sewer" U ∧ va_AO "SewingFrames$Frame" U
theorem yAO.moved {u U : State} (hvm : u.vm.Alike U.vm) (h : yAO u) : yAO U := ⟨va_AO.moved hvm h.1, va_AO.moved hvm h.2.1, va_AO.moved hvm h.2.2⟩
def Z (K : yK) (l : Launch) (R : Room) (D : va_G) (nL cells slots : Nat) (Q : State → Prop) (ws : va_W) (lv : List (Nat × Value)) (pc : Nat) (st : List Value) : Prop := match K with
  | (p, e, s, m, args, below, meth, c, A) => ∀ (H : Heap) (locs : List Loc) (ls : Array Slot), va_P D vwCl ws H → va_D A ws → va_S A s.heap H locs → lv_has ls nL lv → W p l e R s m args below meth c H locs cells slots Q (F0 m pc ls st)
def CI (K : yK) : Prop := match K with
  | (_, _, s, _, _, _, meth, _, _) => meth.name = "<init>" ∧ yAO s
def CO (K : yK) : Prop := match K with
  | (_, _, s, _, _, _, _, _, _) => yAO s
theorem CI.o {K : yK} (h : CI K) : CO K := by
  obtain ⟨p, e, s, m, args, below, meth, c, A⟩ := K
  exact h.2
def Pci (D : va_G) (cy : Nat → ClassId) (sz : Nat) (As : List Value) (w0 : va_W) : Array Value → State → Prop := va_Pc As (fun U => U.heap.size = sz ∧ va_P D vwCl w0 U.heap ∧ va_K D vwCl (ytys cy) U ∧ va_D (fun _ => True) w0 ∧ yAO U)
theorem Pci_blind {D : va_G} {cy : Nat → ClassId} {sz : Nat} {As : List Value} {w0 : va_W} : FrameBlind (Pci D cy sz As w0) := fun a U g mk z => by
  obtain ⟨q0, q1, qP, qK, qD, qA⟩ := z
  exact ⟨q0, q1, qP, va_K.moved (u := U) (U := U.calling g mk a) (Vm.Alike.refl U.vm) qK, qD, yAO.moved (u := U) (U := U.calling g mk a) (Vm.Alike.refl U.vm) qA⟩
def Qci (D : va_G) (A : Nat → Prop) (Pw : va_W → Prop) : Array Value → State → Outcome → State → Prop := fun _ st oc t => oc = .returned none ∧ (∃ w1, Pw w1 ∧ va_P D vwCl w1 t.heap ∧ va_D A w1) ∧ va_F A st t
/-- THE CONTRACT of a constructor -/
def Ci (l : Launch) (y : MethodName) (ws : List Cond) (rm : Room) (D : va_G) (cy : Nat → ClassId) (As : List Value) (w0 : va_W) (Pw : va_W → Prop) (mc ms : Nat) : Prop := ∀ sz, Met l y ws rm (Pci D cy sz As w0) (Qci D (va_A w0 sz) Pw) mc ms (va_A w0 sz)
def QI (K : yK) (D : va_G) (Pw : va_W → Prop) (mc ms : Nat) : State → Prop := match K with
  | (_, _, s, _, args, below, _, _, A) => MQ below (Qci D A Pw) args s mc ms A
theorem Ci.mk {l : Launch} {y : MethodName} {ws ws' : List Cond} {rm : Room} {D : va_G} {cy : Nat → ClassId} {As : List Value} {w0 : va_W} {Pw : va_W → Prop} {mc ms : Nat} (cc : ByteArray) (maxL : Nat) (own : String)
    (hy : plainName y.cls = true) (hw : ws = Cond.code y cc maxL none :: ws') (ho : y.cls = own) (hi : y.name = "<init>") (hn : (lg_sl As).length ≤ maxL)
    (body : ∀ K : yK, Cx K cc own ws maxL none D cy → CI K → Z K l rm D maxL 0 0 (QI K D Pw mc ms) w0 (lv_args 0 As) 0 []) : Ci l y ws rm D cy As w0 Pw mc ms := by
  intro sz
  refine Met.ofW (cc := cc) (maxL := maxL) (ret := none) hy hw ?_
  intro p e s m args below meth c s₁ B hml hv
  obtain ⟨rfl, hsz, hP, hK, hD0, hAO⟩ := hv
  have hts := atoms_spec (ws := ws) B.pre
  have hown : s.vm.findClass own = some m.cls := by rw [← ho]; exact findClass_of_methodNamed B.named
  subst hsz
  have hl := lv_entry As (n := maxL) hn
  rw [lg_entry_eq]
  exact body (p, e, s, m, As.toArray, below, meth, c, va_A w0 s.heap.size) ⟨B.exec, B.bytes, hml, hown, hts, hK, fun q h => Or.inr h, B.returns, B.notSynchronized⟩ ⟨(name_of_methodNamed B.named B.method).1.trans hi, hAO⟩ s.heap [] _ hP hD0.self va_S.rf hl
section
variable {K : yK} {l : Launch} {R : Room} {D : va_G} {cy : Nat → ClassId} {nL cells slots mc ms : Nat} {Q : State → Prop} {ws : va_W} {lv : List (Nat × Value)} {pc : Nat} {st : List Value} {cc : ByteArray} {own : String} {Ts : List Cond} {ret : Option FieldType} {a : Nat} {fs : List Value} {Pw : va_W → Prop}
theorem z_iconst (C0 : Cx K cc own Ts nL ret D cy) {n : Int} {v : Int32} (d : decode cc pc = .ok (.iconst n, 1)) (hv : Int32.ofInt n = v) (k : Z K l R D nL cells slots Q ws lv (pc + 1) (.int v :: st)) : Z K l R D nL cells slots Q ws lv pc st := by
  obtain ⟨p, e, s, m, args, below, meth, c, A⟩ := K
  exact fun H locs ls hP hD hS hl => lv_iconst C0.1 C0.2.1 d hv (k H locs ls hP hD hS hl)
theorem z_bipush (C0 : Cx K cc own Ts nL ret D cy) {n : Int} {v : Int32} (d : decode cc pc = .ok (.bipush n, 2)) (hv : (Int8.ofInt n).toInt32 = v) (k : Z K l R D nL cells slots Q ws lv (pc + 2) (.int v :: st)) : Z K l R D nL cells slots Q ws lv pc st := by
  obtain ⟨p, e, s, m, args, below, meth, c, A⟩ := K
  exact fun H locs ls hP hD hS hl => lv_bipush C0.1 C0.2.1 d hv (k H locs ls hP hD hS hl)
theorem z_sipush (C0 : Cx K cc own Ts nL ret D cy) {n : Int} {v : Int32} (d : decode cc pc = .ok (.sipush n, 3)) (hv : (Int16.ofInt n).toInt32 = v) (k : Z K l R D nL cells slots Q ws lv (pc + 3) (.int v :: st)) : Z K l R D nL cells slots Q ws lv pc st := by
  obtain ⟨p, e, s, m, args, below, meth, c, A⟩ := K
  exact fun H locs ls hP hD hS hl => lv_sipush C0.1 C0.2.1 d hv (k H locs ls hP hD hS hl)
theorem z_iload_n (C0 : Cx K cc own Ts nL ret D cy) (k : Nat) {q : Fin 4} {i : Nat} {x : Int32} (d : decode cc pc = .ok (.iload_n q, 1)) (hi : (q : Nat) = i) (hk : lv[k]? = some (i, .int x)) (kk : Z K l R D nL cells slots Q ws lv (pc + 1) (.int x :: st)) : Z K l R D nL cells slots Q ws lv pc st := by
  obtain ⟨p, e, s, m, args, below, meth, c, A⟩ := K
  exact fun H locs ls hP hD hS hl => lv_iload_n C0.1 C0.2.1 d hi (lv_at hl k hk) (kk H locs ls hP hD hS hl)
theorem z_aload_n (C0 : Cx K cc own Ts nL ret D cy) (k : Nat) {q : Fin 4} {i : Nat} {x : Nat} (d : decode cc pc = .ok (.aload_n q, 1)) (hi : (q : Nat) = i) (hk : lv[k]? = some (i, .ref x)) (kk : Z K l R D nL cells slots Q ws lv (pc + 1) (.ref x :: st)) : Z K l R D nL cells slots Q ws lv pc st := by
  obtain ⟨p, e, s, m, args, below, meth, c, A⟩ := K
  exact fun H locs ls hP hD hS hl => lv_aload_n C0.1 C0.2.1 d hi (lv_at hl k hk) (kk H locs ls hP hD hS hl)
theorem z_istore_n (C0 : Cx K cc own Ts nL ret D cy) {q : Fin 4} {i : Nat} {x : Int32} (lv' : List (Nat × Value)) (d : decode cc pc = .ok (.istore_n q, 1)) (hi : (q : Nat) = i) (hn : i < nL) (hl' : (i, Value.int x) :: lv.filter (fun q => !(q.1 == i) && !(q.1 + 1 == i && q.2.category == 2)) = lv') (kk : Z K l R D nL cells slots Q ws lv' (pc + 1) st) : Z K l R D nL cells slots Q ws lv pc (.int x :: st) := by
  obtain ⟨p, e, s, m, args, below, meth, c, A⟩ := K
  exact fun H locs ls hP hD hS hl => lv_istore_n C0.1 C0.2.1 d hi hl hn hl' (fun ls hl => kk H locs ls hP hD hS hl)
theorem z_astore_n (C0 : Cx K cc own Ts nL ret D cy) {q : Fin 4} {i : Nat} {x : Nat} (lv' : List (Nat × Value)) (d : decode cc pc = .ok (.astore_n q, 1)) (hi : (q : Nat) = i) (hn : i < nL) (hl' : (i, Value.ref x) :: lv.filter (fun q => !(q.1 == i) && !(q.1 + 1 == i && q.2.category == 2)) = lv') (kk : Z K l R D nL cells slots Q ws lv' (pc + 1) st) : Z K l R D nL cells slots Q ws lv pc (.ref x :: st) := by
  obtain ⟨p, e, s, m, args, below, meth, c, A⟩ := K
  exact fun H locs ls hP hD hS hl => lv_astore_n C0.1 C0.2.1 d hi hl hn hl' (fun ls hl => kk H locs ls hP hD hS hl)
theorem z_iinc (C0 : Cx K cc own Ts nL ret D cy) (k : Nat) {i : Nat} {n : Int} {x v : Int32} (lv' : List (Nat × Value)) (d : decode cc pc = .ok (.iinc i n, 3)) (hk : lv[k]? = some (i, .int x)) (hv : x + Int32.ofInt n = v) (hn : i < nL) (hl' : (i, Value.int v) :: lv.filter (fun q => !(q.1 == i) && !(q.1 + 1 == i && q.2.category == 2)) = lv') (kk : Z K l R D nL cells slots Q ws lv' (pc + 3) st) : Z K l R D nL cells slots Q ws lv pc st := by
  obtain ⟨p, e, s, m, args, below, meth, c, A⟩ := K
  exact fun H locs ls hP hD hS hl => lv_iinc C0.1 C0.2.1 d hl hk hv hn hl' (fun ls hl => kk H locs ls hP hD hS hl)
theorem z_goto (C0 : Cx K cc own Ts nL ret D cy) {off : Int} (tgt : Nat) (d : decode cc pc = .ok (.goto off, 3)) (ht : (pc : Int) + off = (tgt : Int)) (k : Z K l R D nL cells slots Q ws lv tgt st) : Z K l R D nL cells slots Q ws lv pc st := by
  obtain ⟨p, e, s, m, args, below, meth, c, A⟩ := K
  exact fun H locs ls hP hD hS hl => lv_goto C0.1 C0.2.1 d ht (k H locs ls hP hD hS hl)
theorem z_icmp_ge (C0 : Cx K cc own Ts nL ret D cy) {x y : Int32} {off : Int} (tgt : Nat) (d : decode cc pc = .ok (.if_icmp .ge off, 3)) (ht : (pc : Int) + off = (tgt : Int)) (kt : y ≤ x → Z K l R D nL cells slots Q ws lv tgt st) (kf : ¬ y ≤ x → Z K l R D nL cells slots Q ws lv (pc + 3) st) : Z K l R D nL cells slots Q ws lv pc (.int y :: .int x :: st) := by
  obtain ⟨p, e, s, m, args, below, meth, c, A⟩ := K
  exact fun H locs ls hP hD hS hl => lv_icmp_ge C0.1 C0.2.1 d ht (fun q => kt q H locs ls hP hD hS hl) (fun q => kf q H locs ls hP hD hS hl)
theorem z_dup (C0 : Cx K cc own Ts nL ret D cy) {va : Value} (d : decode cc pc = .ok (.dup, 1)) (hva : va.category = 1) (k : Z K l R D nL cells slots Q ws lv (pc + 1) (va :: va :: st)) : Z K l R D nL cells slots Q ws lv pc (va :: st) := by
  obtain ⟨p, e, s, m, args, below, meth, c, A⟩ := K
  exact fun H locs ls hP hD hS hl => lv_dup C0.1 C0.2.1 d hva (k H locs ls hP hD hS hl)
theorem z_sub (ks : List Nat) (lv' : List (Nat × Value)) (h : lv_pick lv ks = lv') (k : Z K l R D nL cells slots Q ws lv' pc st) : Z K l R D nL cells slots Q ws lv pc st := by
  obtain ⟨p, e, s, m, args, below, meth, c, A⟩ := K
  exact fun H locs ls hP hD hS hl => k H locs ls hP hD hS (lv_sub hl ks h)
theorem z_widen {k n : Nat} (h1 : cells ≤ k) (h2 : slots ≤ n) (kk : Z K l R D nL k n Q ws lv pc st) : Z K l R D nL cells slots Q ws lv pc st := by
  obtain ⟨p, e, s, m, args, below, meth, c, A⟩ := K
  exact fun H locs ls hP hD hS hl => W.widen h1 h2 (kk H locs ls hP hD hS hl)
theorem z_imul (C0 : Cx K cc own Ts nL ret D cy) {x y : Int32} (d : decode cc pc = .ok (.imul, 1)) (k : Z K l R D nL cells slots Q ws lv (pc + 1) (.int (x * y) :: st)) : Z K l R D nL cells slots Q ws lv pc (.int y :: .int x :: st) := by
  obtain ⟨p, e, s, m, args, below, meth, c, A⟩ := K
  exact fun H locs ls hP hD hS hl => lv_imul C0.1 C0.2.1 d (k H locs ls hP hD hS hl)
theorem z_iadd (C0 : Cx K cc own Ts nL ret D cy) {x y : Int32} (d : decode cc pc = .ok (.iadd, 1)) (k : Z K l R D nL cells slots Q ws lv (pc + 1) (.int (x + y) :: st)) : Z K l R D nL cells slots Q ws lv pc (.int y :: .int x :: st) := by
  obtain ⟨p, e, s, m, args, below, meth, c, A⟩ := K
  exact fun H locs ls hP hD hS hl => lv_iadd C0.1 C0.2.1 d (k H locs ls hP hD hS hl)
theorem z_iaddN (C0 : Cx K cc own Ts nL ret D cy) {x y : Int32} {a b : Nat} (ha : x = nI a) (hb : y = nI b) (d : decode cc pc = .ok (.iadd, 1)) (k : Z K l R D nL cells slots Q ws lv (pc + 1) (.int (nI (a + b)) :: st)) : Z K l R D nL cells slots Q ws lv pc (.int y :: .int x :: st) := by
  subst ha; subst hb
  refine z_iadd C0 d ?_
  rw [nI_add]; exact k
theorem z_imulN (C0 : Cx K cc own Ts nL ret D cy) {x y : Int32} {a b : Nat} (ha : x = nI a) (hb : y = nI b) (d : decode cc pc = .ok (.imul, 1)) (k : Z K l R D nL cells slots Q ws lv (pc + 1) (.int (nI (a * b)) :: st)) : Z K l R D nL cells slots Q ws lv pc (.int y :: .int x :: st) := by
  subst ha; subst hb
  refine z_imul C0 d ?_
  rw [pk_mul]; exact k
theorem z_world {ws' : va_W} (h : ws = ws') (kk : Z K l R D nL cells slots Q ws' lv pc st) : Z K l R D nL cells slots Q ws lv pc st := by subst h; exact kk
theorem z_eq {lv' : List (Nat × Value)} {st' : List Value} (h2 : lv = lv') (h3 : st = st') (kk : Z K l R D nL cells slots Q ws lv' pc st') : Z K l R D nL cells slots Q ws lv pc st := by subst h2; subst h3; exact kk
theorem z_objInit (C0 : Cx K cc own Ts nL ret D cy) {index : Nat} (h1 : Cond.methodLink own index objectInit ∈ Ts) (h2 : Cond.instanceMethod objectInit ∈ Ts) (h3 : Cond.code objectInit ⟨#[0xb1]⟩ 1 none ∈ Ts) (d : decode cc pc = .ok (.invokespecial index, 3)) (hf : 1 ≤ R.frames) (hlo : (st.map fun v => v.category).sum + 12 ≤ R.locals) (kk : Z K l R D nL cells slots Q ws lv (pc + 3) st) : Z K l R D nL cells slots Q ws lv pc (.ref a :: st) := by
  obtain ⟨p, e, s, m, args, below, meth, c, A⟩ := K
  obtain ⟨hx, hb, hml, hown, hts, hK, hA, hr, hlk⟩ := C0
  intro H locs ls hP hD hS hl
  refine W.objInit hx hb hown (hts _ h1) (hts _ h2) (hts _ h3) rfl (hl.1.trans hml.symm) rfl d hf (by show 2 * 0 + _ + 12 ≤ _; omega) ?_
  exact kk H locs ls hP hD hS hl
theorem z_get (C0 : Cx K cc own Ts nL ret D cy) (ci : Nat) {C : String} {T : u_T} {N : Nat} (hc : vwCl[ci]? = some (C, T, N)) (hin : ∀ w ∈ u_ws C T N, w ∈ Ts) {index : Nat} (q0 k : Nat) (he : ws[q0]? = some (a, .inr (ci, fs))) (hk : k < N) (hw : Cond.fieldLink own index (T k).1 (T k).2.1 (T k).2.2.1 ∈ Ts) {v : Value} (hv : fs[k]? = some v) (d : decode cc pc = .ok (.getfield index, 3)) (kk : Z K l R D nL cells slots Q ws lv (pc + 3) (v :: st)) : Z K l R D nL cells slots Q ws lv pc (.ref a :: st) := by
  obtain ⟨p, e, s, m, args, below, meth, c, A⟩ := K
  obtain ⟨hx, hb, hml, hown, hts, hK, hA, hr, hlk⟩ := C0
  intro H locs ls hP hD hS hl
  exact va_get hx hb hts hin hown hK hP q0 he hc k hk (hts _ hw) (fun _ h9 => h9) hv d (kk H locs ls hP hD hS hl)
theorem z_put (C0 : Cx K cc own Ts nL ret D cy) (ci : Nat) {C : String} {T : u_T} {N : Nat} (hc : vwCl[ci]? = some (C, T, N)) (hin : ∀ w ∈ u_ws C T N, w ∈ Ts) (ty0 : Nat → FieldType) (hty : ∀ k, k < N → parseFieldDescriptor (T k).2.2.1 = some (ty0 k)) (hnm : ∀ a, a < N → ∀ b, b < N → a ≠ b → (T a).2.1 ≠ (T b).2.1) {index : Nat} (q0 k : Nat) (he : ws[q0]? = some (a, .inr (ci, fs))) (hk : k < N) (hw : Cond.fieldLink own index (T k).1 (T k).2.1 (T k).2.2.1 ∈ Ts) (hfin : (T k).2.2.2 = false) (hdsc : parseFieldDescriptor (T k).2.2.1 = some .int) {x : Int32} (hl9 : k < fs.length) (d : decode cc pc = .ok (.putfield index, 3)) (kk : Z K l R D nL cells slots Q (ws.set q0 (a, .inr (ci, fs.set k (.int x)))) lv (pc + 3) st) : Z K l R D nL cells slots Q ws lv pc (.int x :: .ref a :: st) := by
  obtain ⟨p, e, s, m, args, below, meth, c, A⟩ := K
  obtain ⟨hx, hb, hml, hown, hts, hK, hA, hr, hlk⟩ := C0
  intro H locs ls hP hD hS hl
  exact va_put hx hb hts hin ty0 hty hnm hown hK hP hD hS q0 he hc k hk (hts _ hw) (fun _ h9 => h9) hfin hdsc rfl rfl hl9 d (fun H1 locs1 hP1 hD1 hS1 => kk H1 locs1 ls hP1 hD1 hS1 hl)
theorem z_putF (C0 : Cx K cc own Ts nL ret D cy) (hI : CI K) (ci : Nat) {C : String} {T : u_T} {N : Nat} (hc : vwCl[ci]? = some (C, T, N)) (hin : ∀ w ∈ u_ws C T N, w ∈ Ts) (ty0 : Nat → FieldType) (hty : ∀ k, k < N → parseFieldDescriptor (T k).2.2.1 = some (ty0 k)) (hnm : ∀ a, a < N → ∀ b, b < N → a ≠ b → (T a).2.1 ≠ (T b).2.1) {index : Nat} (q0 k : Nat) (he : ws[q0]? = some (a, .inr (ci, fs))) (hk : k < N) (hw : Cond.fieldLink own index (T k).1 (T k).2.1 (T k).2.2.1 ∈ Ts) (hfin : (T k).2.2.2 = true) (hdecl : (T k).1 = own) {ty : FieldType} (hdsc : parseFieldDescriptor (T k).2.2.1 = some ty) {v : Value} (hnr : narrow ty v = v) (hft : fits ty v = true) (hl9 : k < fs.length) (d : decode cc pc = .ok (.putfield index, 3)) (kk : Z K l R D nL cells slots Q (ws.set q0 (a, .inr (ci, fs.set k v))) lv (pc + 3) st) : Z K l R D nL cells slots Q ws lv pc (v :: .ref a :: st) := by
  obtain ⟨p, e, s, m, args, below, meth, c, A⟩ := K
  obtain ⟨hx, hb, hml, hown, hts, hK, hA, hr, hlk⟩ := C0
  intro H locs ls hP hD hS hl
  exact va_putF hx hb hts hin ty0 hty hnm hown hK hP hD hS q0 he hc k hk (hts _ hw) (fun _ h9 => h9) hfin hI.1 hdecl hdsc hnr hft hl9 d (fun H1 locs1 hP1 hD1 hS1 => kk H1 locs1 ls hP1 hD1 hS1 hl)
theorem z_new (C0 : Cx K cc own Ts nL ret D cy) (ci : Nat) {C : String} {T : u_T} {N : Nat} (hc : vwCl[ci]? = some (C, T, N)) (hin : ∀ w ∈ u_ws C T N, w ∈ Ts) (ty0 : Nat → FieldType) (hty : ∀ k, k < N → parseFieldDescriptor (T k).2.2.1 = some (ty0 k)) {index : Nat} (h1 : Cond.classLink own index C ∈ Ts) (h2 : Cond.instantiable C N ∈ Ts) (h3 : Cond.initialized C ∈ Ts) (fs : List Value) (hfs : ∀ j, j < N → defaultValue (ty0 j) = vp_V fs j) (hcc : cells + 1 ≤ R.cells) (hss : slots + N ≤ R.slots) (d : decode cc pc = .ok (.new index, 3)) (kk : ∀ q : Nat, Z K l R D nL (cells + 1) (slots + N) Q (ws ++ [(q, .inr (ci, fs))]) lv (pc + 3) (.ref q :: st)) : Z K l R D nL cells slots Q ws lv pc st := by
  obtain ⟨p, e, s, m, args, below, meth, c, A⟩ := K
  obtain ⟨hx, hb, hml, hown, hts, hK, hA, hr, hlk⟩ := C0
  intro H locs ls hP hD hS hl
  exact va_new hx hb hts hin ty0 hty hown (hts _ h1) (hts _ h2) (hts _ h3) hK hP hD hS hA hc hfs hcc hss d (fun q H1 hP1 hD1 hS1 => kk q H1 locs ls hP1 hD1 hS1 hl)
theorem z_newq (C0 : Cx K cc own Ts nL ret D cy) (t : Nat) {C : String} {index n : Nat} {i : Int32} (hi : i = nI n) (hn : n < 100) (ht : (ytys cy)[t]? = some (cy t, .object C)) (ho : ∀ s, yAO s → va_AO C s) (hI : CI K) (h1 : Cond.classLink own index C ∈ Ts) (hcc : cells + 1 ≤ R.cells) (hss : slots + n ≤ R.slots) (d : decode cc pc = .ok (.anewarray index, 3)) (kk : ∀ q : Nat, Z K l R D nL (cells + 1) (slots + n) Q (ws ++ [(q, .inl (cy t, n, .inr (.inr (.inr (.inr (fun _ => none))))))]) lv (pc + 3) (.ref q :: st)) : Z K l R D nL cells slots Q ws lv pc (.int i :: st) := by
  obtain ⟨p, e, s, m, args, below, meth, c, A⟩ := K
  obtain ⟨hx, hb, hml, hown, hts, hK, hA, hr, hlk⟩ := C0
  intro H locs ls hP hD hS hl
  subst hi
  refine va_newq (N' := n) hx hb hown (hts _ h1) (ho _ hI.2) hK hP hD hS hA (nI_pos (by omega)) (nI_clamp (by omega)) (by omega) hcc hss d (fun q cA H1 hK1 hP1 hD1 hS1 => ?_)
  have e1 := (hK1.2 4 (cA, .object C) rfl).2
  have e2 := (hK.2 t (cy t, .object C) ht).2
  obtain ⟨_, _, _, _, _, r1⟩ := e1
  obtain ⟨_, _, _, _, _, r2⟩ := e2
  have e9 : cA = cy t := Option.some.inj (r1.symm.trans r2)
  subst e9
  exact kk q H1 locs ls hP1 hD1 hS1 hl
theorem z_alen (C0 : Cx K cc own Ts nL ret D cy) (q0 t : Nat) {n : Nat} {C : String} {f : Nat → Option Nat} (he : ws[q0]? = some (a, .inl (cy t, n, .inr (.inr (.inr (.inr f)))))) (ht : (ytys cy)[t]? = some (cy t, .object C)) (d : decode cc pc = .ok (.arraylength, 1)) (kk : Z K l R D nL cells slots Q ws lv (pc + 1) (.int (nI n) :: st)) : Z K l R D nL cells slots Q ws lv pc (.ref a :: st) := by
  obtain ⟨p, e, s, m, args, below, meth, c, A⟩ := K
  obtain ⟨hx, hb, hml, hown, hts, hK, hA, hr, hlk⟩ := C0
  intro H locs ls hP hD hS hl
  exact va_alen hx hb hK hP q0 t he ht rfl d (kk H locs ls hP hD hS hl)
theorem z_astq (C0 : Cx K cc own Ts nL ret D cy) (q0 t qk ci : Nat) {n v k : Nat} {r : vw_C} {vs : List Value} {f : Nat → Option Nat} (he : ws[q0]? = some (a, .inl (cy t, n, .inr (.inr (.inr (.inr f)))))) (ht : (ytys cy)[t]? = some (cy t, .object r.1)) (hv : ws[qk]? = some (v, .inr (ci, vs))) (hc : vwCl[ci]? = some r) {i : Int32} (hi : i = nI k) (hk : k < n) (hn : n < 100) (d : decode cc pc = .ok (.aastore, 1)) (kk : Z K l R D nL cells slots Q (ws.set q0 (a, .inl (cy t, n, .inr (.inr (.inr (.inr (va_up f k (some v)))))))) lv (pc + 1) st) : Z K l R D nL cells slots Q ws lv pc (.ref v :: .int i :: .ref a :: st) := by
  obtain ⟨p, e, s, m, args, below, meth, c, A⟩ := K
  obtain ⟨hx, hb, hml, hown, hts, hK, hA, hr, hlk⟩ := C0
  intro H locs ls hP hD hS hl
  subst hi
  refine va_astq hx hb hK hP hD hS q0 t qk ci he ht hv hc (vp_in_nI hk (by omega)) d (fun H1 locs1 hP1 hD1 hS1 => ?_)
  rw [nI_clamp (by omega)] at hP1 hD1
  exact kk H1 locs1 ls hP1 hD1 hS1 hl
/-- a constructor is called on the cell that came last -/
theorem z_callI (C0 : Cx K cc own Ts nL ret D cy) (hI : CO K) {y : MethodName} {bytes : ByteArray} {maxL index : Nat} {cws cws' : List Cond} {rm : Room} {n r : Nat} {e0 : va_E} {As rest st0 : List Value} {W0 : va_W}
    (hM : Ci l y cws rm D cy (.ref r :: As) [(r, e0)] Pw mc ms) (hG : GoodIn Ts cws) (hw : cws = Cond.code y bytes maxL none :: cws') (hrc : rm.cells = mc) (hrs : rm.slots = ms) (hini : Cond.initialized y.cls ∈ Ts) (hl9 : Cond.methodLink own index y ∈ Ts) (hin : Cond.instanceMethod y ∈ Ts) (hy1 : y.name = "<init>")
    (hd : y.cls ≠ "java/lang/invoke/MethodHandle" ∧ y.cls ≠ "java/lang/invoke/VarHandle" ∧ (parseMethodDescriptor y.desc).map (fun d => d.parameters.length) = some n) (hR : rm.frames + 1 ≤ R.frames ∧ 8 + (maxL + 11) + rm.locals ≤ R.locals)
    (hn : As.length = n) (hst : st0 = As.reverse ++ .ref r :: rest) (hcat : (rest.map fun v => v.category).sum ≤ 8) (d : decode cc pc = .ok (.invokespecial index, 3)) (hf : cells + mc ≤ R.cells ∧ slots + ms ≤ R.slots)
    (kk : ∀ w1, Pw w1 → Z K l R D nL (cells + mc) (slots + ms) Q (W0 ++ w1) lv (pc + 3) rest) : Z K l R D nL cells slots Q (W0 ++ [(r, e0)]) lv pc st0 := by
  obtain ⟨p, e, s, m, args, below, meth, c, A⟩ := K
  obtain ⟨hx, hb, hml, hown, hts, hK, hA, hr, hlk⟩ := C0
  intro H locs ls hP hD hS hl
  have hlast : (W0 ++ [(r, e0)])[W0.length]? = some (r, e0) := by simp
  have hF : ∀ z, va_A [(r, e0)] H.size z → A z := by
    intro z h
    rcases h with ⟨k, e9, h⟩ | h
    · match k, h with
      | 0, h => cases h; exact hD.2 _ _ hlast
      | k + 1, h => simp at h
    · exact hA z (Nat.le_trans hS.1 h)
  have hW0 : ∀ (k : Nat) (z : Nat × va_E), W0[k]? = some z → va_at D vwCl z H ∧ z.1 < H.size ∧ ¬ va_A [(r, e0)] H.size z.1 ∧ A z.1 := by
    intro k z hz
    have hk : k < W0.length := (List.getElem?_eq_some_iff.mp hz).1
    have hz' : (W0 ++ [(r, e0)])[k]? = some z := by rw [List.getElem?_append_left hk]; exact hz
    refine ⟨hP _ _ hz', (hP _ _ hz').lt, fun h => ?_, hD.2 _ _ hz'⟩
    rcases h with ⟨j, e9, h⟩ | h
    · match j, h with
      | 0, h =>
        cases h
        have := hD.1 _ _ _ _ hz' hlast rfl
        omega
      | j + 1, h => simp at h
    · have := (hP _ _ hz').lt
      omega
  have hP1 : va_P D vwCl [(r, e0)] H := fun k z hz => by
    match k, hz with
    | 0, hz => cases hz; exact hP _ _ hlast
    | k + 1, hz => simp at hz
  have hD1 : va_D (fun _ => True) [(r, e0)] := ⟨fun i j p q h1 h2 _ => by
    have a1 : i < 1 := (List.getElem?_eq_some_iff.mp h1).1
    have a2 : j < 1 := (List.getElem?_eq_some_iff.mp h2).1
    omega, fun _ _ _ => trivial⟩
  have hrun := va_runI (As := As) (rest := rest) ⟨hx, hb, hml, hown, hts⟩ (hM H.size) (cwI n hts hG hw hrc hrs (hts _ hini) (hts _ hl9) (hts _ hin) hy1 hd hR) (H := H) ⟨Pci_blind, fun U hU hW => ⟨rfl, by rw [hU], by rw [hU]; exact hP1, va_K.moved hW.alike hK, hD1, yAO.moved hW.alike hI⟩⟩ (p := p) (l := l) (e := e) (below := below) (meth := meth) (c := c) (locs := locs) (cells := cells) (slots := slots) (g := F0 m pc ls st0) rfl hn hl.1 hst (lv_room (Nat.le_trans hcat (Nat.le_refl 8))) d hf
  intro T hT X
  obtain ⟨v, st₀, t, T', L, h0, X', hLL, e1, e2, ⟨hv, ⟨w1, hpw, hp, hd9⟩, hz, hk⟩, sg⟩ := hrun T hT X
  cases hv
  rw [h0] at hz hk
  have hPn : va_P D vwCl (W0 ++ w1) T'.heap := by
    rw [e1]
    exact va_P.app (fun k q hq => (hW0 k q hq).1.kept (hk q.1 (hW0 k q hq).2.1 (hW0 k q hq).2.2.1)) hp
  have hDn : va_D A (W0 ++ w1) := by
    have sp : ∀ (k : Nat) (q : Nat × va_E), (W0 ++ w1)[k]? = some q → (k < W0.length ∧ W0[k]? = some q) ∨ (W0.length ≤ k ∧ w1[k - W0.length]? = some q) := by
      intro k q hq
      by_cases h : k < W0.length
      · rw [List.getElem?_append_left h] at hq; exact Or.inl ⟨h, hq⟩
      · rw [List.getElem?_append_right (by omega)] at hq; exact Or.inr ⟨by omega, hq⟩
    refine ⟨fun i j x z h1 h2 he => ?_, fun k q hq => ?_⟩
    · rcases sp i x h1 with ⟨a1, a2⟩ | ⟨a1, a2⟩ <;> rcases sp j z h2 with ⟨b1, b2⟩ | ⟨b1, b2⟩
      · refine hD.1 i j x z ?_ ?_ he
        · rw [List.getElem?_append_left a1]; exact a2
        · rw [List.getElem?_append_left b1]; exact b2
      · exact absurd (he ▸ hd9.2 _ _ b2) (hW0 _ _ a2).2.2.1
      · exact absurd (he.symm ▸ hd9.2 _ _ a2) (hW0 _ _ b2).2.2.1
      · have := hd9.1 _ _ _ _ a2 b2 he
        omega
    · rcases sp k q hq with ⟨a1, a2⟩ | ⟨a1, a2⟩
      · exact (hW0 _ _ a2).2.2.2
      · exact hF _ (hd9.2 _ _ a2)
  have hS1 : va_S A s.heap T'.heap (locs ++ L) := by
    refine ⟨Nat.le_trans hS.1 (by rw [e1]; exact hz), fun z h1 h2 => ?_, fun z hz9 => ?_⟩
    · rw [e1, hk z (Nat.lt_of_lt_of_le h1 hS.1) (fun w => h2 (hF z w))]
      exact hS.2.1 z h1 h2
    · rcases List.mem_append.mp hz9 with h | h
      · exact hS.2.2 z h
      · exact hF _ (hLL z h)
  obtain ⟨t2, a1, b1⟩ := kk w1 hpw T'.heap (locs ++ L) ls hPn hDn hS1 hl T' rfl X'
  exact ⟨t2, sg t2 a1, b1⟩
theorem z_vret (C0 : Cx K cc own Ts nL none D cy) (d : decode cc pc = .ok (.return_, 1)) (hq : ∀ (H : Heap) (A : Nat → Prop), va_P D vwCl ws H → va_D A ws → ∃ w1, Pw w1 ∧ va_P D vwCl w1 H ∧ va_D A w1) : Z K l R D nL mc ms (QI K D Pw mc ms) ws lv pc [] := by
  obtain ⟨p, e, s, m, args, below, meth, c, A⟩ := K
  obtain ⟨hx, hb, hml, hown, hts, hK, hA, hr, hlk⟩ := C0
  intro H locs ls hP hD hS hl
  obtain ⟨w1, h1, h2, h3⟩ := hq H A hP hD
  exact W.vret hx hb hr (fun t ht hW => ⟨rfl, ⟨w1, h1, by rw [ht]; exact h2, h3⟩, hS.F ht⟩) hS.2.2 d hlk
end
end YZr
