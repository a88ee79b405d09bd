section
-- ===== PART A: goes FIRST, ahead of the names: the tables' words, and 'selects' of the private methods out of them =====
/-- a private method of a class that the tables say can be made, by its rows of tables_1 -/
def lw_okq (q : MethodName × Nat) : Prop := (q.1.cls ≠ "java/lang/invoke/MethodHandle" ∧ q.1.cls ≠ "java/lang/invoke/VarHandle") ∧ Cond.instantiable q.1.cls q.2 ∈ tables_1 ∧ Cond.privateMethod q.1 ∈ tables_1 ∧ Cond.instanceMethod q.1 ∈ tables_1
theorem lw_p0 : lw_okq (⟨"SewingFrames", "knownBook", "(I)LSewingFrames$Book;"⟩, 2) := ⟨⟨by decide +kernel, by decide +kernel⟩, List.mem_of_getElem? (i := 20) (by decide +kernel), List.mem_of_getElem? (i := 18) (by decide +kernel), List.mem_of_getElem? (i := 19) (by decide +kernel)⟩
theorem lw_p1 : lw_okq (⟨"java/lang/Throwable", "fillInStackTrace", "(I)Ljava/lang/Throwable;"⟩, 6) := ⟨⟨by decide +kernel, by decide +kernel⟩, List.mem_of_getElem? (i := 67) (by decide +kernel), List.mem_of_getElem? (i := 65) (by decide +kernel), List.mem_of_getElem? (i := 66) (by decide +kernel)⟩
theorem lw_p2 : lw_okq (⟨"SewingFrames", "knownSewer", "(I)LSewingFrames$Sewer;"⟩, 2) := ⟨⟨by decide +kernel, by decide +kernel⟩, List.mem_of_getElem? (i := 20) (by decide +kernel), List.mem_of_getElem? (i := 150) (by decide +kernel), List.mem_of_getElem? (i := 151) (by decide +kernel)⟩
theorem lw_p3 : lw_okq (⟨"SewingFrames", "knownFrame", "(I)LSewingFrames$Frame;"⟩, 2) := ⟨⟨by decide +kernel, by decide +kernel⟩, List.mem_of_getElem? (i := 20) (by decide +kernel), List.mem_of_getElem? (i := 169) (by decide +kernel), List.mem_of_getElem? (i := 170) (by decide +kernel)⟩
theorem lw_p4 : lw_okq (⟨"SewingFrames", "firstDoneAhead", "()I"⟩, 2) := ⟨⟨by decide +kernel, by decide +kernel⟩, List.mem_of_getElem? (i := 20) (by decide +kernel), List.mem_of_getElem? (i := 342) (by decide +kernel), List.mem_of_getElem? (i := 343) (by decide +kernel)⟩
theorem lw_p5 : lw_okq (⟨"SewingFrames", "sewnAheadWith", "(II)I"⟩, 2) := ⟨⟨by decide +kernel, by decide +kernel⟩, List.mem_of_getElem? (i := 20) (by decide +kernel), List.mem_of_getElem? (i := 350) (by decide +kernel), List.mem_of_getElem? (i := 351) (by decide +kernel)⟩
def lw_privs_1 : List (MethodName × Nat) := [(⟨"SewingFrames", "knownBook", "(I)LSewingFrames$Book;"⟩, 2), (⟨"java/lang/Throwable", "fillInStackTrace", "(I)Ljava/lang/Throwable;"⟩, 6), (⟨"SewingFrames", "knownSewer", "(I)LSewingFrames$Sewer;"⟩, 2), (⟨"SewingFrames", "knownFrame", "(I)LSewingFrames$Frame;"⟩, 2), (⟨"SewingFrames", "firstDoneAhead", "()I"⟩, 2), (⟨"SewingFrames", "sewnAheadWith", "(II)I"⟩, 2)]
theorem lw_r1 : ∀ q ∈ lw_privs_1, lw_okq q := List.forall_mem_cons.mpr ⟨lw_p0, List.forall_mem_cons.mpr ⟨lw_p1, List.forall_mem_cons.mpr ⟨lw_p2, List.forall_mem_cons.mpr ⟨lw_p3, List.forall_mem_cons.mpr ⟨lw_p4, List.forall_mem_cons.mpr ⟨lw_p5, fun _ h => absurd h List.not_mem_nil⟩⟩⟩⟩⟩⟩
def lw_privs : List (MethodName × Nat) := lw_privs_1
def lw_tbl : List Cond := k2_sels lw_privs ++ tables_1
theorem lw_privs_ok : ∀ q ∈ lw_privs, lw_okq q := lw_r1
end
section
/-! ===== BEGIN words of one list among another's, by their places ===== -/
theorem goodIn_r {big : List Cond} (ws : List Cond) (ps : List Nat) (hp : ws = ps.filterMap (fun i => big[i]?)) (h : ws.all goodWord = true) : GoodIn big ws := by
  intro w hw
  have h1 := List.all_eq_true.mp h w hw
  rw [hp] at hw
  obtain ⟨i, -, hi⟩ := List.mem_filterMap.mp hw
  have hm : w ∈ big := by first | exact List.mem_of_getElem? hi | exact List.getElem?_mem hi
  exact ⟨hm, good_of_word h1⟩
theorem goodIn_app {big a b : List Cond} (ha : GoodIn big a) (hb : GoodIn big b) : GoodIn big (a ++ b) := fun w h => (List.mem_append.mp h).elim (ha w) (hb w)
theorem goodIn_ca {big a b : List Cond} {c : Cond} (ha : GoodIn big (c :: a)) (hb : GoodIn big b) : GoodIn big (c :: (a ++ b)) := fun w h => (List.mem_cons.mp h).elim (fun e => ha w (List.mem_cons.mpr (Or.inl e))) (fun h => (List.mem_append.mp h).elim (fun h => ha w (List.mem_cons.mpr (Or.inr h))) (hb w))
theorem goodIn_sub {big ws : List Cond} (hm : ∀ w ∈ ws, w ∈ big) (h : ws.all goodWord = true) : GoodIn big ws := fun w hw => ⟨hm w hw, good_of_word (List.all_eq_true.mp h w hw)⟩
/-! ===== END ===== -/

/-! ===== BEGIN exceptions that leave a method, and their catching by the caller (launches without stack traces) ===== -/
section VXA
/-! The laws vx_back, vx_callV, vx_callS, vx_callSW, vx_throw0, vx_throwS follow proofs of the library, with one case more: JvmDerived/Free/Laws.lean (Back.of_free), Shelf42/LK1.lean (callV, callS), Shelf/KitTraced.lean (throwNew0V, throwNewS). -/
/-- where a method has thrown q: the class by its name, the cell, what was written, the world -/
def vx_T (XC : String → State → State → Prop) (st : State) (q : Addr) (t : State) (mc ms : Nat) (free : Addr → Prop) : Prop :=
  ∃ (E : String) (ce : Cell) (L : List Loc), XC E st t ∧ t.heap[q]? = some ce ∧ ce.vm = .none ∧ st.vm.findClass E = some ce.cls ∧ st.WarmedH t.vm ∧ st.sameButNew ({ t with vm := st.vm } : State) L mc ms ∧ ∀ z ∈ L, free z.base
def vx_Q (Qc : Array Value → State → Outcome → State → Prop) (XC : String → State → State → Prop) (mc ms : Nat) (free : Addr → Prop) : Array Value → State → Outcome → State → Prop := fun a st o t =>
  (Qc a st o t ∧ ∃ L, FrameEnd st o t L mc ms ∧ ∀ q ∈ L, free q.base) ∨ ∃ q, o = .threw q ∧ vx_T XC st q t mc ms free
/-- a callee that returns or throws -/
def vx_Met (l : Launch) (y : MethodName) (ws : List Cond) (rm : Room) (Pc : Array Value → State → Prop) (Qc : Array Value → State → Outcome → State → Prop) (XC : String → State → State → Prop) (mc ms : Nat) (free : Addr → Prop) : Prop :=
  MetFree l y (headSpec ws rm) Pc (fun _ _ _ _ _ => True) (vx_Q Qc XC mc ms free)
def vx_Post (XC : String → State → State → Prop) (mc ms : Nat) (free : Addr → Prop) : Pt → Array Value → Addr → Pt → Prop := fun A a q B =>
  ∃ (g : JFrame) (mk : MethodId) (t : State) (L : List Loc) (E : String) (ce : Cell), B.U.heap = t.heap ∧ B.U.vm = t.vm ∧ XC E (A.U.calling g mk a) t ∧ t.heap[q]? = some ce ∧ ce.vm = .none ∧ A.U.vm.findClass E = some ce.cls ∧ B.locs = A.locs ++ L ∧ (∀ z ∈ L, free z.base) ∧ B.cells = A.cells + mc ∧ B.slots = A.slots + ms
def vx_Back (l : Launch) (R : Room) (p : Program) (e : Env) (below : List Frame) (s : State) (sargs : Array Value) (y : MethodName) (len W9 : Nat)
    (Pre : Pt → Array Value → Prop) (Post : Pt → Array Value → Option Value → Pt → Prop) (PostX : Pt → Array Value → Addr → Pt → Prop) : Prop :=
  ∀ (m : MethodId) (meth : Method) (c : Code) (A : Pt) (g : JFrame) (ig : Instr) (mk : MethodId) (a : Array Value),
    Stand p l e R s m sargs below meth c A.U A.locs A.cells A.slots → g.method = m → g.locals.size = c.maxLocals → decode c.code g.pc = .ok (ig, len) →
    2 * g.monitorRoom + (g.stack.map fun v => v.category).sum ≤ W9 → A.U.methodNamed? y = some mk → Pre A a →
    (∃ (v : Option Value) (B : Pt), Stand p l e R s m sargs below meth c B.U B.locs B.cells B.slots ∧ Post A a v B ∧
      Steps p.tables e below (doInvoke e (A.U.setTop g) [] mk a).1 (B.U.setTop { g with pc := g.pc + len, stack := v.toList ++ g.stack })) ∨
    (∃ (q : Addr) (B : Pt), Stand p l e R s m sargs below meth c B.U B.locs B.cells B.slots ∧ PostX A a q B ∧
      Steps p.tables e below (doInvoke e (A.U.setTop g) [] mk a).1 ((B.U.setTop g).pushFrame (.throwing q)))
section Payer
variable {l : Launch} {R : Room} {p : Program} {e : Env} {below : List Frame} {s : State} {sargs : Array Value} {y : MethodName} {len W9 : Nat}
theorem vx_back {ws : List Cond} {rm : Room} {Pc : Array Value → State → Prop} {Qc : Array Value → State → Outcome → State → Prop} {XC : String → State → State → Prop} {mc ms : Nat} {free : Addr → Prop} {bytes : ByteArray} {maxL : Nat} {ret : Option FieldType}
    (hM : vx_Met l y ws rm Pc Qc XC mc ms free) (hblind : FrameBlind Pc) (hrc : rm.cells = mc) (hrs : rm.slots = ms)
    (hframes : rm.frames + 1 ≤ R.frames) (hlocals : W9 + (maxL + 11) + rm.locals ≤ R.locals)
    (hws : ∀ w ∈ ws, ∀ a' U, s.WarmedH U.vm → w.before a' U = true) (hcode : Cond.code y bytes maxL ret ∈ ws) (hinit : ∀ a' U, s.WarmedH U.vm → (Cond.initialized y.cls).before a' U = true) :
    vx_Back l R p e below s sargs y len W9 (PreOf R mc ms Pc) (PostOf Qc mc ms free) (vx_Post XC mc ms free) := by
  intro m meth c A g ig mk a X hg hsize hdg hW hn hp
  have h1 : (headSpec ws rm).pre.before a A.U = true := atoms_intro fun w hw => hws w hw _ _ X.warmed
  have h2 : (Cond.code y bytes maxL ret).before a A.U = true := hws _ hcode _ _ X.warmed
  have h3 : (Cond.initialized y.cls).before a A.U = true := hinit _ _ X.warmed
  have h4 : A.cells + (headSpec ws rm).room.cells ≤ R.cells := by rw [show (headSpec ws rm).room.cells = mc from hrc]; exact hp.1
  have h5 : A.slots + (headSpec ws rm).room.slots ≤ R.slots := by rw [show (headSpec ws rm).room.slots = ms from hrs]; exact hp.2.1
  have hPc : Pc a (A.U.calling g mk a) := hblind _ _ _ _ hp.2.2
  obtain ⟨U, Ls, c0, s0⟩ := A
  dsimp only [Pt.U, Pt.locs, Pt.cells, Pt.slots] at h1 h2 h3 h4 h5 X hn hPc ⊢
  obtain ⟨methY, cY, hmY, hcY, -, hlY, -, -, -, -⟩ := Cond.code_spec hn h2
  obtain ⟨kY, hkY, -⟩ := className_of_methodNamed hn
  have hinitY : kY.init = .initialized := Cond.initialized_spec (findClass_of_methodNamed hn) hkY h3
  have h : At U g.method c below := by rw [hg]; exact X.here
  have hlocals9 : W9 + (maxL + 11) + (headSpec ws rm).room.locals ≤ R.locals := hlocals
  have happ : (headSpec ws rm).appliesLoose y e.platform (U.calling g mk a) = true :=
    Spec.appliesLoose_calling (g := g) h hdg hn hkY hinitY
      (X.room_calling (g := g) (R' := (headSpec ws rm).room) hsize hmY hcY hframes (by rw [hlY]; omega) h4 h5) h1
  obtain ⟨mid, hmid⟩ := h.above
  have hfr : (U.setTop g).frames = (.java g :: mid) ++ below := by rw [State.frames_setTop' g h.top, hmid]; rfl
  obtain ⟨o, s₂, hsteps, -, hend, hq⟩ := Steps.callFree hM p X.admits X.cas X.clock (acts := []) hfr happ hPc trivial
  have hq' : vx_Q Qc XC mc ms free a (U.calling g mk a) o s₂ := hq
  rw [State.frames_setTop' g h.top] at hend
  obtain ⟨g₀, hg0⟩ := Option.isSome_iff_exists.mp h.top
  obtain ⟨r, hr⟩ := State.topJava?_eq_some.mp hg0
  have hr' : (({ U with heap := s₂.heap, slotsUsed := s₂.slotsUsed } : State).setVm s₂.vm).frames = .java g₀ :: r := hr
  rcases hq' with ⟨hqc, L, hfe, hL⟩ | ⟨q, rfl, E, ce, L, hx, hce, hcv, hcl, hW₂, hsm, hL⟩
  · obtain ⟨⟨v, rfl⟩, hW₂, e2, q2, q3, q4, q5, q6⟩ := id hfe
    have e3 : s₂ = ({ (U.calling g mk a).setFrames s₂.frames with heap := s₂.heap, slotsUsed := s₂.slotsUsed } : State).setVm s₂.vm := by
      have : s₂ = ({ s₂ with vm := (U.calling g mk a).vm } : State).setVm s₂.vm := rfl
      rw [e2] at this
      exact this
    obtain ⟨c₂, i₂, len₂, hc₂, hd₂, hf₂⟩ := hend
    have hW' : U.WarmedH s₂.vm := hW₂
    have hcc : c₂ = c := by
      have h1 : s₂.code? g.method = U.code? g.method := by
        rw [State.code?_eq, State.code?_eq, hW'.alike.method?]
      exact Option.some.inj (hc₂.symm.trans (h1.trans h.code))
    subst hcc
    have hlen : len₂ = len := by rw [hdg] at hd₂; cases hd₂; rfl
    subst hlen
    have hs₂ : s₂ = (({ U with heap := s₂.heap, slotsUsed := s₂.slotsUsed } : State).setVm s₂.vm).setTop { g with pc := g.pc + len₂, stack := v.toList ++ g.stack } := by
      refine e3.trans ?_
      rw [hf₂, State.calling_eq h.top, State.setFrames_setFrames, State.setTop_of_frames _ hr', hr]
      rfl
    have hsame : U.sameButNew ({ U with heap := s₂.heap, slotsUsed := s₂.slotsUsed } : State) L mc ms := by
      refine ⟨?_, q2, q3, q4, q5, q6⟩
      obtain ⟨t, ht, -⟩ := State.frames_cons hr
      show ({ U with heap := s₂.heap, slotsUsed := s₂.slotsUsed } : State) = { U.setFrames U.frames with heap := s₂.heap, slotsUsed := s₂.slotsUsed }
      rw [State.setFrames_self ht]
    subst hg
    refine Or.inl ⟨v, ⟨(({ U with heap := s₂.heap, slotsUsed := s₂.slotsUsed } : State).setVm s₂.vm), Ls ++ L, c0 + mc, s0 + ms⟩,
      ⟨X.admits, X.cas, X.clock, X.frames, X.room, X.hears, X.method, X.code, (X.here.setHeapUsed s₂.heap s₂.slotsUsed).setVm hW'.alike, X.tail, State.WarmedH.trans X.warmed hW', X.limits, X.bytes, X.same.trans (hsame.setVm s.vm)⟩,
      ⟨g, mk, s₂, L, rfl, rfl, hqc, rfl, hL, rfl, rfl⟩, ?_⟩
    show Steps p.tables e below _ ((({ U with heap := s₂.heap, slotsUsed := s₂.slotsUsed } : State).setVm s₂.vm).setTop { g with pc := g.pc + len₂, stack := v.toList ++ g.stack })
    rw [← hs₂]
    exact hsteps
  · obtain ⟨e2, q2, q3, q4, q5, q6⟩ := id hsm
    have e3 : s₂ = ({ (U.calling g mk a).setFrames s₂.frames with heap := s₂.heap, slotsUsed := s₂.slotsUsed } : State).setVm s₂.vm := by
      have : s₂ = ({ s₂ with vm := (U.calling g mk a).vm } : State).setVm s₂.vm := rfl
      rw [e2] at this
      exact this
    have hf₂ : s₂.frames = .throwing q :: .java g :: U.frames.tail := hend
    have hW' : U.WarmedH s₂.vm := hW₂
    have hs₂ : s₂ = ((({ U with heap := s₂.heap, slotsUsed := s₂.slotsUsed } : State).setVm s₂.vm).setTop g).pushFrame (.throwing q) := by
      refine e3.trans ?_
      rw [hf₂, State.calling_eq h.top, State.setFrames_setFrames, State.pushFrame, State.frames_setTop _ hr', State.setTop_of_frames _ hr', State.setFrames_setFrames, hr]
      rfl
    have hsame : U.sameButNew ({ U with heap := s₂.heap, slotsUsed := s₂.slotsUsed } : State) L mc ms := by
      refine ⟨?_, q2, q3, q4, q5, q6⟩
      obtain ⟨t, ht, -⟩ := State.frames_cons hr
      show ({ U with heap := s₂.heap, slotsUsed := s₂.slotsUsed } : State) = { U.setFrames U.frames with heap := s₂.heap, slotsUsed := s₂.slotsUsed }
      rw [State.setFrames_self ht]
    subst hg
    refine Or.inr ⟨q, ⟨(({ U with heap := s₂.heap, slotsUsed := s₂.slotsUsed } : State).setVm s₂.vm), Ls ++ L, c0 + mc, s0 + ms⟩,
      ⟨X.admits, X.cas, X.clock, X.frames, X.room, X.hears, X.method, X.code, (X.here.setHeapUsed s₂.heap s₂.slotsUsed).setVm hW'.alike, X.tail, State.WarmedH.trans X.warmed hW', X.limits, X.bytes, X.same.trans (hsame.setVm s.vm)⟩,
      ⟨g, mk, s₂, L, E, ce, rfl, rfl, hx, hce, hcv, hcl, rfl, hL, rfl, rfl⟩, ?_⟩
    show Steps p.tables e below _ (((({ U with heap := s₂.heap, slotsUsed := s₂.slotsUsed } : State).setVm s₂.vm).setTop g).pushFrame (.throwing q))
    rw [← hs₂]
    exact hsteps
end Payer
section Calls
variable {p : Program} {l : Launch} {e : Env} {R : Room} {s : State} {m : MethodId} {args : Array Value} {below : List Frame} {meth : Method} {c : Code} {T : State} {locs : List Loc} {cells slots : Nat}
theorem vx_callV (X : Stand p l e R s m args below meth c T locs cells slots) (hexec : p.tables.exec = Jvm.exec) {own C : String} {index : Nat} {y : MethodName} {bytes : ByteArray} {maxL : Nat} {ret : Option FieldType}
    (hown : s.vm.findClass own = some m.cls) (hlink : (Cond.methodLink own index y).before args s = true) (hinst : (Cond.instanceMethod y).before args s = true) (hsel : (Cond.selects C y y).before args s = true)
    (hcode : (Cond.code y bytes maxL ret).before args s = true) (hy : y.cls ≠ "java/lang/invoke/MethodHandle" ∧ y.cls ≠ "java/lang/invoke/VarHandle")
    {W9 : Nat} {Pre : Pt → Array Value → Prop} {Post : Pt → Array Value → Option Value → Pt → Prop} {PostX : Pt → Array Value → Addr → Pt → Prop} (hK : vx_Back l R p e below s args y 3 W9 Pre Post PostX)
    {b : Addr} {cellB : Cell} (hcell : T.heap[b]? = some cellB) (hobj : cellB.vm.isStatics = false) (hcls : s.vm.findClass C = some cellB.cls)
    {g : JFrame} (hg : g.method = m) (hsize : g.locals.size = c.maxLocals) {argsL rest : List Value} (hlen : ∀ sig, parseMethodDescriptor y.desc = some sig → argsL.length = sig.parameters.length)
    (hstack : g.stack = argsL.reverse ++ .ref b :: rest) (hW : 2 * g.monitorRoom + (rest.map fun v => v.category).sum ≤ W9) (hdg : decode c.code g.pc = .ok (.invokevirtual index, 3))
    (hpre : ∀ vm₁, s.WarmedH vm₁ → Pre ⟨T.setVm vm₁, locs, cells, slots⟩ (Value.ref b :: argsL).toArray) :
    (∃ (v : Option Value) (vm₁ : Vm) (B : Pt), s.WarmedH vm₁ ∧ Stand p l e R s m args below meth c B.U B.locs B.cells B.slots ∧ Post ⟨T.setVm vm₁, locs, cells, slots⟩ (Value.ref b :: argsL).toArray v B ∧
      ∀ target, Steps p.tables e below (B.U.setTop { g with pc := g.pc + 3, stack := v.toList ++ rest }) target → Steps p.tables e below (T.setTop g) target) ∨
    (∃ (q : Addr) (vm₁ : Vm) (B : Pt), s.WarmedH vm₁ ∧ Stand p l e R s m args below meth c B.U B.locs B.cells B.slots ∧ PostX ⟨T.setVm vm₁, locs, cells, slots⟩ (Value.ref b :: argsL).toArray q B ∧
      Steps p.tables e below (T.setTop g) ((B.U.setTop { g with stack := rest }).pushFrame (.throwing q))) := by
  obtain ⟨mk, methM, hnamed, hmethM, hstM, habM⟩ := Cond.instanceMethod_spec hinst
  obtain ⟨methM', cM, hmethM', -, -, -, -, -, -, hsigM⟩ := Cond.code_spec hnamed hcode
  cases hmethM.symm.trans hmethM'
  obtain ⟨c2, r2, m2, q1, q2, q3, q4, kP, hkP, hkPi⟩ := Cond.selects_spec hsel
  cases hcls.symm.trans q1
  cases (State.methodFound?_of_named hnamed hy).symm.trans q2
  cases hnamed.symm.trans q3
  have hselP : selectMethod e.platform s.vm cellB.cls mk = .method mk := by rw [Launch.admits_selectMethod X.admits]; exact q4
  obtain ⟨vm₁, X₁, hstep₁⟩ := X.invokevirtual hexec hown hlink hnamed hmethM hstM hkP hkPi hy (a := b) (cell := cellB) hcell
    (fun z h => by rw [h] at hobj; cases hobj) hselP hmethM habM hkP hkPi (g := g) hg (argsL := argsL) (rest := rest) (hlen _ hsigM) hstack hdg
  rcases hK m meth c ⟨T.setVm vm₁, locs, cells, slots⟩ { g with stack := rest } (.invokevirtual index) mk (Value.ref b :: argsL).toArray X₁ hg hsize hdg hW (X₁.named hnamed) (hpre vm₁ X₁.warmed) with ⟨v, B, X', hpost, hsteps⟩ | ⟨q, B, X', hpost, hsteps⟩
  · exact Or.inl ⟨v, vm₁, B, X₁.warmed, X', hpost, fun target h => hstep₁ _ fun acts => by rw [doInvoke_state]; exact hsteps.trans h⟩
  · exact Or.inr ⟨q, vm₁, B, X₁.warmed, X', hpost, hstep₁ _ fun acts => by rw [doInvoke_state]; exact hsteps⟩
theorem vx_callS (X : Stand p l e R s m args below meth c T locs cells slots) (hexec : p.tables.exec = Jvm.exec) {own : String} {index : Nat} {y : MethodName} {bytes : ByteArray} {maxL : Nat} {ret : Option FieldType}
    (hown : s.vm.findClass own = some m.cls) (hlink : (Cond.methodLink own index y).before args s = true) (hstat : (Cond.static y).before args s = true) (hinit : (Cond.initialized y.cls).before args s = true)
    (hcode : (Cond.code y bytes maxL ret).before args s = true) (hy : y.cls ≠ "java/lang/invoke/MethodHandle" ∧ y.cls ≠ "java/lang/invoke/VarHandle")
    {W9 : Nat} {Pre : Pt → Array Value → Prop} {Post : Pt → Array Value → Option Value → Pt → Prop} {PostX : Pt → Array Value → Addr → Pt → Prop} (hK : vx_Back l R p e below s args y 3 W9 Pre Post PostX)
    {g : JFrame} (hg : g.method = m) (hsize : g.locals.size = c.maxLocals) {argsL rest : List Value} (hlen : ∀ sig, parseMethodDescriptor y.desc = some sig → argsL.length = sig.parameters.length)
    (hstack : g.stack = argsL.reverse ++ rest) (hW : 2 * g.monitorRoom + (rest.map fun v => v.category).sum ≤ W9) (hdg : decode c.code g.pc = .ok (.invokestatic index, 3))
    (hpre : ∀ vm₁, s.WarmedH vm₁ → Pre ⟨T.setVm vm₁, locs, cells, slots⟩ argsL.toArray) :
    (∃ (v : Option Value) (vm₁ : Vm) (B : Pt), s.WarmedH vm₁ ∧ Stand p l e R s m args below meth c B.U B.locs B.cells B.slots ∧ Post ⟨T.setVm vm₁, locs, cells, slots⟩ argsL.toArray v B ∧
      ∀ target, Steps p.tables e below (B.U.setTop { g with pc := g.pc + 3, stack := v.toList ++ rest }) target → Steps p.tables e below (T.setTop g) target) ∨
    (∃ (q : Addr) (vm₁ : Vm) (B : Pt), s.WarmedH vm₁ ∧ Stand p l e R s m args below meth c B.U B.locs B.cells B.slots ∧ PostX ⟨T.setVm vm₁, locs, cells, slots⟩ argsL.toArray q B ∧
      Steps p.tables e below (T.setTop g) ((B.U.setTop { g with stack := rest }).pushFrame (.throwing q))) := by
  obtain ⟨mk, hnamed⟩ := Cond.code_named hcode
  obtain ⟨methM, cM, hmethM, -, -, -, -, -, -, hsigM⟩ := Cond.code_spec hnamed hcode
  have hstatic : methM.isStatic = true := Cond.static_spec hnamed hmethM hstat
  obtain ⟨kP, hkP, -⟩ := className_of_methodNamed hnamed
  have hinitP : kP.init = .initialized := Cond.initialized_spec (findClass_of_methodNamed hnamed) hkP hinit
  obtain ⟨vm₁, X₁, hstep₁⟩ := X.invokestatic hexec hown hlink hnamed hmethM hstatic hkP hinitP hy (g := g) hg (argsL := argsL) (rest := rest) (hlen _ hsigM) hstack hdg
  rcases hK m meth c ⟨T.setVm vm₁, locs, cells, slots⟩ { g with stack := rest } (.invokestatic index) mk argsL.toArray X₁ hg hsize hdg hW (X₁.named hnamed) (hpre vm₁ X₁.warmed) with ⟨v, B, X', hpost, hsteps⟩ | ⟨q, B, X', hpost, hsteps⟩
  · exact Or.inl ⟨v, vm₁, B, X₁.warmed, X', hpost, fun target h => hstep₁ _ fun acts => by rw [doInvoke_state]; exact hsteps.trans h⟩
  · exact Or.inr ⟨q, vm₁, B, X₁.warmed, X', hpost, hstep₁ _ fun acts => by rw [doInvoke_state]; exact hsteps⟩
end Calls
theorem vx_cls {s : State} {T : State} {vm₁ : Vm} {E : String} {k : ClassId} (hW : s.WarmedH vm₁) (h : (T.setVm vm₁).vm.findClass E = some k) : s.vm.findClass E = some k := by
  have h1 : vm₁.findClass E = some k := h
  rw [hW.alike.findClass] at h1
  exact h1
/-- the method's frame g, with q thrown over it -/
def vx_W (p : Program) (l : Launch) (e : Env) (R : Room) (s : State) (m : MethodId) (args : Array Value) (below : List Frame) (meth : Method) (c : Code) (H : Heap) (locs : List Loc) (cells slots : Nat) (Q : State → Prop) (g : JFrame) (q : Addr) : Prop :=
  ∀ T : State, T.heap = H → Stand p l e R s m args below meth c T locs cells slots → ∃ t, Steps p.tables e below ((T.setTop g).pushFrame (.throwing q)) t ∧ Q t
def vx_Run (p : Program) (l : Launch) (e : Env) (R : Room) (s : State) (m : MethodId) (args : Array Value) (below : List Frame) (meth : Method) (c : Code) (H : Heap) (locs : List Loc) (cells slots mc ms : Nat) (g : JFrame) (rest : List Value) (Qa : State → Outcome → State → Prop) (XC : String → State → State → Prop) (free : Addr → Prop) : Prop :=
  ∀ T : State, T.heap = H → Stand p l e R s m args below meth c T locs cells slots →
    (∃ (v : Option Value) (st₀ t T' : State) (L : List Loc), st₀.heap = H ∧ Stand p l e R s m args below meth c T' (locs ++ L) (cells + mc) (slots + ms) ∧ (∀ q ∈ L, free q.base) ∧ T'.heap = t.heap ∧ T'.vm = t.vm ∧ Qa st₀ (.returned v) t ∧
      Goes p e below T g T' { g with pc := g.pc + 3, stack := v.toList ++ rest }) ∨
    (∃ (q : Addr) (st₀ t T' : State) (L : List Loc) (E : String) (ce : Cell), st₀.heap = H ∧ Stand p l e R s m args below meth c T' (locs ++ L) (cells + mc) (slots + ms) ∧ (∀ z ∈ L, free z.base) ∧ T'.heap = t.heap ∧ T'.vm = t.vm ∧ XC E st₀ t ∧ t.heap[q]? = some ce ∧ ce.vm = .none ∧ s.vm.findClass E = some ce.cls ∧
      Steps p.tables e below (T.setTop g) ((T'.setTop { g with stack := rest }).pushFrame (.throwing q)))
def vx_X {S : Type} (px : S → Prop) (B : String → S → State → Prop) (A : Nat → Prop) : String → State → State → Prop := fun E st t => ∃ u : S, px u ∧ B E u t ∧ va_F A st t
section Runs
variable {p : Program} {l : Launch} {e : Env} {R : Room} {s : State} {m : MethodId} {args : Array Value} {below : List Frame} {meth : Method} {c : Code} {H : Heap} {locs : List Loc} {cells slots : Nat}
variable {y : MethodName} {bytes cc : ByteArray} {maxL nL mc ms n index : Nat} {ret : Option FieldType} {ws : List Cond} {rm : Room} {Pc : Array Value → State → Prop} {Qc : Array Value → State → Outcome → State → Prop} {XC : String → State → State → Prop} {free : Addr → Prop} {Ts : List Cond} {own C : String} {b : Addr} {As rest : List Value} {g : JFrame}
theorem vx_callBack (cb : CallB R s args own index y bytes maxL ret ws rm mc ms n) (hM : vx_Met l y ws rm Pc Qc XC mc ms free) (hbl : FrameBlind Pc) : vx_Back l R p e below s args y 3 8 (PreOf R mc ms Pc) (PostOf Qc mc ms free) (vx_Post XC mc ms free) := by
  obtain ⟨hrc, hrs, hfr, hlo, hws, hcw, -, hini, -⟩ := cb
  exact vx_back (bytes := bytes) (maxL := maxL) (ret := ret) hM hbl hrc hrs hfr hlo hws hcw (fun a' U hW => word_at hW (Or.inl (by first | rfl | simp [Cond.onTables, Cond.keeps, Cond.steady])) hini)
theorem vx_runV (S : CallFix p m c cc nL s args Ts own) (hM : vx_Met l y ws rm Pc Qc XC mc ms free) (cw : CallW R s args own C index y bytes maxL ret ws rm mc ms n) (hp : PreV s H C b Pc As)
    (hg : g.method = m) (hn : As.length = n) (hsize : g.locals.size = nL) (hstack : g.stack = As.reverse ++ .ref b :: rest) (hW : 2 * g.monitorRoom + (rest.map fun v => v.category).sum ≤ 8) (hdg : decode cc g.pc = .ok (.invokevirtual index, 3)) (hf : cells + mc ≤ R.cells ∧ slots + ms ≤ R.slots) :
    vx_Run p l e R s m args below meth c H locs cells slots mc ms g rest (Qc (Value.ref b :: As).toArray) XC free := by
  have hK : vx_Back l R p e below s args y 3 8 (PreOf R mc ms Pc) (PostOf Qc mc ms free) (vx_Post XC mc ms free) := vx_callBack cw.1 hM hp.1
  obtain ⟨⟨-, -, -, -, -, -, hcode, -, hy, hlen, hl⟩, hin, hse⟩ := cw
  obtain ⟨hx, hb, hml, ho, -⟩ := S
  obtain ⟨-, ⟨cellB, hcB, hoB, hclB⟩, hPc⟩ := hp
  intro T hT X
  rcases vx_callV X hx (C := C) (bytes := bytes) (maxL := maxL) (ret := ret) ho hl hin hse hcode hy hK (by rw [hT]; exact hcB) hoB hclB hg (hsize.trans hml.symm) (argsL := As) (rest := rest) (fun sig h => hn.trans (hlen sig h)) hstack hW (by rw [hb]; exact hdg)
    (fun vm₁ hW₁ => ⟨hf.1, hf.2, hPc (T.setVm vm₁) hT hW₁⟩) with ⟨v, vm₁, ⟨U', l2, c2, s2⟩, hW₁, X', ⟨g', mk, t, L, e1, e2, hq, h1, hL, h2, h3⟩, st⟩ | ⟨q, vm₁, ⟨U', l2, c2, s2⟩, hW₁, X', ⟨g', mk, t, L, E, ce, e1, e2, hq, hce, hcv, hcl, h1, hL, h2, h3⟩, st⟩
  · dsimp only [Pt.U, Pt.locs, Pt.cells, Pt.slots] at X' e1 e2 h1 h2 h3 st
    subst h1; subst h2; subst h3
    exact Or.inl ⟨v, (T.setVm vm₁).calling g' mk (Value.ref b :: As).toArray, t, U', L, hT, X', hL, e1, e2, hq, st⟩
  · dsimp only [Pt.U, Pt.locs, Pt.cells, Pt.slots] at X' e1 e2 h1 h2 h3 st hcl
    subst h1; subst h2; subst h3
    exact Or.inr ⟨q, (T.setVm vm₁).calling g' mk (Value.ref b :: As).toArray, t, U', L, E, ce, hT, X', hL, e1, e2, hq, hce, hcv, vx_cls hW₁ hcl, st⟩
theorem vx_runS (S : CallFix p m c cc nL s args Ts own) (hM : vx_Met l y ws rm Pc Qc XC mc ms free) (cw : CallB R s args own index y bytes maxL ret ws rm mc ms n ∧ (Cond.static y).before args s = true) (hp : PreS s H Pc As)
    (hg : g.method = m) (hn : As.length = n) (hsize : g.locals.size = nL) (hstack : g.stack = As.reverse ++ rest) (hW : 2 * g.monitorRoom + (rest.map fun v => v.category).sum ≤ 8) (hdg : decode cc g.pc = .ok (.invokestatic index, 3)) (hf : cells + mc ≤ R.cells ∧ slots + ms ≤ R.slots) :
    vx_Run p l e R s m args below meth c H locs cells slots mc ms g rest (Qc As.toArray) XC free := by
  have hK : vx_Back l R p e below s args y 3 8 (PreOf R mc ms Pc) (PostOf Qc mc ms free) (vx_Post XC mc ms free) := vx_callBack cw.1 hM hp.1
  obtain ⟨⟨-, -, -, -, -, -, hcode, hini, hy, hlen, hl⟩, hstt⟩ := cw
  obtain ⟨hx, hb, hml, ho, -⟩ := S
  intro T hT X
  rcases vx_callS X hx (bytes := bytes) (maxL := maxL) (ret := ret) ho hl hstt hini hcode hy hK hg (hsize.trans hml.symm) (argsL := As) (rest := rest) (fun sig h => hn.trans (hlen sig h)) hstack hW (by rw [hb]; exact hdg)
    (fun vm₁ hW₁ => ⟨hf.1, hf.2, hp.2 (T.setVm vm₁) hT hW₁⟩) with ⟨v, vm₁, ⟨U', l2, c2, s2⟩, hW₁, X', ⟨g', mk, t, L, e1, e2, hq, h1, hL, h2, h3⟩, st⟩ | ⟨q, vm₁, ⟨U', l2, c2, s2⟩, hW₁, X', ⟨g', mk, t, L, E, ce, e1, e2, hq, hce, hcv, hcl, h1, hL, h2, h3⟩, st⟩
  · dsimp only [Pt.U, Pt.locs, Pt.cells, Pt.slots] at X' e1 e2 h1 h2 h3 st
    subst h1; subst h2; subst h3
    exact Or.inl ⟨v, (T.setVm vm₁).calling g' mk As.toArray, t, U', L, hT, X', hL, e1, e2, hq, st⟩
  · dsimp only [Pt.U, Pt.locs, Pt.cells, Pt.slots] at X' e1 e2 h1 h2 h3 st hcl
    subst h1; subst h2; subst h3
    exact Or.inr ⟨q, (T.setVm vm₁).calling g' mk As.toArray, t, U', L, E, ce, hT, X', hL, e1, e2, hq, hce, hcv, vx_cls hW₁ hcl, st⟩
end Runs
section Rows
variable {p : Program} {l : Launch} {e : Env} {R : Room} {s : State} {m : MethodId} {args : Array Value} {below : List Frame} {meth : Method} {c : Code} {H : Heap} {locs : List Loc} {cells slots : Nat} {Q : State → Prop}
variable {mc ms : Nat} {free : Addr → Prop} {A0 A1 : Nat → Prop} {H0 : Heap} {a : Array Value} {pc : Nat} {ls : Array Slot} {st0 rest : List Value}
theorem vx_keep {st₀ t T' : State} {L : List Loc} (h0 : st₀.heap = H) (e1 : T'.heap = t.heap) (hS : va_S A0 H0 H locs) (hA : ∀ q, q < H.size → A1 q → A0 q) (hf : ∀ q, free q → A0 q) (hL : ∀ q ∈ L, free q.base) (hF : va_F A1 st₀ t) :
    H.size ≤ T'.heap.size ∧ (∀ q : Nat, q < H.size → ¬ A1 q → T'.heap[q]? = H[q]?) ∧ va_S A0 H0 T'.heap (locs ++ L) := by
  obtain ⟨hz, hk⟩ := hF
  rw [h0] at hz hk
  exact ⟨by rw [e1]; exact hz, fun q h1 h2 => by rw [e1]; exact hk q h1 h2,
    ⟨Nat.le_trans hS.1 (by rw [e1]; exact hz), fun q h1 h2 => by rw [e1, hk q (Nat.lt_of_lt_of_le h1 hS.1) (fun z => h2 (hA q (Nat.lt_of_lt_of_le h1 hS.1) z))]; exact hS.2.1 q h1 h2, fun q hq => by
      rcases List.mem_append.mp hq with h | h
      · exact hS.2.2 q h
      · exact hf _ (hL q h)⟩⟩
theorem vx_calli {S SX : Type} {post : Int32 → S → Prop} {px : SX → Prop} {B : S → State → Prop} {BX : String → SX → State → Prop} {AX : Nat → Prop} (hr : vx_Run p l e R s m args below meth c H locs cells slots mc ms (F0 m pc ls st0) rest (va_Qi post B A1 a) (vx_X px BX AX) free) (hS : va_S A0 H0 H locs) (hA : ∀ q, q < H.size → A1 q → A0 q) (hf : ∀ q, free q → A0 q) (hAX : ∀ q, q < H.size → AX q → A0 q)
    (kx : ∀ (E : String) (ce : Cell) (q9 : Addr) (u : SX) (t : State) (H1 : Heap) (locs1 : List Loc), t.heap = H1 → s.vm.Alike t.vm → px u → BX E u t → H.size ≤ H1.size → (∀ q : Nat, q < H.size → ¬ AX q → H1[q]? = H[q]?) → va_S A0 H0 H1 locs1 → H1[q9]? = some ce → ce.vm = .none → s.vm.findClass E = some ce.cls → vx_W p l e R s m args below meth c H1 locs1 (cells + mc) (slots + ms) Q (F0 m pc ls rest) q9)
    (kk : ∀ (r : Int32) (u : S) (t : State) (H1 : Heap) (locs1 : List Loc), t.heap = H1 → s.vm.Alike t.vm → post r u → B u t → H.size ≤ H1.size → (∀ q : Nat, q < H.size → ¬ A1 q → H1[q]? = H[q]?) → va_S A0 H0 H1 locs1 → W p l e R s m args below meth c H1 locs1 (cells + mc) (slots + ms) Q (F0 m (pc + 3) ls (.int r :: rest))) : W p l e R s m args below meth c H locs cells slots Q (F0 m pc ls st0) := by
  intro T hT X
  rcases hr T hT X with ⟨v, st₀, t, T', L, h0, X', hL, e1, e2, ⟨⟨r, u, hv, hp, hb⟩, hF⟩, st⟩ | ⟨q, st₀, t, T', L, E, ce, h0, X', hL, e1, e2, ⟨u, hp, hb, hF⟩, hce, hcv, hcl, st⟩
  · cases hv
    obtain ⟨k1, k2, k3⟩ := vx_keep h0 e1 hS hA hf hL hF
    obtain ⟨t2, a1, b1⟩ := kk r u t T'.heap (locs ++ L) e1.symm (by rw [← e2]; exact X'.warmed.alike) hp hb k1 k2 k3 T' rfl X'
    exact ⟨t2, st t2 a1, b1⟩
  · obtain ⟨k1, k2, k3⟩ := vx_keep h0 e1 hS hAX hf hL hF
    obtain ⟨t2, a1, b1⟩ := kx E ce q u t T'.heap (locs ++ L) e1.symm (by rw [← e2]; exact X'.warmed.alike) hp hb k1 k2 k3 (by rw [e1]; exact hce) hcv hcl T' rfl X'
    exact ⟨t2, st.trans a1, b1⟩
theorem vx_calll {S SX : Type} {post : Int64 → S → Prop} {px : SX → Prop} {B : S → State → Prop} {BX : String → SX → State → Prop} {AX : Nat → Prop} (hr : vx_Run p l e R s m args below meth c H locs cells slots mc ms (F0 m pc ls st0) rest (va_Ql post B A1 a) (vx_X px BX AX) free) (hS : va_S A0 H0 H locs) (hA : ∀ q, q < H.size → A1 q → A0 q) (hf : ∀ q, free q → A0 q) (hAX : ∀ q, q < H.size → AX q → A0 q)
    (kx : ∀ (E : String) (ce : Cell) (q9 : Addr) (u : SX) (t : State) (H1 : Heap) (locs1 : List Loc), t.heap = H1 → s.vm.Alike t.vm → px u → BX E u t → H.size ≤ H1.size → (∀ q : Nat, q < H.size → ¬ AX q → H1[q]? = H[q]?) → va_S A0 H0 H1 locs1 → H1[q9]? = some ce → ce.vm = .none → s.vm.findClass E = some ce.cls → vx_W p l e R s m args below meth c H1 locs1 (cells + mc) (slots + ms) Q (F0 m pc ls rest) q9)
    (kk : ∀ (r : Int64) (u : S) (t : State) (H1 : Heap) (locs1 : List Loc), t.heap = H1 → s.vm.Alike t.vm → post r u → B u t → H.size ≤ H1.size → (∀ q : Nat, q < H.size → ¬ A1 q → H1[q]? = H[q]?) → va_S A0 H0 H1 locs1 → W p l e R s m args below meth c H1 locs1 (cells + mc) (slots + ms) Q (F0 m (pc + 3) ls (.long r :: rest))) : W p l e R s m args below meth c H locs cells slots Q (F0 m pc ls st0) := by
  intro T hT X
  rcases hr T hT X with ⟨v, st₀, t, T', L, h0, X', hL, e1, e2, ⟨⟨r, u, hv, hp, hb⟩, hF⟩, st⟩ | ⟨q, st₀, t, T', L, E, ce, h0, X', hL, e1, e2, ⟨u, hp, hb, hF⟩, hce, hcv, hcl, st⟩
  · cases hv
    obtain ⟨k1, k2, k3⟩ := vx_keep h0 e1 hS hA hf hL hF
    obtain ⟨t2, a1, b1⟩ := kk r u t T'.heap (locs ++ L) e1.symm (by rw [← e2]; exact X'.warmed.alike) hp hb k1 k2 k3 T' rfl X'
    exact ⟨t2, st t2 a1, b1⟩
  · obtain ⟨k1, k2, k3⟩ := vx_keep h0 e1 hS hAX hf hL hF
    obtain ⟨t2, a1, b1⟩ := kx E ce q u t T'.heap (locs ++ L) e1.symm (by rw [← e2]; exact X'.warmed.alike) hp hb k1 k2 k3 (by rw [e1]; exact hce) hcv hcl T' rfl X'
    exact ⟨t2, st.trans a1, b1⟩
theorem vx_callf {S SX : Type} {post : UInt32 → S → Prop} {px : SX → Prop} {B : S → State → Prop} {BX : String → SX → State → Prop} {AX : Nat → Prop} (hr : vx_Run p l e R s m args below meth c H locs cells slots mc ms (F0 m pc ls st0) rest (va_Qf post B A1 a) (vx_X px BX AX) free) (hS : va_S A0 H0 H locs) (hA : ∀ q, q < H.size → A1 q → A0 q) (hf : ∀ q, free q → A0 q) (hAX : ∀ q, q < H.size → AX q → A0 q)
    (kx : ∀ (E : String) (ce : Cell) (q9 : Addr) (u : SX) (t : State) (H1 : Heap) (locs1 : List Loc), t.heap = H1 → s.vm.Alike t.vm → px u → BX E u t → H.size ≤ H1.size → (∀ q : Nat, q < H.size → ¬ AX q → H1[q]? = H[q]?) → va_S A0 H0 H1 locs1 → H1[q9]? = some ce → ce.vm = .none → s.vm.findClass E = some ce.cls → vx_W p l e R s m args below meth c H1 locs1 (cells + mc) (slots + ms) Q (F0 m pc ls rest) q9)
    (kk : ∀ (r : UInt32) (u : S) (t : State) (H1 : Heap) (locs1 : List Loc), t.heap = H1 → s.vm.Alike t.vm → post r u → B u t → H.size ≤ H1.size → (∀ q : Nat, q < H.size → ¬ A1 q → H1[q]? = H[q]?) → va_S A0 H0 H1 locs1 → W p l e R s m args below meth c H1 locs1 (cells + mc) (slots + ms) Q (F0 m (pc + 3) ls (.float r :: rest))) : W p l e R s m args below meth c H locs cells slots Q (F0 m pc ls st0) := by
  intro T hT X
  rcases hr T hT X with ⟨v, st₀, t, T', L, h0, X', hL, e1, e2, ⟨⟨r, u, hv, hp, hb⟩, hF⟩, st⟩ | ⟨q, st₀, t, T', L, E, ce, h0, X', hL, e1, e2, ⟨u, hp, hb, hF⟩, hce, hcv, hcl, st⟩
  · cases hv
    obtain ⟨k1, k2, k3⟩ := vx_keep h0 e1 hS hA hf hL hF
    obtain ⟨t2, a1, b1⟩ := kk r u t T'.heap (locs ++ L) e1.symm (by rw [← e2]; exact X'.warmed.alike) hp hb k1 k2 k3 T' rfl X'
    exact ⟨t2, st t2 a1, b1⟩
  · obtain ⟨k1, k2, k3⟩ := vx_keep h0 e1 hS hAX hf hL hF
    obtain ⟨t2, a1, b1⟩ := kx E ce q u t T'.heap (locs ++ L) e1.symm (by rw [← e2]; exact X'.warmed.alike) hp hb k1 k2 k3 (by rw [e1]; exact hce) hcv hcl T' rfl X'
    exact ⟨t2, st.trans a1, b1⟩
theorem vx_calld {S SX : Type} {post : UInt64 → S → Prop} {px : SX → Prop} {B : S → State → Prop} {BX : String → SX → State → Prop} {AX : Nat → Prop} (hr : vx_Run p l e R s m args below meth c H locs cells slots mc ms (F0 m pc ls st0) rest (va_Qd post B A1 a) (vx_X px BX AX) free) (hS : va_S A0 H0 H locs) (hA : ∀ q, q < H.size → A1 q → A0 q) (hf : ∀ q, free q → A0 q) (hAX : ∀ q, q < H.size → AX q → A0 q)
    (kx : ∀ (E : String) (ce : Cell) (q9 : Addr) (u : SX) (t : State) (H1 : Heap) (locs1 : List Loc), t.heap = H1 → s.vm.Alike t.vm → px u → BX E u t → H.size ≤ H1.size → (∀ q : Nat, q < H.size → ¬ AX q → H1[q]? = H[q]?) → va_S A0 H0 H1 locs1 → H1[q9]? = some ce → ce.vm = .none → s.vm.findClass E = some ce.cls → vx_W p l e R s m args below meth c H1 locs1 (cells + mc) (slots + ms) Q (F0 m pc ls rest) q9)
    (kk : ∀ (r : UInt64) (u : S) (t : State) (H1 : Heap) (locs1 : List Loc), t.heap = H1 → s.vm.Alike t.vm → post r u → B u t → H.size ≤ H1.size → (∀ q : Nat, q < H.size → ¬ A1 q → H1[q]? = H[q]?) → va_S A0 H0 H1 locs1 → W p l e R s m args below meth c H1 locs1 (cells + mc) (slots + ms) Q (F0 m (pc + 3) ls (.double r :: rest))) : W p l e R s m args below meth c H locs cells slots Q (F0 m pc ls st0) := by
  intro T hT X
  rcases hr T hT X with ⟨v, st₀, t, T', L, h0, X', hL, e1, e2, ⟨⟨r, u, hv, hp, hb⟩, hF⟩, st⟩ | ⟨q, st₀, t, T', L, E, ce, h0, X', hL, e1, e2, ⟨u, hp, hb, hF⟩, hce, hcv, hcl, st⟩
  · cases hv
    obtain ⟨k1, k2, k3⟩ := vx_keep h0 e1 hS hA hf hL hF
    obtain ⟨t2, a1, b1⟩ := kk r u t T'.heap (locs ++ L) e1.symm (by rw [← e2]; exact X'.warmed.alike) hp hb k1 k2 k3 T' rfl X'
    exact ⟨t2, st t2 a1, b1⟩
  · obtain ⟨k1, k2, k3⟩ := vx_keep h0 e1 hS hAX hf hL hF
    obtain ⟨t2, a1, b1⟩ := kx E ce q u t T'.heap (locs ++ L) e1.symm (by rw [← e2]; exact X'.warmed.alike) hp hb k1 k2 k3 (by rw [e1]; exact hce) hcv hcl T' rfl X'
    exact ⟨t2, st.trans a1, b1⟩
theorem vx_callv {S SX : Type} {post : S → Prop} {px : SX → Prop} {B : S → State → Prop} {BX : String → SX → State → Prop} {AX : Nat → Prop} (hr : vx_Run p l e R s m args below meth c H locs cells slots mc ms (F0 m pc ls st0) rest (va_Qv post B A1 a) (vx_X px BX AX) free) (hS : va_S A0 H0 H locs) (hA : ∀ q, q < H.size → A1 q → A0 q) (hf : ∀ q, free q → A0 q) (hAX : ∀ q, q < H.size → AX q → A0 q)
    (kx : ∀ (E : String) (ce : Cell) (q9 : Addr) (u : SX) (t : State) (H1 : Heap) (locs1 : List Loc), t.heap = H1 → s.vm.Alike t.vm → px u → BX E u t → H.size ≤ H1.size → (∀ q : Nat, q < H.size → ¬ AX q → H1[q]? = H[q]?) → va_S A0 H0 H1 locs1 → H1[q9]? = some ce → ce.vm = .none → s.vm.findClass E = some ce.cls → vx_W p l e R s m args below meth c H1 locs1 (cells + mc) (slots + ms) Q (F0 m pc ls rest) q9)
    (kk : ∀ (u : S) (t : State) (H1 : Heap) (locs1 : List Loc), t.heap = H1 → s.vm.Alike t.vm → post u → B u t → H.size ≤ H1.size → (∀ q : Nat, q < H.size → ¬ A1 q → H1[q]? = H[q]?) → va_S A0 H0 H1 locs1 → W p l e R s m args below meth c H1 locs1 (cells + mc) (slots + ms) Q (F0 m (pc + 3) ls (rest))) : W p l e R s m args below meth c H locs cells slots Q (F0 m pc ls st0) := by
  intro T hT X
  rcases hr T hT X with ⟨v, st₀, t, T', L, h0, X', hL, e1, e2, ⟨⟨u, hv, hp, hb⟩, hF⟩, st⟩ | ⟨q, st₀, t, T', L, E, ce, h0, X', hL, e1, e2, ⟨u, hp, hb, hF⟩, hce, hcv, hcl, st⟩
  · cases hv
    obtain ⟨k1, k2, k3⟩ := vx_keep h0 e1 hS hA hf hL hF
    obtain ⟨t2, a1, b1⟩ := kk u t T'.heap (locs ++ L) e1.symm (by rw [← e2]; exact X'.warmed.alike) hp hb k1 k2 k3 T' rfl X'
    exact ⟨t2, st t2 a1, b1⟩
  · obtain ⟨k1, k2, k3⟩ := vx_keep h0 e1 hS hAX hf hL hF
    obtain ⟨t2, a1, b1⟩ := kx E ce q u t T'.heap (locs ++ L) e1.symm (by rw [← e2]; exact X'.warmed.alike) hp hb k1 k2 k3 (by rw [e1]; exact hce) hcv hcl T' rfl X'
    exact ⟨t2, st.trans a1, b1⟩
/-- caught by the row x of this method's table; the rows ahead don't take it -/
theorem vx_catch {own name : String} {E : String} {ce : Cell} {q : Addr} (hown : s.vm.findClass own = some m.cls) (pre : List ExceptionTableEntry) (x : ExceptionTableEntry) (suf : List ExceptionTableEntry) (hsplit : c.exceptionTable.toList = pre ++ x :: suf)
    (hpass : ∀ z ∈ pre, covers z pc = false ∨ (z.catchType ≠ 0 ∧ ∃ nm : String, (Cond.classLink own z.catchType nm).before args s = true ∧ va_Nc E nm s)) (hx : covers x pc = true) (h0 : x.catchType ≠ 0)
    (hlink : (Cond.classLink own x.catchType name).before args s = true) (hcast : (Cond.castable E name).before args s = true) (hcell : H[q]? = some ce) (hv : ce.vm = .none) (hcl : s.vm.findClass E = some ce.cls)
    (kk : W p l e R s m args below meth c H locs cells slots Q (F0 m x.handlerPc ls [.ref q])) : vx_W p l e R s m args below meth c H locs cells slots Q (F0 m pc ls rest) q := by
  intro T hT X
  have hpl : e.platform.magicAccessors = ({} : Platform).magicAccessors := by rw [X.admits.platform]
  obtain ⟨c3, c4, hc3, hc4, hasg⟩ := Cond.castable_spec hcast
  cases Option.some.inj (hc3.symm.trans hcl)
  obtain ⟨c5, hc5, hcl5⟩ := Cond.classLink_spec hown hlink e.platform hpl
  cases Option.some.inj (hc4.symm.trans hc5)
  obtain ⟨vm', X', st⟩ := X.thenCaughtThrough q (g := F0 m pc ls rest) rfl (Steps.refl _) (by rw [hT]; exact hcell) (by rw [hv]; rfl) (by obtain ⟨k9, h9, -⟩ := Vm.findClass_spec hcl; exact ⟨k9, h9⟩) pre x suf hsplit
    (fun z hz => by
      rcases hpass z hz with h | ⟨hz0, nm, hl1, hn1⟩
      · exact Or.inl h
      · obtain ⟨c6, hc6, hcl6⟩ := Cond.classLink_spec hown hl1 e.platform hpl
        obtain ⟨a8, b8, h1, h2, h3⟩ := hn1
        cases Option.some.inj (h1.symm.trans hcl)
        cases Option.some.inj (h2.symm.trans hc6)
        exact Or.inr ⟨hz0, _, hcl6, h3⟩) hx (Or.inr ⟨h0, c4, hcl5, hasg⟩)
  obtain ⟨t, a1, b1⟩ := kk (T.setVm vm') hT X'
  exact ⟨t, st.trans a1, b1⟩
end Rows
section Ends
variable {p : Program} {l : Launch} {e : Env} {R : Room} {s : State} {m : MethodId} {args : Array Value} {below : List Frame} {meth : Method} {c : Code} {H : Heap} {locs : List Loc} {cells slots : Nat} {Q : State → Prop}
variable {mc ms : Nat} {free : Addr → Prop} {A0 A1 : Nat → Prop} {H0 : Heap} {a : Array Value} {ls : Array Slot} {st0 rest : List Value}
variable {Qc : Array Value → State → Outcome → State → Prop} {XC : String → State → State → Prop}
/-- what a body that may throw owes at its end -/
def vx_MQ (below : List Frame) (Qc : Array Value → State → Outcome → State → Prop) (XC : String → State → State → Prop) (a : Array Value) (s : State) (mc ms : Nat) (free : Addr → Prop) : State → Prop := fun t =>
  ∃ o, t.status = .running ∧ Ended t below o ∧ vx_Q Qc XC mc ms free a s o t
theorem vx_ret {g : JFrame} {mc ms : Nat} (k : W p l e R s m args below meth c H locs cells slots (MQ below Qc args s mc ms free) g) : W p l e R s m args below meth c H locs cells slots (vx_MQ below Qc XC args s mc ms free) g := by
  intro T hT X
  obtain ⟨t, a1, o, b1, b2, b3, b4⟩ := k T hT X
  exact ⟨t, a1, o, b1, b2, Or.inl ⟨b3, b4⟩⟩
/-- not caught here: it goes on to the caller -/
theorem vx_widen {g : JFrame} {q : Addr} {k n : Nat} (h1 : cells ≤ k) (h2 : slots ≤ n) (kk : vx_W p l e R s m args below meth c H locs k n Q g q) : vx_W p l e R s m args below meth c H locs cells slots Q g q := fun T hT X => kk T hT (stand_widen X h1 h2)
theorem vx_out {pc : Nat} {E : String} {ce : Cell} {q : Addr} {mc ms : Nat} (hout : ∀ x ∈ c.exceptionTable.toList, covers x pc = false) (hlocks : meth.locks = false) (hcell : H[q]? = some ce) (hv : ce.vm = .none) (hcl : s.vm.findClass E = some ce.cls)
    (hx : ∀ t : State, t.heap = H → s.vm.Alike t.vm → XC E s t) (hf : ∀ z ∈ locs, free z.base) (hc : cells ≤ mc) (hs : slots ≤ ms) :
    vx_W p l e R s m args below meth c H locs cells slots (vx_MQ below Qc XC args s mc ms free) (F0 m pc ls rest) q := by
  intro T hT X
  obtain ⟨st1, hrun, hend, hW, hsm⟩ := X.leaveThrown q (g := F0 m pc ls rest) rfl rfl rfl hout hlocks
  have hcell9 : (T.setFrames (.throwing q :: below)).heap[q]? = some ce := by
    show T.heap[q]? = some ce
    rw [hT]; exact hcell
  exact ⟨_, st1, .threw q, hrun, hend, Or.inr ⟨q, rfl, E, ce, locs, hx _ hT hW.alike, hcell9, hv, hcl, hW, hsm.mono hc hs, hf⟩⟩
theorem vx_frame {U : State} {k n : Nat} (h : s.sameButNew ({ U with vm := s.vm } : State) locs k n) : s.heap.size ≤ U.heap.size ∧ ∀ q : Nat, q < s.heap.size → (∀ z ∈ locs, z.base ≠ q) → U.heap[q]? = s.heap[q]? := by
  obtain ⟨-, h2, -, -, -, h6⟩ := h
  refine ⟨h2, fun q hq hz => ?_⟩
  obtain ⟨c9, e1, e2, e3, e4⟩ := h6 q _ (Array.getElem?_eq_getElem hq)
  have hs : c9.slots = (s.heap[q]).slots := Array.ext_getElem? fun i => e4 i fun hm => hz _ hm rfl
  have h9 : c9 = s.heap[q] := by
    rw [hs] at e2
    exact e2
  have e5 : U.heap[q]? = some c9 := e1
  rw [e5, h9, Array.getElem?_eq_getElem hq]
/-- the words of a throw but the four that speak of the heap -/
def vx_no (w : Cond) : Bool := decide (w ≠ .isRef (.static Bundle.tN "UNASSIGNED_STACK" Bundle.steD)) && decide (w ≠ .isRef (.static Bundle.tN "SUPPRESSED_SENTINEL" Bundle.listD)) && decide (w ≠ .laysStatic Bundle.tN "UNASSIGNED_STACK" Bundle.steD) && decide (w ≠ .laysStatic Bundle.tN "SUPPRESSED_SENTINEL" Bundle.listD)
def vx_at0 (own : String) (ic : Nat) (X : String) (names : List String) : List Cond := (Bundle.ownAtoms0 own ic X names).filter vx_no
def vx_atS (own : String) (ic : Nat) (X : String) (names : List String) : List Cond := (Bundle.ownAtoms own ic X names).filter vx_no
/-- a word that the tables alone decide, or a good one -/
def vx_ot (w : Cond) : Bool := w.onTables || goodWord w
theorem vx_ot_at {args a' : Array Value} {s U : State} {w : Cond} (hW : s.WarmedH U.vm) (hvm : s.vm = U.vm) (hg : vx_ot w = true) (h : w.before args s = true) : w.before a' U = true := by
  simp only [vx_ot, Bool.or_eq_true] at hg
  rcases hg with hg | hg
  · exact va_tabs hg hvm h
  · exact word_at hW (good_of_word hg) h
/-- a list's words: the good ones out of the method's own list, the others by premises of their own -/
theorem vx_hat {args : Array Value} {s : State} {L B : List Cond} (h1 : ∀ w ∈ L.filter goodWord, w.before args s = true) (h2 : ∀ w ∈ L.filter (fun w => !goodWord w), w ∈ B) (h3 : ∀ w ∈ B, w.before args s = true) : ∀ w ∈ L, w.before args s = true := by
  intro w hw
  by_cases g : goodWord w = true
  · exact h1 w (List.mem_filter.mpr ⟨hw, g⟩)
  · refine h3 w (h2 w (List.mem_filter.mpr ⟨hw, ?_⟩))
    show (!goodWord w) = true
    cases hgw : goodWord w
    · rfl
    · exact absurd hgw g
theorem vx_c {args : Array Value} {s : State} {w : Cond} {B : List Cond} (h : w.before args s = true) (t : ∀ w ∈ B, w.before args s = true) : ∀ w' ∈ w :: B, w'.before args s = true := fun w' h' => (List.mem_cons.mp h').elim (fun e => by rw [e]; exact h) (t w')
theorem vx_n {args : Array Value} {s : State} : ∀ w ∈ ([] : List Cond), w.before args s = true := fun _ h => nomatch h
theorem vx_own {args : Array Value} {s : State} {L : List Cond} (h1 : ∀ w ∈ L.filter vx_no, w.before args s = true)
    (hU : (Cond.isRef (.static Bundle.tN "UNASSIGNED_STACK" Bundle.steD)).before args s = true) (hN : (Cond.isRef (.static Bundle.tN "SUPPRESSED_SENTINEL" Bundle.listD)).before args s = true)
    (lU : (Cond.laysStatic Bundle.tN "UNASSIGNED_STACK" Bundle.steD).before args s = true) (lN : (Cond.laysStatic Bundle.tN "SUPPRESSED_SENTINEL" Bundle.listD).before args s = true) : ∀ w ∈ L, w.before args s = true := by
  intro w hw
  by_cases e1 : w = .isRef (.static Bundle.tN "UNASSIGNED_STACK" Bundle.steD)
  · rw [e1]; exact hU
  · by_cases e2 : w = .isRef (.static Bundle.tN "SUPPRESSED_SENTINEL" Bundle.listD)
    · rw [e2]; exact hN
    · by_cases e3 : w = .laysStatic Bundle.tN "UNASSIGNED_STACK" Bundle.steD
      · rw [e3]; exact lU
      · by_cases e4 : w = .laysStatic Bundle.tN "SUPPRESSED_SENTINEL" Bundle.listD
        · rw [e4]; exact lN
        · exact h1 w (List.mem_filter.mpr ⟨hw, by unfold vx_no; rw [decide_eq_true e1, decide_eq_true e2, decide_eq_true e3, decide_eq_true e4]; rfl⟩)
/-- where a static field lies, its class's statics cell in H -/
def vx_L (C n d : String) (A : Nat → Prop) (U : State) (H : Heap) : Prop := ∃ (c : ClassId) (k : Class) (i : Nat) (f : Field) (a : Nat) (cell : Cell), U.vm.findClass C = some c ∧ U.fieldFound? C n d = some (c, k, i, f) ∧ f.isStatic = true ∧ k.statics = some a ∧ H[a]? = some cell ∧ cell.vm.isStatics = true ∧ cell.cls = c ∧ f.slot < cell.slots.size ∧ k.staticTypes[f.slot]? = some f.type ∧ ¬ A a
theorem vx_L.moved {C n d : String} {A : Nat → Prop} {u U : State} {H : Heap} (hvm : u.vm.Alike U.vm) (h : vx_L C n d A u H) : vx_L C n d A U H := by
  obtain ⟨c, k, i, f, a, cell, h1, h2, h3, h4, h5, h6, h7, h8, h9, h10⟩ := h
  obtain ⟨k', hi', he⟩ := State.fieldFound?_setVm hvm h2
  exact ⟨c, k', i, f, a, cell, by rw [hvm.findClass]; exact h1, hi', h3, by rw [he]; exact h4, h5, h6, h7, h8, by rw [he]; exact h9, h10⟩
theorem vx_L.kept {C n d : String} {A : Nat → Prop} {U : State} {H H1 : Heap} (h : vx_L C n d A U H) (hq : ∀ a : Nat, a < H.size → ¬ A a → H1[a]? = H[a]?) : vx_L C n d A U H1 := by
  obtain ⟨c, k, i, f, a, cell, h1, h2, h3, h4, h5, h6, h7, h8, h9, h10⟩ := h
  exact ⟨c, k, i, f, a, cell, h1, h2, h3, h4, by rw [hq a (Array.getElem?_eq_some_iff.mp h5).1 h10]; exact h5, h6, h7, h8, h9, h10⟩
theorem vx_L.narrow {C n d : String} {A B : Nat → Prop} {U : State} {H : Heap} (h : vx_L C n d A U H) (hAB : ∀ q, B q → A q) : vx_L C n d B U H := by
  obtain ⟨c, k, i, f, a, cell, h1, h2, h3, h4, h5, h6, h7, h8, h9, h10⟩ := h
  exact ⟨c, k, i, f, a, cell, h1, h2, h3, h4, h5, h6, h7, h8, h9, fun z => h10 (hAB _ z)⟩
theorem vx_L.word {C n d : String} {A : Nat → Prop} {s : State} {args : Array Value} (h : vx_L C n d A s s.heap) : (Cond.laysStatic C n d).before args s = true := by
  obtain ⟨c, k, i, f, a, cell, h1, h2, h3, h4, h5, h6, h7, h8, h9, -⟩ := h
  show (Cond.laysStatic C n d).holds args s none s [] = true
  exact Cond.laysStatic_of h1 h2 h3 h4 h5 h6 h7 h8 h9
/-- .. and what it holds: null or some reference -/
def vx_Zq (C n d : String) (A : Nat → Prop) (U : State) (H : Heap) : Prop := va_Zq C n d A U H ∧ vx_L C n d A U H
theorem vx_Zq.moved {C n d : String} {A : Nat → Prop} {u U : State} {H : Heap} (hvm : u.vm.Alike U.vm) (h : vx_Zq C n d A u H) : vx_Zq C n d A U H := ⟨va_Zq.moved hvm h.1, vx_L.moved hvm h.2⟩
theorem vx_Zq.kept {C n d : String} {A : Nat → Prop} {U : State} {H H1 : Heap} (h : vx_Zq C n d A U H) (hq : ∀ a : Nat, a < H.size → ¬ A a → H1[a]? = H[a]?) : vx_Zq C n d A U H1 := ⟨va_Zq.kept h.1 hq, vx_L.kept h.2 hq⟩
theorem vx_Zq.narrow {C n d : String} {A B : Nat → Prop} {U : State} {H : Heap} (h : vx_Zq C n d A U H) (hAB : ∀ q, B q → A q) : vx_Zq C n d B U H := ⟨va_Zq.narrow h.1 hAB, vx_L.narrow h.2 hAB⟩
theorem vx_Zqof {args : Array Value} {s : State} {C n d : String} {A : Nat → Prop} (hl : (Cond.laysStatic C n d).before args s = true) (hini : (Cond.initialized C).before args s = true) (h : (Cond.isRef (.static C n d)).before args s = true) (hA : ∀ a : Nat, a < s.heap.size → ¬ A a) : vx_Zq C n d A s s.heap := by
  refine ⟨va_Zqof hl hini h hA, ?_⟩
  obtain ⟨c, k, i, f, a, cell, h1, h2, h3, h4, h5, h6, h7, h8, h9⟩ := Cond.laysStatic_spec hl
  exact ⟨c, k, i, f, a, cell, h1, h2, h3, h4, h5, h6, h7, h8, h9, hA a (Array.getElem?_eq_some_iff.mp h5).1⟩
theorem vx_isRef {C n d : String} {v : Value} {A : Nat → Prop} {s : State} {args : Array Value} (h : va_Z C n d v A s s.heap) (hv : v.isRef = true) : (Cond.isRef (.static C n d)).before args s = true := by
  obtain ⟨cf, kf, fi, f, a, cell, h1, h2, h3, h4, h5, h6, h7, -⟩ := h
  have he : (Term.static C n d).eval args s none [] s = some v := by
    simp [Term.eval, State.fieldNamed?, h1, h2, h4, h5, h6, h7]
  simp only [Cond.before, Cond.holds, Cond.value, he]
  cases v <;> simp_all [Value.isRef]
theorem vx_isRefq {C n d : String} {A : Nat → Prop} {s : State} {args : Array Value} (h : va_Zq C n d A s s.heap) : (Cond.isRef (.static C n d)).before args s = true := by
  rcases h with h | ⟨t, h⟩
  · exact vx_isRef h rfl
  · exact vx_isRef h rfl
/-- the same frame, seen from here: as if the method were called anew in this heap -/
theorem vx_rebase {T : State} (X : Stand p l e R s m args below meth c T locs cells slots) {R' : Room} (hf : R'.frames ≤ R.frames) (hl : R'.locals ≤ R.locals) (hc : cells + R'.cells ≤ R.cells) (hs : slots + R'.slots ≤ R.slots) :
    Stand p l e R' ((T.setVm s.vm).setFrames (.invoking m args :: below)) m args below meth c T [] 0 0 := by
  have htop : (T.setVm s.vm).topJava?.isSome := X.here.top
  have hF : ((T.setVm s.vm).setFrames (.invoking m args :: below)).frames = .invoking m args :: below := State.frames_setFrames _ (State.cur_lt_of_top htop)
  obtain ⟨g₀, hg0⟩ := Option.isSome_iff_exists.mp htop
  obtain ⟨r, hr⟩ := State.topJava?_eq_some.mp hg0
  have hl9 : e.platform.stackLimits (T.setVm s.vm).me = e.platform.stackLimits s.me := X.limits
  have hb9 : (T.setVm s.vm).me.stackBytes = s.me.stackBytes := X.bytes
  refine ⟨X.admits, X.cas, X.clock, hF, ?_, X.hears, X.method, X.code, X.here, X.tail, X.warmed, ?_, ?_, ?_⟩
  · have h := X.room
    have hU : ((T.setVm s.vm).setFrames (.invoking m args :: below)).localsInUse = s.localsInUse := by
      rw [State.localsInUse_invoking hF (meth := meth) (c := c) X.method X.code, State.localsInUse_invoking X.frames X.method X.code]
    simp only [State.hasRoom, Bool.and_eq_true, decide_eq_true_eq] at h ⊢
    obtain ⟨⟨⟨⟨h1, h2, h3, h4, h5, h6⟩, h7⟩, h8⟩, h9⟩ := h
    rw [X.frames, List.length_cons] at h2 h3
    have q1 := X.heapSize
    have q2 := X.used
    simp only [hF, hU, List.length_cons, State.stackLimits_setFrames, State.stackBytes_setFrames, hl9, hb9]
    refine ⟨⟨⟨⟨by omega, by omega, by omega, by omega, by omega, h6⟩, ?_⟩, ?_⟩, X.book⟩
    · show T.heap.size + R'.cells ≤ e.platform.maxCells
      omega
    · show T.slotsUsed + R'.slots ≤ e.platform.maxSlots
      omega
  · rw [State.stackLimits_setFrames]; rfl
  · rw [State.stackBytes_setFrames]; rfl
  · refine ⟨?_, Nat.le_refl _, Nat.le_refl _, ?_, ?_, fun a c9 h9 => ⟨c9, h9, rfl, rfl, fun _ _ => rfl⟩⟩
    · obtain ⟨t, ht, -⟩ := State.frames_cons hr
      show T.setVm s.vm = { ((T.setVm s.vm).setFrames (.invoking m args :: below)).setFrames (T.setVm s.vm).frames with heap := T.heap, slotsUsed := T.slotsUsed }
      rw [State.setFrames_setFrames, State.setFrames_self ht]
      rfl
    · show T.slotsUsed = T.slotsUsed + ((T.heap.toList.drop T.heap.size).map (·.slots.size)).sum
      rw [List.drop_eq_nil_of_le (Nat.le_of_eq Array.length_toList)]
      rfl
    · show ((T.heap.toList.drop T.heap.size).map (·.slots.size)).sum ≤ 0
      rw [List.drop_eq_nil_of_le (Nat.le_of_eq Array.length_toList)]
      exact Nat.le_refl _
/-- 'throw new E()': new; dup; invokespecial; athrow -/
theorem vx_throw0 {cc : ByteArray} {pc : Nat} (hexec : p.tables.exec = Jvm.exec) (hb : c.code = cc) (hl : l.stackTraces = false) {own cls : String} {names : List String} {ik ic mc ms : Nat} {A : Nat → Prop}
    (hown : s.vm.findClass own = some m.cls) (hcls : Bundle.fit cls = true) (hnames : ∀ n ∈ names, Bundle.fit n = true)
    (hk : (Cond.classLink own ik cls).before args s = true) (hini : (Cond.initialized cls).before args s = true) (hat : ∀ w ∈ vx_at0 own ic cls names, w.before args s = true)
    (hgood : ∀ w ∈ Cond.classLink own ik cls :: Cond.initialized cls :: vx_at0 own ic cls names, vx_ot w = true)
    (hU : vx_Zq Bundle.tN "UNASSIGNED_STACK" Bundle.steD A s s.heap) (hN : vx_Zq Bundle.tN "SUPPRESSED_SENTINEL" Bundle.listD A s s.heap) (hS : va_S A s.heap H locs) (hsize : ls.size = c.maxLocals)
    (d0 : decode cc pc = .ok (.new ik, 3)) (d3 : decode cc (pc + 3) = .ok (.dup, 1)) (d4 : decode cc (pc + 4) = .ok (.invokespecial ic, 3)) (d7 : decode cc (pc + 7) = .ok (.athrow, 1))
    (hout : ∀ x ∈ c.exceptionTable.toList, covers x (pc + 7) = false)
    (hRframes : names.length + 3 < R.frames) (hRlocals : (rest.map fun v => v.category).sum + (13 * (names.length + 1) + 42) ≤ R.locals) (hRcells : cells + 1 ≤ R.cells) (hRslots : slots + 6 ≤ R.slots) (hlocks : meth.locks = false)
    (hx : ∀ t : State, s.vm.Alike t.vm → H.size ≤ t.heap.size → (∀ q : Nat, q < H.size → t.heap[q]? = H[q]?) → XC cls s t)
    (hf : ∀ z ∈ locs, free z.base) (hc : cells + 1 ≤ mc) (hs : slots + 6 ≤ ms) :
    W p l e R s m args below meth c H locs cells slots (vx_MQ below Qc XC args s mc ms free) (F0 m pc ls rest) := by
  intro T hT X
  have htr : e.platform.stackTraces = false := (show e.platform.stackTraces = l.stackTraces by rw [X.admits.platform]).trans hl
  have Y := vx_rebase X (R' := { frames := R.frames, locals := R.locals, cells := 1, slots := 6 }) (Nat.le_refl _) (Nat.le_refl _) hRcells hRslots
  obtain ⟨s', hA⟩ : ∃ z, z = (T.setVm s.vm).setFrames (.invoking m args :: below) := ⟨_, rfl⟩
  rw [← hA] at Y
  have hvm : s'.vm = s.vm := by rw [hA]; rfl
  have hhp : s'.heap = H := by rw [hA]; exact hT
  have hW0 : s.WarmedH s'.vm := by rw [hvm]; exact State.WarmedH.refl s
  have hat' : ∀ w ∈ vx_at0 own ic cls names, w.before args s' = true := fun w hw => vx_ot_at hW0 hvm.symm (hgood w (List.mem_cons_of_mem _ (List.mem_cons_of_mem _ hw))) (hat w hw)
  have hk' : (Cond.classLink own ik cls).before args s' = true := vx_ot_at hW0 hvm.symm (hgood _ List.mem_cons_self) hk
  have hini' : (Cond.initialized cls).before args s' = true := vx_ot_at hW0 hvm.symm (hgood _ (List.mem_cons_of_mem _ List.mem_cons_self)) hini
  have hU' : vx_Zq Bundle.tN "UNASSIGNED_STACK" Bundle.steD A s' s'.heap := by rw [hhp]; exact vx_Zq.moved hW0.alike (hU.kept hS.2.1)
  have hN' : vx_Zq Bundle.tN "SUPPRESSED_SENTINEL" Bundle.listD A s' s'.heap := by rw [hhp]; exact vx_Zq.moved hW0.alike (hN.kept hS.2.1)
  have h : ∀ w ∈ Bundle.ownAtoms0 own ic cls names, w.before args s' = true := vx_own hat' (vx_isRefq hU'.1) (vx_isRefq hN'.1) hU'.2.word hN'.2.word
  have hown' : s'.vm.findClass own = some m.cls := by rw [hvm]; exact hown
  have hins : (Cond.instantiable cls 6).before args s' = true := h _ (by simp [Bundle.ownAtoms0])
  obtain ⟨vm₁, cX, kX, hfX, hkX, -, -, X₁, st1⟩ := Y.newCold hexec (own := own) (C := cls) (index := ik) (n := 6) hown' hk' hins hini'
    (g := F0 m pc ls rest) rfl (by rw [hb]; exact d0) (Nat.le_refl _) (Nat.le_refl _)
  generalize hT1 : (T.setVm vm₁).pushCell { cls := cX, slots := kX.instanceTypes.map defaultValue, vm := .none } = T1 at X₁ st1
  have hcat : (Value.ref T.heap.size).category = 1 := rfl
  have hcellA : T1.heap[T.heap.size]? = some (freshCell cX kX) := by rw [← hT1]; exact State.heap_pushCell_size _ _
  have d3' : decode c.code (pc + 3) = .ok (.dup, 1) := by rw [hb]; exact d3
  obtain ⟨U, hsteps, hrun, hend, hW, hsame, ce, hce, hO⟩ := X₁.ctorThrow0 hexec htr (own := own) (cls := cls) (names := names) (ic := ic) hown' hcls hnames h (fun x hx => nomatch hx) hfX hkX hcellA (by rw [hhp, hT]; exact Nat.le_refl _)
    (g := { method := m, pc := pc + 4, locals := ls, stack := .ref T.heap.size :: .ref T.heap.size :: rest, locked := none }) rfl hsize rfl rfl (rest := rest) rfl
    (by rw [hb]; exact d4) (by rw [hb]; exact d7) hout hRframes (by simp only [List.map_cons, List.sum_cons, hcat]; omega) hlocks
  obtain ⟨f1, f2⟩ := vx_frame hsame
  rw [hhp] at f1 f2
  have hWs : s.WarmedH U.vm := State.WarmedH.trans hW0 hW
  have hcl : s.vm.findClass cls = some ce.cls := by
    have h9 := hO.cls
    rw [hvm] at h9
    exact h9
  have hall : s.sameButNew ({ U with vm := s.vm } : State) locs mc ms := by
    subst hA
    obtain ⟨e1, e2⟩ := hsame
    rw [State.setFrames_setFrames] at e1
    have h2 : (T.setVm s.vm).sameButNew ({ U with vm := s.vm } : State) [] (0 + 1) (0 + 6) := ⟨e1, e2⟩
    have h3 := X.same.trans h2
    rw [List.append_nil] at h3
    exact h3.mono hc hs
  refine ⟨U, ?_, .threw T.heap.size, hrun, hend, Or.inr ⟨T.heap.size, rfl, cls, ce, locs, hx U hWs.alike f1 (fun q hq => f2 q hq (fun z hz => nomatch hz)), hce, hO.vm, hcl, hWs, hall, hf⟩⟩
  refine st1 _ ?_
  show Steps p.tables e below (T1.setTop { method := m, pc := pc + 3, locals := ls, stack := .ref T.heap.size :: rest, locked := none }) _
  jvm_step X₁.here [X₁.here.top, hexec, d3', Value.category]
  exact hsteps
/-- 'throw new E("text")': new; dup; ldc; invokespecial; athrow -/
theorem vx_throwS {cc : ByteArray} {pc : Nat} (hexec : p.tables.exec = Jvm.exec) (hb : c.code = cc) (hl : l.stackTraces = false) {own cls text : String} {names : List String} {ik is ic mc ms sa : Nat} {A : Nat → Prop}
    (hown : s.vm.findClass own = some m.cls) (hcls : Bundle.fit cls = true) (hnames : ∀ n ∈ names, Bundle.fit n = true)
    (hk : (Cond.classLink own ik cls).before args s = true) (hini : (Cond.initialized cls).before args s = true) (hstr : vk_R own is text sa s) (hat : ∀ w ∈ vx_atS own ic cls names, w.before args s = true)
    (hgood : ∀ w ∈ Cond.classLink own ik cls :: Cond.initialized cls :: vx_atS own ic cls names, vx_ot w = true)
    (hU : vx_Zq Bundle.tN "UNASSIGNED_STACK" Bundle.steD A s s.heap) (hN : vx_Zq Bundle.tN "SUPPRESSED_SENTINEL" Bundle.listD A s s.heap) (hS : va_S A s.heap H locs) (hsize : ls.size = c.maxLocals)
    (d0 : decode cc pc = .ok (.new ik, 3)) (d3 : decode cc (pc + 3) = .ok (.dup, 1)) (d4 : decode cc (pc + 4) = .ok (.ldc is, 2)) (d6 : decode cc (pc + 6) = .ok (.invokespecial ic, 3)) (d9 : decode cc (pc + 9) = .ok (.athrow, 1))
    (hout : ∀ x ∈ c.exceptionTable.toList, covers x (pc + 9) = false)
    (hRframes : names.length + 3 < R.frames) (hRlocals : (rest.map fun v => v.category).sum + (13 * (names.length + 1) + 43) ≤ R.locals) (hRcells : cells + 1 ≤ R.cells) (hRslots : slots + 6 ≤ R.slots) (hlocks : meth.locks = false)
    (hx : ∀ t : State, s.vm.Alike t.vm → H.size ≤ t.heap.size → (∀ q : Nat, q < H.size → t.heap[q]? = H[q]?) → XC cls s t)
    (hf : ∀ z ∈ locs, free z.base) (hc : cells + 1 ≤ mc) (hs : slots + 6 ≤ ms) :
    W p l e R s m args below meth c H locs cells slots (vx_MQ below Qc XC args s mc ms free) (F0 m pc ls rest) := by
  intro T hT X
  have htr : e.platform.stackTraces = false := (show e.platform.stackTraces = l.stackTraces by rw [X.admits.platform]).trans hl
  have Y := vx_rebase X (R' := { frames := R.frames, locals := R.locals, cells := 1, slots := 6 }) (Nat.le_refl _) (Nat.le_refl _) hRcells hRslots
  obtain ⟨s', hA⟩ : ∃ z, z = (T.setVm s.vm).setFrames (.invoking m args :: below) := ⟨_, rfl⟩
  rw [← hA] at Y
  have hvm : s'.vm = s.vm := by rw [hA]; rfl
  have hhp : s'.heap = H := by rw [hA]; exact hT
  have hW0 : s.WarmedH s'.vm := by rw [hvm]; exact State.WarmedH.refl s
  have hat' : ∀ w ∈ vx_atS own ic cls names, w.before args s' = true := fun w hw => vx_ot_at hW0 hvm.symm (hgood w (List.mem_cons_of_mem _ (List.mem_cons_of_mem _ hw))) (hat w hw)
  have hk' : (Cond.classLink own ik cls).before args s' = true := vx_ot_at hW0 hvm.symm (hgood _ List.mem_cons_self) hk
  have hini' : (Cond.initialized cls).before args s' = true := vx_ot_at hW0 hvm.symm (hgood _ (List.mem_cons_of_mem _ List.mem_cons_self)) hini
  have hU' : vx_Zq Bundle.tN "UNASSIGNED_STACK" Bundle.steD A s' s'.heap := by rw [hhp]; exact vx_Zq.moved hW0.alike (hU.kept hS.2.1)
  have hN' : vx_Zq Bundle.tN "SUPPRESSED_SENTINEL" Bundle.listD A s' s'.heap := by rw [hhp]; exact vx_Zq.moved hW0.alike (hN.kept hS.2.1)
  have h : ∀ w ∈ Bundle.ownAtoms own ic cls names, w.before args s' = true := vx_own hat' (vx_isRefq hU'.1) (vx_isRefq hN'.1) hU'.2.word hN'.2.word
  have hown' : s'.vm.findClass own = some m.cls := by rw [hvm]; exact hown
  have hins : (Cond.instantiable cls 6).before args s' = true := h _ (by simp [Bundle.ownAtoms])
  obtain ⟨vm₁, cX, kX, hfX, hkX, -, -, X₁, st1⟩ := Y.newCold hexec (own := own) (C := cls) (index := ik) (n := 6) hown' hk' hins hini'
    (g := F0 m pc ls rest) rfl (by rw [hb]; exact d0) (Nat.le_refl _) (Nat.le_refl _)
  generalize hT1 : (T.setVm vm₁).pushCell { cls := cX, slots := kX.instanceTypes.map defaultValue, vm := .none } = T1 at X₁ st1
  have hcat : (Value.ref T.heap.size).category = 1 := rfl
  have hcellA : T1.heap[T.heap.size]? = some (freshCell cX kX) := by rw [← hT1]; exact State.heap_pushCell_size _ _
  have d3' : decode c.code (pc + 3) = .ok (.dup, 1) := by rw [hb]; exact d3
  have d4' : decode c.code (pc + 4) = .ok (.ldc is, 2) := by rw [hb]; exact d4
  have hstr' : vk_R own is text sa s' := vk_R.warm hW0 hstr
  obtain ⟨U, hsteps, hrun, hend, hW, hsame, ce, hce, hO⟩ := X₁.ctorThrowS hexec htr (own := own) (cls := cls) (names := names) (ic := ic) hown' hcls hnames h (fun x hx => nomatch hx) hfX hkX hcellA (by rw [hhp, hT]; exact Nat.le_refl _) (msg := .ref sa) rfl
    (g := { method := m, pc := pc + 6, locals := ls, stack := .ref sa :: .ref T.heap.size :: .ref T.heap.size :: rest, locked := none }) rfl hsize rfl rfl (rest := rest) rfl
    (by rw [hb]; exact d6) (by rw [hb]; exact d9) hout hRframes (by simp only [List.map_cons, List.sum_cons, hcat]; omega) hlocks
  obtain ⟨f1, f2⟩ := vx_frame hsame
  rw [hhp] at f1 f2
  have hWs : s.WarmedH U.vm := State.WarmedH.trans hW0 hW
  have hcl : s.vm.findClass cls = some ce.cls := by
    have h9 := hO.cls
    rw [hvm] at h9
    exact h9
  have hall : s.sameButNew ({ U with vm := s.vm } : State) locs mc ms := by
    subst hA
    obtain ⟨e1, e2⟩ := hsame
    rw [State.setFrames_setFrames] at e1
    have h2 : (T.setVm s.vm).sameButNew ({ U with vm := s.vm } : State) [] (0 + 1) (0 + 6) := ⟨e1, e2⟩
    have h3 := X.same.trans h2
    rw [List.append_nil] at h3
    exact h3.mono hc hs
  refine ⟨U, ?_, .threw T.heap.size, hrun, hend, Or.inr ⟨T.heap.size, rfl, cls, ce, locs, hx U hWs.alike f1 (fun q hq => f2 q hq (fun z hz => nomatch hz)), hce, hO.vm, hcl, hWs, hall, hf⟩⟩
  refine st1 _ ?_
  show Steps p.tables e below (T1.setTop { method := m, pc := pc + 3, locals := ls, stack := .ref T.heap.size :: rest, locked := none }) _
  jvm_step X₁.here [X₁.here.top, hexec, d3', Value.category]
  exact X₁.ldcString hexec (own := own) (text := text) (index := is) (a := sa) hown' hstr'.1 hstr'.2
    (g := { method := m, pc := pc + 4, locals := ls, stack := .ref T.heap.size :: .ref T.heap.size :: rest, locked := none }) rfl d4' _ hsteps
/-- 'throw new E("text")', the text by a wide index -/
theorem vx_throwSW {cc : ByteArray} {pc : Nat} (hexec : p.tables.exec = Jvm.exec) (hb : c.code = cc) (hl : l.stackTraces = false) {own cls text : String} {names : List String} {ik is ic mc ms sa : Nat} {A : Nat → Prop}
    (hown : s.vm.findClass own = some m.cls) (hcls : Bundle.fit cls = true) (hnames : ∀ n ∈ names, Bundle.fit n = true)
    (hk : (Cond.classLink own ik cls).before args s = true) (hini : (Cond.initialized cls).before args s = true) (hstr : vk_R own is text sa s) (hat : ∀ w ∈ vx_atS own ic cls names, w.before args s = true)
    (hgood : ∀ w ∈ Cond.classLink own ik cls :: Cond.initialized cls :: vx_atS own ic cls names, vx_ot w = true)
    (hU : vx_Zq Bundle.tN "UNASSIGNED_STACK" Bundle.steD A s s.heap) (hN : vx_Zq Bundle.tN "SUPPRESSED_SENTINEL" Bundle.listD A s s.heap) (hS : va_S A s.heap H locs) (hsize : ls.size = c.maxLocals)
    (d0 : decode cc pc = .ok (.new ik, 3)) (d3 : decode cc (pc + 3) = .ok (.dup, 1)) (d4 : decode cc (pc + 4) = .ok (.ldc_w is, 3)) (d7 : decode cc (pc + 7) = .ok (.invokespecial ic, 3)) (d10 : decode cc (pc + 10) = .ok (.athrow, 1))
    (hout : ∀ x ∈ c.exceptionTable.toList, covers x (pc + 10) = false)
    (hRframes : names.length + 3 < R.frames) (hRlocals : (rest.map fun v => v.category).sum + (13 * (names.length + 1) + 43) ≤ R.locals) (hRcells : cells + 1 ≤ R.cells) (hRslots : slots + 6 ≤ R.slots) (hlocks : meth.locks = false)
    (hx : ∀ t : State, s.vm.Alike t.vm → H.size ≤ t.heap.size → (∀ q : Nat, q < H.size → t.heap[q]? = H[q]?) → XC cls s t)
    (hf : ∀ z ∈ locs, free z.base) (hc : cells + 1 ≤ mc) (hs : slots + 6 ≤ ms) :
    W p l e R s m args below meth c H locs cells slots (vx_MQ below Qc XC args s mc ms free) (F0 m pc ls rest) := by
  intro T hT X
  have htr : e.platform.stackTraces = false := (show e.platform.stackTraces = l.stackTraces by rw [X.admits.platform]).trans hl
  have Y := vx_rebase X (R' := { frames := R.frames, locals := R.locals, cells := 1, slots := 6 }) (Nat.le_refl _) (Nat.le_refl _) hRcells hRslots
  obtain ⟨s', hA⟩ : ∃ z, z = (T.setVm s.vm).setFrames (.invoking m args :: below) := ⟨_, rfl⟩
  rw [← hA] at Y
  have hvm : s'.vm = s.vm := by rw [hA]; rfl
  have hhp : s'.heap = H := by rw [hA]; exact hT
  have hW0 : s.WarmedH s'.vm := by rw [hvm]; exact State.WarmedH.refl s
  have hat' : ∀ w ∈ vx_atS own ic cls names, w.before args s' = true := fun w hw => vx_ot_at hW0 hvm.symm (hgood w (List.mem_cons_of_mem _ (List.mem_cons_of_mem _ hw))) (hat w hw)
  have hk' : (Cond.classLink own ik cls).before args s' = true := vx_ot_at hW0 hvm.symm (hgood _ List.mem_cons_self) hk
  have hini' : (Cond.initialized cls).before args s' = true := vx_ot_at hW0 hvm.symm (hgood _ (List.mem_cons_of_mem _ List.mem_cons_self)) hini
  have hU' : vx_Zq Bundle.tN "UNASSIGNED_STACK" Bundle.steD A s' s'.heap := by rw [hhp]; exact vx_Zq.moved hW0.alike (hU.kept hS.2.1)
  have hN' : vx_Zq Bundle.tN "SUPPRESSED_SENTINEL" Bundle.listD A s' s'.heap := by rw [hhp]; exact vx_Zq.moved hW0.alike (hN.kept hS.2.1)
  have h : ∀ w ∈ Bundle.ownAtoms own ic cls names, w.before args s' = true := vx_own hat' (vx_isRefq hU'.1) (vx_isRefq hN'.1) hU'.2.word hN'.2.word
  have hown' : s'.vm.findClass own = some m.cls := by rw [hvm]; exact hown
  have hins : (Cond.instantiable cls 6).before args s' = true := h _ (by simp [Bundle.ownAtoms])
  obtain ⟨vm₁, cX, kX, hfX, hkX, -, -, X₁, st1⟩ := Y.newCold hexec (own := own) (C := cls) (index := ik) (n := 6) hown' hk' hins hini'
    (g := F0 m pc ls rest) rfl (by rw [hb]; exact d0) (Nat.le_refl _) (Nat.le_refl _)
  generalize hT1 : (T.setVm vm₁).pushCell { cls := cX, slots := kX.instanceTypes.map defaultValue, vm := .none } = T1 at X₁ st1
  have hcat : (Value.ref T.heap.size).category = 1 := rfl
  have hcellA : T1.heap[T.heap.size]? = some (freshCell cX kX) := by rw [← hT1]; exact State.heap_pushCell_size _ _
  have d3' : decode c.code (pc + 3) = .ok (.dup, 1) := by rw [hb]; exact d3
  have d4' : decode c.code (pc + 4) = .ok (.ldc_w is, 3) := by rw [hb]; exact d4
  have hstr' : vk_R own is text sa s' := vk_R.warm hW0 hstr
  obtain ⟨U, hsteps, hrun, hend, hW, hsame, ce, hce, hO⟩ := X₁.ctorThrowS hexec htr (own := own) (cls := cls) (names := names) (ic := ic) hown' hcls hnames h (fun x hx => nomatch hx) hfX hkX hcellA (by rw [hhp, hT]; exact Nat.le_refl _) (msg := .ref sa) rfl
    (g := { method := m, pc := pc + 7, locals := ls, stack := .ref sa :: .ref T.heap.size :: .ref T.heap.size :: rest, locked := none }) rfl hsize rfl rfl (rest := rest) rfl
    (by rw [hb]; exact d7) (by rw [hb]; exact d10) hout hRframes (by simp only [List.map_cons, List.sum_cons, hcat]; omega) hlocks
  obtain ⟨f1, f2⟩ := vx_frame hsame
  rw [hhp] at f1 f2
  have hWs : s.WarmedH U.vm := State.WarmedH.trans hW0 hW
  have hcl : s.vm.findClass cls = some ce.cls := by
    have h9 := hO.cls
    rw [hvm] at h9
    exact h9
  have hall : s.sameButNew ({ U with vm := s.vm } : State) locs mc ms := by
    subst hA
    obtain ⟨e1, e2⟩ := hsame
    rw [State.setFrames_setFrames] at e1
    have h2 : (T.setVm s.vm).sameButNew ({ U with vm := s.vm } : State) [] (0 + 1) (0 + 6) := ⟨e1, e2⟩
    have h3 := X.same.trans h2
    rw [List.append_nil] at h3
    exact h3.mono hc hs
  refine ⟨U, ?_, .threw T.heap.size, hrun, hend, Or.inr ⟨T.heap.size, rfl, cls, ce, locs, hx U hWs.alike f1 (fun q hq => f2 q hq (fun z hz => nomatch hz)), hce, hO.vm, hcl, hWs, hall, hf⟩⟩
  refine st1 _ ?_
  show Steps p.tables e below (T1.setTop { method := m, pc := pc + 3, locals := ls, stack := .ref T.heap.size :: rest, locked := none }) _
  jvm_step X₁.here [X₁.here.top, hexec, d3', Value.category]
  exact X₁.ldcStringW hexec (own := own) (text := text) (index := is) (a := sa) hown' hstr'.1 hstr'.2
    (g := { method := m, pc := pc + 4, locals := ls, stack := .ref T.heap.size :: .ref T.heap.size :: rest, locked := none }) rfl d4' _ hsteps
end Ends
section Bodies
variable {l : Launch}
theorem vx_ofW {y : MethodName} {ws ws' : List Cond} {rm : Room} {Pc : Array Value → State → Prop} {Qc : Array Value → State → Outcome → State → Prop} {XC : String → State → State → Prop} {mc ms : Nat} {free : Addr → Prop} {cc : ByteArray} {maxL : Nat} {ret : Option FieldType}
    (hy : plainName y.cls = true) (hw : ws = Cond.code y cc maxL ret :: ws')
    (body : ∀ p e s m args below meth c s₁, BodyLoose p l y (headSpec ws rm) cc maxL ret e s m args below meth c s₁ → c.maxLocals = maxL → (∀ x ∈ c.exceptionTable.toList, False) → Pc args s →
      W p l e (headSpec ws rm).room s m args below meth c s.heap [] 0 0 (vx_MQ below Qc XC args s mc ms free) (entryFrame m args maxL)) : vx_Met l y ws rm Pc Qc XC mc ms free := by
  refine MetFree.of_bodyS (code := cc) (maxLocals := maxL) (ret := ret) hy ?_ ?_
  · intro args s m h hn
    obtain ⟨meth, c, h1, h2, h3, h4, h5, h6, -, -⟩ := Cond.code_spec hn (atoms_spec (ws := ws) h _ (by rw [hw]; exact List.mem_cons_self))
    exact ⟨meth, c, h1, h2, h3, h4, h5, h6⟩
  · intro p e s m args below meth c s₁ B hml hP _
    have hh0 : s₁.heap = s.heap := by rw [B.state]; rfl
    have ht : ∀ x ∈ c.exceptionTable.toList, False := by
      obtain ⟨meth9, c9, h1, h2, -, -, -, -, h7, -⟩ := Cond.code_spec B.named (atoms_spec (ws := ws) B.pre _ (by rw [hw]; exact List.mem_cons_self))
      cases Option.some.inj (h1.symm.trans B.method)
      cases Option.some.inj (h2.symm.trans (Stand.of_body B).code)
      intro x hx
      rw [Array.isEmpty_iff.mp h7] at hx
      cases hx
    obtain ⟨t, a1, o, b1, b2, b3⟩ := body p e s m args below meth c s₁ B hml ht hP s₁ hh0 (Stand.of_body B)
    exact ⟨t, o, a1, b1, b2, b3⟩
/-- the table of a body with handlers -/
theorem vx_table {p : Program} {x y : MethodName} {S : Spec} {cc bytes : ByteArray} {maxL maxL' : Nat} {ret ret' : Option FieldType} {e : Env} {s s₁ : State} {m : MethodId} {args : Array Value} {below : List Frame} {meth : Method} {c : Code} {hh : List (Nat × Nat × Nat × Nat)}
    (B : BodyLoose p l y S cc maxL ret e s m args below meth c s₁) (h : (Cond.codeWith y bytes maxL' ret' hh).before args s = true) : c.exceptionTable.toList = tableOf hh := by
  obtain ⟨m9, meth9, c9, hn9, h1, h2, -, -, h6, -⟩ := Cond.codeWith_spec h
  cases Option.some.inj (hn9.symm.trans B.named)
  cases Option.some.inj (h1.symm.trans B.method)
  cases Option.some.inj (h2.symm.trans (Stand.of_body B).code)
  rw [← h6, table_eq]
end Bodies
end VXA
/-! ===== END ===== -/
/-! ===== BEGIN a static call of a method with an exception table ===== -/
section VXS
variable {p : Program} {l : Launch} {e : Env} {R : Room} {s : State} {m : MethodId} {args : Array Value} {below : List Frame} {meth : Method} {c : Code} {T : State} {H : Heap} {locs : List Loc} {cells slots : Nat}
abbrev vx_CSW (R : Room) (s : State) (args : Array Value) (own : String) (index : Nat) (y : MethodName) (bytes : ByteArray) (maxL : Nat) (ret : Option FieldType) (hh : List (Nat × Nat × Nat × Nat)) (ws : List Cond) (rm : Room) (mc ms n : Nat) : Prop :=
  (rm.cells = mc ∧ rm.slots = ms ∧ rm.frames + 1 ≤ R.frames ∧ 8 + (maxL + 11) + rm.locals ≤ R.locals ∧ (∀ w ∈ ws, ∀ (a' : Array Value) (U : State), s.WarmedH U.vm → w.before a' U = true) ∧ Cond.codeWith y bytes maxL ret hh ∈ ws) ∧
  (Cond.codeWith y bytes maxL ret hh).before args s = true ∧ (Cond.initialized y.cls).before args s = true ∧ (y.cls ≠ "java/lang/invoke/MethodHandle" ∧ y.cls ≠ "java/lang/invoke/VarHandle") ∧
  (∀ sig, parseMethodDescriptor y.desc = some sig → n = sig.parameters.length) ∧ (Cond.methodLink own index y).before args s = true ∧ (Cond.static y).before args s = true
theorem vx_cwSW {own : String} {index maxL mc ms : Nat} {y : MethodName} {bytes : ByteArray} {ret : Option FieldType} {hh : List (Nat × Nat × Nat × Nat)} {Ts ws ws' : List Cond} {rm : Room} (n : Nat) (ht : ∀ w ∈ Ts, w.before args s = true) (hT : GoodIn Ts (va_wsS own index y ws)) (hw : ws = Cond.codeWith y bytes maxL ret hh :: ws') (hrc : rm.cells = mc) (hrs : rm.slots = ms)
    (hd : y.cls ≠ "java/lang/invoke/MethodHandle" ∧ y.cls ≠ "java/lang/invoke/VarHandle" ∧ (parseMethodDescriptor y.desc).map (fun d => d.parameters.length) = some n) (hR : rm.frames + 1 ≤ R.frames ∧ 8 + (maxL + 11) + rm.locals ≤ R.locals) :
    vx_CSW R s args own index y bytes maxL ret hh ws rm mc ms n := by
  have ok : ∀ w ∈ va_wsS own index y ws, w.before args s = true := fun w h => ht w (hT w h).1
  have hG : GoodIn Ts ws := fun w h => hT w (by unfold va_wsS; exact List.mem_append_right _ h)
  have hc : Cond.codeWith y bytes maxL ret hh ∈ ws := by rw [hw]; exact List.mem_cons_self
  refine ⟨⟨hrc, hrs, hR.1, hR.2, pay_in ht hG, hc⟩, ht _ (hG _ hc).1, ok _ (by simp [va_wsS]), ⟨hd.1, hd.2.1⟩, fun sig h => ?_, ok _ (by simp [va_wsS]), ok _ (by simp [va_wsS])⟩
  have h2 := hd.2.2
  rw [h] at h2
  exact (Option.some.inj h2).symm
theorem vx_callSW (X : Stand p l e R s m args below meth c T locs cells slots) (hexec : p.tables.exec = Jvm.exec) {own : String} {index : Nat} {y : MethodName} {bytes : ByteArray} {maxL : Nat} {ret : Option FieldType} {hh : List (Nat × Nat × Nat × Nat)}
    (hown : s.vm.findClass own = some m.cls) (hlink : (Cond.methodLink own index y).before args s = true) (hstat : (Cond.static y).before args s = true) (hinit : (Cond.initialized y.cls).before args s = true)
    (hcode : (Cond.codeWith y bytes maxL ret hh).before args s = true) (hy : y.cls ≠ "java/lang/invoke/MethodHandle" ∧ y.cls ≠ "java/lang/invoke/VarHandle")
    {W9 : Nat} {Pre : Pt → Array Value → Prop} {Post : Pt → Array Value → Option Value → Pt → Prop} (hK : Back l R p e below s args y 3 W9 Pre Post)
    {g : JFrame} (hg : g.method = m) (hsize : g.locals.size = c.maxLocals) {argsL rest : List Value} (hlen : ∀ sig, parseMethodDescriptor y.desc = some sig → argsL.length = sig.parameters.length)
    (hstack : g.stack = argsL.reverse ++ rest) (hW : 2 * g.monitorRoom + (rest.map fun v => v.category).sum ≤ W9) (hdg : decode c.code g.pc = .ok (.invokestatic index, 3))
    (hpre : ∀ vm₁, s.WarmedH vm₁ → Pre ⟨T.setVm vm₁, locs, cells, slots⟩ argsL.toArray) :
    ∃ (v : Option Value) (vm₁ : Vm) (B : Pt), s.WarmedH vm₁ ∧ Stand p l e R s m args below meth c B.U B.locs B.cells B.slots ∧ Post ⟨T.setVm vm₁, locs, cells, slots⟩ argsL.toArray v B ∧
      ∀ target, Steps p.tables e below (B.U.setTop { g with pc := g.pc + 3, stack := v.toList ++ rest }) target → Steps p.tables e below (T.setTop g) target := by
  obtain ⟨mk, methM, cM, hnamed, hmethM, -, -, -, -, -, -, hsigM⟩ := Cond.codeWith_spec hcode
  have hstatic : methM.isStatic = true := Cond.static_spec hnamed hmethM hstat
  obtain ⟨kP, hkP, -⟩ := className_of_methodNamed hnamed
  have hinitP : kP.init = .initialized := Cond.initialized_spec (findClass_of_methodNamed hnamed) hkP hinit
  obtain ⟨vm₁, X₁, hstep₁⟩ := X.invokestatic hexec hown hlink hnamed hmethM hstatic hkP hinitP hy (g := g) hg (argsL := argsL) (rest := rest) (hlen _ hsigM) hstack hdg
  obtain ⟨v, B, X', hpost, hsteps⟩ := hK m meth c ⟨T.setVm vm₁, locs, cells, slots⟩ { g with stack := rest } (.invokestatic index) mk argsL.toArray X₁ hg hsize hdg hW (X₁.named hnamed) (hpre vm₁ X₁.warmed)
  exact ⟨v, vm₁, B, X₁.warmed, X', hpost, fun target h => hstep₁ _ fun acts => by rw [doInvoke_state]; exact hsteps.trans h⟩
theorem vx_runSW {y : MethodName} {bytes cc : ByteArray} {maxL nL mc ms n index : Nat} {ret : Option FieldType} {hh : List (Nat × Nat × Nat × Nat)} {ws : List Cond} {rm : Room} {Pc : Array Value → State → Prop} {Qc : Array Value → State → Outcome → State → Prop} {free : Addr → Prop} {Ts : List Cond} {own : String} {As rest : List Value} {g : JFrame}
    (S : CallFix p m c cc nL s args Ts own) (hM : Met l y ws rm Pc Qc mc ms free) (cw : vx_CSW R s args own index y bytes maxL ret hh ws rm mc ms n) (hp : PreS s H Pc As)
    (hg : g.method = m) (hn : As.length = n) (hsize : g.locals.size = nL) (hstack : g.stack = As.reverse ++ rest) (hW : 2 * g.monitorRoom + (rest.map fun v => v.category).sum ≤ 8) (hdg : decode cc g.pc = .ok (.invokestatic index, 3)) (hf : cells + mc ≤ R.cells ∧ slots + ms ≤ R.slots) :
    va_Run p l e R s m args below meth c H locs cells slots mc ms g rest (Qc As.toArray) (free) := by
  obtain ⟨⟨hrc, hrs, hfr, hlo, hws, hcw⟩, hcode, hini, hy, hlen, hl, hstt⟩ := cw
  have hK : Back l R p e below s args y 3 8 (PreOf R mc ms Pc) (PostOf Qc mc ms free) := va_backW (hh := hh) (bytes := bytes) (maxL := maxL) (ret := ret) hM hp.1 hrc hrs hfr hlo hws hcw (fun a' U hW => word_at hW (Or.inl (by first | rfl | simp [Cond.onTables, Cond.keeps, Cond.steady])) hini)
  obtain ⟨hx, hb, hml, ho, -⟩ := S
  intro T hT X
  obtain ⟨v, vm₁, ⟨U', l2, c2, s2⟩, hW₁, X', ⟨g', mk, t, L, e1, e2, hq, h1, hL, h2, h3⟩, st⟩ := vx_callSW X hx (hh := hh) (bytes := bytes) (maxL := maxL) (ret := ret) ho hl hstt hini hcode hy hK hg (hsize.trans hml.symm) (argsL := As) (rest := rest) (fun sig h => hn.trans (hlen sig h)) hstack hW (by rw [hb]; exact hdg)
    (fun vm₁ hW₁ => ⟨hf.1, hf.2, hp.2 (T.setVm vm₁) hT hW₁⟩)
  dsimp only [Pt.U, Pt.locs, Pt.cells, Pt.slots] at X' e1 e2 h1 h2 h3 st
  subst h1; subst h2; subst h3
  exact ⟨v, (T.setVm vm₁).calling g' mk As.toArray, t, U', L, hT, X', hL, e1, e2, hq, st⟩
/-- not caught here, past rows that name other classes: it goes on to the caller -/
theorem vx_outP {p : Program} {l : Launch} {e : Env} {R : Room} {s : State} {m : MethodId} {args : Array Value} {below : List Frame} {meth : Method} {c : Code} {H : Heap} {locs : List Loc} {cells slots : Nat} {free : Addr → Prop} {ls : Array Slot} {rest : List Value} {Qc : Array Value → State → Outcome → State → Prop} {XC : String → State → State → Prop}
    {pc : Nat} {own E : String} {ce : Cell} {q : Addr} {mc ms : Nat} (hown : s.vm.findClass own = some m.cls) (hlocks : meth.locks = false)
    (hpass : ∀ z ∈ c.exceptionTable.toList, covers z pc = false ∨ (z.catchType ≠ 0 ∧ ∃ nm : String, (Cond.classLink own z.catchType nm).before args s = true ∧ va_Nc E nm s)) (hcell : H[q]? = some ce) (hv : ce.vm = .none) (hcl : s.vm.findClass E = some ce.cls)
    (hx : ∀ t : State, t.heap = H → s.vm.Alike t.vm → XC E s t) (hf : ∀ z ∈ locs, free z.base) (hc : cells ≤ mc) (hs : slots ≤ ms) :
    vx_W p l e R s m args below meth c H locs cells slots (vx_MQ below Qc XC args s mc ms free) (F0 m pc ls rest) q := by
  intro T hT X
  have hpl : e.platform.magicAccessors = ({} : Platform).magicAccessors := by rw [X.admits.platform]
  obtain ⟨vm', hW', X', st⟩ := X.outThrough hlocks q (g := F0 m pc ls rest) rfl rfl rfl (cell := ce) (by rw [hT]; exact hcell) (by rw [hv]; rfl)
    (by obtain ⟨k9, h9, -⟩ := Vm.findClass_spec hcl; exact ⟨k9, h9⟩) (fun z hz => by
      rcases hpass z hz with h | ⟨hz0, nm, hl1, hn1⟩
      · exact Or.inl h
      · obtain ⟨c6, hc6, hcl6⟩ := Cond.classLink_spec hown hl1 e.platform hpl
        obtain ⟨a8, b8, h1, h2, h3⟩ := hn1
        cases Option.some.inj (h1.symm.trans hcl)
        cases Option.some.inj (h2.symm.trans hc6)
        exact Or.inr ⟨hz0, _, hcl6, h3⟩)
  obtain ⟨g₀, hfr⟩ := X'.frames_eq
  have hcell9 : ((T.setVm vm').setFrames (.throwing q :: below)).heap[q]? = some ce := by
    show T.heap[q]? = some ce
    rw [hT]; exact hcell
  have hend : Ended ((T.setVm vm').setFrames (.throwing q :: below)) below (.threw q) := State.frames_setFrames _ (State.cur_lt_of_frames hfr)
  refine ⟨(T.setVm vm').setFrames (.throwing q :: below), ?_, .threw q, X'.here.running, hend, Or.inr ⟨q, rfl, E, ce, locs, hx _ hT (X'.ends _).1.alike, hcell9, hv, hcl, (X'.ends _).1, (X'.ends _).2.mono hc hs, hf⟩⟩
  rw [X.pushThrowing_eq]
  exact st
/-- a thing of a world lies in the heap -/
theorem vx_lt {D : va_G} {cl : List vw_C} {ws : va_W} {H1 : Heap} (h : va_P D cl ws H1) {k : Nat} {q : Nat × va_E} (hk : ws[k]? = some q) : q.1 < H1.size := (h k q hk).lt
end VXS
/-! ===== END ===== -/
/-! ===== BEGIN methods with a table of their own: called by a name, returning or throwing ===== -/
section VXH
/-! vx_backW, vx_callVX, vx_callSX, vx_callVW, vx_runVW, vx_runVX, vx_runSX, vx_ofWH follow the same proofs as their sisters above (Free/Laws.lean, Shelf42/LK1.lean); vx_outP calls Shelf42/NT130.lean (outThrough). -/
section
variable {l : Launch} {R : Room} {p : Program} {e : Env} {below : List Frame} {s : State} {sargs : Array Value} {y : MethodName} {len W9 : Nat}
theorem vx_backW {ws : List Cond} {rm : Room} {Pc : Array Value → State → Prop} {Qc : Array Value → State → Outcome → State → Prop} {XC : String → State → State → Prop} {mc ms : Nat} {free : Addr → Prop} {bytes : ByteArray} {maxL : Nat} {ret : Option FieldType} {hh : List (Nat × Nat × Nat × Nat)}
    (hM : vx_Met l y ws rm Pc Qc XC mc ms free) (hblind : FrameBlind Pc) (hrc : rm.cells = mc) (hrs : rm.slots = ms)
    (hframes : rm.frames + 1 ≤ R.frames) (hlocals : W9 + (maxL + 11) + rm.locals ≤ R.locals)
    (hws : ∀ w ∈ ws, ∀ a' U, s.WarmedH U.vm → w.before a' U = true) (hcode : Cond.codeWith y bytes maxL ret hh ∈ ws) (hinit : ∀ a' U, s.WarmedH U.vm → (Cond.initialized y.cls).before a' U = true) :
    vx_Back l R p e below s sargs y len W9 (PreOf R mc ms Pc) (PostOf Qc mc ms free) (vx_Post XC mc ms free) := by
  intro m meth c A g ig mk a X hg hsize hdg hW hn hp
  have h1 : (headSpec ws rm).pre.before a A.U = true := atoms_intro fun w hw => hws w hw _ _ X.warmed
  have h2 : (Cond.codeWith y bytes maxL ret hh).before a A.U = true := hws _ hcode _ _ X.warmed
  have h3 : (Cond.initialized y.cls).before a A.U = true := hinit _ _ X.warmed
  have h4 : A.cells + (headSpec ws rm).room.cells ≤ R.cells := by rw [show (headSpec ws rm).room.cells = mc from hrc]; exact hp.1
  have h5 : A.slots + (headSpec ws rm).room.slots ≤ R.slots := by rw [show (headSpec ws rm).room.slots = ms from hrs]; exact hp.2.1
  have hPc : Pc a (A.U.calling g mk a) := hblind _ _ _ _ hp.2.2
  obtain ⟨U, Ls, c0, s0⟩ := A
  dsimp only [Pt.U, Pt.locs, Pt.cells, Pt.slots] at h1 h2 h3 h4 h5 X hn hPc ⊢
  obtain ⟨m9, methY, cY, hn9, hmY, hcY, -, hlY, -⟩ := Cond.codeWith_spec h2
  cases Option.some.inj (hn9.symm.trans hn)
  obtain ⟨kY, hkY, -⟩ := className_of_methodNamed hn
  have hinitY : kY.init = .initialized := Cond.initialized_spec (findClass_of_methodNamed hn) hkY h3
  have h : At U g.method c below := by rw [hg]; exact X.here
  have hlocals9 : W9 + (maxL + 11) + (headSpec ws rm).room.locals ≤ R.locals := hlocals
  have happ : (headSpec ws rm).appliesLoose y e.platform (U.calling g mk a) = true :=
    Spec.appliesLoose_calling (g := g) h hdg hn hkY hinitY
      (X.room_calling (g := g) (R' := (headSpec ws rm).room) hsize hmY hcY hframes (by rw [hlY]; omega) h4 h5) h1
  obtain ⟨mid, hmid⟩ := h.above
  have hfr : (U.setTop g).frames = (.java g :: mid) ++ below := by rw [State.frames_setTop' g h.top, hmid]; rfl
  obtain ⟨o, s₂, hsteps, -, hend, hq⟩ := Steps.callFree hM p X.admits X.cas X.clock (acts := []) hfr happ hPc trivial
  have hq' : vx_Q Qc XC mc ms free a (U.calling g mk a) o s₂ := hq
  rw [State.frames_setTop' g h.top] at hend
  obtain ⟨g₀, hg0⟩ := Option.isSome_iff_exists.mp h.top
  obtain ⟨r, hr⟩ := State.topJava?_eq_some.mp hg0
  have hr' : (({ U with heap := s₂.heap, slotsUsed := s₂.slotsUsed } : State).setVm s₂.vm).frames = .java g₀ :: r := hr
  rcases hq' with ⟨hqc, L, hfe, hL⟩ | ⟨q, rfl, E, ce, L, hx, hce, hcv, hcl, hW₂, hsm, hL⟩
  · obtain ⟨⟨v, rfl⟩, hW₂, e2, q2, q3, q4, q5, q6⟩ := id hfe
    have e3 : s₂ = ({ (U.calling g mk a).setFrames s₂.frames with heap := s₂.heap, slotsUsed := s₂.slotsUsed } : State).setVm s₂.vm := by
      have : s₂ = ({ s₂ with vm := (U.calling g mk a).vm } : State).setVm s₂.vm := rfl
      rw [e2] at this
      exact this
    obtain ⟨c₂, i₂, len₂, hc₂, hd₂, hf₂⟩ := hend
    have hW' : U.WarmedH s₂.vm := hW₂
    have hcc : c₂ = c := by
      have h1 : s₂.code? g.method = U.code? g.method := by
        rw [State.code?_eq, State.code?_eq, hW'.alike.method?]
      exact Option.some.inj (hc₂.symm.trans (h1.trans h.code))
    subst hcc
    have hlen : len₂ = len := by rw [hdg] at hd₂; cases hd₂; rfl
    subst hlen
    have hs₂ : s₂ = (({ U with heap := s₂.heap, slotsUsed := s₂.slotsUsed } : State).setVm s₂.vm).setTop { g with pc := g.pc + len₂, stack := v.toList ++ g.stack } := by
      refine e3.trans ?_
      rw [hf₂, State.calling_eq h.top, State.setFrames_setFrames, State.setTop_of_frames _ hr', hr]
      rfl
    have hsame : U.sameButNew ({ U with heap := s₂.heap, slotsUsed := s₂.slotsUsed } : State) L mc ms := by
      refine ⟨?_, q2, q3, q4, q5, q6⟩
      obtain ⟨t, ht, -⟩ := State.frames_cons hr
      show ({ U with heap := s₂.heap, slotsUsed := s₂.slotsUsed } : State) = { U.setFrames U.frames with heap := s₂.heap, slotsUsed := s₂.slotsUsed }
      rw [State.setFrames_self ht]
    subst hg
    refine Or.inl ⟨v, ⟨(({ U with heap := s₂.heap, slotsUsed := s₂.slotsUsed } : State).setVm s₂.vm), Ls ++ L, c0 + mc, s0 + ms⟩,
      ⟨X.admits, X.cas, X.clock, X.frames, X.room, X.hears, X.method, X.code, (X.here.setHeapUsed s₂.heap s₂.slotsUsed).setVm hW'.alike, X.tail, State.WarmedH.trans X.warmed hW', X.limits, X.bytes, X.same.trans (hsame.setVm s.vm)⟩,
      ⟨g, mk, s₂, L, rfl, rfl, hqc, rfl, hL, rfl, rfl⟩, ?_⟩
    show Steps p.tables e below _ ((({ U with heap := s₂.heap, slotsUsed := s₂.slotsUsed } : State).setVm s₂.vm).setTop { g with pc := g.pc + len₂, stack := v.toList ++ g.stack })
    rw [← hs₂]
    exact hsteps
  · obtain ⟨e2, q2, q3, q4, q5, q6⟩ := id hsm
    have e3 : s₂ = ({ (U.calling g mk a).setFrames s₂.frames with heap := s₂.heap, slotsUsed := s₂.slotsUsed } : State).setVm s₂.vm := by
      have : s₂ = ({ s₂ with vm := (U.calling g mk a).vm } : State).setVm s₂.vm := rfl
      rw [e2] at this
      exact this
    have hf₂ : s₂.frames = .throwing q :: .java g :: U.frames.tail := hend
    have hW' : U.WarmedH s₂.vm := hW₂
    have hs₂ : s₂ = ((({ U with heap := s₂.heap, slotsUsed := s₂.slotsUsed } : State).setVm s₂.vm).setTop g).pushFrame (.throwing q) := by
      refine e3.trans ?_
      rw [hf₂, State.calling_eq h.top, State.setFrames_setFrames, State.pushFrame, State.frames_setTop _ hr', State.setTop_of_frames _ hr', State.setFrames_setFrames, hr]
      rfl
    have hsame : U.sameButNew ({ U with heap := s₂.heap, slotsUsed := s₂.slotsUsed } : State) L mc ms := by
      refine ⟨?_, q2, q3, q4, q5, q6⟩
      obtain ⟨t, ht, -⟩ := State.frames_cons hr
      show ({ U with heap := s₂.heap, slotsUsed := s₂.slotsUsed } : State) = { U.setFrames U.frames with heap := s₂.heap, slotsUsed := s₂.slotsUsed }
      rw [State.setFrames_self ht]
    subst hg
    refine Or.inr ⟨q, ⟨(({ U with heap := s₂.heap, slotsUsed := s₂.slotsUsed } : State).setVm s₂.vm), Ls ++ L, c0 + mc, s0 + ms⟩,
      ⟨X.admits, X.cas, X.clock, X.frames, X.room, X.hears, X.method, X.code, (X.here.setHeapUsed s₂.heap s₂.slotsUsed).setVm hW'.alike, X.tail, State.WarmedH.trans X.warmed hW', X.limits, X.bytes, X.same.trans (hsame.setVm s.vm)⟩,
      ⟨g, mk, s₂, L, E, ce, rfl, rfl, hx, hce, hcv, hcl, rfl, hL, rfl, rfl⟩, ?_⟩
    show Steps p.tables e below _ (((({ U with heap := s₂.heap, slotsUsed := s₂.slotsUsed } : State).setVm s₂.vm).setTop g).pushFrame (.throwing q))
    rw [← hs₂]
    exact hsteps
end
variable {p : Program} {l : Launch} {e : Env} {R : Room} {s : State} {m : MethodId} {args : Array Value} {below : List Frame} {meth : Method} {c : Code} {T : State} {H : Heap} {locs : List Loc} {cells slots : Nat}
theorem vx_callVX (X : Stand p l e R s m args below meth c T locs cells slots) (hexec : p.tables.exec = Jvm.exec) {own C : String} {index : Nat} {y : MethodName} {bytes : ByteArray} {maxL : Nat} {ret : Option FieldType} {hh : List (Nat × Nat × Nat × Nat)}
    (hown : s.vm.findClass own = some m.cls) (hlink : (Cond.methodLink own index y).before args s = true) (hinst : (Cond.instanceMethod y).before args s = true) (hsel : (Cond.selects C y y).before args s = true)
    (hcode : (Cond.codeWith y bytes maxL ret hh).before args s = true) (hy : y.cls ≠ "java/lang/invoke/MethodHandle" ∧ y.cls ≠ "java/lang/invoke/VarHandle")
    {W9 : Nat} {Pre : Pt → Array Value → Prop} {Post : Pt → Array Value → Option Value → Pt → Prop} {PostX : Pt → Array Value → Addr → Pt → Prop} (hK : vx_Back l R p e below s args y 3 W9 Pre Post PostX)
    {b : Addr} {cellB : Cell} (hcell : T.heap[b]? = some cellB) (hobj : cellB.vm.isStatics = false) (hcls : s.vm.findClass C = some cellB.cls)
    {g : JFrame} (hg : g.method = m) (hsize : g.locals.size = c.maxLocals) {argsL rest : List Value} (hlen : ∀ sig, parseMethodDescriptor y.desc = some sig → argsL.length = sig.parameters.length)
    (hstack : g.stack = argsL.reverse ++ .ref b :: rest) (hW : 2 * g.monitorRoom + (rest.map fun v => v.category).sum ≤ W9) (hdg : decode c.code g.pc = .ok (.invokevirtual index, 3))
    (hpre : ∀ vm₁, s.WarmedH vm₁ → Pre ⟨T.setVm vm₁, locs, cells, slots⟩ (Value.ref b :: argsL).toArray) :
    (∃ (v : Option Value) (vm₁ : Vm) (B : Pt), s.WarmedH vm₁ ∧ Stand p l e R s m args below meth c B.U B.locs B.cells B.slots ∧ Post ⟨T.setVm vm₁, locs, cells, slots⟩ (Value.ref b :: argsL).toArray v B ∧
      ∀ target, Steps p.tables e below (B.U.setTop { g with pc := g.pc + 3, stack := v.toList ++ rest }) target → Steps p.tables e below (T.setTop g) target) ∨
    (∃ (q : Addr) (vm₁ : Vm) (B : Pt), s.WarmedH vm₁ ∧ Stand p l e R s m args below meth c B.U B.locs B.cells B.slots ∧ PostX ⟨T.setVm vm₁, locs, cells, slots⟩ (Value.ref b :: argsL).toArray q B ∧
      Steps p.tables e below (T.setTop g) ((B.U.setTop { g with stack := rest }).pushFrame (.throwing q))) := by
  obtain ⟨mk, methM, hnamed, hmethM, hstM, habM⟩ := Cond.instanceMethod_spec hinst
  obtain ⟨m8, methM', cM, hn8, hmethM', -, -, -, -, -, -, hsigM⟩ := Cond.codeWith_spec hcode
  cases Option.some.inj (hn8.symm.trans hnamed)
  cases hmethM.symm.trans hmethM'
  obtain ⟨c2, r2, m2, q1, q2, q3, q4, kP, hkP, hkPi⟩ := Cond.selects_spec hsel
  cases hcls.symm.trans q1
  cases (State.methodFound?_of_named hnamed hy).symm.trans q2
  cases hnamed.symm.trans q3
  have hselP : selectMethod e.platform s.vm cellB.cls mk = .method mk := by rw [Launch.admits_selectMethod X.admits]; exact q4
  obtain ⟨vm₁, X₁, hstep₁⟩ := X.invokevirtual hexec hown hlink hnamed hmethM hstM hkP hkPi hy (a := b) (cell := cellB) hcell
    (fun z h => by rw [h] at hobj; cases hobj) hselP hmethM habM hkP hkPi (g := g) hg (argsL := argsL) (rest := rest) (hlen _ hsigM) hstack hdg
  rcases hK m meth c ⟨T.setVm vm₁, locs, cells, slots⟩ { g with stack := rest } (.invokevirtual index) mk (Value.ref b :: argsL).toArray X₁ hg hsize hdg hW (X₁.named hnamed) (hpre vm₁ X₁.warmed) with ⟨v, B, X', hpost, hsteps⟩ | ⟨q, B, X', hpost, hsteps⟩
  · exact Or.inl ⟨v, vm₁, B, X₁.warmed, X', hpost, fun target h => hstep₁ _ fun acts => by rw [doInvoke_state]; exact hsteps.trans h⟩
  · exact Or.inr ⟨q, vm₁, B, X₁.warmed, X', hpost, hstep₁ _ fun acts => by rw [doInvoke_state]; exact hsteps⟩
theorem vx_callSX (X : Stand p l e R s m args below meth c T locs cells slots) (hexec : p.tables.exec = Jvm.exec) {own : String} {index : Nat} {y : MethodName} {bytes : ByteArray} {maxL : Nat} {ret : Option FieldType} {hh : List (Nat × Nat × Nat × Nat)}
    (hown : s.vm.findClass own = some m.cls) (hlink : (Cond.methodLink own index y).before args s = true) (hstat : (Cond.static y).before args s = true) (hinit : (Cond.initialized y.cls).before args s = true)
    (hcode : (Cond.codeWith y bytes maxL ret hh).before args s = true) (hy : y.cls ≠ "java/lang/invoke/MethodHandle" ∧ y.cls ≠ "java/lang/invoke/VarHandle")
    {W9 : Nat} {Pre : Pt → Array Value → Prop} {Post : Pt → Array Value → Option Value → Pt → Prop} {PostX : Pt → Array Value → Addr → Pt → Prop} (hK : vx_Back l R p e below s args y 3 W9 Pre Post PostX)
    {g : JFrame} (hg : g.method = m) (hsize : g.locals.size = c.maxLocals) {argsL rest : List Value} (hlen : ∀ sig, parseMethodDescriptor y.desc = some sig → argsL.length = sig.parameters.length)
    (hstack : g.stack = argsL.reverse ++ rest) (hW : 2 * g.monitorRoom + (rest.map fun v => v.category).sum ≤ W9) (hdg : decode c.code g.pc = .ok (.invokestatic index, 3))
    (hpre : ∀ vm₁, s.WarmedH vm₁ → Pre ⟨T.setVm vm₁, locs, cells, slots⟩ argsL.toArray) :
    (∃ (v : Option Value) (vm₁ : Vm) (B : Pt), s.WarmedH vm₁ ∧ Stand p l e R s m args below meth c B.U B.locs B.cells B.slots ∧ Post ⟨T.setVm vm₁, locs, cells, slots⟩ argsL.toArray v B ∧
      ∀ target, Steps p.tables e below (B.U.setTop { g with pc := g.pc + 3, stack := v.toList ++ rest }) target → Steps p.tables e below (T.setTop g) target) ∨
    (∃ (q : Addr) (vm₁ : Vm) (B : Pt), s.WarmedH vm₁ ∧ Stand p l e R s m args below meth c B.U B.locs B.cells B.slots ∧ PostX ⟨T.setVm vm₁, locs, cells, slots⟩ argsL.toArray q B ∧
      Steps p.tables e below (T.setTop g) ((B.U.setTop { g with stack := rest }).pushFrame (.throwing q))) := by
  obtain ⟨mk, methM, cM, hnamed, hmethM, -, -, -, -, -, -, hsigM⟩ := Cond.codeWith_spec hcode
  have hstatic : methM.isStatic = true := Cond.static_spec hnamed hmethM hstat
  obtain ⟨kP, hkP, -⟩ := className_of_methodNamed hnamed
  have hinitP : kP.init = .initialized := Cond.initialized_spec (findClass_of_methodNamed hnamed) hkP hinit
  obtain ⟨vm₁, X₁, hstep₁⟩ := X.invokestatic hexec hown hlink hnamed hmethM hstatic hkP hinitP hy (g := g) hg (argsL := argsL) (rest := rest) (hlen _ hsigM) hstack hdg
  rcases hK m meth c ⟨T.setVm vm₁, locs, cells, slots⟩ { g with stack := rest } (.invokestatic index) mk argsL.toArray X₁ hg hsize hdg hW (X₁.named hnamed) (hpre vm₁ X₁.warmed) with ⟨v, B, X', hpost, hsteps⟩ | ⟨q, B, X', hpost, hsteps⟩
  · exact Or.inl ⟨v, vm₁, B, X₁.warmed, X', hpost, fun target h => hstep₁ _ fun acts => by rw [doInvoke_state]; exact hsteps.trans h⟩
  · exact Or.inr ⟨q, vm₁, B, X₁.warmed, X', hpost, hstep₁ _ fun acts => by rw [doInvoke_state]; exact hsteps⟩
theorem vx_callVW (X : Stand p l e R s m args below meth c T locs cells slots) (hexec : p.tables.exec = Jvm.exec) {own C : String} {index : Nat} {y : MethodName} {bytes : ByteArray} {maxL : Nat} {ret : Option FieldType} {hh : List (Nat × Nat × Nat × Nat)}
    (hown : s.vm.findClass own = some m.cls) (hlink : (Cond.methodLink own index y).before args s = true) (hinst : (Cond.instanceMethod y).before args s = true) (hsel : (Cond.selects C y y).before args s = true)
    (hcode : (Cond.codeWith y bytes maxL ret hh).before args s = true) (hy : y.cls ≠ "java/lang/invoke/MethodHandle" ∧ y.cls ≠ "java/lang/invoke/VarHandle")
    {W9 : Nat} {Pre : Pt → Array Value → Prop} {Post : Pt → Array Value → Option Value → Pt → Prop} (hK : Back l R p e below s args y 3 W9 Pre Post)
    {b : Addr} {cellB : Cell} (hcell : T.heap[b]? = some cellB) (hobj : cellB.vm.isStatics = false) (hcls : s.vm.findClass C = some cellB.cls)
    {g : JFrame} (hg : g.method = m) (hsize : g.locals.size = c.maxLocals) {argsL rest : List Value} (hlen : ∀ sig, parseMethodDescriptor y.desc = some sig → argsL.length = sig.parameters.length)
    (hstack : g.stack = argsL.reverse ++ .ref b :: rest) (hW : 2 * g.monitorRoom + (rest.map fun v => v.category).sum ≤ W9) (hdg : decode c.code g.pc = .ok (.invokevirtual index, 3))
    (hpre : ∀ vm₁, s.WarmedH vm₁ → Pre ⟨T.setVm vm₁, locs, cells, slots⟩ (Value.ref b :: argsL).toArray) :
    ∃ (v : Option Value) (vm₁ : Vm) (B : Pt), s.WarmedH vm₁ ∧ Stand p l e R s m args below meth c B.U B.locs B.cells B.slots ∧ Post ⟨T.setVm vm₁, locs, cells, slots⟩ (Value.ref b :: argsL).toArray v B ∧
      ∀ target, Steps p.tables e below (B.U.setTop { g with pc := g.pc + 3, stack := v.toList ++ rest }) target → Steps p.tables e below (T.setTop g) target := by
  obtain ⟨mk, methM, hnamed, hmethM, hstM, habM⟩ := Cond.instanceMethod_spec hinst
  obtain ⟨m8, methM', cM, hn8, hmethM', -, -, -, -, -, -, hsigM⟩ := Cond.codeWith_spec hcode
  cases Option.some.inj (hn8.symm.trans hnamed)
  cases hmethM.symm.trans hmethM'
  obtain ⟨c2, r2, m2, q1, q2, q3, q4, kP, hkP, hkPi⟩ := Cond.selects_spec hsel
  cases hcls.symm.trans q1
  cases (State.methodFound?_of_named hnamed hy).symm.trans q2
  cases hnamed.symm.trans q3
  have hselP : selectMethod e.platform s.vm cellB.cls mk = .method mk := by rw [Launch.admits_selectMethod X.admits]; exact q4
  obtain ⟨vm₁, X₁, hstep₁⟩ := X.invokevirtual hexec hown hlink hnamed hmethM hstM hkP hkPi hy (a := b) (cell := cellB) hcell
    (fun z h => by rw [h] at hobj; cases hobj) hselP hmethM habM hkP hkPi (g := g) hg (argsL := argsL) (rest := rest) (hlen _ hsigM) hstack hdg
  obtain ⟨v, B, X', hpost, hsteps⟩ := hK m meth c ⟨T.setVm vm₁, locs, cells, slots⟩ { g with stack := rest } (.invokevirtual index) mk (Value.ref b :: argsL).toArray X₁ hg hsize hdg hW (X₁.named hnamed) (hpre vm₁ X₁.warmed)
  exact ⟨v, vm₁, B, X₁.warmed, X', hpost, fun target h => hstep₁ _ fun acts => by rw [doInvoke_state]; exact hsteps.trans h⟩
abbrev vx_CVW (R : Room) (s : State) (args : Array Value) (own C : String) (index : Nat) (y : MethodName) (bytes : ByteArray) (maxL : Nat) (ret : Option FieldType) (hh : List (Nat × Nat × Nat × Nat)) (ws : List Cond) (rm : Room) (mc ms n : Nat) : Prop :=
  (rm.cells = mc ∧ rm.slots = ms ∧ rm.frames + 1 ≤ R.frames ∧ 8 + (maxL + 11) + rm.locals ≤ R.locals ∧ (∀ w ∈ ws, ∀ (a' : Array Value) (U : State), s.WarmedH U.vm → w.before a' U = true) ∧ Cond.codeWith y bytes maxL ret hh ∈ ws) ∧
  (Cond.codeWith y bytes maxL ret hh).before args s = true ∧ (Cond.initialized y.cls).before args s = true ∧ (y.cls ≠ "java/lang/invoke/MethodHandle" ∧ y.cls ≠ "java/lang/invoke/VarHandle") ∧
  (∀ sig, parseMethodDescriptor y.desc = some sig → n = sig.parameters.length) ∧ (Cond.methodLink own index y).before args s = true ∧ (Cond.instanceMethod y).before args s = true ∧ (Cond.selects C y y).before args s = true
theorem vx_cwVW {own C : String} {index maxL mc ms : Nat} {y : MethodName} {bytes : ByteArray} {ret : Option FieldType} {hh : List (Nat × Nat × Nat × Nat)} {Ts ws ws' : List Cond} {rm : Room} (n : Nat) (ht : ∀ w ∈ Ts, w.before args s = true) (hT : GoodIn Ts (wsV own index C y ws)) (hw : ws = Cond.codeWith y bytes maxL ret hh :: ws') (hrc : rm.cells = mc) (hrs : rm.slots = ms)
    (hd : y.cls = C ∧ y.cls ≠ "java/lang/invoke/MethodHandle" ∧ y.cls ≠ "java/lang/invoke/VarHandle" ∧ (parseMethodDescriptor y.desc).map (fun d => d.parameters.length) = some n) (hR : rm.frames + 1 ≤ R.frames ∧ 8 + (maxL + 11) + rm.locals ≤ R.locals) :
    vx_CVW R s args own C index y bytes maxL ret hh ws rm mc ms n := by
  obtain ⟨hC, hd⟩ := hd
  subst hC
  have ok : ∀ w ∈ wsV own index y.cls y ws, w.before args s = true := fun w h => ht w (hT w h).1
  have hG : GoodIn Ts ws := fun w h => hT w (by unfold wsV; exact List.mem_append_right _ h)
  have hc : Cond.codeWith y bytes maxL ret hh ∈ ws := by rw [hw]; exact List.mem_cons_self
  refine ⟨⟨hrc, hrs, hR.1, hR.2, pay_in ht hG, hc⟩, ht _ (hG _ hc).1, ok _ (by simp [wsV]), ⟨hd.1, hd.2.1⟩, fun sig h => ?_, ok _ (by simp [wsV]), ok _ (by simp [wsV]), ok _ (by simp [wsV])⟩
  have h2 := hd.2.2
  rw [h] at h2
  exact (Option.some.inj h2).symm
theorem vx_runVW {y : MethodName} {bytes cc : ByteArray} {maxL nL mc ms n index : Nat} {ret : Option FieldType} {hh : List (Nat × Nat × Nat × Nat)} {ws : List Cond} {rm : Room} {Pc : Array Value → State → Prop} {Qc : Array Value → State → Outcome → State → Prop} {free : Addr → Prop} {Ts : List Cond} {own C : String} {b : Addr} {As rest : List Value} {g : JFrame}
    (S : CallFix p m c cc nL s args Ts own) (hM : Met l y ws rm Pc Qc mc ms free) (cw : vx_CVW R s args own C index y bytes maxL ret hh ws rm mc ms n) (hp : PreV s H C b Pc As)
    (hg : g.method = m) (hn : As.length = n) (hsize : g.locals.size = nL) (hstack : g.stack = As.reverse ++ .ref b :: rest) (hW : 2 * g.monitorRoom + (rest.map fun v => v.category).sum ≤ 8) (hdg : decode cc g.pc = .ok (.invokevirtual index, 3)) (hf : cells + mc ≤ R.cells ∧ slots + ms ≤ R.slots) :
    va_Run p l e R s m args below meth c H locs cells slots mc ms g rest (Qc (Value.ref b :: As).toArray) free := by
  obtain ⟨⟨hrc, hrs, hfr, hlo, hws, hcw⟩, hcode, hini, hy, hlen, hl, hin, hse⟩ := cw
  have hK : Back l R p e below s args y 3 8 (PreOf R mc ms Pc) (PostOf Qc mc ms free) := va_backW (hh := hh) (bytes := bytes) (maxL := maxL) (ret := ret) hM hp.1 hrc hrs hfr hlo hws hcw (fun a' U hW => word_at hW (Or.inl (by first | rfl | simp [Cond.onTables, Cond.keeps, Cond.steady])) hini)
  obtain ⟨hx, hb, hml, ho, -⟩ := S
  obtain ⟨-, ⟨cellB, hcB, hoB, hclB⟩, hPc⟩ := hp
  intro T hT X
  obtain ⟨v, vm₁, ⟨U', l2, c2, s2⟩, hW₁, X', ⟨g', mk, t, L, e1, e2, hq, h1, hL, h2, h3⟩, st⟩ := vx_callVW X hx (C := C) (hh := hh) (bytes := bytes) (maxL := maxL) (ret := ret) ho hl hin hse hcode hy hK (by rw [hT]; exact hcB) hoB hclB hg (hsize.trans hml.symm) (argsL := As) (rest := rest) (fun sig h => hn.trans (hlen sig h)) hstack hW (by rw [hb]; exact hdg)
    (fun vm₁ hW₁ => ⟨hf.1, hf.2, hPc (T.setVm vm₁) hT hW₁⟩)
  dsimp only [Pt.U, Pt.locs, Pt.cells, Pt.slots] at X' e1 e2 h1 h2 h3 st
  subst h1; subst h2; subst h3
  exact ⟨v, (T.setVm vm₁).calling g' mk (Value.ref b :: As).toArray, t, U', L, hT, X', hL, e1, e2, hq, st⟩
section
variable {y : MethodName} {bytes cc : ByteArray} {maxL nL mc ms n index : Nat} {ret : Option FieldType} {ws : List Cond} {rm : Room} {Pc : Array Value → State → Prop} {Qc : Array Value → State → Outcome → State → Prop} {XC : String → State → State → Prop} {free : Addr → Prop} {Ts : List Cond} {own C : String} {b : Addr} {As rest : List Value} {g : JFrame}
theorem vx_runVX {hh : List (Nat × Nat × Nat × Nat)} (S : CallFix p m c cc nL s args Ts own) (hM : vx_Met l y ws rm Pc Qc XC mc ms free) (cw : vx_CVW R s args own C index y bytes maxL ret hh ws rm mc ms n) (hp : PreV s H C b Pc As)
    (hg : g.method = m) (hn : As.length = n) (hsize : g.locals.size = nL) (hstack : g.stack = As.reverse ++ .ref b :: rest) (hW : 2 * g.monitorRoom + (rest.map fun v => v.category).sum ≤ 8) (hdg : decode cc g.pc = .ok (.invokevirtual index, 3)) (hf : cells + mc ≤ R.cells ∧ slots + ms ≤ R.slots) :
    vx_Run p l e R s m args below meth c H locs cells slots mc ms g rest (Qc (Value.ref b :: As).toArray) XC free := by
  obtain ⟨⟨hrc, hrs, hfr, hlo, hws, hcw⟩, hcode, hini, hy, hlen, hl, hin, hse⟩ := cw
  have hK : vx_Back l R p e below s args y 3 8 (PreOf R mc ms Pc) (PostOf Qc mc ms free) (vx_Post XC mc ms free) := vx_backW (hh := hh) (bytes := bytes) (maxL := maxL) (ret := ret) hM hp.1 hrc hrs hfr hlo hws hcw (fun a' U hW => word_at hW (Or.inl (by first | rfl | simp [Cond.onTables, Cond.keeps, Cond.steady])) hini)
  obtain ⟨hx, hb, hml, ho, -⟩ := S
  obtain ⟨-, ⟨cellB, hcB, hoB, hclB⟩, hPc⟩ := hp
  intro T hT X
  rcases vx_callVX X hx (C := C) (hh := hh) (bytes := bytes) (maxL := maxL) (ret := ret) ho hl hin hse hcode hy hK (by rw [hT]; exact hcB) hoB hclB hg (hsize.trans hml.symm) (argsL := As) (rest := rest) (fun sig h => hn.trans (hlen sig h)) hstack hW (by rw [hb]; exact hdg)
    (fun vm₁ hW₁ => ⟨hf.1, hf.2, hPc (T.setVm vm₁) hT hW₁⟩) with ⟨v, vm₁, ⟨U', l2, c2, s2⟩, hW₁, X', ⟨g', mk, t, L, e1, e2, hq, h1, hL, h2, h3⟩, st⟩ | ⟨q, vm₁, ⟨U', l2, c2, s2⟩, hW₁, X', ⟨g', mk, t, L, E, ce, e1, e2, hq, hce, hcv, hcl, h1, hL, h2, h3⟩, st⟩
  · dsimp only [Pt.U, Pt.locs, Pt.cells, Pt.slots] at X' e1 e2 h1 h2 h3 st
    subst h1; subst h2; subst h3
    exact Or.inl ⟨v, (T.setVm vm₁).calling g' mk (Value.ref b :: As).toArray, t, U', L, hT, X', hL, e1, e2, hq, st⟩
  · dsimp only [Pt.U, Pt.locs, Pt.cells, Pt.slots] at X' e1 e2 h1 h2 h3 st hcl
    subst h1; subst h2; subst h3
    exact Or.inr ⟨q, (T.setVm vm₁).calling g' mk (Value.ref b :: As).toArray, t, U', L, E, ce, hT, X', hL, e1, e2, hq, hce, hcv, vx_cls hW₁ hcl, st⟩
theorem vx_runSX {hh : List (Nat × Nat × Nat × Nat)} (S : CallFix p m c cc nL s args Ts own) (hM : vx_Met l y ws rm Pc Qc XC mc ms free) (cw : vx_CSW R s args own index y bytes maxL ret hh ws rm mc ms n) (hp : PreS s H Pc As)
    (hg : g.method = m) (hn : As.length = n) (hsize : g.locals.size = nL) (hstack : g.stack = As.reverse ++ rest) (hW : 2 * g.monitorRoom + (rest.map fun v => v.category).sum ≤ 8) (hdg : decode cc g.pc = .ok (.invokestatic index, 3)) (hf : cells + mc ≤ R.cells ∧ slots + ms ≤ R.slots) :
    vx_Run p l e R s m args below meth c H locs cells slots mc ms g rest (Qc As.toArray) XC free := by
  obtain ⟨⟨hrc, hrs, hfr, hlo, hws, hcw⟩, hcode, hini, hy, hlen, hl, hstt⟩ := cw
  have hK : vx_Back l R p e below s args y 3 8 (PreOf R mc ms Pc) (PostOf Qc mc ms free) (vx_Post XC mc ms free) := vx_backW (hh := hh) (bytes := bytes) (maxL := maxL) (ret := ret) hM hp.1 hrc hrs hfr hlo hws hcw (fun a' U hW => word_at hW (Or.inl (by first | rfl | simp [Cond.onTables, Cond.keeps, Cond.steady])) hini)
  obtain ⟨hx, hb, hml, ho, -⟩ := S
  intro T hT X
  rcases vx_callSX X hx (hh := hh) (bytes := bytes) (maxL := maxL) (ret := ret) ho hl hstt hini hcode hy hK hg (hsize.trans hml.symm) (argsL := As) (rest := rest) (fun sig h => hn.trans (hlen sig h)) hstack hW (by rw [hb]; exact hdg)
    (fun vm₁ hW₁ => ⟨hf.1, hf.2, hp.2 (T.setVm vm₁) hT hW₁⟩) with ⟨v, vm₁, ⟨U', l2, c2, s2⟩, hW₁, X', ⟨g', mk, t, L, e1, e2, hq, h1, hL, h2, h3⟩, st⟩ | ⟨q, vm₁, ⟨U', l2, c2, s2⟩, hW₁, X', ⟨g', mk, t, L, E, ce, e1, e2, hq, hce, hcv, hcl, h1, hL, h2, h3⟩, st⟩
  · dsimp only [Pt.U, Pt.locs, Pt.cells, Pt.slots] at X' e1 e2 h1 h2 h3 st
    subst h1; subst h2; subst h3
    exact Or.inl ⟨v, (T.setVm vm₁).calling g' mk As.toArray, t, U', L, hT, X', hL, e1, e2, hq, st⟩
  · dsimp only [Pt.U, Pt.locs, Pt.cells, Pt.slots] at X' e1 e2 h1 h2 h3 st hcl
    subst h1; subst h2; subst h3
    exact Or.inr ⟨q, (T.setVm vm₁).calling g' mk As.toArray, t, U', L, E, ce, hT, X', hL, e1, e2, hq, hce, hcv, vx_cls hW₁ hcl, st⟩
end
end VXH
theorem vx_ofWH {l : Launch} {y : MethodName} {ws ws' : List Cond} {rm : Room} {Pc : Array Value → State → Prop} {Qc : Array Value → State → Outcome → State → Prop} {XC : String → State → State → Prop} {mc ms : Nat} {free : Addr → Prop} {cc : ByteArray} {maxL : Nat} {ret : Option FieldType} {hh : List (Nat × Nat × Nat × Nat)}
    (hy : plainName y.cls = true) (hw : ws = Cond.codeWith y cc maxL ret hh :: ws')
    (body : ∀ p e s m args below meth c s₁, BodyLoose p l y (headSpec ws rm) cc maxL ret e s m args below meth c s₁ → c.maxLocals = maxL → Pc args s →
      W p l e (headSpec ws rm).room s m args below meth c s.heap [] 0 0 (vx_MQ below Qc XC args s mc ms free) (entryFrame m args maxL)) : vx_Met l y ws rm Pc Qc XC mc ms free := by
  refine MetFree.of_bodyS (code := cc) (maxLocals := maxL) (ret := ret) hy ?_ ?_
  · intro args s m h hn
    obtain ⟨m9, meth, c, hn9, h1, h2, h3, h4, -, h5, h6, -⟩ := Cond.codeWith_spec (atoms_spec (ws := ws) h _ (by rw [hw]; exact List.mem_cons_self))
    cases hn.symm.trans hn9
    exact ⟨meth, c, h1, h2, h3, h4, h5, h6⟩
  · intro p e s m args below meth c s₁ B hml hP _
    have hh0 : s₁.heap = s.heap := by rw [B.state]; rfl
    obtain ⟨t, a1, o, b1, b2, b3⟩ := body p e s m args below meth c s₁ B hml hP s₁ hh0 (Stand.of_body B)
    exact ⟨t, o, a1, b1, b2, b3⟩
/-! ===== END ===== -/
end
section
/-! ===== BEGIN printed: names, fields, word lists, decode rows ===== -/
def RX0 : String := "SewingFrames$Book"
def TX0 : u_T := fun k => match k with
  | 0 => ("SewingFrames$Book", "number", "I", true)
  | 1 => ("SewingFrames$Book", "signatures", "I", false)
  | 2 => ("SewingFrames$Book", "sheets", "I", false)
  | 3 => ("SewingFrames$Book", "edges", "I", false)
  | 4 => ("SewingFrames$Book", "stage", "I", false)
  | 5 => ("SewingFrames$Book", "frame", "I", false)
  | 6 => ("SewingFrames$Book", "cords", "I", false)
  | 7 => ("SewingFrames$Book", "stitches", "I", false)
  | 8 => ("SewingFrames$Book", "wholeSignatures", "I", false)
  | 9 => ("SewingFrames$Book", "stitchesOfNext", "I", false)
  | 10 => ("SewingFrames$Book", "loose", "I", false)
  | 11 => ("SewingFrames$Book", "hoursToDry", "I", false)
  | _ => ("SewingFrames$Book", "gilt", "I", false)
def tyX0 : Nat → FieldType := fun k => match k with
  | 0 => .int
  | 1 => .int
  | 2 => .int
  | 3 => .int
  | 4 => .int
  | 5 => .int
  | 6 => .int
  | 7 => .int
  | 8 => .int
  | 9 => .int
  | 10 => .int
  | 11 => .int
  | _ => .int
abbrev wsX00 : List Cond := u_ws RX0 TX0 13
theorem nmX0 : ∀ a, a < 13 → ∀ b, b < 13 → a ≠ b → (TX0 a).2.1 ≠ (TX0 b).2.1 := by decide +kernel
theorem tyX0_ok : ∀ k, k < 13 → parseFieldDescriptor (TX0 k).2.2.1 = some (tyX0 k) := by decide +kernel
abbrev cX0_init : ByteArray := prog_2_method_1_code
def yX0_init : MethodName := ⟨RX0, "<init>", "(I)V"⟩
abbrev cX0_setTo : ByteArray := prog_2_method_2_code
def yX0_setTo : MethodName := ⟨RX0, "setTo", "(LSewingFrames$Book;)V"⟩
abbrev cX0_begin : ByteArray := prog_2_method_3_code
def yX0_begin : MethodName := ⟨RX0, "begin", "(III)V"⟩
abbrev cX0_mount : ByteArray := prog_2_method_4_code
def yX0_mount : MethodName := ⟨RX0, "mount", "(II)V"⟩
abbrev cX0_undo : ByteArray := prog_2_method_5_code
def yX0_undo : MethodName := ⟨RX0, "undo", "()V"⟩
abbrev cX0_thickness : ByteArray := prog_2_method_6_code
def yX0_thickness : MethodName := ⟨RX0, "thickness", "()I"⟩
abbrev cX0_leavesForAnEdge : ByteArray := prog_2_method_7_code
def yX0_leavesForAnEdge : MethodName := ⟨RX0, "leavesForAnEdge", "()I"⟩
abbrev cX0_stitchesOfSignature : ByteArray := prog_2_method_8_code
def yX0_stitchesOfSignature : MethodName := ⟨RX0, "stitchesOfSignature", "(I)I"⟩
abbrev cX0_stitchesToSew : ByteArray := prog_2_method_9_code
def yX0_stitchesToSew : MethodName := ⟨RX0, "stitchesToSew", "()I"⟩
abbrev cX0_addStitch : ByteArray := prog_2_method_10_code
def yX0_addStitch : MethodName := ⟨RX0, "addStitch", "()Z"⟩
abbrev cX0_isSewn : ByteArray := prog_2_method_11_code
def yX0_isSewn : MethodName := ⟨RX0, "isSewn", "()Z"⟩
abbrev cX0_beginToDry : ByteArray := prog_2_method_12_code
def yX0_beginToDry : MethodName := ⟨RX0, "beginToDry", "()V"⟩
abbrev cX0_dryForAnHour : ByteArray := prog_2_method_13_code
def yX0_dryForAnHour : MethodName := ⟨RX0, "dryForAnHour", "()V"⟩
abbrev cX0_bind : ByteArray := prog_2_method_14_code
def yX0_bind : MethodName := ⟨RX0, "bind", "()V"⟩
abbrev cX0_gildAnEdge : ByteArray := prog_2_method_15_code
def yX0_gildAnEdge : MethodName := ⟨RX0, "gildAnEdge", "()V"⟩
abbrev cX0_value : ByteArray := prog_2_method_16_code
def yX0_value : MethodName := ⟨RX0, "value", "()I"⟩
abbrev cX0_tell : ByteArray := prog_2_method_17_code
def yX0_tell : MethodName := ⟨RX0, "tell", "(I)I"⟩
def RX1 : String := "SewingFrames$Frame"
def TX1 : u_T := fun k => match k with
  | 0 => ("SewingFrames$Frame", "number", "I", true)
  | 1 => ("SewingFrames$Frame", "cords", "I", false)
  | 2 => ("SewingFrames$Frame", "book", "I", false)
  | _ => ("SewingFrames$Frame", "sewn", "I", false)
def tyX1 : Nat → FieldType := fun k => match k with
  | 0 => .int
  | 1 => .int
  | 2 => .int
  | _ => .int
abbrev wsX10 : List Cond := u_ws RX1 TX1 4
theorem nmX1 : ∀ a, a < 4 → ∀ b, b < 4 → a ≠ b → (TX1 a).2.1 ≠ (TX1 b).2.1 := by decide +kernel
theorem tyX1_ok : ∀ k, k < 4 → parseFieldDescriptor (TX1 k).2.2.1 = some (tyX1 k) := by decide +kernel
abbrev cX1_init : ByteArray := prog_3_method_1_code
def yX1_init : MethodName := ⟨RX1, "<init>", "(I)V"⟩
abbrev cX1_setTo : ByteArray := prog_3_method_2_code
def yX1_setTo : MethodName := ⟨RX1, "setTo", "(LSewingFrames$Frame;)V"⟩
def RX2 : String := "SewingFrames$Sewer"
def TX2 : u_T := fun k => match k with
  | 0 => ("SewingFrames$Sewer", "number", "I", true)
  | 1 => ("SewingFrames$Sewer", "speed", "I", false)
  | _ => ("SewingFrames$Sewer", "frame", "I", false)
def tyX2 : Nat → FieldType := fun k => match k with
  | 0 => .int
  | 1 => .int
  | _ => .int
abbrev wsX20 : List Cond := u_ws RX2 TX2 3
theorem nmX2 : ∀ a, a < 3 → ∀ b, b < 3 → a ≠ b → (TX2 a).2.1 ≠ (TX2 b).2.1 := by decide +kernel
theorem tyX2_ok : ∀ k, k < 3 → parseFieldDescriptor (TX2 k).2.2.1 = some (tyX2 k) := by decide +kernel
abbrev cX2_init : ByteArray := prog_4_method_1_code
def yX2_init : MethodName := ⟨RX2, "<init>", "(I)V"⟩
abbrev cX2_setTo : ByteArray := prog_4_method_2_code
def yX2_setTo : MethodName := ⟨RX2, "setTo", "(LSewingFrames$Sewer;)V"⟩
abbrev cX2_tell : ByteArray := prog_4_method_3_code
def yX2_tell : MethodName := ⟨RX2, "tell", "(I)I"⟩
def RX3 : String := "SewingFrames$Workshop"
def TX3 : u_T := fun k => match k with
  | 0 => ("SewingFrames$Workshop", "books", "[LSewingFrames$Book;", true)
  | 1 => ("SewingFrames$Workshop", "sewers", "[LSewingFrames$Sewer;", true)
  | 2 => ("SewingFrames$Workshop", "frames", "[LSewingFrames$Frame;", true)
  | 3 => ("SewingFrames$Workshop", "bookCount", "I", false)
  | 4 => ("SewingFrames$Workshop", "sewerCount", "I", false)
  | 5 => ("SewingFrames$Workshop", "hour", "I", false)
  | 6 => ("SewingFrames$Workshop", "coins", "I", false)
  | 7 => ("SewingFrames$Workshop", "thread", "I", false)
  | 8 => ("SewingFrames$Workshop", "boards", "I", false)
  | 9 => ("SewingFrames$Workshop", "gold", "I", false)
  | 10 => ("SewingFrames$Workshop", "sewn", "I", false)
  | _ => ("SewingFrames$Workshop", "loose", "I", false)
def tyX3 : Nat → FieldType := fun k => match k with
  | 0 => .array (.object "SewingFrames$Book")
  | 1 => .array (.object "SewingFrames$Sewer")
  | 2 => .array (.object "SewingFrames$Frame")
  | 3 => .int
  | 4 => .int
  | 5 => .int
  | 6 => .int
  | 7 => .int
  | 8 => .int
  | 9 => .int
  | 10 => .int
  | _ => .int
abbrev wsX30 : List Cond := u_ws RX3 TX3 12
theorem nmX3 : ∀ a, a < 12 → ∀ b, b < 12 → a ≠ b → (TX3 a).2.1 ≠ (TX3 b).2.1 := by decide +kernel
theorem tyX3_ok : ∀ k, k < 12 → parseFieldDescriptor (TX3 k).2.2.1 = some (tyX3 k) := by decide +kernel
abbrev cX3_init : ByteArray := prog_5_method_1_code
def yX3_init : MethodName := ⟨RX3, "<init>", "()V"⟩
abbrev cX3_setTo : ByteArray := prog_5_method_2_code
def yX3_setTo : MethodName := ⟨RX3, "setTo", "(LSewingFrames$Workshop;)V"⟩
abbrev cX3_bookNumbered : ByteArray := prog_5_method_3_code
def yX3_bookNumbered : MethodName := ⟨RX3, "bookNumbered", "(I)LSewingFrames$Book;"⟩
abbrev cX3_sewerNumbered : ByteArray := prog_5_method_4_code
def yX3_sewerNumbered : MethodName := ⟨RX3, "sewerNumbered", "(I)LSewingFrames$Sewer;"⟩
abbrev cX3_freeBook : ByteArray := prog_5_method_5_code
def yX3_freeBook : MethodName := ⟨RX3, "freeBook", "()LSewingFrames$Book;"⟩
abbrev cX3_freeSewer : ByteArray := prog_5_method_6_code
def yX3_freeSewer : MethodName := ⟨RX3, "freeSewer", "()LSewingFrames$Sewer;"⟩
abbrev cX3_clearFrameOf : ByteArray := prog_5_method_7_code
def yX3_clearFrameOf : MethodName := ⟨RX3, "clearFrameOf", "(LSewingFrames$Book;)V"⟩
abbrev cX3_othersAt : ByteArray := prog_5_method_8_code
def yX3_othersAt : MethodName := ⟨RX3, "othersAt", "(II)I"⟩
abbrev cX3_sittersAt : ByteArray := prog_5_method_9_code
def yX3_sittersAt : MethodName := ⟨RX3, "sittersAt", "(I)I"⟩
abbrev cX3_stitchesAnHour : ByteArray := prog_5_method_10_code
def yX3_stitchesAnHour : MethodName := ⟨RX3, "stitchesAnHour", "(I)I"⟩
abbrev cX3_store : ByteArray := prog_5_method_11_code
def yX3_store : MethodName := ⟨RX3, "store", "(II)I"⟩
abbrev cX3_letHoursGo : ByteArray := prog_5_method_12_code
def yX3_letHoursGo : MethodName := ⟨RX3, "letHoursGo", "(I)I"⟩
abbrev cX3_letAnHourGo : ByteArray := prog_5_method_13_code
def yX3_letAnHourGo : MethodName := ⟨RX3, "letAnHourGo", "()I"⟩
abbrev cX3_gild : ByteArray := prog_5_method_14_code
def yX3_gild : MethodName := ⟨RX3, "gild", "()V"⟩
abbrev cX3_giveBoards : ByteArray := prog_5_method_15_code
def yX3_giveBoards : MethodName := ⟨RX3, "giveBoards", "()V"⟩
abbrev cX3_dry : ByteArray := prog_5_method_16_code
def yX3_dry : MethodName := ⟨RX3, "dry", "()V"⟩
abbrev cX3_sewAt : ByteArray := prog_5_method_17_code
def yX3_sewAt : MethodName := ⟨RX3, "sewAt", "(LSewingFrames$Frame;)V"⟩
abbrev cX3_mountOn : ByteArray := prog_5_method_18_code
def yX3_mountOn : MethodName := ⟨RX3, "mountOn", "(LSewingFrames$Frame;)V"⟩
abbrev cX3_booksAt : ByteArray := prog_5_method_19_code
def yX3_booksAt : MethodName := ⟨RX3, "booksAt", "(I)I"⟩
abbrev cX3_tellOfFrame : ByteArray := prog_5_method_20_code
def yX3_tellOfFrame : MethodName := ⟨RX3, "tellOfFrame", "(LSewingFrames$Frame;I)I"⟩
abbrev cX3_tellOfAll : ByteArray := prog_5_method_21_code
def yX3_tellOfAll : MethodName := ⟨RX3, "tellOfAll", "(I)I"⟩
def RX4 : String := "SewingFrames"
def TX4 : u_T := fun k => match k with
  | 0 => ("SewingFrames", "now", "LSewingFrames$Workshop;", true)
  | _ => ("SewingFrames", "ahead", "LSewingFrames$Workshop;", true)
def tyX4 : Nat → FieldType := fun k => match k with
  | 0 => .object "SewingFrames$Workshop"
  | _ => .object "SewingFrames$Workshop"
abbrev wsX40 : List Cond := u_ws RX4 TX4 2
theorem nmX4 : ∀ a, a < 2 → ∀ b, b < 2 → a ≠ b → (TX4 a).2.1 ≠ (TX4 b).2.1 := by decide +kernel
theorem tyX4_ok : ∀ k, k < 2 → parseFieldDescriptor (TX4 k).2.2.1 = some (tyX4 k) := by decide +kernel
abbrev cX4_init : ByteArray := prog_1_method_1_code
def yX4_init : MethodName := ⟨RX4, "<init>", "()V"⟩
abbrev cX4_order : ByteArray := prog_1_method_2_code
def yX4_order : MethodName := ⟨RX4, "order", "(III)I"⟩
abbrev cX4_unpick : ByteArray := prog_1_method_3_code
def yX4_unpick : MethodName := ⟨RX4, "unpick", "(I)I"⟩
abbrev cX4_sell : ByteArray := prog_1_method_4_code
def yX4_sell : MethodName := ⟨RX4, "sell", "(I)I"⟩
abbrev cX4_told : ByteArray := prog_1_method_5_code
def yX4_told : MethodName := ⟨RX4, "told", "(II)I"⟩
abbrev cX4_hire : ByteArray := prog_1_method_6_code
def yX4_hire : MethodName := ⟨RX4, "hire", "(I)I"⟩
abbrev cX4_seat : ByteArray := prog_1_method_7_code
def yX4_seat : MethodName := ⟨RX4, "seat", "(II)I"⟩
abbrev cX4_string : ByteArray := prog_1_method_9_code
def yX4_string : MethodName := ⟨RX4, "string", "(II)I"⟩
abbrev cX4_frame : ByteArray := prog_1_method_10_code
def yX4_frame : MethodName := ⟨RX4, "frame", "(II)I"⟩
abbrev cX4_buy : ByteArray := prog_1_method_11_code
def yX4_buy : MethodName := ⟨RX4, "buy", "(II)I"⟩
abbrev cX4_count : ByteArray := prog_1_method_12_code
def yX4_count : MethodName := ⟨RX4, "count", "(I)I"⟩
abbrev cX4_pass : ByteArray := prog_1_method_13_code
def yX4_pass : MethodName := ⟨RX4, "pass", "(I)I"⟩
abbrev cX4_foresee : ByteArray := prog_1_method_14_code
def yX4_foresee : MethodName := ⟨RX4, "foresee", "(II)I"⟩
abbrev cX4_until : ByteArray := prog_1_method_15_code
def yX4_until : MethodName := ⟨RX4, "until", "(I)I"⟩
abbrev cX4_next : ByteArray := prog_1_method_16_code
def yX4_next : MethodName := ⟨RX4, "next", "()I"⟩
abbrev cX4_advise : ByteArray := prog_1_method_17_code
def yX4_advise : MethodName := ⟨RX4, "advise", "(I)I"⟩
abbrev cX4_digest : ByteArray := prog_1_method_20_code
def yX4_digest : MethodName := ⟨RX4, "digest", "()J"⟩
abbrev cX4_knownBook : ByteArray := prog_1_method_21_code
def yX4_knownBook : MethodName := ⟨RX4, "knownBook", "(I)LSewingFrames$Book;"⟩
abbrev cX4_knownSewer : ByteArray := prog_1_method_22_code
def yX4_knownSewer : MethodName := ⟨RX4, "knownSewer", "(I)LSewingFrames$Sewer;"⟩
abbrev cX4_knownFrame : ByteArray := prog_1_method_23_code
def yX4_knownFrame : MethodName := ⟨RX4, "knownFrame", "(I)LSewingFrames$Frame;"⟩
abbrev cX4_checkKind : ByteArray := prog_1_method_24_code
def yX4_checkKind : MethodName := ⟨RX4, "checkKind", "(II)V"⟩
abbrev cX4_checkHours : ByteArray := prog_1_method_25_code
def yX4_checkHours : MethodName := ⟨RX4, "checkHours", "(I)V"⟩
abbrev cX4_priceOf : ByteArray := prog_1_method_26_code
def yX4_priceOf : MethodName := ⟨RX4, "priceOf", "(II)I"⟩
abbrev cX4_firstDoneAhead : ByteArray := prog_1_method_27_code
def yX4_firstDoneAhead : MethodName := ⟨RX4, "firstDoneAhead", "()I"⟩
abbrev cX4_sewnAheadWith : ByteArray := prog_1_method_28_code
def yX4_sewnAheadWith : MethodName := ⟨RX4, "sewnAheadWith", "(II)I"⟩
def RX5 : String := "SewingFramesModel"
def TX5 : u_T := fun k => match k with
  | _ => ("", "", "", false)
def tyX5 : Nat → FieldType := fun k => match k with
  | _ => .int
abbrev wsX50 : List Cond := u_ws RX5 TX5 0
theorem nmX5 : ∀ a, a < 0 → ∀ b, b < 0 → a ≠ b → (TX5 a).2.1 ≠ (TX5 b).2.1 := by decide +kernel
theorem tyX5_ok : ∀ k, k < 0 → parseFieldDescriptor (TX5 k).2.2.1 = some (tyX5 k) := by decide +kernel
def RJ9 : String := "java/lang/Math"
def TJ9 : u_T := fun k => match k with
  | _ => ("", "", "", false)
def tyJ9 : Nat → FieldType := fun k => match k with
  | _ => .int
abbrev wsJ90 : List Cond := u_ws RJ9 TJ9 0
theorem nmJ9 : ∀ a, a < 0 → ∀ b, b < 0 → a ≠ b → (TJ9 a).2.1 ≠ (TJ9 b).2.1 := by decide +kernel
theorem tyJ9_ok : ∀ k, k < 0 → parseFieldDescriptor (TJ9 k).2.2.1 = some (tyJ9 k) := by decide +kernel
abbrev cJ9_max_7cf53 : ByteArray := prog_12_method_65_code
def yJ9_max_7cf53 : MethodName := ⟨RJ9, "max", "(II)I"⟩
abbrev cJ9_min_7cf53 : ByteArray := prog_12_method_69_code
def yJ9_min_7cf53 : MethodName := ⟨RJ9, "min", "(II)I"⟩
def RJ0 : String := "java/lang/String"
def TJ0 : u_T := fun k => match k with
  | _ => ("", "", "", false)
def tyJ0 : Nat → FieldType := fun k => match k with
  | _ => .int
abbrev wsJ00 : List Cond := u_ws RJ0 TJ0 0
theorem nmJ0 : ∀ a, a < 0 → ∀ b, b < 0 → a ≠ b → (TJ0 a).2.1 ≠ (TJ0 b).2.1 := by decide +kernel
theorem tyJ0_ok : ∀ k, k < 0 → parseFieldDescriptor (TJ0 k).2.2.1 = some (tyJ0 k) := by decide +kernel
def RL : String := "SewingFramesLaw"
def wsJ9_max_7cf53 : List Cond := .code yJ9_max_7cf53 cJ9_max_7cf53 2 (some .int) :: ([])
def wsJ9_min_7cf53 : List Cond := .code yJ9_min_7cf53 cJ9_min_7cf53 2 (some .int) :: ([])
theorem inJ9 : ∀ w ∈ wsJ90, w ∈ lw_tbl := by decide +kernel
theorem inJ0 : ∀ w ∈ wsJ00, w ∈ lw_tbl := by decide +kernel
abbrev vwCl : List vw_C := [(RX0, TX0, 13), (RX1, TX1, 4), (RX2, TX2, 3), (RX3, TX3, 12), (RX4, TX4, 2)]

theorem dJ9_max_7cf53_0 : decode cJ9_max_7cf53 0 = .ok (.iload_n 0, 1) := by decide +kernel
theorem dJ9_max_7cf53_1 : decode cJ9_max_7cf53 1 = .ok (.iload_n 1, 1) := by decide +kernel
theorem dJ9_max_7cf53_2 : decode cJ9_max_7cf53 2 = .ok (.if_icmp .lt 7, 3) := by decide +kernel
theorem dJ9_max_7cf53_5 : decode cJ9_max_7cf53 5 = .ok (.iload_n 0, 1) := by decide +kernel
theorem dJ9_max_7cf53_6 : decode cJ9_max_7cf53 6 = .ok (.goto 4, 3) := by decide +kernel
theorem dJ9_max_7cf53_9 : decode cJ9_max_7cf53 9 = .ok (.iload_n 1, 1) := by decide +kernel
theorem dJ9_max_7cf53_10 : decode cJ9_max_7cf53 10 = .ok (.ireturn, 1) := by decide +kernel
theorem dJ9_min_7cf53_0 : decode cJ9_min_7cf53 0 = .ok (.iload_n 0, 1) := by decide +kernel
theorem dJ9_min_7cf53_1 : decode cJ9_min_7cf53 1 = .ok (.iload_n 1, 1) := by decide +kernel
theorem dJ9_min_7cf53_2 : decode cJ9_min_7cf53 2 = .ok (.if_icmp .gt 7, 3) := by decide +kernel
theorem dJ9_min_7cf53_5 : decode cJ9_min_7cf53 5 = .ok (.iload_n 0, 1) := by decide +kernel
theorem dJ9_min_7cf53_6 : decode cJ9_min_7cf53 6 = .ok (.goto 4, 3) := by decide +kernel
theorem dJ9_min_7cf53_9 : decode cJ9_min_7cf53 9 = .ok (.iload_n 1, 1) := by decide +kernel
theorem dJ9_min_7cf53_10 : decode cJ9_min_7cf53 10 = .ok (.ireturn, 1) := by decide +kernel
end
section
section YB
/-! The memory: object j (0 .. 54) holds the ints M j k; its references are fixed. Objects: now = 0 (its arrays 1 2 3, books 4.., sewers 19.., frames 24..), ahead = 27 (likewise), the class's object 54. -/
abbrev yM : Type := Nat → Nat → Int32
def ykd (j : Nat) : Nat := if j < 54 then (if j % 27 = 0 then 3 else if j % 27 < 4 then 6 + j % 27 else if j % 27 < 19 then 0 else if j % 27 < 24 then 2 else 1) else if j = 54 then 4 else 10
def ynf : Nat → Nat := fun c => match c with | 0 => 13 | 1 => 4 | 2 => 3 | 3 => 12 | _ => 2
def yln : Nat → Nat := fun c => match c with | 7 => 15 | 8 => 5 | _ => 3
def yrf (j k : Nat) : Option Nat := if ykd j = 3 then (if k < 3 then some (j + 1 + k) else none) else if ykd j = 4 then (if k = 0 then some 0 else some 27) else none
def yel (j i : Nat) : Nat := if ykd j = 7 then j + 3 + i else if ykd j = 8 then j + 17 + i else j + 21 + i
def yvl (adr : Nat → Nat) (M : yM) (j k : Nat) : Value := match yrf j k with | some t => .ref (adr t) | none => .int (M j k)
def yfs (adr : Nat → Nat) (M : yM) (j n : Nat) : List Value := (List.range n).map (yvl adr M j)
def ycl (adr : Nat → Nat) (cy : Nat → ClassId) (M : yM) (j : Nat) : va_E :=
  if ykd j < 6 then .inr (ykd j, yfs adr M j (ynf (ykd j)))
  else if ykd j = 6 then .inl (cy 0, 193, .inl (M j))
  else .inl (cy (ykd j - 6), yln (ykd j), .inr (.inr (.inr (.inr (fun i => some (adr (yel j i)))))))
def ypl (adr : Nat → Nat) (cy : Nat → ClassId) (M : yM) : va_W := (List.range 55).map (fun j => (adr j, ycl adr cy M j))
def yst (M : yM) (j k : Nat) (v : Int32) : yM := fun a b => if a = j ∧ b = k then v else M a b
abbrev ytys (cy : Nat → ClassId) : List (ClassId × FieldType) := [(cy 0, .int), (cy 1, .object "SewingFrames$Book"), (cy 2, .object "SewingFrames$Sewer"), (cy 3, .object "SewingFrames$Frame")]
theorem ykd_lt {j : Nat} (h : ykd j < 10) : j < 55 := by
  unfold ykd at h
  split at h
  · omega
  · split at h
    · omega
    · omega
theorem yst_same {M : yM} {j k : Nat} {v : Int32} : yst M j k v j k = v := by simp [yst]
theorem yst_row {M : yM} {j k i : Nat} {v : Int32} (h : i ≠ j) : yst M j k v i = M i := by funext b; simp [yst, h]
theorem yst_at {M : yM} {j k b : Nat} {v : Int32} : yst M j k v j b = if b = k then v else M j b := by simp [yst]
theorem ypl_get {adr : Nat → Nat} {cy : Nat → ClassId} {M : yM} {E : va_W} {j : Nat} (hj : j < 55) : (ypl adr cy M ++ E)[j]? = some (adr j, ycl adr cy M j) := by
  rw [List.getElem?_append_left (by simp [ypl]; exact hj)]
  simp [ypl, hj]
theorem ypl_len {adr : Nat → Nat} {cy : Nat → ClassId} {M : yM} : (ypl adr cy M).length = 55 := by simp [ypl]
theorem ypl_E {adr : Nat → Nat} {cy : Nat → ClassId} {M : yM} {E : va_W} {k : Nat} : (ypl adr cy M ++ E)[55 + k]? = E[k]? := by
  rw [List.getElem?_append_right (by rw [ypl_len]; omega), ypl_len]
  congr 1
  omega
theorem ypl_upd {adr : Nat → Nat} {cy : Nat → ClassId} {M M' : yM} {E : va_W} {j : Nat} {e : va_E} (hj : j < 55) (he : ycl adr cy M' j = e) (ho : ∀ i, i ≠ j → ycl adr cy M' i = ycl adr cy M i) : (ypl adr cy M ++ E).set j (adr j, e) = ypl adr cy M' ++ E := by
  apply List.ext_getElem?
  intro i
  rw [List.getElem?_set]
  by_cases hi : j = i
  · subst hi
    rw [if_pos rfl, if_pos (by rw [List.length_append, ypl_len]; omega), ypl_get hj, he]
  · rw [if_neg hi]
    by_cases hl : i < 55
    · rw [ypl_get hl, ypl_get hl, ho i (fun q => hi q.symm)]
    · obtain ⟨k, rfl⟩ : ∃ k, i = 55 + k := ⟨i - 55, by omega⟩
      rw [ypl_E, ypl_E]
theorem ycl_row {adr : Nat → Nat} {cy : Nat → ClassId} {M M' : yM} {j : Nat} (h : M' j = M j) : ycl adr cy M' j = ycl adr cy M j := by
  have hv : ∀ n, yfs adr M' j n = yfs adr M j n := by
    intro n
    unfold yfs
    congr 1
    funext k
    unfold yvl
    rw [h]
  unfold ycl
  rw [hv, h]
theorem yfs_get {adr : Nat → Nat} {M : yM} {j n k : Nat} (hk : k < n) : (yfs adr M j n)[k]? = some (yvl adr M j k) := by simp [yfs, hk]
theorem yfs_len {adr : Nat → Nat} {M : yM} {j n : Nat} : (yfs adr M j n).length = n := by simp [yfs]
theorem yfs_set {adr : Nat → Nat} {M : yM} {j n k : Nat} {v : Int32} (hr : yrf j k = none) : (yfs adr M j n).set k (.int v) = yfs adr (yst M j k v) j n := by
  apply List.ext_getElem?
  intro i
  rw [List.getElem?_set]
  by_cases hi : k = i
  · subst hi
    rw [if_pos rfl, yfs_len]
    by_cases hn : k < n
    · rw [if_pos hn, yfs_get hn]; simp [yvl, hr, yst]
    · rw [if_neg hn]; simp [yfs, hn]
  · rw [if_neg hi]
    by_cases hn : i < n
    · rw [yfs_get hn, yfs_get hn]
      unfold yvl
      rw [yst_at, if_neg (fun q => hi q.symm)]
    · simp [yfs, hn]
theorem ypl_setf {adr : Nat → Nat} {cy : Nat → ClassId} {M : yM} {E : va_W} {j k ci : Nat} {v : Int32} (hkd : ykd j = ci) (hci : ci < 6) (hr : yrf j k = none) : (ypl adr cy M ++ E).set j (adr j, .inr (ci, (yfs adr M j (ynf ci)).set k (.int v))) = ypl adr cy (yst M j k v) ++ E := by
  subst hkd
  refine ypl_upd (ykd_lt (by omega)) ?_ (fun i hi => ycl_row (yst_row hi))
  unfold ycl
  rw [if_pos hci, yfs_set hr]
theorem ypl_seti {adr : Nat → Nat} {cy : Nat → ClassId} {M : yM} {E : va_W} {j k : Nat} {v : Int32} (hkd : ykd j = 6) : (ypl adr cy M ++ E).set j (adr j, .inl (cy 0, 193, .inl (upd (M j) k v))) = ypl adr cy (yst M j k v) ++ E := by
  refine ypl_upd (ykd_lt (by omega)) ?_ (fun i hi => ycl_row (yst_row hi))
  unfold ycl
  rw [if_neg (by omega), if_pos hkd]
  congr 4
  funext b
  rw [yst_at]
  by_cases hb : b = k
  · subst hb; rw [if_pos rfl, pk_us]
  · rw [if_neg hb, pk_un hb]
theorem ypl_D {adr : Nat → Nat} {cy : Nat → ClassId} {M M' : yM} {E : va_W} {A : Nat → Prop} (h : va_D A (ypl adr cy M ++ E)) : va_D A (ypl adr cy M' ++ E) := by
  have key : ∀ (i : Nat) (p : Nat × va_E), (ypl adr cy M' ++ E)[i]? = some p → ∃ q, (ypl adr cy M ++ E)[i]? = some q ∧ q.1 = p.1 := by
    intro i p hp
    by_cases hl : i < 55
    · rw [ypl_get hl] at hp
      cases hp
      exact ⟨_, ypl_get hl, rfl⟩
    · obtain ⟨k, rfl⟩ : ∃ k, i = 55 + k := ⟨i - 55, by omega⟩
      rw [ypl_E] at hp
      exact ⟨p, by rw [ypl_E]; exact hp, rfl⟩
  refine ⟨fun i j p q hp hq e => ?_, fun k q hq => ?_⟩
  · obtain ⟨p', h1, h2⟩ := key i p hp
    obtain ⟨q', h3, h4⟩ := key j q hq
    exact h.1 i j p' q' h1 h3 (by rw [h2, h4, e])
  · obtain ⟨q', h1, h2⟩ := key k q hq
    rw [← h2]
    exact h.2 k q' h1
/-- which cells a method may change: the objects, and what it makes -/
def yAA (adr : Nat → Nat) (sz : Nat) : Nat → Prop := fun q => (∃ j, j < 55 ∧ q = adr j) ∨ sz ≤ q
/-- the standing of a walk: what the rows don't look at -/
abbrev yK : Type := Program × Env × State × MethodId × Array Value × List Frame × Method × Code × (Nat → Prop)
def Cx (K : yK) (cc : ByteArray) (own : String) (Ts : List Cond) (nL : Nat) (ret : Option FieldType) (D : va_G) (cy : Nat → ClassId) : Prop := match K with
  | (p, _, s, m, args, _, meth, c, A) => p.tables.exec = Jvm.exec ∧ c.code = cc ∧ c.maxLocals = nL ∧ s.vm.findClass own = some m.cls ∧ (∀ w ∈ Ts, w.before args s = true) ∧ va_K D vwCl (ytys cy) s ∧ (∀ q, s.heap.size ≤ q → A q) ∧ meth.sig.returnType = ret ∧ meth.locks = false
def Y (K : yK) (l : Launch) (R : Room) (D : va_G) (cy : Nat → ClassId) (adr : Nat → Nat) (nL cells slots : Nat) (Q : State → Prop) (M : yM) (E : va_W) (lv : List (Nat × Value)) (pc : Nat) (st : List Value) : Prop := match K with
  | (p, e, s, m, args, below, meth, c, A) => ∀ (H : Heap) (locs : List Loc) (ls : Array Slot), va_P D vwCl (ypl adr cy M ++ E) H → va_D A (ypl adr cy M ++ E) → va_S A s.heap H locs → lv_has ls nL lv → W p l e R s m args below meth c H locs cells slots Q (F0 m pc ls st)
section Rows
variable {K : yK} {l : Launch} {R : Room} {D : va_G} {cy : Nat → ClassId} {adr : Nat → Nat} {nL cells slots : Nat} {Q : State → Prop} {M : yM} {E : va_W} {lv : List (Nat × Value)} {pc : Nat} {st : List Value} {cc : ByteArray} {own : String} {Ts : List Cond} {ret : Option FieldType}
theorem y_iconst (C0 : Cx K cc own Ts nL ret D cy) {n : Int} {v : Int32} (d : decode cc pc = .ok (.iconst n, 1)) (hv : Int32.ofInt n = v) (k : Y K l R D cy adr nL cells slots Q M E lv (pc + 1) (.int v :: st)) : Y K l R D cy adr nL cells slots Q M E lv pc st := by
  obtain ⟨p, e, s, m, args, below, meth, c, A⟩ := K
  exact fun H locs ls hP hD hS hl => lv_iconst C0.1 C0.2.1 d hv (k H locs ls hP hD hS hl)
theorem y_bipush (C0 : Cx K cc own Ts nL ret D cy) {n : Int} {v : Int32} (d : decode cc pc = .ok (.bipush n, 2)) (hv : (Int8.ofInt n).toInt32 = v) (k : Y K l R D cy adr nL cells slots Q M E lv (pc + 2) (.int v :: st)) : Y K l R D cy adr nL cells slots Q M E lv pc st := by
  obtain ⟨p, e, s, m, args, below, meth, c, A⟩ := K
  exact fun H locs ls hP hD hS hl => lv_bipush C0.1 C0.2.1 d hv (k H locs ls hP hD hS hl)
theorem y_sipush (C0 : Cx K cc own Ts nL ret D cy) {n : Int} {v : Int32} (d : decode cc pc = .ok (.sipush n, 3)) (hv : (Int16.ofInt n).toInt32 = v) (k : Y K l R D cy adr nL cells slots Q M E lv (pc + 3) (.int v :: st)) : Y K l R D cy adr nL cells slots Q M E lv pc st := by
  obtain ⟨p, e, s, m, args, below, meth, c, A⟩ := K
  exact fun H locs ls hP hD hS hl => lv_sipush C0.1 C0.2.1 d hv (k H locs ls hP hD hS hl)
theorem y_ldc2 (C0 : Cx K cc own Ts nL ret D cy) {index : Nat} {v : Int64} (hw : Jvm.Cond.constantLong own index v ∈ Ts) (d : decode cc pc = .ok (.ldc2_w index, 3)) (k : Y K l R D cy adr nL cells slots Q M E lv (pc + 3) (.long v :: st)) : Y K l R D cy adr nL cells slots Q M E lv pc st := by
  obtain ⟨p, e, s, m, args, below, meth, c, A⟩ := K
  exact fun H locs ls hP hD hS hl => lv_ldc2 C0.1 C0.2.1 C0.2.2.2.1 (C0.2.2.2.2.1 _ hw) d (k H locs ls hP hD hS hl)
theorem y_dconst0 (C0 : Cx K cc own Ts nL ret D cy) (d : decode cc pc = .ok (.dconst 0, 1)) (k : Y K l R D cy adr nL cells slots Q M E lv (pc + 1) (.double 0 :: st)) : Y K l R D cy adr nL cells slots Q M E lv pc st := by
  obtain ⟨p, e, s, m, args, below, meth, c, A⟩ := K
  exact fun H locs ls hP hD hS hl => lv_dconst0 C0.1 C0.2.1 d (k H locs ls hP hD hS hl)
theorem y_iload_n (C0 : Cx K cc own Ts nL ret D cy) (k : Nat) {q : Fin 4} {i : Nat} {x : Int32} (d : decode cc pc = .ok (.iload_n q, 1)) (hi : (q : Nat) = i) (hk : lv[k]? = some (i, .int x)) (kk : Y K l R D cy adr nL cells slots Q M E lv (pc + 1) (.int x :: st)) : Y K l R D cy adr nL cells slots Q M E lv pc st := by
  obtain ⟨p, e, s, m, args, below, meth, c, A⟩ := K
  exact fun H locs ls hP hD hS hl => lv_iload_n C0.1 C0.2.1 d hi (lv_at hl k hk) (kk H locs ls hP hD hS hl)
theorem y_iload (C0 : Cx K cc own Ts nL ret D cy) (k : Nat) {i : Nat} {x : Int32} (d : decode cc pc = .ok (.iload i, 2)) (hk : lv[k]? = some (i, .int x)) (kk : Y K l R D cy adr nL cells slots Q M E lv (pc + 2) (.int x :: st)) : Y K l R D cy adr nL cells slots Q M E lv pc st := by
  obtain ⟨p, e, s, m, args, below, meth, c, A⟩ := K
  exact fun H locs ls hP hD hS hl => lv_iload C0.1 C0.2.1 d (lv_at hl k hk) (kk H locs ls hP hD hS hl)
theorem y_lload_n (C0 : Cx K cc own Ts nL ret D cy) (k : Nat) {q : Fin 4} {i : Nat} {x : Int64} (d : decode cc pc = .ok (.lload_n q, 1)) (hi : (q : Nat) = i) (hk : lv[k]? = some (i, .long x)) (kk : Y K l R D cy adr nL cells slots Q M E lv (pc + 1) (.long x :: st)) : Y K l R D cy adr nL cells slots Q M E lv pc st := by
  obtain ⟨p, e, s, m, args, below, meth, c, A⟩ := K
  exact fun H locs ls hP hD hS hl => lv_lload_n C0.1 C0.2.1 d hi (lv_at hl k hk) (kk H locs ls hP hD hS hl)
theorem y_aload_n (C0 : Cx K cc own Ts nL ret D cy) (k : Nat) {q : Fin 4} {i : Nat} {x : Nat} (d : decode cc pc = .ok (.aload_n q, 1)) (hi : (q : Nat) = i) (hk : lv[k]? = some (i, .ref x)) (kk : Y K l R D cy adr nL cells slots Q M E lv (pc + 1) (.ref x :: st)) : Y K l R D cy adr nL cells slots Q M E lv pc st := by
  obtain ⟨p, e, s, m, args, below, meth, c, A⟩ := K
  exact fun H locs ls hP hD hS hl => lv_aload_n C0.1 C0.2.1 d hi (lv_at hl k hk) (kk H locs ls hP hD hS hl)
theorem y_aload (C0 : Cx K cc own Ts nL ret D cy) (k : Nat) {i : Nat} {x : Nat} (d : decode cc pc = .ok (.aload i, 2)) (hk : lv[k]? = some (i, .ref x)) (kk : Y K l R D cy adr nL cells slots Q M E lv (pc + 2) (.ref x :: st)) : Y K l R D cy adr nL cells slots Q M E lv pc st := by
  obtain ⟨p, e, s, m, args, below, meth, c, A⟩ := K
  exact fun H locs ls hP hD hS hl => lv_aload C0.1 C0.2.1 d (lv_at hl k hk) (kk H locs ls hP hD hS hl)
theorem y_istore_n (C0 : Cx K cc own Ts nL ret D cy) {q : Fin 4} {i : Nat} {x : Int32} (lv' : List (Nat × Value)) (d : decode cc pc = .ok (.istore_n q, 1)) (hi : (q : Nat) = i) (hn : i < nL) (hl' : (i, Value.int x) :: lv.filter (fun q => !(q.1 == i) && !(q.1 + 1 == i && q.2.category == 2)) = lv') (kk : Y K l R D cy adr nL cells slots Q M E lv' (pc + 1) st) : Y K l R D cy adr nL cells slots Q M E lv pc (.int x :: st) := by
  obtain ⟨p, e, s, m, args, below, meth, c, A⟩ := K
  exact fun H locs ls hP hD hS hl => lv_istore_n C0.1 C0.2.1 d hi hl hn hl' (fun ls hl => kk H locs ls hP hD hS hl)
theorem y_istore (C0 : Cx K cc own Ts nL ret D cy) {i : Nat} {x : Int32} (lv' : List (Nat × Value)) (d : decode cc pc = .ok (.istore i, 2)) (hn : i < nL) (hl' : (i, Value.int x) :: lv.filter (fun q => !(q.1 == i) && !(q.1 + 1 == i && q.2.category == 2)) = lv') (kk : Y K l R D cy adr nL cells slots Q M E lv' (pc + 2) st) : Y K l R D cy adr nL cells slots Q M E lv pc (.int x :: st) := by
  obtain ⟨p, e, s, m, args, below, meth, c, A⟩ := K
  exact fun H locs ls hP hD hS hl => lv_istore C0.1 C0.2.1 d hl hn hl' (fun ls hl => kk H locs ls hP hD hS hl)
theorem y_astore_n (C0 : Cx K cc own Ts nL ret D cy) {q : Fin 4} {i : Nat} {x : Nat} (lv' : List (Nat × Value)) (d : decode cc pc = .ok (.astore_n q, 1)) (hi : (q : Nat) = i) (hn : i < nL) (hl' : (i, Value.ref x) :: lv.filter (fun q => !(q.1 == i) && !(q.1 + 1 == i && q.2.category == 2)) = lv') (kk : Y K l R D cy adr nL cells slots Q M E lv' (pc + 1) st) : Y K l R D cy adr nL cells slots Q M E lv pc (.ref x :: st) := by
  obtain ⟨p, e, s, m, args, below, meth, c, A⟩ := K
  exact fun H locs ls hP hD hS hl => lv_astore_n C0.1 C0.2.1 d hi hl hn hl' (fun ls hl => kk H locs ls hP hD hS hl)
theorem y_astore (C0 : Cx K cc own Ts nL ret D cy) {i : Nat} {x : Nat} (lv' : List (Nat × Value)) (d : decode cc pc = .ok (.astore i, 2)) (hn : i < nL) (hl' : (i, Value.ref x) :: lv.filter (fun q => !(q.1 == i) && !(q.1 + 1 == i && q.2.category == 2)) = lv') (kk : Y K l R D cy adr nL cells slots Q M E lv' (pc + 2) st) : Y K l R D cy adr nL cells slots Q M E lv pc (.ref x :: st) := by
  obtain ⟨p, e, s, m, args, below, meth, c, A⟩ := K
  exact fun H locs ls hP hD hS hl => lv_astore C0.1 C0.2.1 d hl hn hl' (fun ls hl => kk H locs ls hP hD hS hl)
theorem y_lstore_n (C0 : Cx K cc own Ts nL ret D cy) {q : Fin 4} {i : Nat} {x : Int64} (lv' : List (Nat × Value)) (d : decode cc pc = .ok (.lstore_n q, 1)) (hi : (q : Nat) = i) (hn : i + 1 < nL) (hl' : (i, Value.long x) :: lv.filter (fun q => !(q.1 == i) && (!(q.1 == i + 1) && !(q.1 + 1 == i && q.2.category == 2))) = lv') (kk : Y K l R D cy adr nL cells slots Q M E lv' (pc + 1) st) : Y K l R D cy adr nL cells slots Q M E lv pc (.long x :: st) := by
  obtain ⟨p, e, s, m, args, below, meth, c, A⟩ := K
  exact fun H locs ls hP hD hS hl => lv_lstore_n C0.1 C0.2.1 d hi hl hn hl' (fun ls hl => kk H locs ls hP hD hS hl)
theorem y_iinc (C0 : Cx K cc own Ts nL ret D cy) (k : Nat) {i : Nat} {n : Int} {x v : Int32} (lv' : List (Nat × Value)) (d : decode cc pc = .ok (.iinc i n, 3)) (hk : lv[k]? = some (i, .int x)) (hv : x + Int32.ofInt n = v) (hn : i < nL) (hl' : (i, Value.int v) :: lv.filter (fun q => !(q.1 == i) && !(q.1 + 1 == i && q.2.category == 2)) = lv') (kk : Y K l R D cy adr nL cells slots Q M E lv' (pc + 3) st) : Y K l R D cy adr nL cells slots Q M E lv pc st := by
  obtain ⟨p, e, s, m, args, below, meth, c, A⟩ := K
  exact fun H locs ls hP hD hS hl => lv_iinc C0.1 C0.2.1 d hl hk hv hn hl' (fun ls hl => kk H locs ls hP hD hS hl)
theorem y_sub (ks : List Nat) (lv' : List (Nat × Value)) (h : lv_pick lv ks = lv') (k : Y K l R D cy adr nL cells slots Q M E lv' pc st) : Y K l R D cy adr nL cells slots Q M E lv pc st := by
  obtain ⟨p, e, s, m, args, below, meth, c, A⟩ := K
  exact fun H locs ls hP hD hS hl => k H locs ls hP hD hS (lv_sub hl ks h)
theorem y_eq {M' : yM} {lv' : List (Nat × Value)} {st' : List Value} (h1 : M' = M) (h2 : lv' = lv) (h3 : st' = st) (k : Y K l R D cy adr nL cells slots Q M' E lv' pc st') : Y K l R D cy adr nL cells slots Q M E lv pc st := by
  subst h1; subst h2; subst h3; exact k
theorem y_iadd (C0 : Cx K cc own Ts nL ret D cy) {x y : Int32} (d : decode cc pc = .ok (.iadd, 1)) (k : Y K l R D cy adr nL cells slots Q M E lv (pc + 1) (.int (x + y) :: st)) : Y K l R D cy adr nL cells slots Q M E lv pc (.int y :: .int x :: st) := by
  obtain ⟨p, e, s, m, args, below, meth, c, A⟩ := K
  exact fun H locs ls hP hD hS hl => lv_iadd C0.1 C0.2.1 d (k H locs ls hP hD hS hl)
theorem y_isub (C0 : Cx K cc own Ts nL ret D cy) {x y : Int32} (d : decode cc pc = .ok (.isub, 1)) (k : Y K l R D cy adr nL cells slots Q M E lv (pc + 1) (.int (x - y) :: st)) : Y K l R D cy adr nL cells slots Q M E lv pc (.int y :: .int x :: st) := by
  obtain ⟨p, e, s, m, args, below, meth, c, A⟩ := K
  exact fun H locs ls hP hD hS hl => lv_isub C0.1 C0.2.1 d (k H locs ls hP hD hS hl)
theorem y_imul (C0 : Cx K cc own Ts nL ret D cy) {x y : Int32} (d : decode cc pc = .ok (.imul, 1)) (k : Y K l R D cy adr nL cells slots Q M E lv (pc + 1) (.int (x * y) :: st)) : Y K l R D cy adr nL cells slots Q M E lv pc (.int y :: .int x :: st) := by
  obtain ⟨p, e, s, m, args, below, meth, c, A⟩ := K
  exact fun H locs ls hP hD hS hl => lv_imul C0.1 C0.2.1 d (k H locs ls hP hD hS hl)
theorem y_idiv (C0 : Cx K cc own Ts nL ret D cy) {x y : Int32} (d : decode cc pc = .ok (.idiv, 1)) (hne : ¬ y = 0) (k : Y K l R D cy adr nL cells slots Q M E lv (pc + 1) (.int (x / y) :: st)) : Y K l R D cy adr nL cells slots Q M E lv pc (.int y :: .int x :: st) := by
  obtain ⟨p, e, s, m, args, below, meth, c, A⟩ := K
  exact fun H locs ls hP hD hS hl => lv_idiv C0.1 C0.2.1 d hne (k H locs ls hP hD hS hl)
theorem y_irem (C0 : Cx K cc own Ts nL ret D cy) {x y v : Int32} (d : decode cc pc = .ok (.irem, 1)) (hne : ¬ y = 0) (hv : x - x / y * y = v) (k : Y K l R D cy adr nL cells slots Q M E lv (pc + 1) (.int v :: st)) : Y K l R D cy adr nL cells slots Q M E lv pc (.int y :: .int x :: st) := by
  subst hv
  obtain ⟨p, e, s, m, args, below, meth, c, A⟩ := K
  exact fun H locs ls hP hD hS hl => lv_irem C0.1 C0.2.1 d hne (k H locs ls hP hD hS hl)
theorem y_iand (C0 : Cx K cc own Ts nL ret D cy) {x y : Int32} (d : decode cc pc = .ok (.iand, 1)) (k : Y K l R D cy adr nL cells slots Q M E lv (pc + 1) (.int (x &&& y) :: st)) : Y K l R D cy adr nL cells slots Q M E lv pc (.int y :: .int x :: st) := by
  obtain ⟨p, e, s, m, args, below, meth, c, A⟩ := K
  exact fun H locs ls hP hD hS hl => lv_iand C0.1 C0.2.1 d (k H locs ls hP hD hS hl)
theorem y_ladd (C0 : Cx K cc own Ts nL ret D cy) {x y : Int64} (d : decode cc pc = .ok (.ladd, 1)) (k : Y K l R D cy adr nL cells slots Q M E lv (pc + 1) (.long (x + y) :: st)) : Y K l R D cy adr nL cells slots Q M E lv pc (.long y :: .long x :: st) := by
  obtain ⟨p, e, s, m, args, below, meth, c, A⟩ := K
  exact fun H locs ls hP hD hS hl => lv_ladd C0.1 C0.2.1 d (k H locs ls hP hD hS hl)
theorem y_lmul (C0 : Cx K cc own Ts nL ret D cy) {x y : Int64} (d : decode cc pc = .ok (.lmul, 1)) (k : Y K l R D cy adr nL cells slots Q M E lv (pc + 1) (.long (x * y) :: st)) : Y K l R D cy adr nL cells slots Q M E lv pc (.long y :: .long x :: st) := by
  obtain ⟨p, e, s, m, args, below, meth, c, A⟩ := K
  exact fun H locs ls hP hD hS hl => lv_lmul C0.1 C0.2.1 d (k H locs ls hP hD hS hl)
theorem y_i2l (C0 : Cx K cc own Ts nL ret D cy) {x : Int32} (d : decode cc pc = .ok (.i2l, 1)) (k : Y K l R D cy adr nL cells slots Q M E lv (pc + 1) (.long x.toInt64 :: st)) : Y K l R D cy adr nL cells slots Q M E lv pc (.int x :: st) := by
  obtain ⟨p, e, s, m, args, below, meth, c, A⟩ := K
  exact fun H locs ls hP hD hS hl => lv_i2l C0.1 C0.2.1 d rfl (k H locs ls hP hD hS hl)
theorem y_dup (C0 : Cx K cc own Ts nL ret D cy) {va : Value} (d : decode cc pc = .ok (.dup, 1)) (hva : va.category = 1) (k : Y K l R D cy adr nL cells slots Q M E lv (pc + 1) (va :: va :: st)) : Y K l R D cy adr nL cells slots Q M E lv pc (va :: st) := by
  obtain ⟨p, e, s, m, args, below, meth, c, A⟩ := K
  exact fun H locs ls hP hD hS hl => lv_dup C0.1 C0.2.1 d hva (k H locs ls hP hD hS hl)
theorem y_dup2 (C0 : Cx K cc own Ts nL ret D cy) {va vb : Value} (d : decode cc pc = .ok (.dup2, 1)) (hva : va.category = 1) (hvb : vb.category = 1) (k : Y K l R D cy adr nL cells slots Q M E lv (pc + 1) (va :: vb :: va :: vb :: st)) : Y K l R D cy adr nL cells slots Q M E lv pc (va :: vb :: st) := by
  obtain ⟨p, e, s, m, args, below, meth, c, A⟩ := K
  exact fun H locs ls hP hD hS hl => lv_dup2_11 C0.1 C0.2.1 d hva hvb (k H locs ls hP hD hS hl)
theorem y_pop (C0 : Cx K cc own Ts nL ret D cy) {va : Value} (d : decode cc pc = .ok (.pop, 1)) (hva : va.category = 1) (k : Y K l R D cy adr nL cells slots Q M E lv (pc + 1) st) : Y K l R D cy adr nL cells slots Q M E lv pc (va :: st) := by
  obtain ⟨p, e, s, m, args, below, meth, c, A⟩ := K
  exact fun H locs ls hP hD hS hl => lv_pop C0.1 C0.2.1 d hva (k H locs ls hP hD hS hl)
theorem y_goto (C0 : Cx K cc own Ts nL ret D cy) {off : Int} (tgt : Nat) (d : decode cc pc = .ok (.goto off, 3)) (ht : (pc : Int) + off = (tgt : Int)) (k : Y K l R D cy adr nL cells slots Q M E lv tgt st) : Y K l R D cy adr nL cells slots Q M E lv pc st := by
  obtain ⟨p, e, s, m, args, below, meth, c, A⟩ := K
  exact fun H locs ls hP hD hS hl => lv_goto C0.1 C0.2.1 d ht (k H locs ls hP hD hS hl)
theorem y_if_eq (C0 : Cx K cc own Ts nL ret D cy) {x : Int32} {off : Int} (tgt : Nat) (d : decode cc pc = .ok (.ifCond .eq off, 3)) (ht : (pc : Int) + off = (tgt : Int)) (kt : x = 0 → Y K l R D cy adr nL cells slots Q M E lv tgt st) (kf : ¬ x = 0 → Y K l R D cy adr nL cells slots Q M E lv (pc + 3) st) : Y K l R D cy adr nL cells slots Q M E lv pc (.int x :: st) := by
  obtain ⟨p, e, s, m, args, below, meth, c, A⟩ := K
  exact fun H locs ls hP hD hS hl => lv_if_eq C0.1 C0.2.1 d ht (fun q => kt q H locs ls hP hD hS hl) (fun q => kf q H locs ls hP hD hS hl)
theorem y_icmp_eq (C0 : Cx K cc own Ts nL ret D cy) {x y : Int32} {off : Int} (tgt : Nat) (d : decode cc pc = .ok (.if_icmp .eq off, 3)) (ht : (pc : Int) + off = (tgt : Int)) (kt : x = y → Y K l R D cy adr nL cells slots Q M E lv tgt st) (kf : ¬ x = y → Y K l R D cy adr nL cells slots Q M E lv (pc + 3) st) : Y K l R D cy adr nL cells slots Q M E lv pc (.int y :: .int x :: st) := by
  obtain ⟨p, e, s, m, args, below, meth, c, A⟩ := K
  exact fun H locs ls hP hD hS hl => lv_icmp_eq C0.1 C0.2.1 d ht (fun q => kt q H locs ls hP hD hS hl) (fun q => kf q H locs ls hP hD hS hl)
theorem y_if_ne (C0 : Cx K cc own Ts nL ret D cy) {x : Int32} {off : Int} (tgt : Nat) (d : decode cc pc = .ok (.ifCond .ne off, 3)) (ht : (pc : Int) + off = (tgt : Int)) (kt : ¬ x = 0 → Y K l R D cy adr nL cells slots Q M E lv tgt st) (kf : x = 0 → Y K l R D cy adr nL cells slots Q M E lv (pc + 3) st) : Y K l R D cy adr nL cells slots Q M E lv pc (.int x :: st) := by
  obtain ⟨p, e, s, m, args, below, meth, c, A⟩ := K
  exact fun H locs ls hP hD hS hl => lv_if_ne C0.1 C0.2.1 d ht (fun q => kt q H locs ls hP hD hS hl) (fun q => kf q H locs ls hP hD hS hl)
theorem y_icmp_ne (C0 : Cx K cc own Ts nL ret D cy) {x y : Int32} {off : Int} (tgt : Nat) (d : decode cc pc = .ok (.if_icmp .ne off, 3)) (ht : (pc : Int) + off = (tgt : Int)) (kt : ¬ x = y → Y K l R D cy adr nL cells slots Q M E lv tgt st) (kf : x = y → Y K l R D cy adr nL cells slots Q M E lv (pc + 3) st) : Y K l R D cy adr nL cells slots Q M E lv pc (.int y :: .int x :: st) := by
  obtain ⟨p, e, s, m, args, below, meth, c, A⟩ := K
  exact fun H locs ls hP hD hS hl => lv_icmp_ne C0.1 C0.2.1 d ht (fun q => kt q H locs ls hP hD hS hl) (fun q => kf q H locs ls hP hD hS hl)
theorem y_if_lt (C0 : Cx K cc own Ts nL ret D cy) {x : Int32} {off : Int} (tgt : Nat) (d : decode cc pc = .ok (.ifCond .lt off, 3)) (ht : (pc : Int) + off = (tgt : Int)) (kt : x < 0 → Y K l R D cy adr nL cells slots Q M E lv tgt st) (kf : ¬ x < 0 → Y K l R D cy adr nL cells slots Q M E lv (pc + 3) st) : Y K l R D cy adr nL cells slots Q M E lv pc (.int x :: st) := by
  obtain ⟨p, e, s, m, args, below, meth, c, A⟩ := K
  exact fun H locs ls hP hD hS hl => lv_if_lt C0.1 C0.2.1 d ht (fun q => kt q H locs ls hP hD hS hl) (fun q => kf q H locs ls hP hD hS hl)
theorem y_icmp_lt (C0 : Cx K cc own Ts nL ret D cy) {x y : Int32} {off : Int} (tgt : Nat) (d : decode cc pc = .ok (.if_icmp .lt off, 3)) (ht : (pc : Int) + off = (tgt : Int)) (kt : x < y → Y K l R D cy adr nL cells slots Q M E lv tgt st) (kf : ¬ x < y → Y K l R D cy adr nL cells slots Q M E lv (pc + 3) st) : Y K l R D cy adr nL cells slots Q M E lv pc (.int y :: .int x :: st) := by
  obtain ⟨p, e, s, m, args, below, meth, c, A⟩ := K
  exact fun H locs ls hP hD hS hl => lv_icmp_lt C0.1 C0.2.1 d ht (fun q => kt q H locs ls hP hD hS hl) (fun q => kf q H locs ls hP hD hS hl)
theorem y_if_ge (C0 : Cx K cc own Ts nL ret D cy) {x : Int32} {off : Int} (tgt : Nat) (d : decode cc pc = .ok (.ifCond .ge off, 3)) (ht : (pc : Int) + off = (tgt : Int)) (kt : 0 ≤ x → Y K l R D cy adr nL cells slots Q M E lv tgt st) (kf : ¬ 0 ≤ x → Y K l R D cy adr nL cells slots Q M E lv (pc + 3) st) : Y K l R D cy adr nL cells slots Q M E lv pc (.int x :: st) := by
  obtain ⟨p, e, s, m, args, below, meth, c, A⟩ := K
  exact fun H locs ls hP hD hS hl => lv_if_ge C0.1 C0.2.1 d ht (fun q => kt q H locs ls hP hD hS hl) (fun q => kf q H locs ls hP hD hS hl)
theorem y_icmp_ge (C0 : Cx K cc own Ts nL ret D cy) {x y : Int32} {off : Int} (tgt : Nat) (d : decode cc pc = .ok (.if_icmp .ge off, 3)) (ht : (pc : Int) + off = (tgt : Int)) (kt : y ≤ x → Y K l R D cy adr nL cells slots Q M E lv tgt st) (kf : ¬ y ≤ x → Y K l R D cy adr nL cells slots Q M E lv (pc + 3) st) : Y K l R D cy adr nL cells slots Q M E lv pc (.int y :: .int x :: st) := by
  obtain ⟨p, e, s, m, args, below, meth, c, A⟩ := K
  exact fun H locs ls hP hD hS hl => lv_icmp_ge C0.1 C0.2.1 d ht (fun q => kt q H locs ls hP hD hS hl) (fun q => kf q H locs ls hP hD hS hl)
theorem y_if_gt (C0 : Cx K cc own Ts nL ret D cy) {x : Int32} {off : Int} (tgt : Nat) (d : decode cc pc = .ok (.ifCond .gt off, 3)) (ht : (pc : Int) + off = (tgt : Int)) (kt : 0 < x → Y K l R D cy adr nL cells slots Q M E lv tgt st) (kf : ¬ 0 < x → Y K l R D cy adr nL cells slots Q M E lv (pc + 3) st) : Y K l R D cy adr nL cells slots Q M E lv pc (.int x :: st) := by
  obtain ⟨p, e, s, m, args, below, meth, c, A⟩ := K
  exact fun H locs ls hP hD hS hl => lv_if_gt C0.1 C0.2.1 d ht (fun q => kt q H locs ls hP hD hS hl) (fun q => kf q H locs ls hP hD hS hl)
theorem y_icmp_gt (C0 : Cx K cc own Ts nL ret D cy) {x y : Int32} {off : Int} (tgt : Nat) (d : decode cc pc = .ok (.if_icmp .gt off, 3)) (ht : (pc : Int) + off = (tgt : Int)) (kt : y < x → Y K l R D cy adr nL cells slots Q M E lv tgt st) (kf : ¬ y < x → Y K l R D cy adr nL cells slots Q M E lv (pc + 3) st) : Y K l R D cy adr nL cells slots Q M E lv pc (.int y :: .int x :: st) := by
  obtain ⟨p, e, s, m, args, below, meth, c, A⟩ := K
  exact fun H locs ls hP hD hS hl => lv_icmp_gt C0.1 C0.2.1 d ht (fun q => kt q H locs ls hP hD hS hl) (fun q => kf q H locs ls hP hD hS hl)
theorem y_if_le (C0 : Cx K cc own Ts nL ret D cy) {x : Int32} {off : Int} (tgt : Nat) (d : decode cc pc = .ok (.ifCond .le off, 3)) (ht : (pc : Int) + off = (tgt : Int)) (kt : x ≤ 0 → Y K l R D cy adr nL cells slots Q M E lv tgt st) (kf : ¬ x ≤ 0 → Y K l R D cy adr nL cells slots Q M E lv (pc + 3) st) : Y K l R D cy adr nL cells slots Q M E lv pc (.int x :: st) := by
  obtain ⟨p, e, s, m, args, below, meth, c, A⟩ := K
  exact fun H locs ls hP hD hS hl => lv_if_le C0.1 C0.2.1 d ht (fun q => kt q H locs ls hP hD hS hl) (fun q => kf q H locs ls hP hD hS hl)
theorem y_icmp_le (C0 : Cx K cc own Ts nL ret D cy) {x y : Int32} {off : Int} (tgt : Nat) (d : decode cc pc = .ok (.if_icmp .le off, 3)) (ht : (pc : Int) + off = (tgt : Int)) (kt : x ≤ y → Y K l R D cy adr nL cells slots Q M E lv tgt st) (kf : ¬ x ≤ y → Y K l R D cy adr nL cells slots Q M E lv (pc + 3) st) : Y K l R D cy adr nL cells slots Q M E lv pc (.int y :: .int x :: st) := by
  obtain ⟨p, e, s, m, args, below, meth, c, A⟩ := K
  exact fun H locs ls hP hD hS hl => lv_icmp_le C0.1 C0.2.1 d ht (fun q => kt q H locs ls hP hD hS hl) (fun q => kf q H locs ls hP hD hS hl)
theorem y_ifnonnull (C0 : Cx K cc own Ts nL ret D cy) {x : Nat} {off : Int} (tgt : Nat) (d : decode cc pc = .ok (.ifnonnull off, 3)) (ht : (pc : Int) + off = (tgt : Int)) (k : Y K l R D cy adr nL cells slots Q M E lv tgt st) : Y K l R D cy adr nL cells slots Q M E lv pc (.ref x :: st) := by
  obtain ⟨p, e, s, m, args, below, meth, c, A⟩ := K
  exact fun H locs ls hP hD hS hl => lv_ifnonnull C0.1 C0.2.1 d ht (k H locs ls hP hD hS hl)
theorem y_ifnonnullN (C0 : Cx K cc own Ts nL ret D cy) {off : Int} (d : decode cc pc = .ok (.ifnonnull off, 3)) (k : Y K l R D cy adr nL cells slots Q M E lv (pc + 3) st) : Y K l R D cy adr nL cells slots Q M E lv pc (.null :: st) := by
  obtain ⟨p, e, s, m, args, below, meth, c, A⟩ := K
  exact fun H locs ls hP hD hS hl => lv_ifnonnullN C0.1 C0.2.1 d (k H locs ls hP hD hS hl)
theorem y_ifnull (C0 : Cx K cc own Ts nL ret D cy) {x : Nat} {off : Int} (d : decode cc pc = .ok (.ifnull off, 3)) (k : Y K l R D cy adr nL cells slots Q M E lv (pc + 3) st) : Y K l R D cy adr nL cells slots Q M E lv pc (.ref x :: st) := by
  obtain ⟨p, e, s, m, args, below, meth, c, A⟩ := K
  exact fun H locs ls hP hD hS hl => lv_ifnull C0.1 C0.2.1 d (k H locs ls hP hD hS hl)
theorem y_ifnullN (C0 : Cx K cc own Ts nL ret D cy) {off : Int} (tgt : Nat) (d : decode cc pc = .ok (.ifnull off, 3)) (ht : (pc : Int) + off = (tgt : Int)) (k : Y K l R D cy adr nL cells slots Q M E lv tgt st) : Y K l R D cy adr nL cells slots Q M E lv pc (.null :: st) := by
  obtain ⟨p, e, s, m, args, below, meth, c, A⟩ := K
  exact fun H locs ls hP hD hS hl => lv_ifnullN C0.1 C0.2.1 d ht (k H locs ls hP hD hS hl)
theorem y_get (C0 : Cx K cc own Ts nL ret D cy) (ci : Nat) {C : String} {T : u_T} {N : Nat} (hc : vwCl[ci]? = some (C, T, N)) (hN : ynf ci = N) (hci : ci < 6) (hin : ∀ w ∈ u_ws C T N, w ∈ Ts) {index j : Nat} (k : Nat) (hkd : ykd j = ci) (hk : k < N) (hw : Cond.fieldLink own index (T k).1 (T k).2.1 (T k).2.2.1 ∈ Ts) {v : Value} (hv : yvl adr M j k = v) (d : decode cc pc = .ok (.getfield index, 3)) (kk : Y K l R D cy adr nL cells slots Q M E lv (pc + 3) (v :: st)) : Y K l R D cy adr nL cells slots Q M E lv pc (.ref (adr j) :: st) := by
  obtain ⟨p, e, s, m, args, below, meth, c, A⟩ := K
  obtain ⟨hx, hb, hml, hown, hts, hK, hA, hr, hlk⟩ := C0
  intro H locs ls hP hD hS hl
  have he : (ypl adr cy M ++ E)[j]? = some (adr j, .inr (ci, yfs adr M j N)) := by
    rw [ypl_get (ykd_lt (by omega))]
    unfold ycl
    rw [if_pos (by omega), hkd, hN]
  exact va_get (D := D) (ci := ci) (v := v) (C := C) (T := T) (N := N) hx hb hts hin hown hK hP j he hc k hk (hts _ hw) (fun _ h9 => h9) (by rw [yfs_get hk, hv]) d (kk H locs ls hP hD hS hl)
theorem y_put (C0 : Cx K cc own Ts nL ret D cy) (ci : Nat) {C : String} {T : u_T} {N : Nat} (hc : vwCl[ci]? = some (C, T, N)) (hN : ynf ci = N) (hci : ci < 6) (hin : ∀ w ∈ u_ws C T N, w ∈ Ts) (ty0 : Nat → FieldType) (hty : ∀ k, k < N → parseFieldDescriptor (T k).2.2.1 = some (ty0 k)) (hnm : ∀ a, a < N → ∀ b, b < N → a ≠ b → (T a).2.1 ≠ (T b).2.1) {index j : Nat} (k : Nat) (hkd : ykd j = ci) (hk : k < N) (hw : Cond.fieldLink own index (T k).1 (T k).2.1 (T k).2.2.1 ∈ Ts) (hrf : yrf j k = none) (hfin : (T k).2.2.2 = false) (hdsc : parseFieldDescriptor (T k).2.2.1 = some .int) {x : Int32} (d : decode cc pc = .ok (.putfield index, 3)) (kk : Y K l R D cy adr nL cells slots Q (yst M j k x) E lv (pc + 3) st) : Y K l R D cy adr nL cells slots Q M E lv pc (.int x :: .ref (adr j) :: st) := by
  obtain ⟨p, e, s, m, args, below, meth, c, A⟩ := K
  obtain ⟨hx, hb, hml, hown, hts, hK, hA, hr, hlk⟩ := C0
  intro H locs ls hP hD hS hl
  have he : (ypl adr cy M ++ E)[j]? = some (adr j, .inr (ci, yfs adr M j N)) := by
    rw [ypl_get (ykd_lt (by omega))]
    unfold ycl
    rw [if_pos (by omega), hkd, hN]
  refine va_put (D := D) (ci := ci) (v := .int x) (ty := .int) (C := C) (T := T) (N := N) hx hb hts hin ty0 hty hnm hown hK hP hD hS j he hc k hk (hts _ hw) (fun _ h9 => h9) hfin hdsc rfl rfl (by rw [yfs_len]; exact hk) d (fun H locs hP hD hS => ?_)
  subst hN
  rw [ypl_setf hkd hci hrf] at hP hD
  exact kk H locs ls hP hD hS hl
theorem y_iald (C0 : Cx K cc own Ts nL ret D cy) {j : Nat} (k : Nat) (hkd : ykd j = 6) {i : Int32} (hi : i = nI k) (hk : k < 193) (d : decode cc pc = .ok (.iaload, 1)) (kk : Y K l R D cy adr nL cells slots Q M E lv (pc + 1) (.int (M j k) :: st)) : Y K l R D cy adr nL cells slots Q M E lv pc (.int i :: .ref (adr j) :: st) := by
  obtain ⟨p, e, s, m, args, below, meth, c, A⟩ := K
  obtain ⟨hx, hb, hml, hown, hts, hK, hA, hr, hlk⟩ := C0
  intro H locs ls hP hD hS hl
  subst hi
  have he : (ypl adr cy M ++ E)[j]? = some (adr j, .inl (cy 0, 193, .inl (M j))) := by
    rw [ypl_get (ykd_lt (by omega))]
    unfold ycl
    rw [if_neg (by omega), if_pos hkd]
  have h := kk H locs ls hP hD hS hl
  rw [← nI_clamp (n := k) (by omega)] at h
  exact va_iald hx hb hK hP j 0 he rfl (vp_in_nI hk (by decide)) d h
theorem y_iast (C0 : Cx K cc own Ts nL ret D cy) {j : Nat} (k : Nat) (hkd : ykd j = 6) {i x : Int32} (hi : i = nI k) (hk : k < 193) (d : decode cc pc = .ok (.iastore, 1)) (kk : Y K l R D cy adr nL cells slots Q (yst M j k x) E lv (pc + 1) st) : Y K l R D cy adr nL cells slots Q M E lv pc (.int x :: .int i :: .ref (adr j) :: st) := by
  obtain ⟨p, e, s, m, args, below, meth, c, A⟩ := K
  obtain ⟨hx, hb, hml, hown, hts, hK, hA, hr, hlk⟩ := C0
  intro H locs ls hP hD hS hl
  subst hi
  have he : (ypl adr cy M ++ E)[j]? = some (adr j, .inl (cy 0, 193, .inl (M j))) := by
    rw [ypl_get (ykd_lt (by omega))]
    unfold ycl
    rw [if_neg (by omega), if_pos hkd]
  refine va_iast hx hb hK hP hD hS j 0 he rfl (vp_in_nI hk (by decide)) d (fun H locs hP hD hS => ?_)
  rw [nI_clamp (n := k) (by omega), ypl_seti hkd] at hP hD
  exact kk H locs ls hP hD hS hl
theorem y_aald (C0 : Cx K cc own Ts nL ret D cy) {j : Nat} (k ci : Nat) (hkd : ykd j = ci) (h7 : 6 < ci) (h10 : ci < 10) {i : Int32} (hi : i = nI k) (hk : k < yln ci) {t : Nat} (ht : yel j k = t) (d : decode cc pc = .ok (.aaload, 1)) (kk : Y K l R D cy adr nL cells slots Q M E lv (pc + 1) (.ref (adr t) :: st)) : Y K l R D cy adr nL cells slots Q M E lv pc (.int i :: .ref (adr j) :: st) := by
  obtain ⟨p, e, s, m, args, below, meth, c, A⟩ := K
  obtain ⟨hx, hb, hml, hown, hts, hK, hA, hr, hlk⟩ := C0
  intro H locs ls hP hD hS hl
  subst hi
  have he : (ypl adr cy M ++ E)[j]? = some (adr j, .inl (cy (ci - 6), yln ci, .inr (.inr (.inr (.inr (fun i => some (adr (yel j i)))))))) := by
    rw [ypl_get (ykd_lt (by omega))]
    unfold ycl
    rw [if_neg (by omega), if_neg (by omega), hkd]
  have hl15 : yln ci ≤ 15 := by unfold yln; split <;> omega
  have h := kk H locs ls hP hD hS hl
  subst ht
  rw [← nI_clamp (n := k) (by omega)] at h
  rcases (show ci = 7 ∨ ci = 8 ∨ ci = 9 by omega) with h7 | h7 | h7 <;> subst h7
  · exact va_aldq hx hb hK hP j 1 he rfl (vp_in_nI hk (by omega)) d h
  · exact va_aldq hx hb hK hP j 2 he rfl (vp_in_nI hk (by omega)) d h
  · exact va_aldq hx hb hK hP j 3 he rfl (vp_in_nI hk (by omega)) d h
theorem y_alen (C0 : Cx K cc own Ts nL ret D cy) {j : Nat} (ci : Nat) (hkd : ykd j = ci) (h7 : 6 < ci) (h10 : ci < 10) (d : decode cc pc = .ok (.arraylength, 1)) (kk : Y K l R D cy adr nL cells slots Q M E lv (pc + 1) (.int (nI (yln ci)) :: st)) : Y K l R D cy adr nL cells slots Q M E lv pc (.ref (adr j) :: st) := by
  obtain ⟨p, e, s, m, args, below, meth, c, A⟩ := K
  obtain ⟨hx, hb, hml, hown, hts, hK, hA, hr, hlk⟩ := C0
  intro H locs ls hP hD hS hl
  have he : (ypl adr cy M ++ E)[j]? = some (adr j, .inl (cy (ci - 6), yln ci, .inr (.inr (.inr (.inr (fun i => some (adr (yel j i)))))))) := by
    rw [ypl_get (ykd_lt (by omega))]
    unfold ycl
    rw [if_neg (by omega), if_neg (by omega), hkd]
  have h := kk H locs ls hP hD hS hl
  rcases (show ci = 7 ∨ ci = 8 ∨ ci = 9 by omega) with h7 | h7 | h7 <;> subst h7
  · exact va_alen hx hb hK hP j 1 he rfl rfl d h
  · exact va_alen hx hb hK hP j 2 he rfl rfl d h
  · exact va_alen hx hb hK hP j 3 he rfl rfl d h
theorem y_alen6 (C0 : Cx K cc own Ts nL ret D cy) {j : Nat} (hkd : ykd j = 6) (d : decode cc pc = .ok (.arraylength, 1)) (kk : Y K l R D cy adr nL cells slots Q M E lv (pc + 1) (.int 193 :: st)) : Y K l R D cy adr nL cells slots Q M E lv pc (.ref (adr j) :: st) := by
  obtain ⟨p, e, s, m, args, below, meth, c, A⟩ := K
  obtain ⟨hx, hb, hml, hown, hts, hK, hA, hr, hlk⟩ := C0
  intro H locs ls hP hD hS hl
  have he : (ypl adr cy M ++ E)[j]? = some (adr j, .inl (cy 0, 193, .inl (M j))) := by
    rw [ypl_get (ykd_lt (by omega))]
    unfold ycl
    rw [if_neg (by omega), if_pos hkd]
  exact va_alen hx hb hK hP j 0 he rfl rfl d (kk H locs ls hP hD hS hl)
theorem y_mmax (C0 : Cx K cc own Ts nL ret D cy) {index : Nat} (hw1 : Cond.methodLink own index Lib.Math.max.name ∈ Ts) (hw2 : Cond.static Lib.Math.max.name ∈ Ts) (hw3 : Cond.initialized "java/lang/Math" ∈ Ts) (hw4 : Cond.code Lib.Math.max.name Lib.Math.max.code 2 (some .int) ∈ Ts) (hf : 1 ≤ R.frames) (hlo : (st.map fun v => v.category).sum + 13 ≤ R.locals) (hc : cells ≤ R.cells) (hs : slots ≤ R.slots) {x y : Int32} (d : decode cc pc = .ok (.invokestatic index, 3)) (kk : Y K l R D cy adr nL cells slots Q M E lv (pc + 3) (.int (if x < y then y else x) :: st)) : Y K l R D cy adr nL cells slots Q M E lv pc (.int y :: .int x :: st) := by
  obtain ⟨p, e, s, m, args, below, meth, c, A⟩ := K
  obtain ⟨hx, hb, hml, hown, hts, hK, hA, hr, hlk⟩ := C0
  exact fun H locs ls hP hD hS hl => va_mmax hx hb (hml.trans hl.1.symm) hown (hts _ hw1) (hts _ hw2) (hts _ hw3) (hts _ hw4) hf hlo hc hs d (kk H locs ls hP hD hS hl)
theorem y_mmin (C0 : Cx K cc own Ts nL ret D cy) {index : Nat} (hw1 : Cond.methodLink own index Lib.Math.min.name ∈ Ts) (hw2 : Cond.static Lib.Math.min.name ∈ Ts) (hw3 : Cond.initialized "java/lang/Math" ∈ Ts) (hw4 : Cond.code Lib.Math.min.name Lib.Math.min.code 2 (some .int) ∈ Ts) (hf : 1 ≤ R.frames) (hlo : (st.map fun v => v.category).sum + 13 ≤ R.locals) (hc : cells ≤ R.cells) (hs : slots ≤ R.slots) {x y : Int32} (d : decode cc pc = .ok (.invokestatic index, 3)) (kk : Y K l R D cy adr nL cells slots Q M E lv (pc + 3) (.int (if y < x then y else x) :: st)) : Y K l R D cy adr nL cells slots Q M E lv pc (.int y :: .int x :: st) := by
  obtain ⟨p, e, s, m, args, below, meth, c, A⟩ := K
  obtain ⟨hx, hb, hml, hown, hts, hK, hA, hr, hlk⟩ := C0
  exact fun H locs ls hP hD hS hl => va_mmin hx hb (hml.trans hl.1.symm) hown (hts _ hw1) (hts _ hw2) (hts _ hw3) (hts _ hw4) hf hlo hc hs d (kk H locs ls hP hD hS hl)
theorem y_widen {k n : Nat} (h1 : cells ≤ k) (h2 : slots ≤ n) (kk : Y K l R D cy adr nL k n Q M E lv pc st) : Y K l R D cy adr nL cells slots Q M E lv pc st := by
  obtain ⟨p, e, s, m, args, below, meth, c, A⟩ := K
  exact fun H locs ls hP hD hS hl => W.widen h1 h2 (kk H locs ls hP hD hS hl)
end Rows
/-- a method's end: its answer, and the memory -/
def Qy (D : va_G) (cy : Nat → ClassId) (adr : Nat → Nat) (A : Nat → Prop) (r : Option Value) (M' : yM) : Array Value → State → Outcome → State → Prop := fun _ st oc t => oc = .returned r ∧ va_P D vwCl (ypl adr cy M') t.heap ∧ va_F A st t
/-- a method's start -/
def Py (D : va_G) (cy : Nat → ClassId) (adr : Nat → Nat) (sz : Nat) (As : List Value) (M : yM) : Array Value → State → Prop := va_Pc As (fun U => U.heap.size = sz ∧ va_P D vwCl (ypl adr cy M) U.heap ∧ va_K D vwCl (ytys cy) U ∧ va_D (fun _ => True) (ypl adr cy M))
/-- THE CONTRACT: called with As over the memory M, y answers r, and the memory is M' -/
def Ct (l : Launch) (y : MethodName) (ws : List Cond) (rm : Room) (D : va_G) (cy : Nat → ClassId) (adr : Nat → Nat) (As : List Value) (M : yM) (r : Option Value) (M' : yM) (mc ms : Nat) : Prop := ∀ sz, Met l y ws rm (Py D cy adr sz As M) (Qy D cy adr (yAA adr sz) r M') mc ms (yAA adr sz)
def QT (K : yK) (D : va_G) (cy : Nat → ClassId) (adr : Nat → Nat) (r : Option Value) (M' : yM) (mc ms : Nat) : State → Prop := match K with
  | (_, _, s, _, args, below, _, _, A) => MQ below (Qy D cy adr A r M') args s mc ms A
theorem Py_blind {D : va_G} {cy : Nat → ClassId} {adr : Nat → Nat} {sz : Nat} {As : List Value} {M : yM} : FrameBlind (Py D cy adr sz As M) := fun a U g mk q => by
  obtain ⟨q0, q1, qP, qK, qD⟩ := q
  exact ⟨q0, q1, qP, va_K.moved (u := U) (U := U.calling g mk a) (Vm.Alike.refl U.vm) qK, qD⟩
theorem Ct.mk {l : Launch} {y : MethodName} {ws ws' : List Cond} {rm : Room} {D : va_G} {cy : Nat → ClassId} {adr : Nat → Nat} {As : List Value} {M : yM} {r : Option Value} {M' : yM} {mc ms : Nat} (cc : ByteArray) (maxL : Nat) (ret : Option FieldType) (own : String)
    (hy : plainName y.cls = true) (hw : ws = Cond.code y cc maxL ret :: ws') (ho : y.cls = own) (hn : (lg_sl As).length ≤ maxL)
    (body : ∀ K : yK, Cx K cc own ws maxL ret D cy → Y K l rm D cy adr maxL 0 0 (QT K D cy adr r M' mc ms) M [] (lv_args 0 As) 0 []) : Ct l y ws rm D cy adr As M r M' mc ms := by
  intro sz
  refine Met.ofW (cc := cc) (maxL := maxL) (ret := ret) hy hw ?_
  intro p e s m args below meth c s₁ B hml hv
  obtain ⟨rfl, hsz, hP, hK, hD0⟩ := hv
  have hts := atoms_spec (ws := ws) B.pre
  have hown : s.vm.findClass own = some m.cls := by rw [← ho]; exact findClass_of_methodNamed B.named
  subst hsz
  have hl := lv_entry As (n := maxL) hn
  rw [lg_entry_eq]
  refine body (p, e, s, m, As.toArray, below, meth, c, yAA adr s.heap.size) ⟨B.exec, B.bytes, hml, hown, hts, hK, fun q h => Or.inr h, B.returns, B.notSynchronized⟩ s.heap [] _ (by rw [List.append_nil]; exact hP) ?_ va_S.rf hl
  rw [List.append_nil]
  refine ⟨hD0.1, fun k q hq => ?_⟩
  have hk : k < 55 := by
    have := (List.getElem?_eq_some_iff.mp hq).1
    rwa [ypl_len] at this
  have hq' := ypl_get (adr := adr) (cy := cy) (M := M) (E := []) hk
  rw [List.append_nil, hq] at hq'
  cases hq'
  exact Or.inl ⟨k, hk, rfl⟩
section Ends
variable {K : yK} {l : Launch} {R : Room} {D : va_G} {cy : Nat → ClassId} {adr : Nat → Nat} {nL cells slots mc ms : Nat} {Q : State → Prop} {M M' : yM} {E : va_W} {lv : List (Nat × Value)} {pc : Nat} {st : List Value} {cc : ByteArray} {own : String} {Ts : List Cond} {ret : Option FieldType} {r : Option Value}
theorem ypl_P {H : Heap} (h : va_P D vwCl (ypl adr cy M ++ E) H) : va_P D vwCl (ypl adr cy M) H := fun k q hq => by
  have hk : k < 55 := by
    have := (List.getElem?_eq_some_iff.mp hq).1
    rwa [ypl_len] at this
  refine h k q ?_
  rw [List.getElem?_append_left (by rw [ypl_len]; exact hk)]
  exact hq
theorem y_iret (C0 : Cx K cc own Ts nL (some .int) D cy) {v : Int32} (d : decode cc pc = .ok (.ireturn, 1)) (e1 : some (Value.int v) = r) (e2 : M = M') : Y K l R D cy adr nL mc ms (QT K D cy adr r M' mc ms) M E lv pc [.int v] := by
  subst e1; subst e2
  obtain ⟨p, e, s, m, args, below, meth, c, A⟩ := K
  obtain ⟨hx, hb, hml, hown, hts, hK, hA, hr, hlk⟩ := C0
  exact fun H locs ls hP hD hS hl => W.iret hx hb hr (fun t ht hW => ⟨rfl, by rw [ht]; exact ypl_P hP, hS.F ht⟩) hS.2.2 d hlk
theorem y_zret (C0 : Cx K cc own Ts nL (some .boolean) D cy) {v : Int32} (hn : narrow .boolean (.int v) = .int v) (d : decode cc pc = .ok (.ireturn, 1)) (e1 : some (Value.int v) = r) (e2 : M = M') : Y K l R D cy adr nL mc ms (QT K D cy adr r M' mc ms) M E lv pc [.int v] := by
  subst e1; subst e2
  obtain ⟨p, e, s, m, args, below, meth, c, A⟩ := K
  obtain ⟨hx, hb, hml, hown, hts, hK, hA, hr, hlk⟩ := C0
  exact fun H locs ls hP hD hS hl => W.zret hx hb hr hn (fun t ht hW => ⟨rfl, by rw [ht]; exact ypl_P hP, hS.F ht⟩) hS.2.2 d hlk
theorem y_lret (C0 : Cx K cc own Ts nL (some .long) D cy) {v : Int64} (d : decode cc pc = .ok (.lreturn, 1)) (e1 : some (Value.long v) = r) (e2 : M = M') : Y K l R D cy adr nL mc ms (QT K D cy adr r M' mc ms) M E lv pc [.long v] := by
  subst e1; subst e2
  obtain ⟨p, e, s, m, args, below, meth, c, A⟩ := K
  obtain ⟨hx, hb, hml, hown, hts, hK, hA, hr, hlk⟩ := C0
  exact fun H locs ls hP hD hS hl => W.lret hx hb hr (fun t ht hW => ⟨rfl, by rw [ht]; exact ypl_P hP, hS.F ht⟩) hS.2.2 d hlk
theorem y_vret (C0 : Cx K cc own Ts nL none D cy) (d : decode cc pc = .ok (.return_, 1)) (e1 : none = r) (e2 : M = M') : Y K l R D cy adr nL mc ms (QT K D cy adr r M' mc ms) M E lv pc [] := by
  subst e1; subst e2
  obtain ⟨p, e, s, m, args, below, meth, c, A⟩ := K
  obtain ⟨hx, hb, hml, hown, hts, hK, hA, hr, hlk⟩ := C0
  exact fun H locs ls hP hD hS hl => W.vret hx hb hr (fun t ht hW => ⟨rfl, by rw [ht]; exact ypl_P hP, hS.F ht⟩) hS.2.2 d hlk
theorem y_aret {nm : String} (C0 : Cx K cc own Ts nL (some (.object nm)) D cy) {v : Value} (hv : v = .null ∨ ∃ a, v = .ref a) (d : decode cc pc = .ok (.areturn, 1)) (e1 : some v = r) (e2 : M = M') : Y K l R D cy adr nL mc ms (QT K D cy adr r M' mc ms) M E lv pc [v] := by
  subst e1; subst e2
  obtain ⟨p, e, s, m, args, below, meth, c, A⟩ := K
  obtain ⟨hx, hb, hml, hown, hts, hK, hA, hr, hlk⟩ := C0
  exact fun H locs ls hP hD hS hl => W.aret hx hb hr (Or.inl ⟨_, rfl⟩) hv (fun t ht hW => ⟨rfl, by rw [ht]; exact ypl_P hP, hS.F ht⟩) hS.2.2 d hlk
/-- behind a call over the whole memory: the other cells stay -/
theorem y_join {p : Program} {e : Env} {s : State} {m : MethodId} {args : Array Value} {below : List Frame} {meth : Method} {c : Code} {A : Nat → Prop} {H : Heap} {locs : List Loc} {ls : Array Slot} {st0 rest : List Value} {a : Array Value}
    (hA : ∀ q, s.heap.size ≤ q → A q) (hP : va_P D vwCl (ypl adr cy M ++ E) H) (hD : va_D A (ypl adr cy M ++ E)) (hS : va_S A s.heap H locs) (hl : lv_has ls nL lv)
    (hr : va_Run p l e R s m args below meth c H locs cells slots mc ms (F0 m pc ls st0) rest (Qy D cy adr (yAA adr H.size) r M' a) (yAA adr H.size))
    (kk : Y (p, e, s, m, args, below, meth, c, A) l R D cy adr nL (cells + mc) (slots + ms) Q M' E lv (pc + 3) (r.toList ++ rest)) : W p l e R s m args below meth c H locs cells slots Q (F0 m pc ls st0) := by
  have hF : ∀ q, yAA adr H.size q → A q := by
    intro q h
    rcases h with ⟨j, hj, rfl⟩ | h
    · exact hD.2 j _ (ypl_get hj)
    · exact hA q (Nat.le_trans hS.1 h)
  intro T hT X
  obtain ⟨v, st₀, t, T', L, h0, X', hL, e1, e2, ⟨hv, hp, hz, hk⟩, sg⟩ := hr T hT X
  cases hv
  rw [h0] at hz hk
  have hE : ∀ (k : Nat) (q : Nat × va_E), E[k]? = some q → va_at D vwCl q H ∧ q.1 < H.size ∧ ¬ yAA adr H.size q.1 := by
    intro k q hq
    have hq' : (ypl adr cy M ++ E)[55 + k]? = some q := by rw [ypl_E]; exact hq
    refine ⟨hP _ _ hq', (hP _ _ hq').lt, fun h => ?_⟩
    rcases h with ⟨j, hj, h⟩ | h
    · have := hD.1 _ _ _ _ hq' (ypl_get (M := M) (cy := cy) (adr := adr) hj) h
      omega
    · have := (hP _ _ hq').lt
      omega
  have hP1 : va_P D vwCl (ypl adr cy M' ++ E) T'.heap := by
    rw [e1]
    exact va_P.app hp (fun k q hq => (hE k q hq).1.kept (hk q.1 (hE k q hq).2.1 (hE k q hq).2.2))
  have hS1 : va_S A s.heap T'.heap (locs ++ L) := by
    refine ⟨Nat.le_trans hS.1 (by rw [e1]; exact hz), fun q h1 h2 => ?_, fun q hq => ?_⟩
    · rw [e1, hk q (Nat.lt_of_lt_of_le h1 hS.1) (fun z => h2 (hF q z))]
      exact hS.2.1 q h1 h2
    · rcases List.mem_append.mp hq with h | h
      · exact hS.2.2 q h
      · exact hF _ (hL q h)
  obtain ⟨t2, a1, b1⟩ := kk T'.heap (locs ++ L) ls hP1 (ypl_D hD) hS1 hl T' rfl X'
  exact ⟨t2, sg t2 a1, b1⟩
theorem y_callV (C0 : Cx K cc own Ts nL ret D cy) {y : MethodName} {bytes : ByteArray} {maxL index : Nat} {rety : Option FieldType} {ws ws' : List Cond} {rm : Room} {C : String} {T : u_T} {N jb n : Nat} {As rest st0 : List Value}
    (hM : Ct l y ws rm D cy adr (.ref (adr jb) :: As) M r M' mc ms) (ci : Nat) (hc : vwCl[ci]? = some (C, T, N)) (hci : ci < 6) (hkd : ykd jb = ci)
    (hG : GoodIn Ts (wsV own index C y ws)) (hw : ws = Cond.code y bytes maxL rety :: ws') (hrc : rm.cells = mc) (hrs : rm.slots = ms)
    (hd : y.cls = C ∧ y.cls ≠ "java/lang/invoke/MethodHandle" ∧ y.cls ≠ "java/lang/invoke/VarHandle" ∧ (parseMethodDescriptor y.desc).map (fun d => d.parameters.length) = some n) (hR : rm.frames + 1 ≤ R.frames ∧ 8 + (maxL + 11) + rm.locals ≤ R.locals)
    (hn : As.length = n) (hst : st0 = As.reverse ++ .ref (adr jb) :: rest) (hcat : (rest.map fun v => v.category).sum ≤ 8) (d : decode cc pc = .ok (.invokevirtual index, 3)) (hf : cells + mc ≤ R.cells ∧ slots + ms ≤ R.slots)
    (kk : Y K l R D cy adr nL (cells + mc) (slots + ms) Q M' E lv (pc + 3) (r.toList ++ rest)) : Y K l R D cy adr nL cells slots Q M E lv pc st0 := by
  obtain ⟨p, e, s, m, args, below, meth, c, A⟩ := K
  obtain ⟨hx, hb, hml, hown, hts, hK, hA, hr, hlk⟩ := C0
  intro H locs ls hP hD hS hl
  have he : (ypl adr cy M ++ E)[jb]? = some (adr jb, .inr (ci, yfs adr M jb (ynf ci))) := by
    rw [ypl_get (ykd_lt (by omega))]
    unfold ycl
    rw [if_pos (by omega), hkd]
  refine y_join hA hP hD hS hl (va_runV (As := As) (rest := rest) ⟨hx, hb, hml, hown, hts⟩ (hM H.size) (cwV n hts hG hw hrc hrs hd hR) ⟨Py_blind, va_recv hK hP hc he, fun U hU hW => ⟨rfl, by rw [hU], by rw [hU]; exact ypl_P hP, va_K.moved hW.alike hK, ?_⟩⟩ rfl hn hl.1 hst (lv_room (Nat.le_trans hcat (Nat.le_refl 8))) d hf) kk
  have h9 := hD.sub (A := A) (ws' := ypl adr cy M) (List.range 55) (by decide +kernel) (by
    apply List.ext_getElem?
    intro i
    by_cases hi : i < 55
    · have := ypl_get (adr := adr) (cy := cy) (M := M) (E := []) hi
      rw [List.append_nil] at this
      simp [hi, ypl_get, this]
    · have h2 : (ypl adr cy M)[i]? = none := by rw [List.getElem?_eq_none_iff, ypl_len]; omega
      simp [hi, h2])
  exact h9.weaken (fun _ _ _ _ => trivial)
theorem y_callS (C0 : Cx K cc own Ts nL ret D cy) {y : MethodName} {bytes : ByteArray} {maxL index : Nat} {rety : Option FieldType} {ws ws' : List Cond} {rm : Room} {n : Nat} {As rest st0 : List Value}
    (hM : Ct l y ws rm D cy adr As M r M' mc ms)
    (hG : GoodIn Ts (va_wsS own index y ws)) (hw : ws = Cond.code y bytes maxL rety :: ws') (hrc : rm.cells = mc) (hrs : rm.slots = ms)
    (hd : y.cls ≠ "java/lang/invoke/MethodHandle" ∧ y.cls ≠ "java/lang/invoke/VarHandle" ∧ (parseMethodDescriptor y.desc).map (fun d => d.parameters.length) = some n) (hR : rm.frames + 1 ≤ R.frames ∧ 8 + (maxL + 11) + rm.locals ≤ R.locals)
    (hn : As.length = n) (hst : st0 = As.reverse ++ rest) (hcat : (rest.map fun v => v.category).sum ≤ 8) (d : decode cc pc = .ok (.invokestatic index, 3)) (hf : cells + mc ≤ R.cells ∧ slots + ms ≤ R.slots)
    (kk : Y K l R D cy adr nL (cells + mc) (slots + ms) Q M' E lv (pc + 3) (r.toList ++ rest)) : Y K l R D cy adr nL cells slots Q M E lv pc st0 := by
  obtain ⟨p, e, s, m, args, below, meth, c, A⟩ := K
  obtain ⟨hx, hb, hml, hown, hts, hK, hA, hr, hlk⟩ := C0
  intro H locs ls hP hD hS hl
  refine y_join hA hP hD hS hl (va_runS (As := As) (rest := rest) ⟨hx, hb, hml, hown, hts⟩ (hM H.size) (va_cwS n hts hG hw hrc hrs hd hR) ⟨Py_blind, fun U hU hW => ⟨rfl, by rw [hU], by rw [hU]; exact ypl_P hP, va_K.moved hW.alike hK, ?_⟩⟩ rfl hn hl.1 hst (lv_room (Nat.le_trans hcat (Nat.le_refl 8))) d hf) kk
  have h9 := hD.sub (A := A) (ws' := ypl adr cy M) (List.range 55) (by decide +kernel) (by
    apply List.ext_getElem?
    intro i
    by_cases hi : i < 55
    · have := ypl_get (adr := adr) (cy := cy) (M := M) (E := []) hi
      rw [List.append_nil] at this
      simp [hi, ypl_get, this]
    · have h2 : (ypl adr cy M)[i]? = none := by rw [List.getElem?_eq_none_iff, ypl_len]; omega
      simp [hi, h2])
  exact h9.weaken (fun _ _ _ _ => trivial)
end Ends
end YB
end
section
def wsX0_init : List Cond := .code yX0_init cX0_init 2 none :: ([.methodLink RX0 3 objectInit, .instanceMethod objectInit, .code objectInit ⟨#[0xb1]⟩ 1 none, .fieldLink RX0 9 "SewingFrames$Book" "number" "I", .fieldLink RX0 15 "SewingFrames$Book" "stage" "I", .fieldLink RX0 18 "SewingFrames$Book" "frame" "I"] ++ wsX00)
def wsX0_setTo : List Cond := .code yX0_setTo cX0_setTo 2 none :: ([.fieldLink RX0 21 "SewingFrames$Book" "signatures" "I", .fieldLink RX0 24 "SewingFrames$Book" "sheets" "I", .fieldLink RX0 27 "SewingFrames$Book" "edges" "I", .fieldLink RX0 15 "SewingFrames$Book" "stage" "I", .fieldLink RX0 18 "SewingFrames$Book" "frame" "I", .fieldLink RX0 30 "SewingFrames$Book" "cords" "I", .fieldLink RX0 33 "SewingFrames$Book" "stitches" "I", .fieldLink RX0 36 "SewingFrames$Book" "wholeSignatures" "I", .fieldLink RX0 39 "SewingFrames$Book" "stitchesOfNext" "I", .fieldLink RX0 42 "SewingFrames$Book" "loose" "I", .fieldLink RX0 45 "SewingFrames$Book" "hoursToDry" "I", .fieldLink RX0 48 "SewingFrames$Book" "gilt" "I"] ++ wsX00)
def wsX0_begin : List Cond := .code yX0_begin cX0_begin 4 none :: ([.fieldLink RX0 21 "SewingFrames$Book" "signatures" "I", .fieldLink RX0 24 "SewingFrames$Book" "sheets" "I", .fieldLink RX0 27 "SewingFrames$Book" "edges" "I", .fieldLink RX0 15 "SewingFrames$Book" "stage" "I"] ++ wsX00)
def wsX0_mount : List Cond := .code yX0_mount cX0_mount 3 none :: ([.fieldLink RX0 15 "SewingFrames$Book" "stage" "I", .fieldLink RX0 18 "SewingFrames$Book" "frame" "I", .fieldLink RX0 30 "SewingFrames$Book" "cords" "I"] ++ wsX00)
def wsX0_undo : List Cond := .code yX0_undo cX0_undo 1 none :: ([.fieldLink RX0 15 "SewingFrames$Book" "stage" "I", .fieldLink RX0 18 "SewingFrames$Book" "frame" "I", .fieldLink RX0 30 "SewingFrames$Book" "cords" "I", .fieldLink RX0 33 "SewingFrames$Book" "stitches" "I", .fieldLink RX0 36 "SewingFrames$Book" "wholeSignatures" "I", .fieldLink RX0 39 "SewingFrames$Book" "stitchesOfNext" "I", .fieldLink RX0 42 "SewingFrames$Book" "loose" "I"] ++ wsX00)
def wsX0_thickness : List Cond := .code yX0_thickness cX0_thickness 1 (some .int) :: ([.fieldLink RX0 21 "SewingFrames$Book" "signatures" "I", .fieldLink RX0 24 "SewingFrames$Book" "sheets" "I"] ++ wsX00)
def wsX0_leavesForAnEdge : List Cond := .code yX0_leavesForAnEdge cX0_leavesForAnEdge 1 (some .int) :: ([.methodLink RX0 51 yX0_thickness, .instanceMethod yX0_thickness, .selects RX0 yX0_thickness yX0_thickness, .initialized RX0, .code yX0_thickness cX0_thickness 1 (some .int), .fieldLink RX0 21 "SewingFrames$Book" "signatures" "I", .fieldLink RX0 24 "SewingFrames$Book" "sheets" "I"] ++ wsX00)
def wsX0_stitchesOfSignature : List Cond := .code yX0_stitchesOfSignature cX0_stitchesOfSignature 3 (some .int) :: ([.fieldLink RX0 30 "SewingFrames$Book" "cords" "I", .fieldLink RX0 21 "SewingFrames$Book" "signatures" "I"] ++ wsX00)
def wsX0_stitchesToSew : List Cond := .code yX0_stitchesToSew cX0_stitchesToSew 3 (some .int) :: ([.fieldLink RX0 21 "SewingFrames$Book" "signatures" "I", .fieldLink RX0 33 "SewingFrames$Book" "stitches" "I", .methodLink RX0 55 yX0_stitchesOfSignature, .instanceMethod yX0_stitchesOfSignature, .selects RX0 yX0_stitchesOfSignature yX0_stitchesOfSignature, .initialized RX0, .code yX0_stitchesOfSignature cX0_stitchesOfSignature 3 (some .int), .fieldLink RX0 30 "SewingFrames$Book" "cords" "I"] ++ wsX00)
def wsX0_addStitch : List Cond := .code yX0_addStitch cX0_addStitch 1 (some .boolean) :: ([.fieldLink RX0 33 "SewingFrames$Book" "stitches" "I", .fieldLink RX0 39 "SewingFrames$Book" "stitchesOfNext" "I", .fieldLink RX0 36 "SewingFrames$Book" "wholeSignatures" "I", .methodLink RX0 55 yX0_stitchesOfSignature, .instanceMethod yX0_stitchesOfSignature, .selects RX0 yX0_stitchesOfSignature yX0_stitchesOfSignature, .initialized RX0, .code yX0_stitchesOfSignature cX0_stitchesOfSignature 3 (some .int), .fieldLink RX0 30 "SewingFrames$Book" "cords" "I", .fieldLink RX0 21 "SewingFrames$Book" "signatures" "I"] ++ wsX00)
def wsX0_isSewn : List Cond := .code yX0_isSewn cX0_isSewn 1 (some .boolean) :: ([.fieldLink RX0 36 "SewingFrames$Book" "wholeSignatures" "I", .fieldLink RX0 21 "SewingFrames$Book" "signatures" "I"] ++ wsX00)
def wsX0_beginToDry : List Cond := .code yX0_beginToDry cX0_beginToDry 1 none :: ([.fieldLink RX0 15 "SewingFrames$Book" "stage" "I", .fieldLink RX0 18 "SewingFrames$Book" "frame" "I", .fieldLink RX0 45 "SewingFrames$Book" "hoursToDry" "I", .methodLink RX0 51 yX0_thickness, .instanceMethod yX0_thickness, .selects RX0 yX0_thickness yX0_thickness, .initialized RX0, .code yX0_thickness cX0_thickness 1 (some .int), .fieldLink RX0 21 "SewingFrames$Book" "signatures" "I", .fieldLink RX0 24 "SewingFrames$Book" "sheets" "I"] ++ wsX00)
def wsX0_dryForAnHour : List Cond := .code yX0_dryForAnHour cX0_dryForAnHour 1 none :: ([.fieldLink RX0 45 "SewingFrames$Book" "hoursToDry" "I", .fieldLink RX0 15 "SewingFrames$Book" "stage" "I"] ++ wsX00)
def wsX0_bind : List Cond := .code yX0_bind cX0_bind 1 none :: ([.fieldLink RX0 27 "SewingFrames$Book" "edges" "I", .fieldLink RX0 15 "SewingFrames$Book" "stage" "I"] ++ wsX00)
def wsX0_gildAnEdge : List Cond := .code yX0_gildAnEdge cX0_gildAnEdge 1 none :: ([.fieldLink RX0 48 "SewingFrames$Book" "gilt" "I", .fieldLink RX0 27 "SewingFrames$Book" "edges" "I", .fieldLink RX0 15 "SewingFrames$Book" "stage" "I"] ++ wsX00)
def wsX0_value : List Cond := .code yX0_value cX0_value 1 (some .int) :: ([.fieldLink RX0 21 "SewingFrames$Book" "signatures" "I", .fieldLink RX0 30 "SewingFrames$Book" "cords" "I", .fieldLink RX0 48 "SewingFrames$Book" "gilt" "I", .fieldLink RX0 42 "SewingFrames$Book" "loose" "I", .methodLink RX0 59 Lib.Math.max.name, .static Lib.Math.max.name, .initialized "java/lang/Math", .code Lib.Math.max.name Lib.Math.max.code 2 (some .int)] ++ wsX00)
def wsX0_tell : List Cond := .code yX0_tell cX0_tell 2 (some .int) :: ([.fieldLink RX0 21 "SewingFrames$Book" "signatures" "I", .fieldLink RX0 24 "SewingFrames$Book" "sheets" "I", .fieldLink RX0 27 "SewingFrames$Book" "edges" "I", .fieldLink RX0 15 "SewingFrames$Book" "stage" "I", .fieldLink RX0 18 "SewingFrames$Book" "frame" "I", .fieldLink RX0 36 "SewingFrames$Book" "wholeSignatures" "I", .fieldLink RX0 39 "SewingFrames$Book" "stitchesOfNext" "I", .fieldLink RX0 42 "SewingFrames$Book" "loose" "I", .fieldLink RX0 45 "SewingFrames$Book" "hoursToDry" "I", .fieldLink RX0 48 "SewingFrames$Book" "gilt" "I", .methodLink RX0 65 yX0_value, .instanceMethod yX0_value, .selects RX0 yX0_value yX0_value, .initialized RX0, .code yX0_value cX0_value 1 (some .int), .fieldLink RX0 30 "SewingFrames$Book" "cords" "I", .methodLink RX0 59 Lib.Math.max.name, .static Lib.Math.max.name, .initialized "java/lang/Math", .code Lib.Math.max.name Lib.Math.max.code 2 (some .int)] ++ wsX00)
def wsX1_init : List Cond := .code yX1_init cX1_init 2 none :: ([.methodLink RX1 3 objectInit, .instanceMethod objectInit, .code objectInit ⟨#[0xb1]⟩ 1 none, .fieldLink RX1 9 "SewingFrames$Frame" "number" "I", .fieldLink RX1 15 "SewingFrames$Frame" "cords" "I", .fieldLink RX1 18 "SewingFrames$Frame" "book" "I"] ++ wsX10)
def wsX1_setTo : List Cond := .code yX1_setTo cX1_setTo 2 none :: ([.fieldLink RX1 15 "SewingFrames$Frame" "cords" "I", .fieldLink RX1 18 "SewingFrames$Frame" "book" "I", .fieldLink RX1 21 "SewingFrames$Frame" "sewn" "I"] ++ wsX10)
def wsX2_init : List Cond := .code yX2_init cX2_init 2 none :: ([.methodLink RX2 3 objectInit, .instanceMethod objectInit, .code objectInit ⟨#[0xb1]⟩ 1 none, .fieldLink RX2 9 "SewingFrames$Sewer" "number" "I", .fieldLink RX2 15 "SewingFrames$Sewer" "frame" "I"] ++ wsX20)
def wsX2_setTo : List Cond := .code yX2_setTo cX2_setTo 2 none :: ([.fieldLink RX2 18 "SewingFrames$Sewer" "speed" "I", .fieldLink RX2 15 "SewingFrames$Sewer" "frame" "I"] ++ wsX20)
def wsX2_tell : List Cond := .code yX2_tell cX2_tell 2 (some .int) :: ([.fieldLink RX2 18 "SewingFrames$Sewer" "speed" "I", .fieldLink RX2 15 "SewingFrames$Sewer" "frame" "I"] ++ wsX20)
def wsX3_init_r1 : List Cond := [Cond.methodLink RX3 3 objectInit, Cond.instanceMethod objectInit, Cond.code objectInit ⟨#[0xb1]⟩ 1 none, Cond.classLink RX3 9 RX0, Cond.fieldLink RX3 11 "SewingFrames$Workshop" "books" "[LSewingFrames$Book;", Cond.instantiable RX0 13, Cond.initialized RX0, Cond.classLink RX3 20 RX2, Cond.fieldLink RX3 22 "SewingFrames$Workshop" "sewers" "[LSewingFrames$Sewer;", Cond.instantiable RX2 3, Cond.initialized RX2, Cond.classLink RX3 27 RX1, Cond.fieldLink RX3 29 "SewingFrames$Workshop" "frames" "[LSewingFrames$Frame;", Cond.instantiable RX1 4, Cond.initialized RX1, Cond.fieldLink RX3 34 "SewingFrames$Workshop" "thread" "I", Cond.fieldLink RX3 38 "SewingFrames$Workshop" "boards" "I", Cond.fieldLink RX3 41 "SewingFrames$Workshop" "gold" "I", Cond.fieldLink RX3 44 "SewingFrames$Workshop" "coins" "I", Cond.methodLink RX3 17 yX0_init, Cond.instanceMethod yX0_init, Cond.code yX0_init cX0_init 2 none, Cond.methodLink RX0 3 objectInit, Cond.fieldLink RX0 9 "SewingFrames$Book" "number" "I"]
def wsX3_init_r2 : List Cond := [Cond.fieldLink RX0 15 "SewingFrames$Book" "stage" "I", Cond.fieldLink RX0 18 "SewingFrames$Book" "frame" "I", Cond.methodLink RX3 26 yX2_init, Cond.instanceMethod yX2_init, Cond.code yX2_init cX2_init 2 none, Cond.methodLink RX2 3 objectInit, Cond.fieldLink RX2 9 "SewingFrames$Sewer" "number" "I", Cond.fieldLink RX2 15 "SewingFrames$Sewer" "frame" "I", Cond.methodLink RX3 33 yX1_init, Cond.instanceMethod yX1_init, Cond.code yX1_init cX1_init 2 none, Cond.methodLink RX1 3 objectInit, Cond.fieldLink RX1 9 "SewingFrames$Frame" "number" "I", Cond.fieldLink RX1 15 "SewingFrames$Frame" "cords" "I", Cond.fieldLink RX1 18 "SewingFrames$Frame" "book" "I"]
def wsX3_init : List Cond := .code yX3_init cX3_init 2 none :: ((wsX3_init_r1 ++ wsX3_init_r2) ++ wsX30 ++ wsX00 ++ wsX20 ++ wsX10)
def wsX3_setTo_r1 : List Cond := [Cond.fieldLink RX3 11 "SewingFrames$Workshop" "books" "[LSewingFrames$Book;", Cond.fieldLink RX3 22 "SewingFrames$Workshop" "sewers" "[LSewingFrames$Sewer;", Cond.fieldLink RX3 29 "SewingFrames$Workshop" "frames" "[LSewingFrames$Frame;", Cond.fieldLink RX3 57 "SewingFrames$Workshop" "bookCount" "I", Cond.fieldLink RX3 60 "SewingFrames$Workshop" "sewerCount" "I", Cond.fieldLink RX3 63 "SewingFrames$Workshop" "hour" "I", Cond.fieldLink RX3 44 "SewingFrames$Workshop" "coins" "I", Cond.fieldLink RX3 34 "SewingFrames$Workshop" "thread" "I", Cond.fieldLink RX3 38 "SewingFrames$Workshop" "boards" "I", Cond.fieldLink RX3 41 "SewingFrames$Workshop" "gold" "I", Cond.fieldLink RX3 66 "SewingFrames$Workshop" "sewn" "I", Cond.fieldLink RX3 69 "SewingFrames$Workshop" "loose" "I", Cond.methodLink RX3 47 yX0_setTo, Cond.instanceMethod yX0_setTo, Cond.selects RX0 yX0_setTo yX0_setTo, Cond.initialized RX0, Cond.code yX0_setTo cX0_setTo 2 none, Cond.fieldLink RX0 21 "SewingFrames$Book" "signatures" "I", Cond.fieldLink RX0 24 "SewingFrames$Book" "sheets" "I", Cond.fieldLink RX0 27 "SewingFrames$Book" "edges" "I", Cond.fieldLink RX0 15 "SewingFrames$Book" "stage" "I", Cond.fieldLink RX0 18 "SewingFrames$Book" "frame" "I", Cond.fieldLink RX0 30 "SewingFrames$Book" "cords" "I", Cond.fieldLink RX0 33 "SewingFrames$Book" "stitches" "I"]
def wsX3_setTo_r2 : List Cond := [Cond.fieldLink RX0 36 "SewingFrames$Book" "wholeSignatures" "I", Cond.fieldLink RX0 39 "SewingFrames$Book" "stitchesOfNext" "I", Cond.fieldLink RX0 42 "SewingFrames$Book" "loose" "I", Cond.fieldLink RX0 45 "SewingFrames$Book" "hoursToDry" "I", Cond.fieldLink RX0 48 "SewingFrames$Book" "gilt" "I", Cond.methodLink RX3 51 yX2_setTo, Cond.instanceMethod yX2_setTo, Cond.selects RX2 yX2_setTo yX2_setTo, Cond.initialized RX2, Cond.code yX2_setTo cX2_setTo 2 none, Cond.fieldLink RX2 18 "SewingFrames$Sewer" "speed" "I", Cond.fieldLink RX2 15 "SewingFrames$Sewer" "frame" "I", Cond.methodLink RX3 54 yX1_setTo, Cond.instanceMethod yX1_setTo, Cond.selects RX1 yX1_setTo yX1_setTo, Cond.initialized RX1, Cond.code yX1_setTo cX1_setTo 2 none, Cond.fieldLink RX1 15 "SewingFrames$Frame" "cords" "I", Cond.fieldLink RX1 18 "SewingFrames$Frame" "book" "I", Cond.fieldLink RX1 21 "SewingFrames$Frame" "sewn" "I"]
def wsX3_setTo : List Cond := .code yX3_setTo cX3_setTo 3 none :: ((wsX3_setTo_r1 ++ wsX3_setTo_r2) ++ wsX30 ++ wsX00 ++ wsX20 ++ wsX10)
def wsX3_bookNumbered : List Cond := .code yX3_bookNumbered cX3_bookNumbered 2 (some (.object "SewingFrames$Book")) :: ([.fieldLink RX3 57 "SewingFrames$Workshop" "bookCount" "I", .fieldLink RX3 11 "SewingFrames$Workshop" "books" "[LSewingFrames$Book;"] ++ wsX30)
def wsX3_sewerNumbered : List Cond := .code yX3_sewerNumbered cX3_sewerNumbered 2 (some (.object "SewingFrames$Sewer")) :: ([.fieldLink RX3 60 "SewingFrames$Workshop" "sewerCount" "I", .fieldLink RX3 22 "SewingFrames$Workshop" "sewers" "[LSewingFrames$Sewer;"] ++ wsX30)
def wsX3_freeBook : List Cond := .code yX3_freeBook cX3_freeBook 1 (some (.object "SewingFrames$Book")) :: ([.fieldLink RX3 57 "SewingFrames$Workshop" "bookCount" "I", .fieldLink RX3 11 "SewingFrames$Workshop" "books" "[LSewingFrames$Book;"] ++ wsX30)
def wsX3_freeSewer : List Cond := .code yX3_freeSewer cX3_freeSewer 1 (some (.object "SewingFrames$Sewer")) :: ([.fieldLink RX3 60 "SewingFrames$Workshop" "sewerCount" "I", .fieldLink RX3 22 "SewingFrames$Workshop" "sewers" "[LSewingFrames$Sewer;"] ++ wsX30)
def wsX3_clearFrameOf : List Cond := .code yX3_clearFrameOf cX3_clearFrameOf 6 none :: ([.fieldLink RX3 29 "SewingFrames$Workshop" "frames" "[LSewingFrames$Frame;", .fieldLink RX3 72 "SewingFrames$Frame" "book" "I", .fieldLink RX3 75 "SewingFrames$Book" "number" "I"] ++ wsX30 ++ wsX10 ++ wsX00)
def wsX3_othersAt : List Cond := .code yX3_othersAt cX3_othersAt 8 (some .int) :: ([.fieldLink RX3 22 "SewingFrames$Workshop" "sewers" "[LSewingFrames$Sewer;", .fieldLink RX3 78 "SewingFrames$Sewer" "frame" "I", .fieldLink RX3 81 "SewingFrames$Sewer" "number" "I"] ++ wsX30 ++ wsX20)
def wsX3_sittersAt : List Cond := .code yX3_sittersAt cX3_sittersAt 2 (some .int) :: ([.methodLink RX3 82 yX3_othersAt, .instanceMethod yX3_othersAt, .selects RX3 yX3_othersAt yX3_othersAt, .initialized RX3, .code yX3_othersAt cX3_othersAt 8 (some .int), .fieldLink RX3 22 "SewingFrames$Workshop" "sewers" "[LSewingFrames$Sewer;", .fieldLink RX3 78 "SewingFrames$Sewer" "frame" "I", .fieldLink RX3 81 "SewingFrames$Sewer" "number" "I"] ++ wsX30 ++ wsX20)
def wsX3_stitchesAnHour : List Cond := .code yX3_stitchesAnHour cX3_stitchesAnHour 8 (some .int) :: ([.fieldLink RX3 22 "SewingFrames$Workshop" "sewers" "[LSewingFrames$Sewer;", .fieldLink RX3 78 "SewingFrames$Sewer" "frame" "I", .fieldLink RX3 86 "SewingFrames$Sewer" "speed" "I", .methodLink RX3 89 Lib.Math.max.name, .static Lib.Math.max.name, .initialized "java/lang/Math", .code Lib.Math.max.name Lib.Math.max.code 2 (some .int)] ++ wsX30 ++ wsX20)
def wsX3_store : List Cond := .code yX3_store cX3_store 3 (some .int) :: ([.fieldLink RX3 34 "SewingFrames$Workshop" "thread" "I", .fieldLink RX3 38 "SewingFrames$Workshop" "boards" "I", .fieldLink RX3 41 "SewingFrames$Workshop" "gold" "I"] ++ wsX30)
def wsX3_booksAt : List Cond := .code yX3_booksAt cX3_booksAt 7 (some .int) :: ([.fieldLink RX3 11 "SewingFrames$Workshop" "books" "[LSewingFrames$Book;", .fieldLink RX3 117 "SewingFrames$Book" "stage" "I"] ++ wsX30 ++ wsX00)
def wsX3_gild : List Cond := .code yX3_gild cX3_gild 6 none :: ([.fieldLink RX3 11 "SewingFrames$Workshop" "books" "[LSewingFrames$Book;", .fieldLink RX3 117 "SewingFrames$Book" "stage" "I", .fieldLink RX3 41 "SewingFrames$Workshop" "gold" "I", .methodLink RX3 120 yX0_leavesForAnEdge, .instanceMethod yX0_leavesForAnEdge, .selects RX0 yX0_leavesForAnEdge yX0_leavesForAnEdge, .initialized RX0, .code yX0_leavesForAnEdge cX0_leavesForAnEdge 1 (some .int), .methodLink RX0 51 yX0_thickness, .instanceMethod yX0_thickness, .selects RX0 yX0_thickness yX0_thickness, .code yX0_thickness cX0_thickness 1 (some .int), .fieldLink RX0 21 "SewingFrames$Book" "signatures" "I", .fieldLink RX0 24 "SewingFrames$Book" "sheets" "I", .methodLink RX3 123 yX0_gildAnEdge, .instanceMethod yX0_gildAnEdge, .selects RX0 yX0_gildAnEdge yX0_gildAnEdge, .code yX0_gildAnEdge cX0_gildAnEdge 1 none, .fieldLink RX0 48 "SewingFrames$Book" "gilt" "I", .fieldLink RX0 27 "SewingFrames$Book" "edges" "I", .fieldLink RX0 15 "SewingFrames$Book" "stage" "I"] ++ wsX30 ++ wsX00)
def wsX3_giveBoards : List Cond := .code yX3_giveBoards cX3_giveBoards 5 none :: ([.fieldLink RX3 11 "SewingFrames$Workshop" "books" "[LSewingFrames$Book;", .fieldLink RX3 117 "SewingFrames$Book" "stage" "I", .fieldLink RX3 38 "SewingFrames$Workshop" "boards" "I", .methodLink RX3 126 yX0_bind, .instanceMethod yX0_bind, .selects RX0 yX0_bind yX0_bind, .initialized RX0, .code yX0_bind cX0_bind 1 none, .fieldLink RX0 27 "SewingFrames$Book" "edges" "I", .fieldLink RX0 15 "SewingFrames$Book" "stage" "I"] ++ wsX30 ++ wsX00)
def wsX3_dry : List Cond := .code yX3_dry cX3_dry 5 none :: ([.fieldLink RX3 11 "SewingFrames$Workshop" "books" "[LSewingFrames$Book;", .fieldLink RX3 117 "SewingFrames$Book" "stage" "I", .methodLink RX3 129 yX0_dryForAnHour, .instanceMethod yX0_dryForAnHour, .selects RX0 yX0_dryForAnHour yX0_dryForAnHour, .initialized RX0, .code yX0_dryForAnHour cX0_dryForAnHour 1 none, .fieldLink RX0 45 "SewingFrames$Book" "hoursToDry" "I", .fieldLink RX0 15 "SewingFrames$Book" "stage" "I"] ++ wsX30 ++ wsX00)
def wsX3_sewAt_r1 : List Cond := [Cond.fieldLink RX3 72 "SewingFrames$Frame" "book" "I", Cond.fieldLink RX3 136 "SewingFrames$Frame" "number" "I", Cond.fieldLink RX3 34 "SewingFrames$Workshop" "thread" "I", Cond.methodLink RX3 140 Lib.Math.min.name, Cond.static Lib.Math.min.name, Cond.initialized "java/lang/Math", Cond.code Lib.Math.min.name Lib.Math.min.code 2 (some .int), Cond.fieldLink RX3 66 "SewingFrames$Workshop" "sewn" "I", Cond.fieldLink RX3 147 "SewingFrames$Frame" "sewn" "I", Cond.fieldLink RX3 151 "SewingFrames$Book" "loose" "I", Cond.fieldLink RX3 69 "SewingFrames$Workshop" "loose" "I", Cond.methodLink RX3 132 yX3_bookNumbered, Cond.instanceMethod yX3_bookNumbered, Cond.selects RX3 yX3_bookNumbered yX3_bookNumbered, Cond.initialized RX3, Cond.code yX3_bookNumbered cX3_bookNumbered 2 (some (.object "SewingFrames$Book")), Cond.fieldLink RX3 57 "SewingFrames$Workshop" "bookCount" "I", Cond.fieldLink RX3 11 "SewingFrames$Workshop" "books" "[LSewingFrames$Book;", Cond.methodLink RX3 137 yX3_stitchesAnHour, Cond.instanceMethod yX3_stitchesAnHour, Cond.selects RX3 yX3_stitchesAnHour yX3_stitchesAnHour, Cond.code yX3_stitchesAnHour cX3_stitchesAnHour 8 (some .int), Cond.fieldLink RX3 22 "SewingFrames$Workshop" "sewers" "[LSewingFrames$Sewer;", Cond.fieldLink RX3 78 "SewingFrames$Sewer" "frame" "I"]
def wsX3_sewAt_r2 : List Cond := [Cond.fieldLink RX3 86 "SewingFrames$Sewer" "speed" "I", Cond.methodLink RX3 89 Lib.Math.max.name, Cond.static Lib.Math.max.name, Cond.code Lib.Math.max.name Lib.Math.max.code 2 (some .int), Cond.methodLink RX3 143 yX0_isSewn, Cond.instanceMethod yX0_isSewn, Cond.selects RX0 yX0_isSewn yX0_isSewn, Cond.initialized RX0, Cond.code yX0_isSewn cX0_isSewn 1 (some .boolean), Cond.fieldLink RX0 36 "SewingFrames$Book" "wholeSignatures" "I", Cond.fieldLink RX0 21 "SewingFrames$Book" "signatures" "I", Cond.methodLink RX3 148 yX0_addStitch, Cond.instanceMethod yX0_addStitch, Cond.selects RX0 yX0_addStitch yX0_addStitch, Cond.code yX0_addStitch cX0_addStitch 1 (some .boolean), Cond.fieldLink RX0 33 "SewingFrames$Book" "stitches" "I", Cond.fieldLink RX0 39 "SewingFrames$Book" "stitchesOfNext" "I", Cond.methodLink RX0 55 yX0_stitchesOfSignature, Cond.instanceMethod yX0_stitchesOfSignature, Cond.selects RX0 yX0_stitchesOfSignature yX0_stitchesOfSignature, Cond.code yX0_stitchesOfSignature cX0_stitchesOfSignature 3 (some .int), Cond.fieldLink RX0 30 "SewingFrames$Book" "cords" "I", Cond.methodLink RX3 152 yX0_beginToDry, Cond.instanceMethod yX0_beginToDry]
def wsX3_sewAt_r3 : List Cond := [Cond.selects RX0 yX0_beginToDry yX0_beginToDry, Cond.code yX0_beginToDry cX0_beginToDry 1 none, Cond.fieldLink RX0 15 "SewingFrames$Book" "stage" "I", Cond.fieldLink RX0 18 "SewingFrames$Book" "frame" "I", Cond.fieldLink RX0 45 "SewingFrames$Book" "hoursToDry" "I", Cond.methodLink RX0 51 yX0_thickness, Cond.instanceMethod yX0_thickness, Cond.selects RX0 yX0_thickness yX0_thickness, Cond.code yX0_thickness cX0_thickness 1 (some .int), Cond.fieldLink RX0 24 "SewingFrames$Book" "sheets" "I"]
def wsX3_sewAt : List Cond := .code yX3_sewAt cX3_sewAt 6 none :: ((wsX3_sewAt_r1 ++ (wsX3_sewAt_r2 ++ wsX3_sewAt_r3)) ++ wsX10 ++ wsX30 ++ wsX00 ++ wsX20)
def wsX3_mountOn : List Cond := .code yX3_mountOn cX3_mountOn 6 none :: ([.fieldLink RX3 11 "SewingFrames$Workshop" "books" "[LSewingFrames$Book;", .fieldLink RX3 117 "SewingFrames$Book" "stage" "I", .fieldLink RX3 136 "SewingFrames$Frame" "number" "I", .fieldLink RX3 155 "SewingFrames$Frame" "cords" "I", .fieldLink RX3 75 "SewingFrames$Book" "number" "I", .fieldLink RX3 72 "SewingFrames$Frame" "book" "I", .methodLink RX3 158 yX0_mount, .instanceMethod yX0_mount, .selects RX0 yX0_mount yX0_mount, .initialized RX0, .code yX0_mount cX0_mount 3 none, .fieldLink RX0 15 "SewingFrames$Book" "stage" "I", .fieldLink RX0 18 "SewingFrames$Book" "frame" "I", .fieldLink RX0 30 "SewingFrames$Book" "cords" "I"] ++ wsX30 ++ wsX00 ++ wsX10)
def wsX3_letAnHourGo_r1 : List Cond := [Cond.fieldLink RX3 29 "SewingFrames$Workshop" "frames" "[LSewingFrames$Frame;", Cond.fieldLink RX3 72 "SewingFrames$Frame" "book" "I", Cond.fieldLink RX3 63 "SewingFrames$Workshop" "hour" "I", Cond.methodLink RX3 98 yX3_booksAt, Cond.instanceMethod yX3_booksAt, Cond.selects RX3 yX3_booksAt yX3_booksAt, Cond.initialized RX3, Cond.code yX3_booksAt cX3_booksAt 7 (some .int), Cond.fieldLink RX3 11 "SewingFrames$Workshop" "books" "[LSewingFrames$Book;", Cond.fieldLink RX3 117 "SewingFrames$Book" "stage" "I", Cond.methodLink RX3 102 yX3_gild, Cond.instanceMethod yX3_gild, Cond.selects RX3 yX3_gild yX3_gild, Cond.code yX3_gild cX3_gild 6 none, Cond.fieldLink RX3 41 "SewingFrames$Workshop" "gold" "I", Cond.methodLink RX3 120 yX0_leavesForAnEdge, Cond.instanceMethod yX0_leavesForAnEdge, Cond.selects RX0 yX0_leavesForAnEdge yX0_leavesForAnEdge, Cond.initialized RX0, Cond.code yX0_leavesForAnEdge cX0_leavesForAnEdge 1 (some .int), Cond.methodLink RX0 51 yX0_thickness, Cond.instanceMethod yX0_thickness, Cond.selects RX0 yX0_thickness yX0_thickness, Cond.code yX0_thickness cX0_thickness 1 (some .int)]
def wsX3_letAnHourGo_r2 : List Cond := [Cond.fieldLink RX0 21 "SewingFrames$Book" "signatures" "I", Cond.fieldLink RX0 24 "SewingFrames$Book" "sheets" "I", Cond.methodLink RX3 123 yX0_gildAnEdge, Cond.instanceMethod yX0_gildAnEdge, Cond.selects RX0 yX0_gildAnEdge yX0_gildAnEdge, Cond.code yX0_gildAnEdge cX0_gildAnEdge 1 none, Cond.fieldLink RX0 48 "SewingFrames$Book" "gilt" "I", Cond.fieldLink RX0 27 "SewingFrames$Book" "edges" "I", Cond.fieldLink RX0 15 "SewingFrames$Book" "stage" "I", Cond.methodLink RX3 105 yX3_giveBoards, Cond.instanceMethod yX3_giveBoards, Cond.selects RX3 yX3_giveBoards yX3_giveBoards, Cond.code yX3_giveBoards cX3_giveBoards 5 none, Cond.fieldLink RX3 38 "SewingFrames$Workshop" "boards" "I", Cond.methodLink RX3 126 yX0_bind, Cond.instanceMethod yX0_bind, Cond.selects RX0 yX0_bind yX0_bind, Cond.code yX0_bind cX0_bind 1 none, Cond.methodLink RX3 108 yX3_dry, Cond.instanceMethod yX3_dry, Cond.selects RX3 yX3_dry yX3_dry, Cond.code yX3_dry cX3_dry 5 none, Cond.methodLink RX3 129 yX0_dryForAnHour, Cond.instanceMethod yX0_dryForAnHour]
def wsX3_letAnHourGo_r3 : List Cond := [Cond.selects RX0 yX0_dryForAnHour yX0_dryForAnHour, Cond.code yX0_dryForAnHour cX0_dryForAnHour 1 none, Cond.fieldLink RX0 45 "SewingFrames$Book" "hoursToDry" "I", Cond.methodLink RX3 111 yX3_sewAt, Cond.instanceMethod yX3_sewAt, Cond.selects RX3 yX3_sewAt yX3_sewAt, Cond.code yX3_sewAt cX3_sewAt 6 none, Cond.fieldLink RX3 136 "SewingFrames$Frame" "number" "I", Cond.fieldLink RX3 34 "SewingFrames$Workshop" "thread" "I", Cond.methodLink RX3 140 Lib.Math.min.name, Cond.static Lib.Math.min.name, Cond.initialized "java/lang/Math", Cond.code Lib.Math.min.name Lib.Math.min.code 2 (some .int), Cond.fieldLink RX3 66 "SewingFrames$Workshop" "sewn" "I", Cond.fieldLink RX3 147 "SewingFrames$Frame" "sewn" "I", Cond.fieldLink RX3 151 "SewingFrames$Book" "loose" "I", Cond.fieldLink RX3 69 "SewingFrames$Workshop" "loose" "I", Cond.methodLink RX3 132 yX3_bookNumbered, Cond.instanceMethod yX3_bookNumbered, Cond.selects RX3 yX3_bookNumbered yX3_bookNumbered, Cond.code yX3_bookNumbered cX3_bookNumbered 2 (some (.object "SewingFrames$Book")), Cond.fieldLink RX3 57 "SewingFrames$Workshop" "bookCount" "I", Cond.methodLink RX3 137 yX3_stitchesAnHour, Cond.instanceMethod yX3_stitchesAnHour]
def wsX3_letAnHourGo_r4 : List Cond := [Cond.selects RX3 yX3_stitchesAnHour yX3_stitchesAnHour, Cond.code yX3_stitchesAnHour cX3_stitchesAnHour 8 (some .int), Cond.fieldLink RX3 22 "SewingFrames$Workshop" "sewers" "[LSewingFrames$Sewer;", Cond.fieldLink RX3 78 "SewingFrames$Sewer" "frame" "I", Cond.fieldLink RX3 86 "SewingFrames$Sewer" "speed" "I", Cond.methodLink RX3 89 Lib.Math.max.name, Cond.static Lib.Math.max.name, Cond.code Lib.Math.max.name Lib.Math.max.code 2 (some .int), Cond.methodLink RX3 143 yX0_isSewn, Cond.instanceMethod yX0_isSewn, Cond.selects RX0 yX0_isSewn yX0_isSewn, Cond.code yX0_isSewn cX0_isSewn 1 (some .boolean), Cond.fieldLink RX0 36 "SewingFrames$Book" "wholeSignatures" "I", Cond.methodLink RX3 148 yX0_addStitch, Cond.instanceMethod yX0_addStitch, Cond.selects RX0 yX0_addStitch yX0_addStitch, Cond.code yX0_addStitch cX0_addStitch 1 (some .boolean), Cond.fieldLink RX0 33 "SewingFrames$Book" "stitches" "I", Cond.fieldLink RX0 39 "SewingFrames$Book" "stitchesOfNext" "I", Cond.methodLink RX0 55 yX0_stitchesOfSignature, Cond.instanceMethod yX0_stitchesOfSignature, Cond.selects RX0 yX0_stitchesOfSignature yX0_stitchesOfSignature, Cond.code yX0_stitchesOfSignature cX0_stitchesOfSignature 3 (some .int), Cond.fieldLink RX0 30 "SewingFrames$Book" "cords" "I"]
def wsX3_letAnHourGo_r5 : List Cond := [Cond.methodLink RX3 152 yX0_beginToDry, Cond.instanceMethod yX0_beginToDry, Cond.selects RX0 yX0_beginToDry yX0_beginToDry, Cond.code yX0_beginToDry cX0_beginToDry 1 none, Cond.fieldLink RX0 18 "SewingFrames$Book" "frame" "I", Cond.methodLink RX3 114 yX3_mountOn, Cond.instanceMethod yX3_mountOn, Cond.selects RX3 yX3_mountOn yX3_mountOn, Cond.code yX3_mountOn cX3_mountOn 6 none, Cond.fieldLink RX3 155 "SewingFrames$Frame" "cords" "I", Cond.fieldLink RX3 75 "SewingFrames$Book" "number" "I", Cond.methodLink RX3 158 yX0_mount, Cond.instanceMethod yX0_mount, Cond.selects RX0 yX0_mount yX0_mount, Cond.code yX0_mount cX0_mount 3 none]
def wsX3_letAnHourGo : List Cond := .code yX3_letAnHourGo cX3_letAnHourGo 6 (some .int) :: ((wsX3_letAnHourGo_r1 ++ (wsX3_letAnHourGo_r2 ++ (wsX3_letAnHourGo_r3 ++ (wsX3_letAnHourGo_r4 ++ wsX3_letAnHourGo_r5)))) ++ wsX30 ++ wsX10 ++ wsX00 ++ wsX20)
def wsX3_letHoursGo_r1 : List Cond := [Cond.methodLink RX3 94 yX3_letAnHourGo, Cond.instanceMethod yX3_letAnHourGo, Cond.selects RX3 yX3_letAnHourGo yX3_letAnHourGo, Cond.initialized RX3, Cond.code yX3_letAnHourGo cX3_letAnHourGo 6 (some .int), Cond.fieldLink RX3 29 "SewingFrames$Workshop" "frames" "[LSewingFrames$Frame;", Cond.fieldLink RX3 72 "SewingFrames$Frame" "book" "I", Cond.fieldLink RX3 63 "SewingFrames$Workshop" "hour" "I", Cond.methodLink RX3 98 yX3_booksAt, Cond.instanceMethod yX3_booksAt, Cond.selects RX3 yX3_booksAt yX3_booksAt, Cond.code yX3_booksAt cX3_booksAt 7 (some .int), Cond.fieldLink RX3 11 "SewingFrames$Workshop" "books" "[LSewingFrames$Book;", Cond.fieldLink RX3 117 "SewingFrames$Book" "stage" "I", Cond.methodLink RX3 102 yX3_gild, Cond.instanceMethod yX3_gild, Cond.selects RX3 yX3_gild yX3_gild, Cond.code yX3_gild cX3_gild 6 none, Cond.fieldLink RX3 41 "SewingFrames$Workshop" "gold" "I", Cond.methodLink RX3 120 yX0_leavesForAnEdge, Cond.instanceMethod yX0_leavesForAnEdge, Cond.selects RX0 yX0_leavesForAnEdge yX0_leavesForAnEdge, Cond.initialized RX0, Cond.code yX0_leavesForAnEdge cX0_leavesForAnEdge 1 (some .int)]
def wsX3_letHoursGo_r2 : List Cond := [Cond.methodLink RX0 51 yX0_thickness, Cond.instanceMethod yX0_thickness, Cond.selects RX0 yX0_thickness yX0_thickness, Cond.code yX0_thickness cX0_thickness 1 (some .int), Cond.fieldLink RX0 21 "SewingFrames$Book" "signatures" "I", Cond.fieldLink RX0 24 "SewingFrames$Book" "sheets" "I", Cond.methodLink RX3 123 yX0_gildAnEdge, Cond.instanceMethod yX0_gildAnEdge, Cond.selects RX0 yX0_gildAnEdge yX0_gildAnEdge, Cond.code yX0_gildAnEdge cX0_gildAnEdge 1 none, Cond.fieldLink RX0 48 "SewingFrames$Book" "gilt" "I", Cond.fieldLink RX0 27 "SewingFrames$Book" "edges" "I", Cond.fieldLink RX0 15 "SewingFrames$Book" "stage" "I", Cond.methodLink RX3 105 yX3_giveBoards, Cond.instanceMethod yX3_giveBoards, Cond.selects RX3 yX3_giveBoards yX3_giveBoards, Cond.code yX3_giveBoards cX3_giveBoards 5 none, Cond.fieldLink RX3 38 "SewingFrames$Workshop" "boards" "I", Cond.methodLink RX3 126 yX0_bind, Cond.instanceMethod yX0_bind, Cond.selects RX0 yX0_bind yX0_bind, Cond.code yX0_bind cX0_bind 1 none, Cond.methodLink RX3 108 yX3_dry, Cond.instanceMethod yX3_dry]
def wsX3_letHoursGo_r3 : List Cond := [Cond.selects RX3 yX3_dry yX3_dry, Cond.code yX3_dry cX3_dry 5 none, Cond.methodLink RX3 129 yX0_dryForAnHour, Cond.instanceMethod yX0_dryForAnHour, Cond.selects RX0 yX0_dryForAnHour yX0_dryForAnHour, Cond.code yX0_dryForAnHour cX0_dryForAnHour 1 none, Cond.fieldLink RX0 45 "SewingFrames$Book" "hoursToDry" "I", Cond.methodLink RX3 111 yX3_sewAt, Cond.instanceMethod yX3_sewAt, Cond.selects RX3 yX3_sewAt yX3_sewAt, Cond.code yX3_sewAt cX3_sewAt 6 none, Cond.fieldLink RX3 136 "SewingFrames$Frame" "number" "I", Cond.fieldLink RX3 34 "SewingFrames$Workshop" "thread" "I", Cond.methodLink RX3 140 Lib.Math.min.name, Cond.static Lib.Math.min.name, Cond.initialized "java/lang/Math", Cond.code Lib.Math.min.name Lib.Math.min.code 2 (some .int), Cond.fieldLink RX3 66 "SewingFrames$Workshop" "sewn" "I", Cond.fieldLink RX3 147 "SewingFrames$Frame" "sewn" "I", Cond.fieldLink RX3 151 "SewingFrames$Book" "loose" "I", Cond.fieldLink RX3 69 "SewingFrames$Workshop" "loose" "I", Cond.methodLink RX3 132 yX3_bookNumbered, Cond.instanceMethod yX3_bookNumbered, Cond.selects RX3 yX3_bookNumbered yX3_bookNumbered]
def wsX3_letHoursGo_r4 : List Cond := [Cond.code yX3_bookNumbered cX3_bookNumbered 2 (some (.object "SewingFrames$Book")), Cond.fieldLink RX3 57 "SewingFrames$Workshop" "bookCount" "I", Cond.methodLink RX3 137 yX3_stitchesAnHour, Cond.instanceMethod yX3_stitchesAnHour, Cond.selects RX3 yX3_stitchesAnHour yX3_stitchesAnHour, Cond.code yX3_stitchesAnHour cX3_stitchesAnHour 8 (some .int), Cond.fieldLink RX3 22 "SewingFrames$Workshop" "sewers" "[LSewingFrames$Sewer;", Cond.fieldLink RX3 78 "SewingFrames$Sewer" "frame" "I", Cond.fieldLink RX3 86 "SewingFrames$Sewer" "speed" "I", Cond.methodLink RX3 89 Lib.Math.max.name, Cond.static Lib.Math.max.name, Cond.code Lib.Math.max.name Lib.Math.max.code 2 (some .int), Cond.methodLink RX3 143 yX0_isSewn, Cond.instanceMethod yX0_isSewn, Cond.selects RX0 yX0_isSewn yX0_isSewn, Cond.code yX0_isSewn cX0_isSewn 1 (some .boolean), Cond.fieldLink RX0 36 "SewingFrames$Book" "wholeSignatures" "I", Cond.methodLink RX3 148 yX0_addStitch, Cond.instanceMethod yX0_addStitch, Cond.selects RX0 yX0_addStitch yX0_addStitch, Cond.code yX0_addStitch cX0_addStitch 1 (some .boolean), Cond.fieldLink RX0 33 "SewingFrames$Book" "stitches" "I", Cond.fieldLink RX0 39 "SewingFrames$Book" "stitchesOfNext" "I", Cond.methodLink RX0 55 yX0_stitchesOfSignature]
def wsX3_letHoursGo_r5 : List Cond := [Cond.instanceMethod yX0_stitchesOfSignature, Cond.selects RX0 yX0_stitchesOfSignature yX0_stitchesOfSignature, Cond.code yX0_stitchesOfSignature cX0_stitchesOfSignature 3 (some .int), Cond.fieldLink RX0 30 "SewingFrames$Book" "cords" "I", Cond.methodLink RX3 152 yX0_beginToDry, Cond.instanceMethod yX0_beginToDry, Cond.selects RX0 yX0_beginToDry yX0_beginToDry, Cond.code yX0_beginToDry cX0_beginToDry 1 none, Cond.fieldLink RX0 18 "SewingFrames$Book" "frame" "I", Cond.methodLink RX3 114 yX3_mountOn, Cond.instanceMethod yX3_mountOn, Cond.selects RX3 yX3_mountOn yX3_mountOn, Cond.code yX3_mountOn cX3_mountOn 6 none, Cond.fieldLink RX3 155 "SewingFrames$Frame" "cords" "I", Cond.fieldLink RX3 75 "SewingFrames$Book" "number" "I", Cond.methodLink RX3 158 yX0_mount, Cond.instanceMethod yX0_mount, Cond.selects RX0 yX0_mount yX0_mount, Cond.code yX0_mount cX0_mount 3 none]
def wsX3_letHoursGo : List Cond := .code yX3_letHoursGo cX3_letHoursGo 4 (some .int) :: ((wsX3_letHoursGo_r1 ++ (wsX3_letHoursGo_r2 ++ (wsX3_letHoursGo_r3 ++ (wsX3_letHoursGo_r4 ++ wsX3_letHoursGo_r5)))) ++ wsX30 ++ wsX10 ++ wsX00 ++ wsX20)
def wsX3_tellOfFrame_r1 : List Cond := [Cond.fieldLink RX3 72 "SewingFrames$Frame" "book" "I", Cond.fieldLink RX3 155 "SewingFrames$Frame" "cords" "I", Cond.fieldLink RX3 136 "SewingFrames$Frame" "number" "I", Cond.fieldLink RX3 147 "SewingFrames$Frame" "sewn" "I", Cond.methodLink RX3 132 yX3_bookNumbered, Cond.instanceMethod yX3_bookNumbered, Cond.selects RX3 yX3_bookNumbered yX3_bookNumbered, Cond.initialized RX3, Cond.code yX3_bookNumbered cX3_bookNumbered 2 (some (.object "SewingFrames$Book")), Cond.fieldLink RX3 57 "SewingFrames$Workshop" "bookCount" "I", Cond.fieldLink RX3 11 "SewingFrames$Workshop" "books" "[LSewingFrames$Book;", Cond.methodLink RX3 162 yX3_sittersAt, Cond.instanceMethod yX3_sittersAt, Cond.selects RX3 yX3_sittersAt yX3_sittersAt, Cond.code yX3_sittersAt cX3_sittersAt 2 (some .int), Cond.methodLink RX3 82 yX3_othersAt, Cond.instanceMethod yX3_othersAt, Cond.selects RX3 yX3_othersAt yX3_othersAt, Cond.code yX3_othersAt cX3_othersAt 8 (some .int), Cond.fieldLink RX3 22 "SewingFrames$Workshop" "sewers" "[LSewingFrames$Sewer;", Cond.fieldLink RX3 78 "SewingFrames$Sewer" "frame" "I", Cond.fieldLink RX3 81 "SewingFrames$Sewer" "number" "I", Cond.methodLink RX3 137 yX3_stitchesAnHour, Cond.instanceMethod yX3_stitchesAnHour]
def wsX3_tellOfFrame_r2 : List Cond := [Cond.selects RX3 yX3_stitchesAnHour yX3_stitchesAnHour, Cond.code yX3_stitchesAnHour cX3_stitchesAnHour 8 (some .int), Cond.fieldLink RX3 86 "SewingFrames$Sewer" "speed" "I", Cond.methodLink RX3 89 Lib.Math.max.name, Cond.static Lib.Math.max.name, Cond.initialized "java/lang/Math", Cond.code Lib.Math.max.name Lib.Math.max.code 2 (some .int), Cond.methodLink RX3 165 yX0_stitchesToSew, Cond.instanceMethod yX0_stitchesToSew, Cond.selects RX0 yX0_stitchesToSew yX0_stitchesToSew, Cond.initialized RX0, Cond.code yX0_stitchesToSew cX0_stitchesToSew 3 (some .int), Cond.fieldLink RX0 21 "SewingFrames$Book" "signatures" "I", Cond.fieldLink RX0 33 "SewingFrames$Book" "stitches" "I", Cond.methodLink RX0 55 yX0_stitchesOfSignature, Cond.instanceMethod yX0_stitchesOfSignature, Cond.selects RX0 yX0_stitchesOfSignature yX0_stitchesOfSignature, Cond.code yX0_stitchesOfSignature cX0_stitchesOfSignature 3 (some .int), Cond.fieldLink RX0 30 "SewingFrames$Book" "cords" "I"]
def wsX3_tellOfFrame : List Cond := .code yX3_tellOfFrame cX3_tellOfFrame 4 (some .int) :: ((wsX3_tellOfFrame_r1 ++ wsX3_tellOfFrame_r2) ++ wsX10 ++ wsX30 ++ wsX20 ++ wsX00)
def wsX3_tellOfAll : List Cond := .code yX3_tellOfAll cX3_tellOfAll 2 (some .int) :: ([.fieldLink RX3 63 "SewingFrames$Workshop" "hour" "I", .fieldLink RX3 57 "SewingFrames$Workshop" "bookCount" "I", .fieldLink RX3 44 "SewingFrames$Workshop" "coins" "I", .fieldLink RX3 34 "SewingFrames$Workshop" "thread" "I", .fieldLink RX3 38 "SewingFrames$Workshop" "boards" "I", .fieldLink RX3 41 "SewingFrames$Workshop" "gold" "I", .fieldLink RX3 66 "SewingFrames$Workshop" "sewn" "I", .fieldLink RX3 69 "SewingFrames$Workshop" "loose" "I", .methodLink RX3 98 yX3_booksAt, .instanceMethod yX3_booksAt, .selects RX3 yX3_booksAt yX3_booksAt, .initialized RX3, .code yX3_booksAt cX3_booksAt 7 (some .int), .fieldLink RX3 11 "SewingFrames$Workshop" "books" "[LSewingFrames$Book;", .fieldLink RX3 117 "SewingFrames$Book" "stage" "I"] ++ wsX30 ++ wsX00)
def wsX4_init_r1 : List Cond := [Cond.methodLink RX4 1 objectInit, Cond.instanceMethod objectInit, Cond.code objectInit ⟨#[0xb1]⟩ 1 none, Cond.classLink RX4 7 RX3, Cond.instantiable RX3 12, Cond.initialized RX3, Cond.fieldLink RX4 10 "SewingFrames" "now" "LSewingFrames$Workshop;", Cond.fieldLink RX4 16 "SewingFrames" "ahead" "LSewingFrames$Workshop;", Cond.methodLink RX4 9 yX3_init, Cond.instanceMethod yX3_init, Cond.code yX3_init cX3_init 2 none, Cond.methodLink RX3 3 objectInit, Cond.classLink RX3 9 RX0, Cond.fieldLink RX3 11 "SewingFrames$Workshop" "books" "[LSewingFrames$Book;", Cond.instantiable RX0 13, Cond.initialized RX0, Cond.classLink RX3 20 RX2, Cond.fieldLink RX3 22 "SewingFrames$Workshop" "sewers" "[LSewingFrames$Sewer;", Cond.instantiable RX2 3, Cond.initialized RX2, Cond.classLink RX3 27 RX1, Cond.fieldLink RX3 29 "SewingFrames$Workshop" "frames" "[LSewingFrames$Frame;", Cond.instantiable RX1 4, Cond.initialized RX1]
def wsX4_init_r2 : List Cond := [Cond.fieldLink RX3 34 "SewingFrames$Workshop" "thread" "I", Cond.fieldLink RX3 38 "SewingFrames$Workshop" "boards" "I", Cond.fieldLink RX3 41 "SewingFrames$Workshop" "gold" "I", Cond.fieldLink RX3 44 "SewingFrames$Workshop" "coins" "I", Cond.methodLink RX3 17 yX0_init, Cond.instanceMethod yX0_init, Cond.code yX0_init cX0_init 2 none, Cond.methodLink RX0 3 objectInit, Cond.fieldLink RX0 9 "SewingFrames$Book" "number" "I", Cond.fieldLink RX0 15 "SewingFrames$Book" "stage" "I", Cond.fieldLink RX0 18 "SewingFrames$Book" "frame" "I", Cond.methodLink RX3 26 yX2_init, Cond.instanceMethod yX2_init, Cond.code yX2_init cX2_init 2 none, Cond.methodLink RX2 3 objectInit, Cond.fieldLink RX2 9 "SewingFrames$Sewer" "number" "I", Cond.fieldLink RX2 15 "SewingFrames$Sewer" "frame" "I", Cond.methodLink RX3 33 yX1_init, Cond.instanceMethod yX1_init, Cond.code yX1_init cX1_init 2 none, Cond.methodLink RX1 3 objectInit, Cond.fieldLink RX1 9 "SewingFrames$Frame" "number" "I", Cond.fieldLink RX1 15 "SewingFrames$Frame" "cords" "I", Cond.fieldLink RX1 18 "SewingFrames$Frame" "book" "I"]
def wsX4_init : List Cond := .code yX4_init cX4_init 1 none :: ((wsX4_init_r1 ++ wsX4_init_r2) ++ wsX30 ++ wsX40 ++ wsX00 ++ wsX20 ++ wsX10)
def wsX4_order : List Cond := .code yX4_order cX4_order 5 (some .int) :: ([.classLink RX4 19 "java/lang/IllegalArgumentException", .initialized "java/lang/IllegalArgumentException", .classLink RX4 34 "java/lang/IllegalStateException", .initialized "java/lang/IllegalStateException", .fieldLink RX4 10 "SewingFrames" "now" "LSewingFrames$Workshop;", .fieldLink RX4 45 "SewingFrames$Workshop" "bookCount" "I", .fieldLink RX4 49 "SewingFrames$Book" "number" "I", .methodLink RX4 30 yX3_freeBook, .instanceMethod yX3_freeBook, .selects RX3 yX3_freeBook yX3_freeBook, .initialized RX3, .code yX3_freeBook cX3_freeBook 1 (some (.object "SewingFrames$Book")), .fieldLink RX3 57 "SewingFrames$Workshop" "bookCount" "I", .fieldLink RX3 11 "SewingFrames$Workshop" "books" "[LSewingFrames$Book;", .methodLink RX4 39 yX0_begin, .instanceMethod yX0_begin, .selects RX0 yX0_begin yX0_begin, .initialized RX0, .code yX0_begin cX0_begin 4 none, .fieldLink RX0 21 "SewingFrames$Book" "signatures" "I", .fieldLink RX0 24 "SewingFrames$Book" "sheets" "I", .fieldLink RX0 27 "SewingFrames$Book" "edges" "I", .fieldLink RX0 15 "SewingFrames$Book" "stage" "I"] ++ wsX40 ++ wsX30 ++ wsX00 ++ (vx_atS RX4 23 "java/lang/IllegalArgumentException" ["java/lang/RuntimeException", "java/lang/Exception"]).filter goodWord ++ (vx_atS RX4 38 "java/lang/IllegalStateException" ["java/lang/RuntimeException", "java/lang/Exception"]).filter goodWord)
def wsX4_knownBook : List Cond := .code yX4_knownBook cX4_knownBook 3 (some (.object "SewingFrames$Book")) :: ([.classLink RX4 109 "java/lang/IndexOutOfBoundsException", .initialized "java/lang/IndexOutOfBoundsException", .fieldLink RX4 10 "SewingFrames" "now" "LSewingFrames$Workshop;", .methodLink RX4 172 yX3_bookNumbered, .instanceMethod yX3_bookNumbered, .selects RX3 yX3_bookNumbered yX3_bookNumbered, .initialized RX3, .code yX3_bookNumbered cX3_bookNumbered 2 (some (.object "SewingFrames$Book")), .fieldLink RX3 57 "SewingFrames$Workshop" "bookCount" "I", .fieldLink RX3 11 "SewingFrames$Workshop" "books" "[LSewingFrames$Book;"] ++ wsX40 ++ wsX30 ++ (vx_atS RX4 113 "java/lang/IndexOutOfBoundsException" ["java/lang/RuntimeException", "java/lang/Exception"]).filter goodWord)
def wsX4_unpick_r1 : List Cond := [Cond.classLink RX4 34 "java/lang/IllegalStateException", Cond.initialized "java/lang/IllegalStateException", Cond.fieldLink RX4 56 "SewingFrames$Book" "stage" "I", Cond.fieldLink RX4 61 "SewingFrames$Book" "stitches" "I", Cond.fieldLink RX4 10 "SewingFrames" "now" "LSewingFrames$Workshop;", Cond.methodLink RX4 52 yX4_knownBook, Cond.instanceMethod yX4_knownBook, Cond.selects RX4 yX4_knownBook yX4_knownBook, Cond.initialized RX4, Cond.code yX4_knownBook cX4_knownBook 3 (some (.object "SewingFrames$Book")), Cond.classLink RX4 109 "java/lang/IndexOutOfBoundsException", Cond.initialized "java/lang/IndexOutOfBoundsException", Cond.methodLink RX4 172 yX3_bookNumbered, Cond.instanceMethod yX3_bookNumbered, Cond.selects RX3 yX3_bookNumbered yX3_bookNumbered, Cond.initialized RX3, Cond.code yX3_bookNumbered cX3_bookNumbered 2 (some (.object "SewingFrames$Book")), Cond.fieldLink RX3 57 "SewingFrames$Workshop" "bookCount" "I", Cond.fieldLink RX3 11 "SewingFrames$Workshop" "books" "[LSewingFrames$Book;", Cond.methodLink RX4 64 yX3_clearFrameOf, Cond.instanceMethod yX3_clearFrameOf, Cond.selects RX3 yX3_clearFrameOf yX3_clearFrameOf, Cond.code yX3_clearFrameOf cX3_clearFrameOf 6 none, Cond.fieldLink RX3 29 "SewingFrames$Workshop" "frames" "[LSewingFrames$Frame;"]
def wsX4_unpick_r2 : List Cond := [Cond.fieldLink RX3 72 "SewingFrames$Frame" "book" "I", Cond.fieldLink RX3 75 "SewingFrames$Book" "number" "I", Cond.methodLink RX4 68 yX0_undo, Cond.instanceMethod yX0_undo, Cond.selects RX0 yX0_undo yX0_undo, Cond.initialized RX0, Cond.code yX0_undo cX0_undo 1 none, Cond.fieldLink RX0 15 "SewingFrames$Book" "stage" "I", Cond.fieldLink RX0 18 "SewingFrames$Book" "frame" "I", Cond.fieldLink RX0 30 "SewingFrames$Book" "cords" "I", Cond.fieldLink RX0 33 "SewingFrames$Book" "stitches" "I", Cond.fieldLink RX0 36 "SewingFrames$Book" "wholeSignatures" "I", Cond.fieldLink RX0 39 "SewingFrames$Book" "stitchesOfNext" "I", Cond.fieldLink RX0 42 "SewingFrames$Book" "loose" "I"]
def wsX4_unpick : List Cond := .code yX4_unpick cX4_unpick 4 (some .int) :: ((wsX4_unpick_r1 ++ wsX4_unpick_r2) ++ wsX00 ++ wsX40 ++ wsX30 ++ wsX10 ++ (vx_atS RX4 38 "java/lang/IllegalStateException" ["java/lang/RuntimeException", "java/lang/Exception"]).filter goodWord ++ (vx_atS RX4 113 "java/lang/IndexOutOfBoundsException" ["java/lang/RuntimeException", "java/lang/Exception"]).filter goodWord)
def wsX4_sell_r1 : List Cond := [Cond.classLink RX4 34 "java/lang/IllegalStateException", Cond.initialized "java/lang/IllegalStateException", Cond.fieldLink RX4 56 "SewingFrames$Book" "stage" "I", Cond.fieldLink RX4 10 "SewingFrames" "now" "LSewingFrames$Workshop;", Cond.fieldLink RX4 73 "SewingFrames$Workshop" "coins" "I", Cond.methodLink RX4 52 yX4_knownBook, Cond.instanceMethod yX4_knownBook, Cond.selects RX4 yX4_knownBook yX4_knownBook, Cond.initialized RX4, Cond.code yX4_knownBook cX4_knownBook 3 (some (.object "SewingFrames$Book")), Cond.classLink RX4 109 "java/lang/IndexOutOfBoundsException", Cond.initialized "java/lang/IndexOutOfBoundsException", Cond.methodLink RX4 172 yX3_bookNumbered, Cond.instanceMethod yX3_bookNumbered, Cond.selects RX3 yX3_bookNumbered yX3_bookNumbered, Cond.initialized RX3, Cond.code yX3_bookNumbered cX3_bookNumbered 2 (some (.object "SewingFrames$Book")), Cond.fieldLink RX3 57 "SewingFrames$Workshop" "bookCount" "I", Cond.fieldLink RX3 11 "SewingFrames$Workshop" "books" "[LSewingFrames$Book;", Cond.methodLink RX4 76 yX0_value, Cond.instanceMethod yX0_value, Cond.selects RX0 yX0_value yX0_value, Cond.initialized RX0, Cond.code yX0_value cX0_value 1 (some .int)]
def wsX4_sell_r2 : List Cond := [Cond.fieldLink RX0 21 "SewingFrames$Book" "signatures" "I", Cond.fieldLink RX0 30 "SewingFrames$Book" "cords" "I", Cond.fieldLink RX0 48 "SewingFrames$Book" "gilt" "I", Cond.fieldLink RX0 42 "SewingFrames$Book" "loose" "I", Cond.methodLink RX0 59 Lib.Math.max.name, Cond.static Lib.Math.max.name, Cond.initialized "java/lang/Math", Cond.code Lib.Math.max.name Lib.Math.max.code 2 (some .int)]
def wsX4_sell : List Cond := .code yX4_sell cX4_sell 3 (some .int) :: ((wsX4_sell_r1 ++ wsX4_sell_r2) ++ wsX00 ++ wsX40 ++ wsX30 ++ (vx_atS RX4 38 "java/lang/IllegalStateException" ["java/lang/RuntimeException", "java/lang/Exception"]).filter goodWord ++ (vx_atS RX4 113 "java/lang/IndexOutOfBoundsException" ["java/lang/RuntimeException", "java/lang/Exception"]).filter goodWord)
def wsX4_checkKind : List Cond := .code yX4_checkKind cX4_checkKind 2 none :: ([.classLink RX4 109 "java/lang/IndexOutOfBoundsException", .initialized "java/lang/IndexOutOfBoundsException"] ++ (vx_atS RX4 113 "java/lang/IndexOutOfBoundsException" ["java/lang/RuntimeException", "java/lang/Exception"]).filter goodWord)
def wsX4_told_r1 : List Cond := [Cond.methodLink RX4 52 yX4_knownBook, Cond.instanceMethod yX4_knownBook, Cond.selects RX4 yX4_knownBook yX4_knownBook, Cond.initialized RX4, Cond.code yX4_knownBook cX4_knownBook 3 (some (.object "SewingFrames$Book")), Cond.classLink RX4 109 "java/lang/IndexOutOfBoundsException", Cond.initialized "java/lang/IndexOutOfBoundsException", Cond.fieldLink RX4 10 "SewingFrames" "now" "LSewingFrames$Workshop;", Cond.methodLink RX4 172 yX3_bookNumbered, Cond.instanceMethod yX3_bookNumbered, Cond.selects RX3 yX3_bookNumbered yX3_bookNumbered, Cond.initialized RX3, Cond.code yX3_bookNumbered cX3_bookNumbered 2 (some (.object "SewingFrames$Book")), Cond.fieldLink RX3 57 "SewingFrames$Workshop" "bookCount" "I", Cond.fieldLink RX3 11 "SewingFrames$Workshop" "books" "[LSewingFrames$Book;", Cond.methodLink RX4 80 yX4_checkKind, Cond.static yX4_checkKind, Cond.code yX4_checkKind cX4_checkKind 2 none, Cond.methodLink RX4 84 yX0_tell, Cond.instanceMethod yX0_tell, Cond.selects RX0 yX0_tell yX0_tell, Cond.initialized RX0, Cond.code yX0_tell cX0_tell 2 (some .int), Cond.fieldLink RX0 21 "SewingFrames$Book" "signatures" "I"]
def wsX4_told_r2 : List Cond := [Cond.fieldLink RX0 24 "SewingFrames$Book" "sheets" "I", Cond.fieldLink RX0 27 "SewingFrames$Book" "edges" "I", Cond.fieldLink RX0 15 "SewingFrames$Book" "stage" "I", Cond.fieldLink RX0 18 "SewingFrames$Book" "frame" "I", Cond.fieldLink RX0 36 "SewingFrames$Book" "wholeSignatures" "I", Cond.fieldLink RX0 39 "SewingFrames$Book" "stitchesOfNext" "I", Cond.fieldLink RX0 42 "SewingFrames$Book" "loose" "I", Cond.fieldLink RX0 45 "SewingFrames$Book" "hoursToDry" "I", Cond.fieldLink RX0 48 "SewingFrames$Book" "gilt" "I", Cond.methodLink RX0 65 yX0_value, Cond.instanceMethod yX0_value, Cond.selects RX0 yX0_value yX0_value, Cond.code yX0_value cX0_value 1 (some .int), Cond.fieldLink RX0 30 "SewingFrames$Book" "cords" "I", Cond.methodLink RX0 59 Lib.Math.max.name, Cond.static Lib.Math.max.name, Cond.initialized "java/lang/Math", Cond.code Lib.Math.max.name Lib.Math.max.code 2 (some .int)]
def wsX4_told : List Cond := .code yX4_told cX4_told 4 (some .int) :: ((wsX4_told_r1 ++ wsX4_told_r2) ++ wsX40 ++ wsX30 ++ wsX00 ++ (vx_atS RX4 113 "java/lang/IndexOutOfBoundsException" ["java/lang/RuntimeException", "java/lang/Exception"]).filter goodWord)
def wsX4_hire : List Cond := .code yX4_hire cX4_hire 3 (some .int) :: ([.classLink RX4 19 "java/lang/IllegalArgumentException", .initialized "java/lang/IllegalArgumentException", .classLink RX4 34 "java/lang/IllegalStateException", .initialized "java/lang/IllegalStateException", .fieldLink RX4 10 "SewingFrames" "now" "LSewingFrames$Workshop;", .fieldLink RX4 96 "SewingFrames$Sewer" "speed" "I", .fieldLink RX4 101 "SewingFrames$Workshop" "sewerCount" "I", .fieldLink RX4 104 "SewingFrames$Sewer" "number" "I", .methodLink RX4 90 yX3_freeSewer, .instanceMethod yX3_freeSewer, .selects RX3 yX3_freeSewer yX3_freeSewer, .initialized RX3, .code yX3_freeSewer cX3_freeSewer 1 (some (.object "SewingFrames$Sewer")), .fieldLink RX3 60 "SewingFrames$Workshop" "sewerCount" "I", .fieldLink RX3 22 "SewingFrames$Workshop" "sewers" "[LSewingFrames$Sewer;"] ++ wsX40 ++ wsX20 ++ wsX30 ++ (vx_atS RX4 23 "java/lang/IllegalArgumentException" ["java/lang/RuntimeException", "java/lang/Exception"]).filter goodWord ++ (vx_atS RX4 38 "java/lang/IllegalStateException" ["java/lang/RuntimeException", "java/lang/Exception"]).filter goodWord)
def wsX4_knownSewer : List Cond := .code yX4_knownSewer cX4_knownSewer 3 (some (.object "SewingFrames$Sewer")) :: ([.classLink RX4 109 "java/lang/IndexOutOfBoundsException", .initialized "java/lang/IndexOutOfBoundsException", .fieldLink RX4 10 "SewingFrames" "now" "LSewingFrames$Workshop;", .methodLink RX4 202 yX3_sewerNumbered, .instanceMethod yX3_sewerNumbered, .selects RX3 yX3_sewerNumbered yX3_sewerNumbered, .initialized RX3, .code yX3_sewerNumbered cX3_sewerNumbered 2 (some (.object "SewingFrames$Sewer")), .fieldLink RX3 60 "SewingFrames$Workshop" "sewerCount" "I", .fieldLink RX3 22 "SewingFrames$Workshop" "sewers" "[LSewingFrames$Sewer;"] ++ wsX40 ++ wsX30 ++ (vx_atS RX4 113 "java/lang/IndexOutOfBoundsException" ["java/lang/RuntimeException", "java/lang/Exception"]).filter goodWord)
def wsX4_seat : List Cond := .code yX4_seat cX4_seat 5 (some .int) :: ([.classLink RX4 109 "java/lang/IndexOutOfBoundsException", .initialized "java/lang/IndexOutOfBoundsException", .classLink RX4 34 "java/lang/IllegalStateException", .initialized "java/lang/IllegalStateException", .fieldLink RX4 10 "SewingFrames" "now" "LSewingFrames$Workshop;", .fieldLink RX4 120 "SewingFrames$Sewer" "frame" "I", .methodLink RX4 105 yX4_knownSewer, .instanceMethod yX4_knownSewer, .selects RX4 yX4_knownSewer yX4_knownSewer, .initialized RX4, .code yX4_knownSewer cX4_knownSewer 3 (some (.object "SewingFrames$Sewer")), .methodLink RX4 202 yX3_sewerNumbered, .instanceMethod yX3_sewerNumbered, .selects RX3 yX3_sewerNumbered yX3_sewerNumbered, .initialized RX3, .code yX3_sewerNumbered cX3_sewerNumbered 2 (some (.object "SewingFrames$Sewer")), .fieldLink RX3 60 "SewingFrames$Workshop" "sewerCount" "I", .fieldLink RX3 22 "SewingFrames$Workshop" "sewers" "[LSewingFrames$Sewer;", .methodLink RX4 114 yX3_othersAt, .instanceMethod yX3_othersAt, .selects RX3 yX3_othersAt yX3_othersAt, .code yX3_othersAt cX3_othersAt 8 (some .int), .fieldLink RX3 78 "SewingFrames$Sewer" "frame" "I", .fieldLink RX3 81 "SewingFrames$Sewer" "number" "I"] ++ wsX40 ++ wsX20 ++ wsX30 ++ (vx_atS RX4 113 "java/lang/IndexOutOfBoundsException" ["java/lang/RuntimeException", "java/lang/Exception"]).filter goodWord ++ (vx_atS RX4 38 "java/lang/IllegalStateException" ["java/lang/RuntimeException", "java/lang/Exception"]).filter goodWord)
def wsX4_knownFrame : List Cond := .code yX4_knownFrame cX4_knownFrame 2 (some (.object "SewingFrames$Frame")) :: ([.classLink RX4 109 "java/lang/IndexOutOfBoundsException", .initialized "java/lang/IndexOutOfBoundsException", .fieldLink RX4 10 "SewingFrames" "now" "LSewingFrames$Workshop;", .fieldLink RX4 192 "SewingFrames$Workshop" "frames" "[LSewingFrames$Frame;"] ++ wsX40 ++ wsX30 ++ (vx_atS RX4 113 "java/lang/IndexOutOfBoundsException" ["java/lang/RuntimeException", "java/lang/Exception"]).filter goodWord)
def wsX4_string : List Cond := .code yX4_string cX4_string 5 (some .int) :: ([.classLink RX4 19 "java/lang/IllegalArgumentException", .initialized "java/lang/IllegalArgumentException", .classLink RX4 34 "java/lang/IllegalStateException", .initialized "java/lang/IllegalStateException", .fieldLink RX4 130 "SewingFrames$Frame" "book" "I", .fieldLink RX4 137 "SewingFrames$Frame" "cords" "I", .methodLink RX4 124 yX4_knownFrame, .instanceMethod yX4_knownFrame, .selects RX4 yX4_knownFrame yX4_knownFrame, .initialized RX4, .code yX4_knownFrame cX4_knownFrame 2 (some (.object "SewingFrames$Frame")), .classLink RX4 109 "java/lang/IndexOutOfBoundsException", .initialized "java/lang/IndexOutOfBoundsException", .fieldLink RX4 10 "SewingFrames" "now" "LSewingFrames$Workshop;", .fieldLink RX4 192 "SewingFrames$Workshop" "frames" "[LSewingFrames$Frame;"] ++ wsX10 ++ wsX40 ++ wsX30 ++ (vx_atS RX4 23 "java/lang/IllegalArgumentException" ["java/lang/RuntimeException", "java/lang/Exception"]).filter goodWord ++ (vx_atS RX4 38 "java/lang/IllegalStateException" ["java/lang/RuntimeException", "java/lang/Exception"]).filter goodWord ++ (vx_atS RX4 113 "java/lang/IndexOutOfBoundsException" ["java/lang/RuntimeException", "java/lang/Exception"]).filter goodWord)
def wsX4_frame_r1 : List Cond := [Cond.fieldLink RX4 10 "SewingFrames" "now" "LSewingFrames$Workshop;", Cond.methodLink RX4 124 yX4_knownFrame, Cond.instanceMethod yX4_knownFrame, Cond.selects RX4 yX4_knownFrame yX4_knownFrame, Cond.initialized RX4, Cond.code yX4_knownFrame cX4_knownFrame 2 (some (.object "SewingFrames$Frame")), Cond.classLink RX4 109 "java/lang/IndexOutOfBoundsException", Cond.initialized "java/lang/IndexOutOfBoundsException", Cond.fieldLink RX4 192 "SewingFrames$Workshop" "frames" "[LSewingFrames$Frame;", Cond.methodLink RX4 80 yX4_checkKind, Cond.static yX4_checkKind, Cond.code yX4_checkKind cX4_checkKind 2 none, Cond.methodLink RX4 140 yX3_tellOfFrame, Cond.instanceMethod yX3_tellOfFrame, Cond.selects RX3 yX3_tellOfFrame yX3_tellOfFrame, Cond.initialized RX3, Cond.code yX3_tellOfFrame cX3_tellOfFrame 4 (some .int), Cond.fieldLink RX3 72 "SewingFrames$Frame" "book" "I", Cond.fieldLink RX3 155 "SewingFrames$Frame" "cords" "I", Cond.fieldLink RX3 136 "SewingFrames$Frame" "number" "I", Cond.fieldLink RX3 147 "SewingFrames$Frame" "sewn" "I", Cond.methodLink RX3 132 yX3_bookNumbered, Cond.instanceMethod yX3_bookNumbered, Cond.selects RX3 yX3_bookNumbered yX3_bookNumbered]
def wsX4_frame_r2 : List Cond := [Cond.code yX3_bookNumbered cX3_bookNumbered 2 (some (.object "SewingFrames$Book")), Cond.fieldLink RX3 57 "SewingFrames$Workshop" "bookCount" "I", Cond.fieldLink RX3 11 "SewingFrames$Workshop" "books" "[LSewingFrames$Book;", Cond.methodLink RX3 162 yX3_sittersAt, Cond.instanceMethod yX3_sittersAt, Cond.selects RX3 yX3_sittersAt yX3_sittersAt, Cond.code yX3_sittersAt cX3_sittersAt 2 (some .int), Cond.methodLink RX3 82 yX3_othersAt, Cond.instanceMethod yX3_othersAt, Cond.selects RX3 yX3_othersAt yX3_othersAt, Cond.code yX3_othersAt cX3_othersAt 8 (some .int), Cond.fieldLink RX3 22 "SewingFrames$Workshop" "sewers" "[LSewingFrames$Sewer;", Cond.fieldLink RX3 78 "SewingFrames$Sewer" "frame" "I", Cond.fieldLink RX3 81 "SewingFrames$Sewer" "number" "I", Cond.methodLink RX3 137 yX3_stitchesAnHour, Cond.instanceMethod yX3_stitchesAnHour, Cond.selects RX3 yX3_stitchesAnHour yX3_stitchesAnHour, Cond.code yX3_stitchesAnHour cX3_stitchesAnHour 8 (some .int), Cond.fieldLink RX3 86 "SewingFrames$Sewer" "speed" "I", Cond.methodLink RX3 89 Lib.Math.max.name, Cond.static Lib.Math.max.name, Cond.initialized "java/lang/Math", Cond.code Lib.Math.max.name Lib.Math.max.code 2 (some .int), Cond.methodLink RX3 165 yX0_stitchesToSew]
def wsX4_frame_r3 : List Cond := [Cond.instanceMethod yX0_stitchesToSew, Cond.selects RX0 yX0_stitchesToSew yX0_stitchesToSew, Cond.initialized RX0, Cond.code yX0_stitchesToSew cX0_stitchesToSew 3 (some .int), Cond.fieldLink RX0 21 "SewingFrames$Book" "signatures" "I", Cond.fieldLink RX0 33 "SewingFrames$Book" "stitches" "I", Cond.methodLink RX0 55 yX0_stitchesOfSignature, Cond.instanceMethod yX0_stitchesOfSignature, Cond.selects RX0 yX0_stitchesOfSignature yX0_stitchesOfSignature, Cond.code yX0_stitchesOfSignature cX0_stitchesOfSignature 3 (some .int), Cond.fieldLink RX0 30 "SewingFrames$Book" "cords" "I"]
def wsX4_frame : List Cond := .code yX4_frame cX4_frame 4 (some .int) :: ((wsX4_frame_r1 ++ (wsX4_frame_r2 ++ wsX4_frame_r3)) ++ wsX40 ++ wsX30 ++ wsX10 ++ wsX20 ++ wsX00 ++ (vx_atS RX4 113 "java/lang/IndexOutOfBoundsException" ["java/lang/RuntimeException", "java/lang/Exception"]).filter goodWord)
def wsX4_priceOf : List Cond := .code yX4_priceOf cX4_priceOf 2 (some .int) :: ([])
def wsX4_buy : List Cond := .code yX4_buy cX4_buy 4 (some .int) :: ([.classLink RX4 109 "java/lang/IndexOutOfBoundsException", .initialized "java/lang/IndexOutOfBoundsException", .classLink RX4 19 "java/lang/IllegalArgumentException", .initialized "java/lang/IllegalArgumentException", .classLink RX4 34 "java/lang/IllegalStateException", .initialized "java/lang/IllegalStateException", .fieldLink RX4 10 "SewingFrames" "now" "LSewingFrames$Workshop;", .fieldLink RX4 73 "SewingFrames$Workshop" "coins" "I", .methodLink RX4 148 yX4_priceOf, .static yX4_priceOf, .initialized RX4, .code yX4_priceOf cX4_priceOf 2 (some .int), .methodLink RX4 153 yX3_store, .instanceMethod yX3_store, .selects RX3 yX3_store yX3_store, .initialized RX3, .code yX3_store cX3_store 3 (some .int), .fieldLink RX3 34 "SewingFrames$Workshop" "thread" "I", .fieldLink RX3 38 "SewingFrames$Workshop" "boards" "I", .fieldLink RX3 41 "SewingFrames$Workshop" "gold" "I"] ++ wsX40 ++ wsX30 ++ (vx_atS RX4 113 "java/lang/IndexOutOfBoundsException" ["java/lang/RuntimeException", "java/lang/Exception"]).filter goodWord ++ (vx_atS RX4 23 "java/lang/IllegalArgumentException" ["java/lang/RuntimeException", "java/lang/Exception"]).filter goodWord ++ (vx_atS RX4 38 "java/lang/IllegalStateException" ["java/lang/RuntimeException", "java/lang/Exception"]).filter goodWord)
def wsX4_count_r1 : List Cond := [Cond.fieldLink RX4 10 "SewingFrames" "now" "LSewingFrames$Workshop;", Cond.methodLink RX4 80 yX4_checkKind, Cond.static yX4_checkKind, Cond.initialized RX4, Cond.code yX4_checkKind cX4_checkKind 2 none, Cond.classLink RX4 109 "java/lang/IndexOutOfBoundsException", Cond.initialized "java/lang/IndexOutOfBoundsException", Cond.methodLink RX4 156 yX3_tellOfAll, Cond.instanceMethod yX3_tellOfAll, Cond.selects RX3 yX3_tellOfAll yX3_tellOfAll, Cond.initialized RX3, Cond.code yX3_tellOfAll cX3_tellOfAll 2 (some .int), Cond.fieldLink RX3 63 "SewingFrames$Workshop" "hour" "I", Cond.fieldLink RX3 57 "SewingFrames$Workshop" "bookCount" "I", Cond.fieldLink RX3 44 "SewingFrames$Workshop" "coins" "I", Cond.fieldLink RX3 34 "SewingFrames$Workshop" "thread" "I", Cond.fieldLink RX3 38 "SewingFrames$Workshop" "boards" "I", Cond.fieldLink RX3 41 "SewingFrames$Workshop" "gold" "I", Cond.fieldLink RX3 66 "SewingFrames$Workshop" "sewn" "I", Cond.fieldLink RX3 69 "SewingFrames$Workshop" "loose" "I", Cond.methodLink RX3 98 yX3_booksAt, Cond.instanceMethod yX3_booksAt, Cond.selects RX3 yX3_booksAt yX3_booksAt, Cond.code yX3_booksAt cX3_booksAt 7 (some .int)]
def wsX4_count_r2 : List Cond := [Cond.fieldLink RX3 11 "SewingFrames$Workshop" "books" "[LSewingFrames$Book;", Cond.fieldLink RX3 117 "SewingFrames$Book" "stage" "I"]
def wsX4_count : List Cond := .code yX4_count cX4_count 2 (some .int) :: ((wsX4_count_r1 ++ wsX4_count_r2) ++ wsX40 ++ wsX30 ++ wsX00 ++ (vx_atS RX4 113 "java/lang/IndexOutOfBoundsException" ["java/lang/RuntimeException", "java/lang/Exception"]).filter goodWord)
def wsX4_checkHours : List Cond := .code yX4_checkHours cX4_checkHours 1 none :: ([.classLink RX4 19 "java/lang/IllegalArgumentException", .initialized "java/lang/IllegalArgumentException"] ++ (vx_atS RX4 23 "java/lang/IllegalArgumentException" ["java/lang/RuntimeException", "java/lang/Exception"]).filter goodWord)
def wsX4_pass_r1 : List Cond := [Cond.fieldLink RX4 10 "SewingFrames" "now" "LSewingFrames$Workshop;", Cond.methodLink RX4 159 yX4_checkHours, Cond.static yX4_checkHours, Cond.initialized RX4, Cond.code yX4_checkHours cX4_checkHours 1 none, Cond.classLink RX4 19 "java/lang/IllegalArgumentException", Cond.initialized "java/lang/IllegalArgumentException", Cond.methodLink RX4 163 yX3_letHoursGo, Cond.instanceMethod yX3_letHoursGo, Cond.selects RX3 yX3_letHoursGo yX3_letHoursGo, Cond.initialized RX3, Cond.code yX3_letHoursGo cX3_letHoursGo 4 (some .int), Cond.methodLink RX3 94 yX3_letAnHourGo, Cond.instanceMethod yX3_letAnHourGo, Cond.selects RX3 yX3_letAnHourGo yX3_letAnHourGo, Cond.code yX3_letAnHourGo cX3_letAnHourGo 6 (some .int), Cond.fieldLink RX3 29 "SewingFrames$Workshop" "frames" "[LSewingFrames$Frame;", Cond.fieldLink RX3 72 "SewingFrames$Frame" "book" "I", Cond.fieldLink RX3 63 "SewingFrames$Workshop" "hour" "I", Cond.methodLink RX3 98 yX3_booksAt, Cond.instanceMethod yX3_booksAt, Cond.selects RX3 yX3_booksAt yX3_booksAt, Cond.code yX3_booksAt cX3_booksAt 7 (some .int), Cond.fieldLink RX3 11 "SewingFrames$Workshop" "books" "[LSewingFrames$Book;"]
def wsX4_pass_r2 : List Cond := [Cond.fieldLink RX3 117 "SewingFrames$Book" "stage" "I", Cond.methodLink RX3 102 yX3_gild, Cond.instanceMethod yX3_gild, Cond.selects RX3 yX3_gild yX3_gild, Cond.code yX3_gild cX3_gild 6 none, Cond.fieldLink RX3 41 "SewingFrames$Workshop" "gold" "I", Cond.methodLink RX3 120 yX0_leavesForAnEdge, Cond.instanceMethod yX0_leavesForAnEdge, Cond.selects RX0 yX0_leavesForAnEdge yX0_leavesForAnEdge, Cond.initialized RX0, Cond.code yX0_leavesForAnEdge cX0_leavesForAnEdge 1 (some .int), Cond.methodLink RX0 51 yX0_thickness, Cond.instanceMethod yX0_thickness, Cond.selects RX0 yX0_thickness yX0_thickness, Cond.code yX0_thickness cX0_thickness 1 (some .int), Cond.fieldLink RX0 21 "SewingFrames$Book" "signatures" "I", Cond.fieldLink RX0 24 "SewingFrames$Book" "sheets" "I", Cond.methodLink RX3 123 yX0_gildAnEdge, Cond.instanceMethod yX0_gildAnEdge, Cond.selects RX0 yX0_gildAnEdge yX0_gildAnEdge, Cond.code yX0_gildAnEdge cX0_gildAnEdge 1 none, Cond.fieldLink RX0 48 "SewingFrames$Book" "gilt" "I", Cond.fieldLink RX0 27 "SewingFrames$Book" "edges" "I", Cond.fieldLink RX0 15 "SewingFrames$Book" "stage" "I"]
def wsX4_pass_r3 : List Cond := [Cond.methodLink RX3 105 yX3_giveBoards, Cond.instanceMethod yX3_giveBoards, Cond.selects RX3 yX3_giveBoards yX3_giveBoards, Cond.code yX3_giveBoards cX3_giveBoards 5 none, Cond.fieldLink RX3 38 "SewingFrames$Workshop" "boards" "I", Cond.methodLink RX3 126 yX0_bind, Cond.instanceMethod yX0_bind, Cond.selects RX0 yX0_bind yX0_bind, Cond.code yX0_bind cX0_bind 1 none, Cond.methodLink RX3 108 yX3_dry, Cond.instanceMethod yX3_dry, Cond.selects RX3 yX3_dry yX3_dry, Cond.code yX3_dry cX3_dry 5 none, Cond.methodLink RX3 129 yX0_dryForAnHour, Cond.instanceMethod yX0_dryForAnHour, Cond.selects RX0 yX0_dryForAnHour yX0_dryForAnHour, Cond.code yX0_dryForAnHour cX0_dryForAnHour 1 none, Cond.fieldLink RX0 45 "SewingFrames$Book" "hoursToDry" "I", Cond.methodLink RX3 111 yX3_sewAt, Cond.instanceMethod yX3_sewAt, Cond.selects RX3 yX3_sewAt yX3_sewAt, Cond.code yX3_sewAt cX3_sewAt 6 none, Cond.fieldLink RX3 136 "SewingFrames$Frame" "number" "I", Cond.fieldLink RX3 34 "SewingFrames$Workshop" "thread" "I"]
def wsX4_pass_r4 : List Cond := [Cond.methodLink RX3 140 Lib.Math.min.name, Cond.static Lib.Math.min.name, Cond.initialized "java/lang/Math", Cond.code Lib.Math.min.name Lib.Math.min.code 2 (some .int), Cond.fieldLink RX3 66 "SewingFrames$Workshop" "sewn" "I", Cond.fieldLink RX3 147 "SewingFrames$Frame" "sewn" "I", Cond.fieldLink RX3 151 "SewingFrames$Book" "loose" "I", Cond.fieldLink RX3 69 "SewingFrames$Workshop" "loose" "I", Cond.methodLink RX3 132 yX3_bookNumbered, Cond.instanceMethod yX3_bookNumbered, Cond.selects RX3 yX3_bookNumbered yX3_bookNumbered, Cond.code yX3_bookNumbered cX3_bookNumbered 2 (some (.object "SewingFrames$Book")), Cond.fieldLink RX3 57 "SewingFrames$Workshop" "bookCount" "I", Cond.methodLink RX3 137 yX3_stitchesAnHour, Cond.instanceMethod yX3_stitchesAnHour, Cond.selects RX3 yX3_stitchesAnHour yX3_stitchesAnHour, Cond.code yX3_stitchesAnHour cX3_stitchesAnHour 8 (some .int), Cond.fieldLink RX3 22 "SewingFrames$Workshop" "sewers" "[LSewingFrames$Sewer;", Cond.fieldLink RX3 78 "SewingFrames$Sewer" "frame" "I", Cond.fieldLink RX3 86 "SewingFrames$Sewer" "speed" "I", Cond.methodLink RX3 89 Lib.Math.max.name, Cond.static Lib.Math.max.name, Cond.code Lib.Math.max.name Lib.Math.max.code 2 (some .int), Cond.methodLink RX3 143 yX0_isSewn]
def wsX4_pass_r5 : List Cond := [Cond.instanceMethod yX0_isSewn, Cond.selects RX0 yX0_isSewn yX0_isSewn, Cond.code yX0_isSewn cX0_isSewn 1 (some .boolean), Cond.fieldLink RX0 36 "SewingFrames$Book" "wholeSignatures" "I", Cond.methodLink RX3 148 yX0_addStitch, Cond.instanceMethod yX0_addStitch, Cond.selects RX0 yX0_addStitch yX0_addStitch, Cond.code yX0_addStitch cX0_addStitch 1 (some .boolean), Cond.fieldLink RX0 33 "SewingFrames$Book" "stitches" "I", Cond.fieldLink RX0 39 "SewingFrames$Book" "stitchesOfNext" "I", Cond.methodLink RX0 55 yX0_stitchesOfSignature, Cond.instanceMethod yX0_stitchesOfSignature, Cond.selects RX0 yX0_stitchesOfSignature yX0_stitchesOfSignature, Cond.code yX0_stitchesOfSignature cX0_stitchesOfSignature 3 (some .int), Cond.fieldLink RX0 30 "SewingFrames$Book" "cords" "I", Cond.methodLink RX3 152 yX0_beginToDry, Cond.instanceMethod yX0_beginToDry, Cond.selects RX0 yX0_beginToDry yX0_beginToDry, Cond.code yX0_beginToDry cX0_beginToDry 1 none, Cond.fieldLink RX0 18 "SewingFrames$Book" "frame" "I", Cond.methodLink RX3 114 yX3_mountOn, Cond.instanceMethod yX3_mountOn, Cond.selects RX3 yX3_mountOn yX3_mountOn, Cond.code yX3_mountOn cX3_mountOn 6 none]
def wsX4_pass_r6 : List Cond := [Cond.fieldLink RX3 155 "SewingFrames$Frame" "cords" "I", Cond.fieldLink RX3 75 "SewingFrames$Book" "number" "I", Cond.methodLink RX3 158 yX0_mount, Cond.instanceMethod yX0_mount, Cond.selects RX0 yX0_mount yX0_mount, Cond.code yX0_mount cX0_mount 3 none]
def wsX4_pass : List Cond := .code yX4_pass cX4_pass 2 (some .int) :: ((wsX4_pass_r1 ++ (wsX4_pass_r2 ++ (wsX4_pass_r3 ++ (wsX4_pass_r4 ++ (wsX4_pass_r5 ++ wsX4_pass_r6))))) ++ wsX40 ++ wsX30 ++ wsX10 ++ wsX00 ++ wsX20 ++ (vx_atS RX4 23 "java/lang/IllegalArgumentException" ["java/lang/RuntimeException", "java/lang/Exception"]).filter goodWord)
def wsX4_foresee_r1 : List Cond := [Cond.classLink RX4 109 "java/lang/IndexOutOfBoundsException", Cond.initialized "java/lang/IndexOutOfBoundsException", Cond.fieldLink RX4 16 "SewingFrames" "ahead" "LSewingFrames$Workshop;", Cond.fieldLink RX4 10 "SewingFrames" "now" "LSewingFrames$Workshop;", Cond.methodLink RX4 159 yX4_checkHours, Cond.static yX4_checkHours, Cond.initialized RX4, Cond.code yX4_checkHours cX4_checkHours 1 none, Cond.classLink RX4 19 "java/lang/IllegalArgumentException", Cond.initialized "java/lang/IllegalArgumentException", Cond.methodLink RX4 168 yX3_setTo, Cond.instanceMethod yX3_setTo, Cond.selects RX3 yX3_setTo yX3_setTo, Cond.initialized RX3, Cond.code yX3_setTo cX3_setTo 3 none, Cond.fieldLink RX3 11 "SewingFrames$Workshop" "books" "[LSewingFrames$Book;", Cond.fieldLink RX3 22 "SewingFrames$Workshop" "sewers" "[LSewingFrames$Sewer;", Cond.fieldLink RX3 29 "SewingFrames$Workshop" "frames" "[LSewingFrames$Frame;", Cond.fieldLink RX3 57 "SewingFrames$Workshop" "bookCount" "I", Cond.fieldLink RX3 60 "SewingFrames$Workshop" "sewerCount" "I", Cond.fieldLink RX3 63 "SewingFrames$Workshop" "hour" "I", Cond.fieldLink RX3 44 "SewingFrames$Workshop" "coins" "I", Cond.fieldLink RX3 34 "SewingFrames$Workshop" "thread" "I", Cond.fieldLink RX3 38 "SewingFrames$Workshop" "boards" "I"]
def wsX4_foresee_r2 : List Cond := [Cond.fieldLink RX3 41 "SewingFrames$Workshop" "gold" "I", Cond.fieldLink RX3 66 "SewingFrames$Workshop" "sewn" "I", Cond.fieldLink RX3 69 "SewingFrames$Workshop" "loose" "I", Cond.methodLink RX3 47 yX0_setTo, Cond.instanceMethod yX0_setTo, Cond.selects RX0 yX0_setTo yX0_setTo, Cond.initialized RX0, Cond.code yX0_setTo cX0_setTo 2 none, Cond.fieldLink RX0 21 "SewingFrames$Book" "signatures" "I", Cond.fieldLink RX0 24 "SewingFrames$Book" "sheets" "I", Cond.fieldLink RX0 27 "SewingFrames$Book" "edges" "I", Cond.fieldLink RX0 15 "SewingFrames$Book" "stage" "I", Cond.fieldLink RX0 18 "SewingFrames$Book" "frame" "I", Cond.fieldLink RX0 30 "SewingFrames$Book" "cords" "I", Cond.fieldLink RX0 33 "SewingFrames$Book" "stitches" "I", Cond.fieldLink RX0 36 "SewingFrames$Book" "wholeSignatures" "I", Cond.fieldLink RX0 39 "SewingFrames$Book" "stitchesOfNext" "I", Cond.fieldLink RX0 42 "SewingFrames$Book" "loose" "I", Cond.fieldLink RX0 45 "SewingFrames$Book" "hoursToDry" "I", Cond.fieldLink RX0 48 "SewingFrames$Book" "gilt" "I", Cond.methodLink RX3 51 yX2_setTo, Cond.instanceMethod yX2_setTo, Cond.selects RX2 yX2_setTo yX2_setTo, Cond.initialized RX2]
def wsX4_foresee_r3 : List Cond := [Cond.code yX2_setTo cX2_setTo 2 none, Cond.fieldLink RX2 18 "SewingFrames$Sewer" "speed" "I", Cond.fieldLink RX2 15 "SewingFrames$Sewer" "frame" "I", Cond.methodLink RX3 54 yX1_setTo, Cond.instanceMethod yX1_setTo, Cond.selects RX1 yX1_setTo yX1_setTo, Cond.initialized RX1, Cond.code yX1_setTo cX1_setTo 2 none, Cond.fieldLink RX1 15 "SewingFrames$Frame" "cords" "I", Cond.fieldLink RX1 18 "SewingFrames$Frame" "book" "I", Cond.fieldLink RX1 21 "SewingFrames$Frame" "sewn" "I", Cond.methodLink RX4 163 yX3_letHoursGo, Cond.instanceMethod yX3_letHoursGo, Cond.selects RX3 yX3_letHoursGo yX3_letHoursGo, Cond.code yX3_letHoursGo cX3_letHoursGo 4 (some .int), Cond.methodLink RX3 94 yX3_letAnHourGo, Cond.instanceMethod yX3_letAnHourGo, Cond.selects RX3 yX3_letAnHourGo yX3_letAnHourGo, Cond.code yX3_letAnHourGo cX3_letAnHourGo 6 (some .int), Cond.fieldLink RX3 72 "SewingFrames$Frame" "book" "I", Cond.methodLink RX3 98 yX3_booksAt, Cond.instanceMethod yX3_booksAt, Cond.selects RX3 yX3_booksAt yX3_booksAt, Cond.code yX3_booksAt cX3_booksAt 7 (some .int)]
def wsX4_foresee_r4 : List Cond := [Cond.fieldLink RX3 117 "SewingFrames$Book" "stage" "I", Cond.methodLink RX3 102 yX3_gild, Cond.instanceMethod yX3_gild, Cond.selects RX3 yX3_gild yX3_gild, Cond.code yX3_gild cX3_gild 6 none, Cond.methodLink RX3 120 yX0_leavesForAnEdge, Cond.instanceMethod yX0_leavesForAnEdge, Cond.selects RX0 yX0_leavesForAnEdge yX0_leavesForAnEdge, Cond.code yX0_leavesForAnEdge cX0_leavesForAnEdge 1 (some .int), Cond.methodLink RX0 51 yX0_thickness, Cond.instanceMethod yX0_thickness, Cond.selects RX0 yX0_thickness yX0_thickness, Cond.code yX0_thickness cX0_thickness 1 (some .int), Cond.methodLink RX3 123 yX0_gildAnEdge, Cond.instanceMethod yX0_gildAnEdge, Cond.selects RX0 yX0_gildAnEdge yX0_gildAnEdge, Cond.code yX0_gildAnEdge cX0_gildAnEdge 1 none, Cond.methodLink RX3 105 yX3_giveBoards, Cond.instanceMethod yX3_giveBoards, Cond.selects RX3 yX3_giveBoards yX3_giveBoards, Cond.code yX3_giveBoards cX3_giveBoards 5 none, Cond.methodLink RX3 126 yX0_bind, Cond.instanceMethod yX0_bind, Cond.selects RX0 yX0_bind yX0_bind]
def wsX4_foresee_r5 : List Cond := [Cond.code yX0_bind cX0_bind 1 none, Cond.methodLink RX3 108 yX3_dry, Cond.instanceMethod yX3_dry, Cond.selects RX3 yX3_dry yX3_dry, Cond.code yX3_dry cX3_dry 5 none, Cond.methodLink RX3 129 yX0_dryForAnHour, Cond.instanceMethod yX0_dryForAnHour, Cond.selects RX0 yX0_dryForAnHour yX0_dryForAnHour, Cond.code yX0_dryForAnHour cX0_dryForAnHour 1 none, Cond.methodLink RX3 111 yX3_sewAt, Cond.instanceMethod yX3_sewAt, Cond.selects RX3 yX3_sewAt yX3_sewAt, Cond.code yX3_sewAt cX3_sewAt 6 none, Cond.fieldLink RX3 136 "SewingFrames$Frame" "number" "I", Cond.methodLink RX3 140 Lib.Math.min.name, Cond.static Lib.Math.min.name, Cond.initialized "java/lang/Math", Cond.code Lib.Math.min.name Lib.Math.min.code 2 (some .int), Cond.fieldLink RX3 147 "SewingFrames$Frame" "sewn" "I", Cond.fieldLink RX3 151 "SewingFrames$Book" "loose" "I", Cond.methodLink RX3 132 yX3_bookNumbered, Cond.instanceMethod yX3_bookNumbered, Cond.selects RX3 yX3_bookNumbered yX3_bookNumbered, Cond.code yX3_bookNumbered cX3_bookNumbered 2 (some (.object "SewingFrames$Book"))]
def wsX4_foresee_r6 : List Cond := [Cond.methodLink RX3 137 yX3_stitchesAnHour, Cond.instanceMethod yX3_stitchesAnHour, Cond.selects RX3 yX3_stitchesAnHour yX3_stitchesAnHour, Cond.code yX3_stitchesAnHour cX3_stitchesAnHour 8 (some .int), Cond.fieldLink RX3 78 "SewingFrames$Sewer" "frame" "I", Cond.fieldLink RX3 86 "SewingFrames$Sewer" "speed" "I", Cond.methodLink RX3 89 Lib.Math.max.name, Cond.static Lib.Math.max.name, Cond.code Lib.Math.max.name Lib.Math.max.code 2 (some .int), Cond.methodLink RX3 143 yX0_isSewn, Cond.instanceMethod yX0_isSewn, Cond.selects RX0 yX0_isSewn yX0_isSewn, Cond.code yX0_isSewn cX0_isSewn 1 (some .boolean), Cond.methodLink RX3 148 yX0_addStitch, Cond.instanceMethod yX0_addStitch, Cond.selects RX0 yX0_addStitch yX0_addStitch, Cond.code yX0_addStitch cX0_addStitch 1 (some .boolean), Cond.methodLink RX0 55 yX0_stitchesOfSignature, Cond.instanceMethod yX0_stitchesOfSignature, Cond.selects RX0 yX0_stitchesOfSignature yX0_stitchesOfSignature, Cond.code yX0_stitchesOfSignature cX0_stitchesOfSignature 3 (some .int), Cond.methodLink RX3 152 yX0_beginToDry, Cond.instanceMethod yX0_beginToDry, Cond.selects RX0 yX0_beginToDry yX0_beginToDry]
def wsX4_foresee_r7 : List Cond := [Cond.code yX0_beginToDry cX0_beginToDry 1 none, Cond.methodLink RX3 114 yX3_mountOn, Cond.instanceMethod yX3_mountOn, Cond.selects RX3 yX3_mountOn yX3_mountOn, Cond.code yX3_mountOn cX3_mountOn 6 none, Cond.fieldLink RX3 155 "SewingFrames$Frame" "cords" "I", Cond.fieldLink RX3 75 "SewingFrames$Book" "number" "I", Cond.methodLink RX3 158 yX0_mount, Cond.instanceMethod yX0_mount, Cond.selects RX0 yX0_mount yX0_mount, Cond.code yX0_mount cX0_mount 3 none, Cond.methodLink RX4 156 yX3_tellOfAll, Cond.instanceMethod yX3_tellOfAll, Cond.selects RX3 yX3_tellOfAll yX3_tellOfAll, Cond.code yX3_tellOfAll cX3_tellOfAll 2 (some .int)]
def wsX4_foresee : List Cond := .code yX4_foresee cX4_foresee 3 (some .int) :: ((wsX4_foresee_r1 ++ (wsX4_foresee_r2 ++ (wsX4_foresee_r3 ++ (wsX4_foresee_r4 ++ (wsX4_foresee_r5 ++ (wsX4_foresee_r6 ++ wsX4_foresee_r7)))))) ++ wsX40 ++ wsX30 ++ wsX00 ++ wsX20 ++ wsX10 ++ (vx_atS RX4 113 "java/lang/IndexOutOfBoundsException" ["java/lang/RuntimeException", "java/lang/Exception"]).filter goodWord ++ (vx_atS RX4 23 "java/lang/IllegalArgumentException" ["java/lang/RuntimeException", "java/lang/Exception"]).filter goodWord)
def wsX4_until_r1 : List Cond := [Cond.fieldLink RX4 56 "SewingFrames$Book" "stage" "I", Cond.fieldLink RX4 16 "SewingFrames" "ahead" "LSewingFrames$Workshop;", Cond.fieldLink RX4 10 "SewingFrames" "now" "LSewingFrames$Workshop;", Cond.methodLink RX4 52 yX4_knownBook, Cond.instanceMethod yX4_knownBook, Cond.selects RX4 yX4_knownBook yX4_knownBook, Cond.initialized RX4, Cond.code yX4_knownBook cX4_knownBook 3 (some (.object "SewingFrames$Book")), Cond.classLink RX4 109 "java/lang/IndexOutOfBoundsException", Cond.initialized "java/lang/IndexOutOfBoundsException", Cond.methodLink RX4 172 yX3_bookNumbered, Cond.instanceMethod yX3_bookNumbered, Cond.selects RX3 yX3_bookNumbered yX3_bookNumbered, Cond.initialized RX3, Cond.code yX3_bookNumbered cX3_bookNumbered 2 (some (.object "SewingFrames$Book")), Cond.fieldLink RX3 57 "SewingFrames$Workshop" "bookCount" "I", Cond.fieldLink RX3 11 "SewingFrames$Workshop" "books" "[LSewingFrames$Book;", Cond.methodLink RX4 168 yX3_setTo, Cond.instanceMethod yX3_setTo, Cond.selects RX3 yX3_setTo yX3_setTo, Cond.code yX3_setTo cX3_setTo 3 none, Cond.fieldLink RX3 22 "SewingFrames$Workshop" "sewers" "[LSewingFrames$Sewer;", Cond.fieldLink RX3 29 "SewingFrames$Workshop" "frames" "[LSewingFrames$Frame;", Cond.fieldLink RX3 60 "SewingFrames$Workshop" "sewerCount" "I"]
def wsX4_until_r2 : List Cond := [Cond.fieldLink RX3 63 "SewingFrames$Workshop" "hour" "I", Cond.fieldLink RX3 44 "SewingFrames$Workshop" "coins" "I", Cond.fieldLink RX3 34 "SewingFrames$Workshop" "thread" "I", Cond.fieldLink RX3 38 "SewingFrames$Workshop" "boards" "I", Cond.fieldLink RX3 41 "SewingFrames$Workshop" "gold" "I", Cond.fieldLink RX3 66 "SewingFrames$Workshop" "sewn" "I", Cond.fieldLink RX3 69 "SewingFrames$Workshop" "loose" "I", Cond.methodLink RX3 47 yX0_setTo, Cond.instanceMethod yX0_setTo, Cond.selects RX0 yX0_setTo yX0_setTo, Cond.initialized RX0, Cond.code yX0_setTo cX0_setTo 2 none, Cond.fieldLink RX0 21 "SewingFrames$Book" "signatures" "I", Cond.fieldLink RX0 24 "SewingFrames$Book" "sheets" "I", Cond.fieldLink RX0 27 "SewingFrames$Book" "edges" "I", Cond.fieldLink RX0 15 "SewingFrames$Book" "stage" "I", Cond.fieldLink RX0 18 "SewingFrames$Book" "frame" "I", Cond.fieldLink RX0 30 "SewingFrames$Book" "cords" "I", Cond.fieldLink RX0 33 "SewingFrames$Book" "stitches" "I", Cond.fieldLink RX0 36 "SewingFrames$Book" "wholeSignatures" "I", Cond.fieldLink RX0 39 "SewingFrames$Book" "stitchesOfNext" "I", Cond.fieldLink RX0 42 "SewingFrames$Book" "loose" "I", Cond.fieldLink RX0 45 "SewingFrames$Book" "hoursToDry" "I", Cond.fieldLink RX0 48 "SewingFrames$Book" "gilt" "I"]
def wsX4_until_r3 : List Cond := [Cond.methodLink RX3 51 yX2_setTo, Cond.instanceMethod yX2_setTo, Cond.selects RX2 yX2_setTo yX2_setTo, Cond.initialized RX2, Cond.code yX2_setTo cX2_setTo 2 none, Cond.fieldLink RX2 18 "SewingFrames$Sewer" "speed" "I", Cond.fieldLink RX2 15 "SewingFrames$Sewer" "frame" "I", Cond.methodLink RX3 54 yX1_setTo, Cond.instanceMethod yX1_setTo, Cond.selects RX1 yX1_setTo yX1_setTo, Cond.initialized RX1, Cond.code yX1_setTo cX1_setTo 2 none, Cond.fieldLink RX1 15 "SewingFrames$Frame" "cords" "I", Cond.fieldLink RX1 18 "SewingFrames$Frame" "book" "I", Cond.fieldLink RX1 21 "SewingFrames$Frame" "sewn" "I", Cond.methodLink RX4 175 yX3_letAnHourGo, Cond.instanceMethod yX3_letAnHourGo, Cond.selects RX3 yX3_letAnHourGo yX3_letAnHourGo, Cond.code yX3_letAnHourGo cX3_letAnHourGo 6 (some .int), Cond.fieldLink RX3 72 "SewingFrames$Frame" "book" "I", Cond.methodLink RX3 98 yX3_booksAt, Cond.instanceMethod yX3_booksAt, Cond.selects RX3 yX3_booksAt yX3_booksAt, Cond.code yX3_booksAt cX3_booksAt 7 (some .int)]
def wsX4_until_r4 : List Cond := [Cond.fieldLink RX3 117 "SewingFrames$Book" "stage" "I", Cond.methodLink RX3 102 yX3_gild, Cond.instanceMethod yX3_gild, Cond.selects RX3 yX3_gild yX3_gild, Cond.code yX3_gild cX3_gild 6 none, Cond.methodLink RX3 120 yX0_leavesForAnEdge, Cond.instanceMethod yX0_leavesForAnEdge, Cond.selects RX0 yX0_leavesForAnEdge yX0_leavesForAnEdge, Cond.code yX0_leavesForAnEdge cX0_leavesForAnEdge 1 (some .int), Cond.methodLink RX0 51 yX0_thickness, Cond.instanceMethod yX0_thickness, Cond.selects RX0 yX0_thickness yX0_thickness, Cond.code yX0_thickness cX0_thickness 1 (some .int), Cond.methodLink RX3 123 yX0_gildAnEdge, Cond.instanceMethod yX0_gildAnEdge, Cond.selects RX0 yX0_gildAnEdge yX0_gildAnEdge, Cond.code yX0_gildAnEdge cX0_gildAnEdge 1 none, Cond.methodLink RX3 105 yX3_giveBoards, Cond.instanceMethod yX3_giveBoards, Cond.selects RX3 yX3_giveBoards yX3_giveBoards, Cond.code yX3_giveBoards cX3_giveBoards 5 none, Cond.methodLink RX3 126 yX0_bind, Cond.instanceMethod yX0_bind, Cond.selects RX0 yX0_bind yX0_bind]
def wsX4_until_r5 : List Cond := [Cond.code yX0_bind cX0_bind 1 none, Cond.methodLink RX3 108 yX3_dry, Cond.instanceMethod yX3_dry, Cond.selects RX3 yX3_dry yX3_dry, Cond.code yX3_dry cX3_dry 5 none, Cond.methodLink RX3 129 yX0_dryForAnHour, Cond.instanceMethod yX0_dryForAnHour, Cond.selects RX0 yX0_dryForAnHour yX0_dryForAnHour, Cond.code yX0_dryForAnHour cX0_dryForAnHour 1 none, Cond.methodLink RX3 111 yX3_sewAt, Cond.instanceMethod yX3_sewAt, Cond.selects RX3 yX3_sewAt yX3_sewAt, Cond.code yX3_sewAt cX3_sewAt 6 none, Cond.fieldLink RX3 136 "SewingFrames$Frame" "number" "I", Cond.methodLink RX3 140 Lib.Math.min.name, Cond.static Lib.Math.min.name, Cond.initialized "java/lang/Math", Cond.code Lib.Math.min.name Lib.Math.min.code 2 (some .int), Cond.fieldLink RX3 147 "SewingFrames$Frame" "sewn" "I", Cond.fieldLink RX3 151 "SewingFrames$Book" "loose" "I", Cond.methodLink RX3 132 yX3_bookNumbered, Cond.methodLink RX3 137 yX3_stitchesAnHour, Cond.instanceMethod yX3_stitchesAnHour, Cond.selects RX3 yX3_stitchesAnHour yX3_stitchesAnHour]
def wsX4_until_r6 : List Cond := [Cond.code yX3_stitchesAnHour cX3_stitchesAnHour 8 (some .int), Cond.fieldLink RX3 78 "SewingFrames$Sewer" "frame" "I", Cond.fieldLink RX3 86 "SewingFrames$Sewer" "speed" "I", Cond.methodLink RX3 89 Lib.Math.max.name, Cond.static Lib.Math.max.name, Cond.code Lib.Math.max.name Lib.Math.max.code 2 (some .int), Cond.methodLink RX3 143 yX0_isSewn, Cond.instanceMethod yX0_isSewn, Cond.selects RX0 yX0_isSewn yX0_isSewn, Cond.code yX0_isSewn cX0_isSewn 1 (some .boolean), Cond.methodLink RX3 148 yX0_addStitch, Cond.instanceMethod yX0_addStitch, Cond.selects RX0 yX0_addStitch yX0_addStitch, Cond.code yX0_addStitch cX0_addStitch 1 (some .boolean), Cond.methodLink RX0 55 yX0_stitchesOfSignature, Cond.instanceMethod yX0_stitchesOfSignature, Cond.selects RX0 yX0_stitchesOfSignature yX0_stitchesOfSignature, Cond.code yX0_stitchesOfSignature cX0_stitchesOfSignature 3 (some .int), Cond.methodLink RX3 152 yX0_beginToDry, Cond.instanceMethod yX0_beginToDry, Cond.selects RX0 yX0_beginToDry yX0_beginToDry, Cond.code yX0_beginToDry cX0_beginToDry 1 none, Cond.methodLink RX3 114 yX3_mountOn, Cond.instanceMethod yX3_mountOn]
def wsX4_until_r7 : List Cond := [Cond.selects RX3 yX3_mountOn yX3_mountOn, Cond.code yX3_mountOn cX3_mountOn 6 none, Cond.fieldLink RX3 155 "SewingFrames$Frame" "cords" "I", Cond.fieldLink RX3 75 "SewingFrames$Book" "number" "I", Cond.methodLink RX3 158 yX0_mount, Cond.instanceMethod yX0_mount, Cond.selects RX0 yX0_mount yX0_mount, Cond.code yX0_mount cX0_mount 3 none]
def wsX4_until : List Cond := .code yX4_until cX4_until 4 (some .int) :: ((wsX4_until_r1 ++ (wsX4_until_r2 ++ (wsX4_until_r3 ++ (wsX4_until_r4 ++ (wsX4_until_r5 ++ (wsX4_until_r6 ++ wsX4_until_r7)))))) ++ wsX00 ++ wsX40 ++ wsX30 ++ wsX20 ++ wsX10 ++ (vx_atS RX4 113 "java/lang/IndexOutOfBoundsException" ["java/lang/RuntimeException", "java/lang/Exception"]).filter goodWord)
def wsX4_firstDoneAhead : List Cond := .code yX4_firstDoneAhead cX4_firstDoneAhead 2 (some .int) :: ([.fieldLink RX4 10 "SewingFrames" "now" "LSewingFrames$Workshop;", .fieldLink RX4 184 "SewingFrames$Workshop" "books" "[LSewingFrames$Book;", .fieldLink RX4 16 "SewingFrames" "ahead" "LSewingFrames$Workshop;", .fieldLink RX4 56 "SewingFrames$Book" "stage" "I"] ++ wsX40 ++ wsX30 ++ wsX00)
def wsX4_next_r1 : List Cond := [Cond.fieldLink RX4 16 "SewingFrames" "ahead" "LSewingFrames$Workshop;", Cond.fieldLink RX4 10 "SewingFrames" "now" "LSewingFrames$Workshop;", Cond.methodLink RX4 168 yX3_setTo, Cond.instanceMethod yX3_setTo, Cond.selects RX3 yX3_setTo yX3_setTo, Cond.initialized RX3, Cond.code yX3_setTo cX3_setTo 3 none, Cond.fieldLink RX3 11 "SewingFrames$Workshop" "books" "[LSewingFrames$Book;", Cond.fieldLink RX3 22 "SewingFrames$Workshop" "sewers" "[LSewingFrames$Sewer;", Cond.fieldLink RX3 29 "SewingFrames$Workshop" "frames" "[LSewingFrames$Frame;", Cond.fieldLink RX3 57 "SewingFrames$Workshop" "bookCount" "I", Cond.fieldLink RX3 60 "SewingFrames$Workshop" "sewerCount" "I", Cond.fieldLink RX3 63 "SewingFrames$Workshop" "hour" "I", Cond.fieldLink RX3 44 "SewingFrames$Workshop" "coins" "I", Cond.fieldLink RX3 34 "SewingFrames$Workshop" "thread" "I", Cond.fieldLink RX3 38 "SewingFrames$Workshop" "boards" "I", Cond.fieldLink RX3 41 "SewingFrames$Workshop" "gold" "I", Cond.fieldLink RX3 66 "SewingFrames$Workshop" "sewn" "I", Cond.fieldLink RX3 69 "SewingFrames$Workshop" "loose" "I", Cond.methodLink RX3 47 yX0_setTo, Cond.instanceMethod yX0_setTo, Cond.selects RX0 yX0_setTo yX0_setTo, Cond.initialized RX0, Cond.code yX0_setTo cX0_setTo 2 none]
def wsX4_next_r2 : List Cond := [Cond.fieldLink RX0 21 "SewingFrames$Book" "signatures" "I", Cond.fieldLink RX0 24 "SewingFrames$Book" "sheets" "I", Cond.fieldLink RX0 27 "SewingFrames$Book" "edges" "I", Cond.fieldLink RX0 15 "SewingFrames$Book" "stage" "I", Cond.fieldLink RX0 18 "SewingFrames$Book" "frame" "I", Cond.fieldLink RX0 30 "SewingFrames$Book" "cords" "I", Cond.fieldLink RX0 33 "SewingFrames$Book" "stitches" "I", Cond.fieldLink RX0 36 "SewingFrames$Book" "wholeSignatures" "I", Cond.fieldLink RX0 39 "SewingFrames$Book" "stitchesOfNext" "I", Cond.fieldLink RX0 42 "SewingFrames$Book" "loose" "I", Cond.fieldLink RX0 45 "SewingFrames$Book" "hoursToDry" "I", Cond.fieldLink RX0 48 "SewingFrames$Book" "gilt" "I", Cond.methodLink RX3 51 yX2_setTo, Cond.instanceMethod yX2_setTo, Cond.selects RX2 yX2_setTo yX2_setTo, Cond.initialized RX2, Cond.code yX2_setTo cX2_setTo 2 none, Cond.fieldLink RX2 18 "SewingFrames$Sewer" "speed" "I", Cond.fieldLink RX2 15 "SewingFrames$Sewer" "frame" "I", Cond.methodLink RX3 54 yX1_setTo, Cond.instanceMethod yX1_setTo, Cond.selects RX1 yX1_setTo yX1_setTo, Cond.initialized RX1, Cond.code yX1_setTo cX1_setTo 2 none]
def wsX4_next_r3 : List Cond := [Cond.fieldLink RX1 15 "SewingFrames$Frame" "cords" "I", Cond.fieldLink RX1 18 "SewingFrames$Frame" "book" "I", Cond.fieldLink RX1 21 "SewingFrames$Frame" "sewn" "I", Cond.methodLink RX4 175 yX3_letAnHourGo, Cond.instanceMethod yX3_letAnHourGo, Cond.selects RX3 yX3_letAnHourGo yX3_letAnHourGo, Cond.code yX3_letAnHourGo cX3_letAnHourGo 6 (some .int), Cond.fieldLink RX3 72 "SewingFrames$Frame" "book" "I", Cond.methodLink RX3 98 yX3_booksAt, Cond.instanceMethod yX3_booksAt, Cond.selects RX3 yX3_booksAt yX3_booksAt, Cond.code yX3_booksAt cX3_booksAt 7 (some .int), Cond.fieldLink RX3 117 "SewingFrames$Book" "stage" "I", Cond.methodLink RX3 102 yX3_gild, Cond.instanceMethod yX3_gild, Cond.selects RX3 yX3_gild yX3_gild, Cond.code yX3_gild cX3_gild 6 none, Cond.methodLink RX3 120 yX0_leavesForAnEdge, Cond.instanceMethod yX0_leavesForAnEdge, Cond.selects RX0 yX0_leavesForAnEdge yX0_leavesForAnEdge, Cond.code yX0_leavesForAnEdge cX0_leavesForAnEdge 1 (some .int), Cond.methodLink RX0 51 yX0_thickness, Cond.instanceMethod yX0_thickness, Cond.selects RX0 yX0_thickness yX0_thickness]
def wsX4_next_r4 : List Cond := [Cond.code yX0_thickness cX0_thickness 1 (some .int), Cond.methodLink RX3 123 yX0_gildAnEdge, Cond.instanceMethod yX0_gildAnEdge, Cond.selects RX0 yX0_gildAnEdge yX0_gildAnEdge, Cond.code yX0_gildAnEdge cX0_gildAnEdge 1 none, Cond.methodLink RX3 105 yX3_giveBoards, Cond.instanceMethod yX3_giveBoards, Cond.selects RX3 yX3_giveBoards yX3_giveBoards, Cond.code yX3_giveBoards cX3_giveBoards 5 none, Cond.methodLink RX3 126 yX0_bind, Cond.instanceMethod yX0_bind, Cond.selects RX0 yX0_bind yX0_bind, Cond.code yX0_bind cX0_bind 1 none, Cond.methodLink RX3 108 yX3_dry, Cond.instanceMethod yX3_dry, Cond.selects RX3 yX3_dry yX3_dry, Cond.code yX3_dry cX3_dry 5 none, Cond.methodLink RX3 129 yX0_dryForAnHour, Cond.instanceMethod yX0_dryForAnHour, Cond.selects RX0 yX0_dryForAnHour yX0_dryForAnHour, Cond.code yX0_dryForAnHour cX0_dryForAnHour 1 none, Cond.methodLink RX3 111 yX3_sewAt, Cond.instanceMethod yX3_sewAt, Cond.selects RX3 yX3_sewAt yX3_sewAt]
def wsX4_next_r5 : List Cond := [Cond.code yX3_sewAt cX3_sewAt 6 none, Cond.fieldLink RX3 136 "SewingFrames$Frame" "number" "I", Cond.methodLink RX3 140 Lib.Math.min.name, Cond.static Lib.Math.min.name, Cond.initialized "java/lang/Math", Cond.code Lib.Math.min.name Lib.Math.min.code 2 (some .int), Cond.fieldLink RX3 147 "SewingFrames$Frame" "sewn" "I", Cond.fieldLink RX3 151 "SewingFrames$Book" "loose" "I", Cond.methodLink RX3 132 yX3_bookNumbered, Cond.instanceMethod yX3_bookNumbered, Cond.selects RX3 yX3_bookNumbered yX3_bookNumbered, Cond.code yX3_bookNumbered cX3_bookNumbered 2 (some (.object "SewingFrames$Book")), Cond.methodLink RX3 137 yX3_stitchesAnHour, Cond.instanceMethod yX3_stitchesAnHour, Cond.selects RX3 yX3_stitchesAnHour yX3_stitchesAnHour, Cond.code yX3_stitchesAnHour cX3_stitchesAnHour 8 (some .int), Cond.fieldLink RX3 78 "SewingFrames$Sewer" "frame" "I", Cond.fieldLink RX3 86 "SewingFrames$Sewer" "speed" "I", Cond.methodLink RX3 89 Lib.Math.max.name, Cond.static Lib.Math.max.name, Cond.code Lib.Math.max.name Lib.Math.max.code 2 (some .int), Cond.methodLink RX3 143 yX0_isSewn, Cond.instanceMethod yX0_isSewn, Cond.selects RX0 yX0_isSewn yX0_isSewn]
def wsX4_next_r6 : List Cond := [Cond.code yX0_isSewn cX0_isSewn 1 (some .boolean), Cond.methodLink RX3 148 yX0_addStitch, Cond.instanceMethod yX0_addStitch, Cond.selects RX0 yX0_addStitch yX0_addStitch, Cond.code yX0_addStitch cX0_addStitch 1 (some .boolean), Cond.methodLink RX0 55 yX0_stitchesOfSignature, Cond.instanceMethod yX0_stitchesOfSignature, Cond.selects RX0 yX0_stitchesOfSignature yX0_stitchesOfSignature, Cond.code yX0_stitchesOfSignature cX0_stitchesOfSignature 3 (some .int), Cond.methodLink RX3 152 yX0_beginToDry, Cond.instanceMethod yX0_beginToDry, Cond.selects RX0 yX0_beginToDry yX0_beginToDry, Cond.code yX0_beginToDry cX0_beginToDry 1 none, Cond.methodLink RX3 114 yX3_mountOn, Cond.instanceMethod yX3_mountOn, Cond.selects RX3 yX3_mountOn yX3_mountOn, Cond.code yX3_mountOn cX3_mountOn 6 none, Cond.fieldLink RX3 155 "SewingFrames$Frame" "cords" "I", Cond.fieldLink RX3 75 "SewingFrames$Book" "number" "I", Cond.methodLink RX3 158 yX0_mount, Cond.instanceMethod yX0_mount, Cond.selects RX0 yX0_mount yX0_mount, Cond.code yX0_mount cX0_mount 3 none, Cond.methodLink RX4 178 yX4_firstDoneAhead]
def wsX4_next_r7 : List Cond := [Cond.instanceMethod yX4_firstDoneAhead, Cond.selects RX4 yX4_firstDoneAhead yX4_firstDoneAhead, Cond.initialized RX4, Cond.code yX4_firstDoneAhead cX4_firstDoneAhead 2 (some .int), Cond.fieldLink RX4 184 "SewingFrames$Workshop" "books" "[LSewingFrames$Book;", Cond.fieldLink RX4 56 "SewingFrames$Book" "stage" "I"]
def wsX4_next : List Cond := .code yX4_next cX4_next 2 (some .int) :: ((wsX4_next_r1 ++ (wsX4_next_r2 ++ (wsX4_next_r3 ++ (wsX4_next_r4 ++ (wsX4_next_r5 ++ (wsX4_next_r6 ++ wsX4_next_r7)))))) ++ wsX40 ++ wsX30 ++ wsX00 ++ wsX20 ++ wsX10)
def wsX4_sewnAheadWith_r1 : List Cond := [Cond.fieldLink RX4 16 "SewingFrames" "ahead" "LSewingFrames$Workshop;", Cond.fieldLink RX4 10 "SewingFrames" "now" "LSewingFrames$Workshop;", Cond.fieldLink RX4 120 "SewingFrames$Sewer" "frame" "I", Cond.fieldLink RX4 211 "SewingFrames$Workshop" "sewn" "I", Cond.methodLink RX4 168 yX3_setTo, Cond.instanceMethod yX3_setTo, Cond.selects RX3 yX3_setTo yX3_setTo, Cond.initialized RX3, Cond.code yX3_setTo cX3_setTo 3 none, Cond.fieldLink RX3 11 "SewingFrames$Workshop" "books" "[LSewingFrames$Book;", Cond.fieldLink RX3 22 "SewingFrames$Workshop" "sewers" "[LSewingFrames$Sewer;", Cond.fieldLink RX3 29 "SewingFrames$Workshop" "frames" "[LSewingFrames$Frame;", Cond.fieldLink RX3 57 "SewingFrames$Workshop" "bookCount" "I", Cond.fieldLink RX3 60 "SewingFrames$Workshop" "sewerCount" "I", Cond.fieldLink RX3 63 "SewingFrames$Workshop" "hour" "I", Cond.fieldLink RX3 44 "SewingFrames$Workshop" "coins" "I", Cond.fieldLink RX3 34 "SewingFrames$Workshop" "thread" "I", Cond.fieldLink RX3 38 "SewingFrames$Workshop" "boards" "I", Cond.fieldLink RX3 41 "SewingFrames$Workshop" "gold" "I", Cond.fieldLink RX3 66 "SewingFrames$Workshop" "sewn" "I", Cond.fieldLink RX3 69 "SewingFrames$Workshop" "loose" "I", Cond.methodLink RX3 47 yX0_setTo, Cond.instanceMethod yX0_setTo, Cond.selects RX0 yX0_setTo yX0_setTo]
def wsX4_sewnAheadWith_r2 : List Cond := [Cond.initialized RX0, Cond.code yX0_setTo cX0_setTo 2 none, Cond.fieldLink RX0 21 "SewingFrames$Book" "signatures" "I", Cond.fieldLink RX0 24 "SewingFrames$Book" "sheets" "I", Cond.fieldLink RX0 27 "SewingFrames$Book" "edges" "I", Cond.fieldLink RX0 15 "SewingFrames$Book" "stage" "I", Cond.fieldLink RX0 18 "SewingFrames$Book" "frame" "I", Cond.fieldLink RX0 30 "SewingFrames$Book" "cords" "I", Cond.fieldLink RX0 33 "SewingFrames$Book" "stitches" "I", Cond.fieldLink RX0 36 "SewingFrames$Book" "wholeSignatures" "I", Cond.fieldLink RX0 39 "SewingFrames$Book" "stitchesOfNext" "I", Cond.fieldLink RX0 42 "SewingFrames$Book" "loose" "I", Cond.fieldLink RX0 45 "SewingFrames$Book" "hoursToDry" "I", Cond.fieldLink RX0 48 "SewingFrames$Book" "gilt" "I", Cond.methodLink RX3 51 yX2_setTo, Cond.instanceMethod yX2_setTo, Cond.selects RX2 yX2_setTo yX2_setTo, Cond.initialized RX2, Cond.code yX2_setTo cX2_setTo 2 none, Cond.fieldLink RX2 18 "SewingFrames$Sewer" "speed" "I", Cond.fieldLink RX2 15 "SewingFrames$Sewer" "frame" "I", Cond.methodLink RX3 54 yX1_setTo, Cond.instanceMethod yX1_setTo, Cond.selects RX1 yX1_setTo yX1_setTo]
def wsX4_sewnAheadWith_r3 : List Cond := [Cond.initialized RX1, Cond.code yX1_setTo cX1_setTo 2 none, Cond.fieldLink RX1 15 "SewingFrames$Frame" "cords" "I", Cond.fieldLink RX1 18 "SewingFrames$Frame" "book" "I", Cond.fieldLink RX1 21 "SewingFrames$Frame" "sewn" "I", Cond.methodLink RX4 202 yX3_sewerNumbered, Cond.instanceMethod yX3_sewerNumbered, Cond.selects RX3 yX3_sewerNumbered yX3_sewerNumbered, Cond.code yX3_sewerNumbered cX3_sewerNumbered 2 (some (.object "SewingFrames$Sewer")), Cond.methodLink RX4 163 yX3_letHoursGo, Cond.instanceMethod yX3_letHoursGo, Cond.selects RX3 yX3_letHoursGo yX3_letHoursGo, Cond.code yX3_letHoursGo cX3_letHoursGo 4 (some .int), Cond.methodLink RX3 94 yX3_letAnHourGo, Cond.instanceMethod yX3_letAnHourGo, Cond.selects RX3 yX3_letAnHourGo yX3_letAnHourGo, Cond.code yX3_letAnHourGo cX3_letAnHourGo 6 (some .int), Cond.fieldLink RX3 72 "SewingFrames$Frame" "book" "I", Cond.methodLink RX3 98 yX3_booksAt, Cond.instanceMethod yX3_booksAt, Cond.selects RX3 yX3_booksAt yX3_booksAt, Cond.code yX3_booksAt cX3_booksAt 7 (some .int), Cond.fieldLink RX3 117 "SewingFrames$Book" "stage" "I", Cond.methodLink RX3 102 yX3_gild]
def wsX4_sewnAheadWith_r4 : List Cond := [Cond.instanceMethod yX3_gild, Cond.selects RX3 yX3_gild yX3_gild, Cond.code yX3_gild cX3_gild 6 none, Cond.methodLink RX3 120 yX0_leavesForAnEdge, Cond.instanceMethod yX0_leavesForAnEdge, Cond.selects RX0 yX0_leavesForAnEdge yX0_leavesForAnEdge, Cond.code yX0_leavesForAnEdge cX0_leavesForAnEdge 1 (some .int), Cond.methodLink RX0 51 yX0_thickness, Cond.instanceMethod yX0_thickness, Cond.selects RX0 yX0_thickness yX0_thickness, Cond.code yX0_thickness cX0_thickness 1 (some .int), Cond.methodLink RX3 123 yX0_gildAnEdge, Cond.instanceMethod yX0_gildAnEdge, Cond.selects RX0 yX0_gildAnEdge yX0_gildAnEdge, Cond.code yX0_gildAnEdge cX0_gildAnEdge 1 none, Cond.methodLink RX3 105 yX3_giveBoards, Cond.instanceMethod yX3_giveBoards, Cond.selects RX3 yX3_giveBoards yX3_giveBoards, Cond.code yX3_giveBoards cX3_giveBoards 5 none, Cond.methodLink RX3 126 yX0_bind, Cond.instanceMethod yX0_bind, Cond.selects RX0 yX0_bind yX0_bind, Cond.code yX0_bind cX0_bind 1 none, Cond.methodLink RX3 108 yX3_dry]
def wsX4_sewnAheadWith_r5 : List Cond := [Cond.instanceMethod yX3_dry, Cond.selects RX3 yX3_dry yX3_dry, Cond.code yX3_dry cX3_dry 5 none, Cond.methodLink RX3 129 yX0_dryForAnHour, Cond.instanceMethod yX0_dryForAnHour, Cond.selects RX0 yX0_dryForAnHour yX0_dryForAnHour, Cond.code yX0_dryForAnHour cX0_dryForAnHour 1 none, Cond.methodLink RX3 111 yX3_sewAt, Cond.instanceMethod yX3_sewAt, Cond.selects RX3 yX3_sewAt yX3_sewAt, Cond.code yX3_sewAt cX3_sewAt 6 none, Cond.fieldLink RX3 136 "SewingFrames$Frame" "number" "I", Cond.methodLink RX3 140 Lib.Math.min.name, Cond.static Lib.Math.min.name, Cond.initialized "java/lang/Math", Cond.code Lib.Math.min.name Lib.Math.min.code 2 (some .int), Cond.fieldLink RX3 147 "SewingFrames$Frame" "sewn" "I", Cond.fieldLink RX3 151 "SewingFrames$Book" "loose" "I", Cond.methodLink RX3 132 yX3_bookNumbered, Cond.instanceMethod yX3_bookNumbered, Cond.selects RX3 yX3_bookNumbered yX3_bookNumbered, Cond.code yX3_bookNumbered cX3_bookNumbered 2 (some (.object "SewingFrames$Book")), Cond.methodLink RX3 137 yX3_stitchesAnHour, Cond.instanceMethod yX3_stitchesAnHour]
def wsX4_sewnAheadWith_r6 : List Cond := [Cond.selects RX3 yX3_stitchesAnHour yX3_stitchesAnHour, Cond.code yX3_stitchesAnHour cX3_stitchesAnHour 8 (some .int), Cond.fieldLink RX3 78 "SewingFrames$Sewer" "frame" "I", Cond.fieldLink RX3 86 "SewingFrames$Sewer" "speed" "I", Cond.methodLink RX3 89 Lib.Math.max.name, Cond.static Lib.Math.max.name, Cond.code Lib.Math.max.name Lib.Math.max.code 2 (some .int), Cond.methodLink RX3 143 yX0_isSewn, Cond.instanceMethod yX0_isSewn, Cond.selects RX0 yX0_isSewn yX0_isSewn, Cond.code yX0_isSewn cX0_isSewn 1 (some .boolean), Cond.methodLink RX3 148 yX0_addStitch, Cond.instanceMethod yX0_addStitch, Cond.selects RX0 yX0_addStitch yX0_addStitch, Cond.code yX0_addStitch cX0_addStitch 1 (some .boolean), Cond.methodLink RX0 55 yX0_stitchesOfSignature, Cond.instanceMethod yX0_stitchesOfSignature, Cond.selects RX0 yX0_stitchesOfSignature yX0_stitchesOfSignature, Cond.code yX0_stitchesOfSignature cX0_stitchesOfSignature 3 (some .int), Cond.methodLink RX3 152 yX0_beginToDry, Cond.instanceMethod yX0_beginToDry, Cond.selects RX0 yX0_beginToDry yX0_beginToDry, Cond.code yX0_beginToDry cX0_beginToDry 1 none, Cond.methodLink RX3 114 yX3_mountOn]
def wsX4_sewnAheadWith_r7 : List Cond := [Cond.instanceMethod yX3_mountOn, Cond.selects RX3 yX3_mountOn yX3_mountOn, Cond.code yX3_mountOn cX3_mountOn 6 none, Cond.fieldLink RX3 155 "SewingFrames$Frame" "cords" "I", Cond.fieldLink RX3 75 "SewingFrames$Book" "number" "I", Cond.methodLink RX3 158 yX0_mount, Cond.instanceMethod yX0_mount, Cond.selects RX0 yX0_mount yX0_mount, Cond.code yX0_mount cX0_mount 3 none]
def wsX4_sewnAheadWith : List Cond := .code yX4_sewnAheadWith cX4_sewnAheadWith 4 (some .int) :: ((wsX4_sewnAheadWith_r1 ++ (wsX4_sewnAheadWith_r2 ++ (wsX4_sewnAheadWith_r3 ++ (wsX4_sewnAheadWith_r4 ++ (wsX4_sewnAheadWith_r5 ++ (wsX4_sewnAheadWith_r6 ++ wsX4_sewnAheadWith_r7)))))) ++ wsX40 ++ wsX20 ++ wsX30 ++ wsX00 ++ wsX10)
def wsX4_advise_r1 : List Cond := [Cond.fieldLink RX4 10 "SewingFrames" "now" "LSewingFrames$Workshop;", Cond.methodLink RX4 105 yX4_knownSewer, Cond.instanceMethod yX4_knownSewer, Cond.selects RX4 yX4_knownSewer yX4_knownSewer, Cond.initialized RX4, Cond.code yX4_knownSewer cX4_knownSewer 3 (some (.object "SewingFrames$Sewer")), Cond.classLink RX4 109 "java/lang/IndexOutOfBoundsException", Cond.initialized "java/lang/IndexOutOfBoundsException", Cond.methodLink RX4 202 yX3_sewerNumbered, Cond.instanceMethod yX3_sewerNumbered, Cond.selects RX3 yX3_sewerNumbered yX3_sewerNumbered, Cond.initialized RX3, Cond.code yX3_sewerNumbered cX3_sewerNumbered 2 (some (.object "SewingFrames$Sewer")), Cond.fieldLink RX3 60 "SewingFrames$Workshop" "sewerCount" "I", Cond.fieldLink RX3 22 "SewingFrames$Workshop" "sewers" "[LSewingFrames$Sewer;", Cond.methodLink RX4 114 yX3_othersAt, Cond.instanceMethod yX3_othersAt, Cond.selects RX3 yX3_othersAt yX3_othersAt, Cond.code yX3_othersAt cX3_othersAt 8 (some .int), Cond.fieldLink RX3 78 "SewingFrames$Sewer" "frame" "I", Cond.fieldLink RX3 81 "SewingFrames$Sewer" "number" "I", Cond.methodLink RX4 181 yX4_sewnAheadWith, Cond.instanceMethod yX4_sewnAheadWith, Cond.selects RX4 yX4_sewnAheadWith yX4_sewnAheadWith]
def wsX4_advise_r2 : List Cond := [Cond.code yX4_sewnAheadWith cX4_sewnAheadWith 4 (some .int), Cond.fieldLink RX4 16 "SewingFrames" "ahead" "LSewingFrames$Workshop;", Cond.fieldLink RX4 120 "SewingFrames$Sewer" "frame" "I", Cond.fieldLink RX4 211 "SewingFrames$Workshop" "sewn" "I", Cond.methodLink RX4 168 yX3_setTo, Cond.instanceMethod yX3_setTo, Cond.selects RX3 yX3_setTo yX3_setTo, Cond.code yX3_setTo cX3_setTo 3 none, Cond.fieldLink RX3 11 "SewingFrames$Workshop" "books" "[LSewingFrames$Book;", Cond.fieldLink RX3 29 "SewingFrames$Workshop" "frames" "[LSewingFrames$Frame;", Cond.fieldLink RX3 57 "SewingFrames$Workshop" "bookCount" "I", Cond.fieldLink RX3 63 "SewingFrames$Workshop" "hour" "I", Cond.fieldLink RX3 44 "SewingFrames$Workshop" "coins" "I", Cond.fieldLink RX3 34 "SewingFrames$Workshop" "thread" "I", Cond.fieldLink RX3 38 "SewingFrames$Workshop" "boards" "I", Cond.fieldLink RX3 41 "SewingFrames$Workshop" "gold" "I", Cond.fieldLink RX3 66 "SewingFrames$Workshop" "sewn" "I", Cond.fieldLink RX3 69 "SewingFrames$Workshop" "loose" "I", Cond.methodLink RX3 47 yX0_setTo, Cond.instanceMethod yX0_setTo, Cond.selects RX0 yX0_setTo yX0_setTo, Cond.initialized RX0, Cond.code yX0_setTo cX0_setTo 2 none, Cond.fieldLink RX0 21 "SewingFrames$Book" "signatures" "I"]
def wsX4_advise_r3 : List Cond := [Cond.fieldLink RX0 24 "SewingFrames$Book" "sheets" "I", Cond.fieldLink RX0 27 "SewingFrames$Book" "edges" "I", Cond.fieldLink RX0 15 "SewingFrames$Book" "stage" "I", Cond.fieldLink RX0 18 "SewingFrames$Book" "frame" "I", Cond.fieldLink RX0 30 "SewingFrames$Book" "cords" "I", Cond.fieldLink RX0 33 "SewingFrames$Book" "stitches" "I", Cond.fieldLink RX0 36 "SewingFrames$Book" "wholeSignatures" "I", Cond.fieldLink RX0 39 "SewingFrames$Book" "stitchesOfNext" "I", Cond.fieldLink RX0 42 "SewingFrames$Book" "loose" "I", Cond.fieldLink RX0 45 "SewingFrames$Book" "hoursToDry" "I", Cond.fieldLink RX0 48 "SewingFrames$Book" "gilt" "I", Cond.methodLink RX3 51 yX2_setTo, Cond.instanceMethod yX2_setTo, Cond.selects RX2 yX2_setTo yX2_setTo, Cond.initialized RX2, Cond.code yX2_setTo cX2_setTo 2 none, Cond.fieldLink RX2 18 "SewingFrames$Sewer" "speed" "I", Cond.fieldLink RX2 15 "SewingFrames$Sewer" "frame" "I", Cond.methodLink RX3 54 yX1_setTo, Cond.instanceMethod yX1_setTo, Cond.selects RX1 yX1_setTo yX1_setTo, Cond.initialized RX1, Cond.code yX1_setTo cX1_setTo 2 none, Cond.fieldLink RX1 15 "SewingFrames$Frame" "cords" "I"]
def wsX4_advise_r4 : List Cond := [Cond.fieldLink RX1 18 "SewingFrames$Frame" "book" "I", Cond.fieldLink RX1 21 "SewingFrames$Frame" "sewn" "I", Cond.methodLink RX4 163 yX3_letHoursGo, Cond.instanceMethod yX3_letHoursGo, Cond.selects RX3 yX3_letHoursGo yX3_letHoursGo, Cond.code yX3_letHoursGo cX3_letHoursGo 4 (some .int), Cond.methodLink RX3 94 yX3_letAnHourGo, Cond.instanceMethod yX3_letAnHourGo, Cond.selects RX3 yX3_letAnHourGo yX3_letAnHourGo, Cond.code yX3_letAnHourGo cX3_letAnHourGo 6 (some .int), Cond.fieldLink RX3 72 "SewingFrames$Frame" "book" "I", Cond.methodLink RX3 98 yX3_booksAt, Cond.instanceMethod yX3_booksAt, Cond.selects RX3 yX3_booksAt yX3_booksAt, Cond.code yX3_booksAt cX3_booksAt 7 (some .int), Cond.fieldLink RX3 117 "SewingFrames$Book" "stage" "I", Cond.methodLink RX3 102 yX3_gild, Cond.instanceMethod yX3_gild, Cond.selects RX3 yX3_gild yX3_gild, Cond.code yX3_gild cX3_gild 6 none, Cond.methodLink RX3 120 yX0_leavesForAnEdge, Cond.instanceMethod yX0_leavesForAnEdge, Cond.selects RX0 yX0_leavesForAnEdge yX0_leavesForAnEdge, Cond.code yX0_leavesForAnEdge cX0_leavesForAnEdge 1 (some .int)]
def wsX4_advise_r5 : List Cond := [Cond.methodLink RX0 51 yX0_thickness, Cond.instanceMethod yX0_thickness, Cond.selects RX0 yX0_thickness yX0_thickness, Cond.code yX0_thickness cX0_thickness 1 (some .int), Cond.methodLink RX3 123 yX0_gildAnEdge, Cond.instanceMethod yX0_gildAnEdge, Cond.selects RX0 yX0_gildAnEdge yX0_gildAnEdge, Cond.code yX0_gildAnEdge cX0_gildAnEdge 1 none, Cond.methodLink RX3 105 yX3_giveBoards, Cond.instanceMethod yX3_giveBoards, Cond.selects RX3 yX3_giveBoards yX3_giveBoards, Cond.code yX3_giveBoards cX3_giveBoards 5 none, Cond.methodLink RX3 126 yX0_bind, Cond.instanceMethod yX0_bind, Cond.selects RX0 yX0_bind yX0_bind, Cond.code yX0_bind cX0_bind 1 none, Cond.methodLink RX3 108 yX3_dry, Cond.instanceMethod yX3_dry, Cond.selects RX3 yX3_dry yX3_dry, Cond.code yX3_dry cX3_dry 5 none, Cond.methodLink RX3 129 yX0_dryForAnHour, Cond.instanceMethod yX0_dryForAnHour, Cond.selects RX0 yX0_dryForAnHour yX0_dryForAnHour, Cond.code yX0_dryForAnHour cX0_dryForAnHour 1 none]
def wsX4_advise_r6 : List Cond := [Cond.methodLink RX3 111 yX3_sewAt, Cond.instanceMethod yX3_sewAt, Cond.selects RX3 yX3_sewAt yX3_sewAt, Cond.code yX3_sewAt cX3_sewAt 6 none, Cond.fieldLink RX3 136 "SewingFrames$Frame" "number" "I", Cond.methodLink RX3 140 Lib.Math.min.name, Cond.static Lib.Math.min.name, Cond.initialized "java/lang/Math", Cond.code Lib.Math.min.name Lib.Math.min.code 2 (some .int), Cond.fieldLink RX3 147 "SewingFrames$Frame" "sewn" "I", Cond.fieldLink RX3 151 "SewingFrames$Book" "loose" "I", Cond.methodLink RX3 132 yX3_bookNumbered, Cond.instanceMethod yX3_bookNumbered, Cond.selects RX3 yX3_bookNumbered yX3_bookNumbered, Cond.code yX3_bookNumbered cX3_bookNumbered 2 (some (.object "SewingFrames$Book")), Cond.methodLink RX3 137 yX3_stitchesAnHour, Cond.instanceMethod yX3_stitchesAnHour, Cond.selects RX3 yX3_stitchesAnHour yX3_stitchesAnHour, Cond.code yX3_stitchesAnHour cX3_stitchesAnHour 8 (some .int), Cond.fieldLink RX3 86 "SewingFrames$Sewer" "speed" "I", Cond.methodLink RX3 89 Lib.Math.max.name, Cond.static Lib.Math.max.name, Cond.code Lib.Math.max.name Lib.Math.max.code 2 (some .int), Cond.methodLink RX3 143 yX0_isSewn]
def wsX4_advise_r7 : List Cond := [Cond.instanceMethod yX0_isSewn, Cond.selects RX0 yX0_isSewn yX0_isSewn, Cond.code yX0_isSewn cX0_isSewn 1 (some .boolean), Cond.methodLink RX3 148 yX0_addStitch, Cond.instanceMethod yX0_addStitch, Cond.selects RX0 yX0_addStitch yX0_addStitch, Cond.code yX0_addStitch cX0_addStitch 1 (some .boolean), Cond.methodLink RX0 55 yX0_stitchesOfSignature, Cond.instanceMethod yX0_stitchesOfSignature, Cond.selects RX0 yX0_stitchesOfSignature yX0_stitchesOfSignature, Cond.code yX0_stitchesOfSignature cX0_stitchesOfSignature 3 (some .int), Cond.methodLink RX3 152 yX0_beginToDry, Cond.instanceMethod yX0_beginToDry, Cond.selects RX0 yX0_beginToDry yX0_beginToDry, Cond.code yX0_beginToDry cX0_beginToDry 1 none, Cond.methodLink RX3 114 yX3_mountOn, Cond.instanceMethod yX3_mountOn, Cond.selects RX3 yX3_mountOn yX3_mountOn, Cond.code yX3_mountOn cX3_mountOn 6 none, Cond.fieldLink RX3 155 "SewingFrames$Frame" "cords" "I", Cond.fieldLink RX3 75 "SewingFrames$Book" "number" "I", Cond.methodLink RX3 158 yX0_mount, Cond.instanceMethod yX0_mount, Cond.selects RX0 yX0_mount yX0_mount]
def wsX4_advise_r8 : List Cond := [Cond.code yX0_mount cX0_mount 3 none]
def wsX4_advise : List Cond := .code yX4_advise cX4_advise 6 (some .int) :: ((wsX4_advise_r1 ++ (wsX4_advise_r2 ++ (wsX4_advise_r3 ++ (wsX4_advise_r4 ++ (wsX4_advise_r5 ++ (wsX4_advise_r6 ++ (wsX4_advise_r7 ++ wsX4_advise_r8))))))) ++ wsX40 ++ wsX30 ++ wsX20 ++ wsX00 ++ wsX10 ++ (vx_atS RX4 113 "java/lang/IndexOutOfBoundsException" ["java/lang/RuntimeException", "java/lang/Exception"]).filter goodWord)
def wsX4_digest_r1 : List Cond := [Cond.constantLong RX4 188 (1367), Cond.constantLong RX4 190 (31), Cond.fieldLink RX4 10 "SewingFrames" "now" "LSewingFrames$Workshop;", Cond.fieldLink RX4 192 "SewingFrames$Workshop" "frames" "[LSewingFrames$Frame;", Cond.fieldLink RX4 196 "SewingFrames$Workshop" "sewers" "[LSewingFrames$Sewer;", Cond.fieldLink RX4 101 "SewingFrames$Workshop" "sewerCount" "I", Cond.fieldLink RX4 184 "SewingFrames$Workshop" "books" "[LSewingFrames$Book;", Cond.fieldLink RX4 45 "SewingFrames$Workshop" "bookCount" "I", Cond.methodLink RX4 156 yX3_tellOfAll, Cond.instanceMethod yX3_tellOfAll, Cond.selects RX3 yX3_tellOfAll yX3_tellOfAll, Cond.initialized RX3, Cond.code yX3_tellOfAll cX3_tellOfAll 2 (some .int), Cond.fieldLink RX3 63 "SewingFrames$Workshop" "hour" "I", Cond.fieldLink RX3 57 "SewingFrames$Workshop" "bookCount" "I", Cond.fieldLink RX3 44 "SewingFrames$Workshop" "coins" "I", Cond.fieldLink RX3 34 "SewingFrames$Workshop" "thread" "I", Cond.fieldLink RX3 38 "SewingFrames$Workshop" "boards" "I", Cond.fieldLink RX3 41 "SewingFrames$Workshop" "gold" "I", Cond.fieldLink RX3 66 "SewingFrames$Workshop" "sewn" "I", Cond.fieldLink RX3 69 "SewingFrames$Workshop" "loose" "I", Cond.methodLink RX3 98 yX3_booksAt, Cond.instanceMethod yX3_booksAt, Cond.selects RX3 yX3_booksAt yX3_booksAt]
def wsX4_digest_r2 : List Cond := [Cond.code yX3_booksAt cX3_booksAt 7 (some .int), Cond.fieldLink RX3 11 "SewingFrames$Workshop" "books" "[LSewingFrames$Book;", Cond.fieldLink RX3 117 "SewingFrames$Book" "stage" "I", Cond.methodLink RX4 140 yX3_tellOfFrame, Cond.instanceMethod yX3_tellOfFrame, Cond.selects RX3 yX3_tellOfFrame yX3_tellOfFrame, Cond.code yX3_tellOfFrame cX3_tellOfFrame 4 (some .int), Cond.fieldLink RX3 72 "SewingFrames$Frame" "book" "I", Cond.fieldLink RX3 155 "SewingFrames$Frame" "cords" "I", Cond.fieldLink RX3 136 "SewingFrames$Frame" "number" "I", Cond.fieldLink RX3 147 "SewingFrames$Frame" "sewn" "I", Cond.methodLink RX3 132 yX3_bookNumbered, Cond.instanceMethod yX3_bookNumbered, Cond.selects RX3 yX3_bookNumbered yX3_bookNumbered, Cond.code yX3_bookNumbered cX3_bookNumbered 2 (some (.object "SewingFrames$Book")), Cond.methodLink RX3 162 yX3_sittersAt, Cond.instanceMethod yX3_sittersAt, Cond.selects RX3 yX3_sittersAt yX3_sittersAt, Cond.code yX3_sittersAt cX3_sittersAt 2 (some .int), Cond.methodLink RX3 82 yX3_othersAt, Cond.instanceMethod yX3_othersAt, Cond.selects RX3 yX3_othersAt yX3_othersAt, Cond.code yX3_othersAt cX3_othersAt 8 (some .int), Cond.fieldLink RX3 22 "SewingFrames$Workshop" "sewers" "[LSewingFrames$Sewer;"]
def wsX4_digest_r3 : List Cond := [Cond.fieldLink RX3 78 "SewingFrames$Sewer" "frame" "I", Cond.fieldLink RX3 81 "SewingFrames$Sewer" "number" "I", Cond.methodLink RX3 137 yX3_stitchesAnHour, Cond.instanceMethod yX3_stitchesAnHour, Cond.selects RX3 yX3_stitchesAnHour yX3_stitchesAnHour, Cond.code yX3_stitchesAnHour cX3_stitchesAnHour 8 (some .int), Cond.fieldLink RX3 86 "SewingFrames$Sewer" "speed" "I", Cond.methodLink RX3 89 Lib.Math.max.name, Cond.static Lib.Math.max.name, Cond.initialized "java/lang/Math", Cond.code Lib.Math.max.name Lib.Math.max.code 2 (some .int), Cond.methodLink RX3 165 yX0_stitchesToSew, Cond.instanceMethod yX0_stitchesToSew, Cond.selects RX0 yX0_stitchesToSew yX0_stitchesToSew, Cond.initialized RX0, Cond.code yX0_stitchesToSew cX0_stitchesToSew 3 (some .int), Cond.fieldLink RX0 21 "SewingFrames$Book" "signatures" "I", Cond.fieldLink RX0 33 "SewingFrames$Book" "stitches" "I", Cond.methodLink RX0 55 yX0_stitchesOfSignature, Cond.instanceMethod yX0_stitchesOfSignature, Cond.selects RX0 yX0_stitchesOfSignature yX0_stitchesOfSignature, Cond.code yX0_stitchesOfSignature cX0_stitchesOfSignature 3 (some .int), Cond.fieldLink RX0 30 "SewingFrames$Book" "cords" "I", Cond.methodLink RX4 123 yX2_tell]
def wsX4_digest_r4 : List Cond := [Cond.instanceMethod yX2_tell, Cond.selects RX2 yX2_tell yX2_tell, Cond.initialized RX2, Cond.code yX2_tell cX2_tell 2 (some .int), Cond.fieldLink RX2 18 "SewingFrames$Sewer" "speed" "I", Cond.fieldLink RX2 15 "SewingFrames$Sewer" "frame" "I", Cond.methodLink RX4 84 yX0_tell, Cond.instanceMethod yX0_tell, Cond.selects RX0 yX0_tell yX0_tell, Cond.code yX0_tell cX0_tell 2 (some .int), Cond.fieldLink RX0 24 "SewingFrames$Book" "sheets" "I", Cond.fieldLink RX0 27 "SewingFrames$Book" "edges" "I", Cond.fieldLink RX0 15 "SewingFrames$Book" "stage" "I", Cond.fieldLink RX0 18 "SewingFrames$Book" "frame" "I", Cond.fieldLink RX0 36 "SewingFrames$Book" "wholeSignatures" "I", Cond.fieldLink RX0 39 "SewingFrames$Book" "stitchesOfNext" "I", Cond.fieldLink RX0 42 "SewingFrames$Book" "loose" "I", Cond.fieldLink RX0 45 "SewingFrames$Book" "hoursToDry" "I", Cond.fieldLink RX0 48 "SewingFrames$Book" "gilt" "I", Cond.methodLink RX0 65 yX0_value, Cond.instanceMethod yX0_value, Cond.selects RX0 yX0_value yX0_value, Cond.code yX0_value cX0_value 1 (some .int), Cond.methodLink RX0 59 Lib.Math.max.name]
def wsX4_digest : List Cond := .code yX4_digest cX4_digest 8 (some .long) :: ((wsX4_digest_r1 ++ (wsX4_digest_r2 ++ (wsX4_digest_r3 ++ wsX4_digest_r4))) ++ wsX40 ++ wsX30 ++ wsX00 ++ wsX10 ++ wsX20)
end
section
theorem dX0_init_0 : decode cX0_init 0 = .ok (.aload_n 0, 1) := by decide +kernel
theorem dX0_init_1 : decode cX0_init 1 = .ok (.invokespecial 3, 3) := by decide +kernel
theorem dX0_init_4 : decode cX0_init 4 = .ok (.aload_n 0, 1) := by decide +kernel
theorem dX0_init_5 : decode cX0_init 5 = .ok (.iload_n 1, 1) := by decide +kernel
theorem dX0_init_6 : decode cX0_init 6 = .ok (.putfield 9, 3) := by decide +kernel
theorem dX0_init_9 : decode cX0_init 9 = .ok (.aload_n 0, 1) := by decide +kernel
theorem dX0_init_10 : decode cX0_init 10 = .ok (.iconst (-1), 1) := by decide +kernel
theorem dX0_init_11 : decode cX0_init 11 = .ok (.putfield 15, 3) := by decide +kernel
theorem dX0_init_14 : decode cX0_init 14 = .ok (.aload_n 0, 1) := by decide +kernel
theorem dX0_init_15 : decode cX0_init 15 = .ok (.iconst (-1), 1) := by decide +kernel
theorem dX0_init_16 : decode cX0_init 16 = .ok (.putfield 18, 3) := by decide +kernel
theorem dX0_init_19 : decode cX0_init 19 = .ok (.return_, 1) := by decide +kernel
theorem dX0_setTo_0 : decode cX0_setTo 0 = .ok (.aload_n 0, 1) := by decide +kernel
theorem dX0_setTo_1 : decode cX0_setTo 1 = .ok (.aload_n 1, 1) := by decide +kernel
theorem dX0_setTo_2 : decode cX0_setTo 2 = .ok (.getfield 21, 3) := by decide +kernel
theorem dX0_setTo_5 : decode cX0_setTo 5 = .ok (.putfield 21, 3) := by decide +kernel
theorem dX0_setTo_8 : decode cX0_setTo 8 = .ok (.aload_n 0, 1) := by decide +kernel
theorem dX0_setTo_9 : decode cX0_setTo 9 = .ok (.aload_n 1, 1) := by decide +kernel
theorem dX0_setTo_10 : decode cX0_setTo 10 = .ok (.getfield 24, 3) := by decide +kernel
theorem dX0_setTo_13 : decode cX0_setTo 13 = .ok (.putfield 24, 3) := by decide +kernel
theorem dX0_setTo_16 : decode cX0_setTo 16 = .ok (.aload_n 0, 1) := by decide +kernel
theorem dX0_setTo_17 : decode cX0_setTo 17 = .ok (.aload_n 1, 1) := by decide +kernel
theorem dX0_setTo_18 : decode cX0_setTo 18 = .ok (.getfield 27, 3) := by decide +kernel
theorem dX0_setTo_21 : decode cX0_setTo 21 = .ok (.putfield 27, 3) := by decide +kernel
theorem dX0_setTo_24 : decode cX0_setTo 24 = .ok (.aload_n 0, 1) := by decide +kernel
theorem dX0_setTo_25 : decode cX0_setTo 25 = .ok (.aload_n 1, 1) := by decide +kernel
theorem dX0_setTo_26 : decode cX0_setTo 26 = .ok (.getfield 15, 3) := by decide +kernel
theorem dX0_setTo_29 : decode cX0_setTo 29 = .ok (.putfield 15, 3) := by decide +kernel
theorem dX0_setTo_32 : decode cX0_setTo 32 = .ok (.aload_n 0, 1) := by decide +kernel
theorem dX0_setTo_33 : decode cX0_setTo 33 = .ok (.aload_n 1, 1) := by decide +kernel
theorem dX0_setTo_34 : decode cX0_setTo 34 = .ok (.getfield 18, 3) := by decide +kernel
theorem dX0_setTo_37 : decode cX0_setTo 37 = .ok (.putfield 18, 3) := by decide +kernel
theorem dX0_setTo_40 : decode cX0_setTo 40 = .ok (.aload_n 0, 1) := by decide +kernel
theorem dX0_setTo_41 : decode cX0_setTo 41 = .ok (.aload_n 1, 1) := by decide +kernel
theorem dX0_setTo_42 : decode cX0_setTo 42 = .ok (.getfield 30, 3) := by decide +kernel
theorem dX0_setTo_45 : decode cX0_setTo 45 = .ok (.putfield 30, 3) := by decide +kernel
theorem dX0_setTo_48 : decode cX0_setTo 48 = .ok (.aload_n 0, 1) := by decide +kernel
theorem dX0_setTo_49 : decode cX0_setTo 49 = .ok (.aload_n 1, 1) := by decide +kernel
theorem dX0_setTo_50 : decode cX0_setTo 50 = .ok (.getfield 33, 3) := by decide +kernel
theorem dX0_setTo_53 : decode cX0_setTo 53 = .ok (.putfield 33, 3) := by decide +kernel
theorem dX0_setTo_56 : decode cX0_setTo 56 = .ok (.aload_n 0, 1) := by decide +kernel
theorem dX0_setTo_57 : decode cX0_setTo 57 = .ok (.aload_n 1, 1) := by decide +kernel
theorem dX0_setTo_58 : decode cX0_setTo 58 = .ok (.getfield 36, 3) := by decide +kernel
theorem dX0_setTo_61 : decode cX0_setTo 61 = .ok (.putfield 36, 3) := by decide +kernel
theorem dX0_setTo_64 : decode cX0_setTo 64 = .ok (.aload_n 0, 1) := by decide +kernel
theorem dX0_setTo_65 : decode cX0_setTo 65 = .ok (.aload_n 1, 1) := by decide +kernel
theorem dX0_setTo_66 : decode cX0_setTo 66 = .ok (.getfield 39, 3) := by decide +kernel
theorem dX0_setTo_69 : decode cX0_setTo 69 = .ok (.putfield 39, 3) := by decide +kernel
theorem dX0_setTo_72 : decode cX0_setTo 72 = .ok (.aload_n 0, 1) := by decide +kernel
theorem dX0_setTo_73 : decode cX0_setTo 73 = .ok (.aload_n 1, 1) := by decide +kernel
theorem dX0_setTo_74 : decode cX0_setTo 74 = .ok (.getfield 42, 3) := by decide +kernel
theorem dX0_setTo_77 : decode cX0_setTo 77 = .ok (.putfield 42, 3) := by decide +kernel
theorem dX0_setTo_80 : decode cX0_setTo 80 = .ok (.aload_n 0, 1) := by decide +kernel
theorem dX0_setTo_81 : decode cX0_setTo 81 = .ok (.aload_n 1, 1) := by decide +kernel
theorem dX0_setTo_82 : decode cX0_setTo 82 = .ok (.getfield 45, 3) := by decide +kernel
theorem dX0_setTo_85 : decode cX0_setTo 85 = .ok (.putfield 45, 3) := by decide +kernel
theorem dX0_setTo_88 : decode cX0_setTo 88 = .ok (.aload_n 0, 1) := by decide +kernel
theorem dX0_setTo_89 : decode cX0_setTo 89 = .ok (.aload_n 1, 1) := by decide +kernel
theorem dX0_setTo_90 : decode cX0_setTo 90 = .ok (.getfield 48, 3) := by decide +kernel
theorem dX0_setTo_93 : decode cX0_setTo 93 = .ok (.putfield 48, 3) := by decide +kernel
theorem dX0_setTo_96 : decode cX0_setTo 96 = .ok (.return_, 1) := by decide +kernel
theorem dX0_begin_0 : decode cX0_begin 0 = .ok (.aload_n 0, 1) := by decide +kernel
theorem dX0_begin_1 : decode cX0_begin 1 = .ok (.iload_n 1, 1) := by decide +kernel
theorem dX0_begin_2 : decode cX0_begin 2 = .ok (.putfield 21, 3) := by decide +kernel
theorem dX0_begin_5 : decode cX0_begin 5 = .ok (.aload_n 0, 1) := by decide +kernel
theorem dX0_begin_6 : decode cX0_begin 6 = .ok (.iload_n 2, 1) := by decide +kernel
theorem dX0_begin_7 : decode cX0_begin 7 = .ok (.putfield 24, 3) := by decide +kernel
theorem dX0_begin_10 : decode cX0_begin 10 = .ok (.aload_n 0, 1) := by decide +kernel
theorem dX0_begin_11 : decode cX0_begin 11 = .ok (.iload_n 3, 1) := by decide +kernel
theorem dX0_begin_12 : decode cX0_begin 12 = .ok (.putfield 27, 3) := by decide +kernel
theorem dX0_begin_15 : decode cX0_begin 15 = .ok (.aload_n 0, 1) := by decide +kernel
theorem dX0_begin_16 : decode cX0_begin 16 = .ok (.iconst 0, 1) := by decide +kernel
theorem dX0_begin_17 : decode cX0_begin 17 = .ok (.putfield 15, 3) := by decide +kernel
theorem dX0_begin_20 : decode cX0_begin 20 = .ok (.return_, 1) := by decide +kernel
theorem dX0_mount_0 : decode cX0_mount 0 = .ok (.aload_n 0, 1) := by decide +kernel
theorem dX0_mount_1 : decode cX0_mount 1 = .ok (.iconst 1, 1) := by decide +kernel
theorem dX0_mount_2 : decode cX0_mount 2 = .ok (.putfield 15, 3) := by decide +kernel
theorem dX0_mount_5 : decode cX0_mount 5 = .ok (.aload_n 0, 1) := by decide +kernel
theorem dX0_mount_6 : decode cX0_mount 6 = .ok (.iload_n 1, 1) := by decide +kernel
theorem dX0_mount_7 : decode cX0_mount 7 = .ok (.putfield 18, 3) := by decide +kernel
theorem dX0_mount_10 : decode cX0_mount 10 = .ok (.aload_n 0, 1) := by decide +kernel
theorem dX0_mount_11 : decode cX0_mount 11 = .ok (.iload_n 2, 1) := by decide +kernel
theorem dX0_mount_12 : decode cX0_mount 12 = .ok (.putfield 30, 3) := by decide +kernel
theorem dX0_mount_15 : decode cX0_mount 15 = .ok (.return_, 1) := by decide +kernel
theorem dX0_undo_0 : decode cX0_undo 0 = .ok (.aload_n 0, 1) := by decide +kernel
theorem dX0_undo_1 : decode cX0_undo 1 = .ok (.iconst 0, 1) := by decide +kernel
theorem dX0_undo_2 : decode cX0_undo 2 = .ok (.putfield 15, 3) := by decide +kernel
theorem dX0_undo_5 : decode cX0_undo 5 = .ok (.aload_n 0, 1) := by decide +kernel
theorem dX0_undo_6 : decode cX0_undo 6 = .ok (.iconst (-1), 1) := by decide +kernel
theorem dX0_undo_7 : decode cX0_undo 7 = .ok (.putfield 18, 3) := by decide +kernel
theorem dX0_undo_10 : decode cX0_undo 10 = .ok (.aload_n 0, 1) := by decide +kernel
theorem dX0_undo_11 : decode cX0_undo 11 = .ok (.iconst 0, 1) := by decide +kernel
theorem dX0_undo_12 : decode cX0_undo 12 = .ok (.putfield 30, 3) := by decide +kernel
theorem dX0_undo_15 : decode cX0_undo 15 = .ok (.aload_n 0, 1) := by decide +kernel
theorem dX0_undo_16 : decode cX0_undo 16 = .ok (.iconst 0, 1) := by decide +kernel
theorem dX0_undo_17 : decode cX0_undo 17 = .ok (.putfield 33, 3) := by decide +kernel
theorem dX0_undo_20 : decode cX0_undo 20 = .ok (.aload_n 0, 1) := by decide +kernel
theorem dX0_undo_21 : decode cX0_undo 21 = .ok (.iconst 0, 1) := by decide +kernel
theorem dX0_undo_22 : decode cX0_undo 22 = .ok (.putfield 36, 3) := by decide +kernel
theorem dX0_undo_25 : decode cX0_undo 25 = .ok (.aload_n 0, 1) := by decide +kernel
theorem dX0_undo_26 : decode cX0_undo 26 = .ok (.iconst 0, 1) := by decide +kernel
theorem dX0_undo_27 : decode cX0_undo 27 = .ok (.putfield 39, 3) := by decide +kernel
theorem dX0_undo_30 : decode cX0_undo 30 = .ok (.aload_n 0, 1) := by decide +kernel
theorem dX0_undo_31 : decode cX0_undo 31 = .ok (.iconst 0, 1) := by decide +kernel
theorem dX0_undo_32 : decode cX0_undo 32 = .ok (.putfield 42, 3) := by decide +kernel
theorem dX0_undo_35 : decode cX0_undo 35 = .ok (.return_, 1) := by decide +kernel
theorem dX0_thickness_0 : decode cX0_thickness 0 = .ok (.aload_n 0, 1) := by decide +kernel
theorem dX0_thickness_1 : decode cX0_thickness 1 = .ok (.getfield 21, 3) := by decide +kernel
theorem dX0_thickness_4 : decode cX0_thickness 4 = .ok (.aload_n 0, 1) := by decide +kernel
theorem dX0_thickness_5 : decode cX0_thickness 5 = .ok (.getfield 24, 3) := by decide +kernel
theorem dX0_thickness_8 : decode cX0_thickness 8 = .ok (.imul, 1) := by decide +kernel
theorem dX0_thickness_9 : decode cX0_thickness 9 = .ok (.ireturn, 1) := by decide +kernel
set_option maxRecDepth 20000 in
theorem ggX0_leavesForAnEdge_X0_thickness : GoodIn wsX0_leavesForAnEdge wsX0_thickness := goodIn_r _ [5, 6, 7, 8, 9, 10, 11, 12, 13, 14, 15, 16, 17, 18, 19, 20] (by decide +kernel) (by decide +kernel)
set_option maxRecDepth 20000 in
theorem gX0_leavesForAnEdge_X0_thickness : GoodIn wsX0_leavesForAnEdge (wsV RX0 51 RX0 yX0_thickness wsX0_thickness) := goodIn_app (goodIn_of _ (by decide +kernel)) ggX0_leavesForAnEdge_X0_thickness
theorem dX0_leavesForAnEdge_0 : decode cX0_leavesForAnEdge 0 = .ok (.iconst 1, 1) := by decide +kernel
theorem dX0_leavesForAnEdge_1 : decode cX0_leavesForAnEdge 1 = .ok (.aload_n 0, 1) := by decide +kernel
theorem dX0_leavesForAnEdge_2 : decode cX0_leavesForAnEdge 2 = .ok (.invokevirtual 51, 3) := by decide +kernel
theorem dX0_leavesForAnEdge_5 : decode cX0_leavesForAnEdge 5 = .ok (.bipush 16, 2) := by decide +kernel
theorem dX0_leavesForAnEdge_7 : decode cX0_leavesForAnEdge 7 = .ok (.idiv, 1) := by decide +kernel
theorem dX0_leavesForAnEdge_8 : decode cX0_leavesForAnEdge 8 = .ok (.iadd, 1) := by decide +kernel
theorem dX0_leavesForAnEdge_9 : decode cX0_leavesForAnEdge 9 = .ok (.ireturn, 1) := by decide +kernel
theorem dX0_stitchesOfSignature_0 : decode cX0_stitchesOfSignature 0 = .ok (.aload_n 0, 1) := by decide +kernel
theorem dX0_stitchesOfSignature_1 : decode cX0_stitchesOfSignature 1 = .ok (.getfield 30, 3) := by decide +kernel
theorem dX0_stitchesOfSignature_4 : decode cX0_stitchesOfSignature 4 = .ok (.iconst 2, 1) := by decide +kernel
theorem dX0_stitchesOfSignature_5 : decode cX0_stitchesOfSignature 5 = .ok (.iadd, 1) := by decide +kernel
theorem dX0_stitchesOfSignature_6 : decode cX0_stitchesOfSignature 6 = .ok (.istore_n 2, 1) := by decide +kernel
theorem dX0_stitchesOfSignature_7 : decode cX0_stitchesOfSignature 7 = .ok (.iload_n 1, 1) := by decide +kernel
theorem dX0_stitchesOfSignature_8 : decode cX0_stitchesOfSignature 8 = .ok (.ifCond .ne 6, 3) := by decide +kernel
theorem dX0_stitchesOfSignature_11 : decode cX0_stitchesOfSignature 11 = .ok (.iinc 2 2, 3) := by decide +kernel
theorem dX0_stitchesOfSignature_14 : decode cX0_stitchesOfSignature 14 = .ok (.iload_n 1, 1) := by decide +kernel
theorem dX0_stitchesOfSignature_15 : decode cX0_stitchesOfSignature 15 = .ok (.aload_n 0, 1) := by decide +kernel
theorem dX0_stitchesOfSignature_16 : decode cX0_stitchesOfSignature 16 = .ok (.getfield 21, 3) := by decide +kernel
theorem dX0_stitchesOfSignature_19 : decode cX0_stitchesOfSignature 19 = .ok (.iconst 1, 1) := by decide +kernel
theorem dX0_stitchesOfSignature_20 : decode cX0_stitchesOfSignature 20 = .ok (.isub, 1) := by decide +kernel
theorem dX0_stitchesOfSignature_21 : decode cX0_stitchesOfSignature 21 = .ok (.if_icmp .ne 6, 3) := by decide +kernel
theorem dX0_stitchesOfSignature_24 : decode cX0_stitchesOfSignature 24 = .ok (.iinc 2 2, 3) := by decide +kernel
theorem dX0_stitchesOfSignature_27 : decode cX0_stitchesOfSignature 27 = .ok (.iload_n 2, 1) := by decide +kernel
theorem dX0_stitchesOfSignature_28 : decode cX0_stitchesOfSignature 28 = .ok (.ireturn, 1) := by decide +kernel
set_option maxRecDepth 20000 in
theorem ggX0_stitchesToSew_X0_stitchesOfSignature : GoodIn wsX0_stitchesToSew wsX0_stitchesOfSignature := goodIn_r _ [7, 8, 1, 9, 10, 11, 12, 13, 14, 15, 16, 17, 18, 19, 20, 21] (by decide +kernel) (by decide +kernel)
set_option maxRecDepth 20000 in
theorem gX0_stitchesToSew_X0_stitchesOfSignature : GoodIn wsX0_stitchesToSew (wsV RX0 55 RX0 yX0_stitchesOfSignature wsX0_stitchesOfSignature) := goodIn_app (goodIn_of _ (by decide +kernel)) ggX0_stitchesToSew_X0_stitchesOfSignature
theorem dX0_stitchesToSew_0 : decode cX0_stitchesToSew 0 = .ok (.iconst 0, 1) := by decide +kernel
theorem dX0_stitchesToSew_1 : decode cX0_stitchesToSew 1 = .ok (.istore_n 1, 1) := by decide +kernel
theorem dX0_stitchesToSew_2 : decode cX0_stitchesToSew 2 = .ok (.iconst 0, 1) := by decide +kernel
theorem dX0_stitchesToSew_3 : decode cX0_stitchesToSew 3 = .ok (.istore_n 2, 1) := by decide +kernel
theorem dX0_stitchesToSew_4 : decode cX0_stitchesToSew 4 = .ok (.iload_n 2, 1) := by decide +kernel
theorem dX0_stitchesToSew_5 : decode cX0_stitchesToSew 5 = .ok (.aload_n 0, 1) := by decide +kernel
theorem dX0_stitchesToSew_6 : decode cX0_stitchesToSew 6 = .ok (.getfield 21, 3) := by decide +kernel
theorem dX0_stitchesToSew_9 : decode cX0_stitchesToSew 9 = .ok (.if_icmp .ge 17, 3) := by decide +kernel
theorem dX0_stitchesToSew_12 : decode cX0_stitchesToSew 12 = .ok (.iload_n 1, 1) := by decide +kernel
theorem dX0_stitchesToSew_13 : decode cX0_stitchesToSew 13 = .ok (.aload_n 0, 1) := by decide +kernel
theorem dX0_stitchesToSew_14 : decode cX0_stitchesToSew 14 = .ok (.iload_n 2, 1) := by decide +kernel
theorem dX0_stitchesToSew_15 : decode cX0_stitchesToSew 15 = .ok (.invokevirtual 55, 3) := by decide +kernel
theorem dX0_stitchesToSew_18 : decode cX0_stitchesToSew 18 = .ok (.iadd, 1) := by decide +kernel
theorem dX0_stitchesToSew_19 : decode cX0_stitchesToSew 19 = .ok (.istore_n 1, 1) := by decide +kernel
theorem dX0_stitchesToSew_20 : decode cX0_stitchesToSew 20 = .ok (.iinc 2 1, 3) := by decide +kernel
theorem dX0_stitchesToSew_23 : decode cX0_stitchesToSew 23 = .ok (.goto (-19), 3) := by decide +kernel
theorem dX0_stitchesToSew_26 : decode cX0_stitchesToSew 26 = .ok (.iload_n 1, 1) := by decide +kernel
theorem dX0_stitchesToSew_27 : decode cX0_stitchesToSew 27 = .ok (.aload_n 0, 1) := by decide +kernel
theorem dX0_stitchesToSew_28 : decode cX0_stitchesToSew 28 = .ok (.getfield 33, 3) := by decide +kernel
theorem dX0_stitchesToSew_31 : decode cX0_stitchesToSew 31 = .ok (.isub, 1) := by decide +kernel
theorem dX0_stitchesToSew_32 : decode cX0_stitchesToSew 32 = .ok (.ireturn, 1) := by decide +kernel
set_option maxRecDepth 20000 in
theorem ggX0_addStitch_X0_stitchesOfSignature : GoodIn wsX0_addStitch wsX0_stitchesOfSignature := goodIn_r _ [8, 9, 10, 11, 12, 13, 14, 15, 16, 17, 18, 19, 20, 21, 22, 23] (by decide +kernel) (by decide +kernel)
set_option maxRecDepth 20000 in
theorem gX0_addStitch_X0_stitchesOfSignature : GoodIn wsX0_addStitch (wsV RX0 55 RX0 yX0_stitchesOfSignature wsX0_stitchesOfSignature) := goodIn_app (goodIn_of _ (by decide +kernel)) ggX0_addStitch_X0_stitchesOfSignature
theorem dX0_addStitch_0 : decode cX0_addStitch 0 = .ok (.aload_n 0, 1) := by decide +kernel
theorem dX0_addStitch_1 : decode cX0_addStitch 1 = .ok (.dup, 1) := by decide +kernel
theorem dX0_addStitch_2 : decode cX0_addStitch 2 = .ok (.getfield 33, 3) := by decide +kernel
theorem dX0_addStitch_5 : decode cX0_addStitch 5 = .ok (.iconst 1, 1) := by decide +kernel
theorem dX0_addStitch_6 : decode cX0_addStitch 6 = .ok (.iadd, 1) := by decide +kernel
theorem dX0_addStitch_7 : decode cX0_addStitch 7 = .ok (.putfield 33, 3) := by decide +kernel
theorem dX0_addStitch_10 : decode cX0_addStitch 10 = .ok (.aload_n 0, 1) := by decide +kernel
theorem dX0_addStitch_11 : decode cX0_addStitch 11 = .ok (.dup, 1) := by decide +kernel
theorem dX0_addStitch_12 : decode cX0_addStitch 12 = .ok (.getfield 39, 3) := by decide +kernel
theorem dX0_addStitch_15 : decode cX0_addStitch 15 = .ok (.iconst 1, 1) := by decide +kernel
theorem dX0_addStitch_16 : decode cX0_addStitch 16 = .ok (.iadd, 1) := by decide +kernel
theorem dX0_addStitch_17 : decode cX0_addStitch 17 = .ok (.putfield 39, 3) := by decide +kernel
theorem dX0_addStitch_20 : decode cX0_addStitch 20 = .ok (.aload_n 0, 1) := by decide +kernel
theorem dX0_addStitch_21 : decode cX0_addStitch 21 = .ok (.getfield 39, 3) := by decide +kernel
theorem dX0_addStitch_24 : decode cX0_addStitch 24 = .ok (.aload_n 0, 1) := by decide +kernel
theorem dX0_addStitch_25 : decode cX0_addStitch 25 = .ok (.aload_n 0, 1) := by decide +kernel
theorem dX0_addStitch_26 : decode cX0_addStitch 26 = .ok (.getfield 36, 3) := by decide +kernel
theorem dX0_addStitch_29 : decode cX0_addStitch 29 = .ok (.invokevirtual 55, 3) := by decide +kernel
theorem dX0_addStitch_32 : decode cX0_addStitch 32 = .ok (.if_icmp .ge 5, 3) := by decide +kernel
theorem dX0_addStitch_35 : decode cX0_addStitch 35 = .ok (.iconst 0, 1) := by decide +kernel
theorem dX0_addStitch_36 : decode cX0_addStitch 36 = .ok (.ireturn, 1) := by decide +kernel
theorem dX0_addStitch_37 : decode cX0_addStitch 37 = .ok (.aload_n 0, 1) := by decide +kernel
theorem dX0_addStitch_38 : decode cX0_addStitch 38 = .ok (.dup, 1) := by decide +kernel
theorem dX0_addStitch_39 : decode cX0_addStitch 39 = .ok (.getfield 36, 3) := by decide +kernel
theorem dX0_addStitch_42 : decode cX0_addStitch 42 = .ok (.iconst 1, 1) := by decide +kernel
theorem dX0_addStitch_43 : decode cX0_addStitch 43 = .ok (.iadd, 1) := by decide +kernel
theorem dX0_addStitch_44 : decode cX0_addStitch 44 = .ok (.putfield 36, 3) := by decide +kernel
theorem dX0_addStitch_47 : decode cX0_addStitch 47 = .ok (.aload_n 0, 1) := by decide +kernel
theorem dX0_addStitch_48 : decode cX0_addStitch 48 = .ok (.iconst 0, 1) := by decide +kernel
theorem dX0_addStitch_49 : decode cX0_addStitch 49 = .ok (.putfield 39, 3) := by decide +kernel
theorem dX0_addStitch_52 : decode cX0_addStitch 52 = .ok (.iconst 1, 1) := by decide +kernel
theorem dX0_addStitch_53 : decode cX0_addStitch 53 = .ok (.ireturn, 1) := by decide +kernel
theorem dX0_isSewn_0 : decode cX0_isSewn 0 = .ok (.aload_n 0, 1) := by decide +kernel
theorem dX0_isSewn_1 : decode cX0_isSewn 1 = .ok (.getfield 36, 3) := by decide +kernel
theorem dX0_isSewn_4 : decode cX0_isSewn 4 = .ok (.aload_n 0, 1) := by decide +kernel
theorem dX0_isSewn_5 : decode cX0_isSewn 5 = .ok (.getfield 21, 3) := by decide +kernel
theorem dX0_isSewn_8 : decode cX0_isSewn 8 = .ok (.if_icmp .lt 7, 3) := by decide +kernel
theorem dX0_isSewn_11 : decode cX0_isSewn 11 = .ok (.iconst 1, 1) := by decide +kernel
theorem dX0_isSewn_12 : decode cX0_isSewn 12 = .ok (.goto 4, 3) := by decide +kernel
theorem dX0_isSewn_15 : decode cX0_isSewn 15 = .ok (.iconst 0, 1) := by decide +kernel
theorem dX0_isSewn_16 : decode cX0_isSewn 16 = .ok (.ireturn, 1) := by decide +kernel
set_option maxRecDepth 20000 in
theorem ggX0_beginToDry_X0_thickness : GoodIn wsX0_beginToDry wsX0_thickness := goodIn_r _ [8, 9, 10, 11, 12, 13, 14, 15, 16, 17, 18, 19, 20, 21, 22, 23] (by decide +kernel) (by decide +kernel)
set_option maxRecDepth 20000 in
theorem gX0_beginToDry_X0_thickness : GoodIn wsX0_beginToDry (wsV RX0 51 RX0 yX0_thickness wsX0_thickness) := goodIn_app (goodIn_of _ (by decide +kernel)) ggX0_beginToDry_X0_thickness
theorem dX0_beginToDry_0 : decode cX0_beginToDry 0 = .ok (.aload_n 0, 1) := by decide +kernel
theorem dX0_beginToDry_1 : decode cX0_beginToDry 1 = .ok (.iconst 2, 1) := by decide +kernel
theorem dX0_beginToDry_2 : decode cX0_beginToDry 2 = .ok (.putfield 15, 3) := by decide +kernel
theorem dX0_beginToDry_5 : decode cX0_beginToDry 5 = .ok (.aload_n 0, 1) := by decide +kernel
theorem dX0_beginToDry_6 : decode cX0_beginToDry 6 = .ok (.iconst (-1), 1) := by decide +kernel
theorem dX0_beginToDry_7 : decode cX0_beginToDry 7 = .ok (.putfield 18, 3) := by decide +kernel
theorem dX0_beginToDry_10 : decode cX0_beginToDry 10 = .ok (.aload_n 0, 1) := by decide +kernel
theorem dX0_beginToDry_11 : decode cX0_beginToDry 11 = .ok (.iconst 2, 1) := by decide +kernel
theorem dX0_beginToDry_12 : decode cX0_beginToDry 12 = .ok (.aload_n 0, 1) := by decide +kernel
theorem dX0_beginToDry_13 : decode cX0_beginToDry 13 = .ok (.invokevirtual 51, 3) := by decide +kernel
theorem dX0_beginToDry_16 : decode cX0_beginToDry 16 = .ok (.bipush 8, 2) := by decide +kernel
theorem dX0_beginToDry_18 : decode cX0_beginToDry 18 = .ok (.idiv, 1) := by decide +kernel
theorem dX0_beginToDry_19 : decode cX0_beginToDry 19 = .ok (.iadd, 1) := by decide +kernel
theorem dX0_beginToDry_20 : decode cX0_beginToDry 20 = .ok (.putfield 45, 3) := by decide +kernel
theorem dX0_beginToDry_23 : decode cX0_beginToDry 23 = .ok (.return_, 1) := by decide +kernel
theorem dX0_dryForAnHour_0 : decode cX0_dryForAnHour 0 = .ok (.aload_n 0, 1) := by decide +kernel
theorem dX0_dryForAnHour_1 : decode cX0_dryForAnHour 1 = .ok (.dup, 1) := by decide +kernel
theorem dX0_dryForAnHour_2 : decode cX0_dryForAnHour 2 = .ok (.getfield 45, 3) := by decide +kernel
theorem dX0_dryForAnHour_5 : decode cX0_dryForAnHour 5 = .ok (.iconst 1, 1) := by decide +kernel
theorem dX0_dryForAnHour_6 : decode cX0_dryForAnHour 6 = .ok (.isub, 1) := by decide +kernel
theorem dX0_dryForAnHour_7 : decode cX0_dryForAnHour 7 = .ok (.putfield 45, 3) := by decide +kernel
theorem dX0_dryForAnHour_10 : decode cX0_dryForAnHour 10 = .ok (.aload_n 0, 1) := by decide +kernel
theorem dX0_dryForAnHour_11 : decode cX0_dryForAnHour 11 = .ok (.getfield 45, 3) := by decide +kernel
theorem dX0_dryForAnHour_14 : decode cX0_dryForAnHour 14 = .ok (.ifCond .ne 8, 3) := by decide +kernel
theorem dX0_dryForAnHour_17 : decode cX0_dryForAnHour 17 = .ok (.aload_n 0, 1) := by decide +kernel
theorem dX0_dryForAnHour_18 : decode cX0_dryForAnHour 18 = .ok (.iconst 3, 1) := by decide +kernel
theorem dX0_dryForAnHour_19 : decode cX0_dryForAnHour 19 = .ok (.putfield 15, 3) := by decide +kernel
theorem dX0_dryForAnHour_22 : decode cX0_dryForAnHour 22 = .ok (.return_, 1) := by decide +kernel
theorem dX0_bind_0 : decode cX0_bind 0 = .ok (.aload_n 0, 1) := by decide +kernel
theorem dX0_bind_1 : decode cX0_bind 1 = .ok (.aload_n 0, 1) := by decide +kernel
theorem dX0_bind_2 : decode cX0_bind 2 = .ok (.getfield 27, 3) := by decide +kernel
theorem dX0_bind_5 : decode cX0_bind 5 = .ok (.ifCond .ne 7, 3) := by decide +kernel
theorem dX0_bind_8 : decode cX0_bind 8 = .ok (.iconst 5, 1) := by decide +kernel
theorem dX0_bind_9 : decode cX0_bind 9 = .ok (.goto 4, 3) := by decide +kernel
theorem dX0_bind_12 : decode cX0_bind 12 = .ok (.iconst 4, 1) := by decide +kernel
theorem dX0_bind_13 : decode cX0_bind 13 = .ok (.putfield 15, 3) := by decide +kernel
theorem dX0_bind_16 : decode cX0_bind 16 = .ok (.return_, 1) := by decide +kernel
theorem dX0_gildAnEdge_0 : decode cX0_gildAnEdge 0 = .ok (.aload_n 0, 1) := by decide +kernel
theorem dX0_gildAnEdge_1 : decode cX0_gildAnEdge 1 = .ok (.dup, 1) := by decide +kernel
theorem dX0_gildAnEdge_2 : decode cX0_gildAnEdge 2 = .ok (.getfield 48, 3) := by decide +kernel
theorem dX0_gildAnEdge_5 : decode cX0_gildAnEdge 5 = .ok (.iconst 1, 1) := by decide +kernel
theorem dX0_gildAnEdge_6 : decode cX0_gildAnEdge 6 = .ok (.iadd, 1) := by decide +kernel
theorem dX0_gildAnEdge_7 : decode cX0_gildAnEdge 7 = .ok (.putfield 48, 3) := by decide +kernel
theorem dX0_gildAnEdge_10 : decode cX0_gildAnEdge 10 = .ok (.aload_n 0, 1) := by decide +kernel
theorem dX0_gildAnEdge_11 : decode cX0_gildAnEdge 11 = .ok (.getfield 48, 3) := by decide +kernel
theorem dX0_gildAnEdge_14 : decode cX0_gildAnEdge 14 = .ok (.aload_n 0, 1) := by decide +kernel
theorem dX0_gildAnEdge_15 : decode cX0_gildAnEdge 15 = .ok (.getfield 27, 3) := by decide +kernel
theorem dX0_gildAnEdge_18 : decode cX0_gildAnEdge 18 = .ok (.if_icmp .lt 8, 3) := by decide +kernel
theorem dX0_gildAnEdge_21 : decode cX0_gildAnEdge 21 = .ok (.aload_n 0, 1) := by decide +kernel
theorem dX0_gildAnEdge_22 : decode cX0_gildAnEdge 22 = .ok (.iconst 5, 1) := by decide +kernel
theorem dX0_gildAnEdge_23 : decode cX0_gildAnEdge 23 = .ok (.putfield 15, 3) := by decide +kernel
theorem dX0_gildAnEdge_26 : decode cX0_gildAnEdge 26 = .ok (.return_, 1) := by decide +kernel
theorem dX0_value_0 : decode cX0_value 0 = .ok (.iconst 1, 1) := by decide +kernel
theorem dX0_value_1 : decode cX0_value 1 = .ok (.iconst 4, 1) := by decide +kernel
theorem dX0_value_2 : decode cX0_value 2 = .ok (.aload_n 0, 1) := by decide +kernel
theorem dX0_value_3 : decode cX0_value 3 = .ok (.getfield 21, 3) := by decide +kernel
theorem dX0_value_6 : decode cX0_value 6 = .ok (.imul, 1) := by decide +kernel
theorem dX0_value_7 : decode cX0_value 7 = .ok (.iconst 2, 1) := by decide +kernel
theorem dX0_value_8 : decode cX0_value 8 = .ok (.aload_n 0, 1) := by decide +kernel
theorem dX0_value_9 : decode cX0_value 9 = .ok (.getfield 30, 3) := by decide +kernel
theorem dX0_value_12 : decode cX0_value 12 = .ok (.imul, 1) := by decide +kernel
theorem dX0_value_13 : decode cX0_value 13 = .ok (.iadd, 1) := by decide +kernel
theorem dX0_value_14 : decode cX0_value 14 = .ok (.bipush 6, 2) := by decide +kernel
theorem dX0_value_16 : decode cX0_value 16 = .ok (.aload_n 0, 1) := by decide +kernel
theorem dX0_value_17 : decode cX0_value 17 = .ok (.getfield 48, 3) := by decide +kernel
theorem dX0_value_20 : decode cX0_value 20 = .ok (.imul, 1) := by decide +kernel
theorem dX0_value_21 : decode cX0_value 21 = .ok (.iadd, 1) := by decide +kernel
theorem dX0_value_22 : decode cX0_value 22 = .ok (.iconst 3, 1) := by decide +kernel
theorem dX0_value_23 : decode cX0_value 23 = .ok (.aload_n 0, 1) := by decide +kernel
theorem dX0_value_24 : decode cX0_value 24 = .ok (.getfield 42, 3) := by decide +kernel
theorem dX0_value_27 : decode cX0_value 27 = .ok (.imul, 1) := by decide +kernel
theorem dX0_value_28 : decode cX0_value 28 = .ok (.isub, 1) := by decide +kernel
theorem dX0_value_29 : decode cX0_value 29 = .ok (.invokestatic 59, 3) := by decide +kernel
theorem dX0_value_32 : decode cX0_value 32 = .ok (.ireturn, 1) := by decide +kernel
set_option maxRecDepth 20000 in
theorem ggX0_tell_X0_value : GoodIn wsX0_tell wsX0_value := goodIn_r _ [15, 1, 16, 10, 8, 17, 18, 19, 20, 21, 22, 23, 24, 25, 26, 27, 28, 29, 30, 31, 32, 33] (by decide +kernel) (by decide +kernel)
set_option maxRecDepth 20000 in
theorem gX0_tell_X0_value : GoodIn wsX0_tell (wsV RX0 65 RX0 yX0_value wsX0_value) := goodIn_app (goodIn_of _ (by decide +kernel)) ggX0_tell_X0_value
theorem dX0_tell_0 : decode cX0_tell 0 = .ok (.iload_n 1, 1) := by decide +kernel
theorem dX0_tell_1 : decode cX0_tell 1 = .ok (.tableswitch 105 0 9 #[55, 60, 65, 70, 75, 80, 85, 90, 95, 100], 55) := by decide +kernel
theorem dX0_tell_56 : decode cX0_tell 56 = .ok (.aload_n 0, 1) := by decide +kernel
theorem dX0_tell_57 : decode cX0_tell 57 = .ok (.getfield 21, 3) := by decide +kernel
theorem dX0_tell_60 : decode cX0_tell 60 = .ok (.ireturn, 1) := by decide +kernel
theorem dX0_tell_61 : decode cX0_tell 61 = .ok (.aload_n 0, 1) := by decide +kernel
theorem dX0_tell_62 : decode cX0_tell 62 = .ok (.getfield 24, 3) := by decide +kernel
theorem dX0_tell_65 : decode cX0_tell 65 = .ok (.ireturn, 1) := by decide +kernel
theorem dX0_tell_66 : decode cX0_tell 66 = .ok (.aload_n 0, 1) := by decide +kernel
theorem dX0_tell_67 : decode cX0_tell 67 = .ok (.getfield 27, 3) := by decide +kernel
theorem dX0_tell_70 : decode cX0_tell 70 = .ok (.ireturn, 1) := by decide +kernel
theorem dX0_tell_71 : decode cX0_tell 71 = .ok (.aload_n 0, 1) := by decide +kernel
theorem dX0_tell_72 : decode cX0_tell 72 = .ok (.getfield 15, 3) := by decide +kernel
theorem dX0_tell_75 : decode cX0_tell 75 = .ok (.ireturn, 1) := by decide +kernel
theorem dX0_tell_76 : decode cX0_tell 76 = .ok (.aload_n 0, 1) := by decide +kernel
theorem dX0_tell_77 : decode cX0_tell 77 = .ok (.getfield 18, 3) := by decide +kernel
theorem dX0_tell_80 : decode cX0_tell 80 = .ok (.ireturn, 1) := by decide +kernel
theorem dX0_tell_81 : decode cX0_tell 81 = .ok (.aload_n 0, 1) := by decide +kernel
theorem dX0_tell_82 : decode cX0_tell 82 = .ok (.getfield 36, 3) := by decide +kernel
theorem dX0_tell_85 : decode cX0_tell 85 = .ok (.ireturn, 1) := by decide +kernel
theorem dX0_tell_86 : decode cX0_tell 86 = .ok (.aload_n 0, 1) := by decide +kernel
theorem dX0_tell_87 : decode cX0_tell 87 = .ok (.getfield 39, 3) := by decide +kernel
theorem dX0_tell_90 : decode cX0_tell 90 = .ok (.ireturn, 1) := by decide +kernel
theorem dX0_tell_91 : decode cX0_tell 91 = .ok (.aload_n 0, 1) := by decide +kernel
theorem dX0_tell_92 : decode cX0_tell 92 = .ok (.getfield 42, 3) := by decide +kernel
theorem dX0_tell_95 : decode cX0_tell 95 = .ok (.ireturn, 1) := by decide +kernel
theorem dX0_tell_96 : decode cX0_tell 96 = .ok (.aload_n 0, 1) := by decide +kernel
theorem dX0_tell_97 : decode cX0_tell 97 = .ok (.getfield 45, 3) := by decide +kernel
theorem dX0_tell_100 : decode cX0_tell 100 = .ok (.ireturn, 1) := by decide +kernel
theorem dX0_tell_101 : decode cX0_tell 101 = .ok (.aload_n 0, 1) := by decide +kernel
theorem dX0_tell_102 : decode cX0_tell 102 = .ok (.getfield 48, 3) := by decide +kernel
theorem dX0_tell_105 : decode cX0_tell 105 = .ok (.ireturn, 1) := by decide +kernel
theorem dX0_tell_106 : decode cX0_tell 106 = .ok (.aload_n 0, 1) := by decide +kernel
theorem dX0_tell_107 : decode cX0_tell 107 = .ok (.invokevirtual 65, 3) := by decide +kernel
theorem dX0_tell_110 : decode cX0_tell 110 = .ok (.ireturn, 1) := by decide +kernel
theorem dX1_init_0 : decode cX1_init 0 = .ok (.aload_n 0, 1) := by decide +kernel
theorem dX1_init_1 : decode cX1_init 1 = .ok (.invokespecial 3, 3) := by decide +kernel
theorem dX1_init_4 : decode cX1_init 4 = .ok (.aload_n 0, 1) := by decide +kernel
theorem dX1_init_5 : decode cX1_init 5 = .ok (.iload_n 1, 1) := by decide +kernel
theorem dX1_init_6 : decode cX1_init 6 = .ok (.putfield 9, 3) := by decide +kernel
theorem dX1_init_9 : decode cX1_init 9 = .ok (.aload_n 0, 1) := by decide +kernel
theorem dX1_init_10 : decode cX1_init 10 = .ok (.iconst 3, 1) := by decide +kernel
theorem dX1_init_11 : decode cX1_init 11 = .ok (.putfield 15, 3) := by decide +kernel
theorem dX1_init_14 : decode cX1_init 14 = .ok (.aload_n 0, 1) := by decide +kernel
theorem dX1_init_15 : decode cX1_init 15 = .ok (.iconst (-1), 1) := by decide +kernel
theorem dX1_init_16 : decode cX1_init 16 = .ok (.putfield 18, 3) := by decide +kernel
theorem dX1_init_19 : decode cX1_init 19 = .ok (.return_, 1) := by decide +kernel
theorem dX1_setTo_0 : decode cX1_setTo 0 = .ok (.aload_n 0, 1) := by decide +kernel
theorem dX1_setTo_1 : decode cX1_setTo 1 = .ok (.aload_n 1, 1) := by decide +kernel
theorem dX1_setTo_2 : decode cX1_setTo 2 = .ok (.getfield 15, 3) := by decide +kernel
theorem dX1_setTo_5 : decode cX1_setTo 5 = .ok (.putfield 15, 3) := by decide +kernel
theorem dX1_setTo_8 : decode cX1_setTo 8 = .ok (.aload_n 0, 1) := by decide +kernel
theorem dX1_setTo_9 : decode cX1_setTo 9 = .ok (.aload_n 1, 1) := by decide +kernel
theorem dX1_setTo_10 : decode cX1_setTo 10 = .ok (.getfield 18, 3) := by decide +kernel
theorem dX1_setTo_13 : decode cX1_setTo 13 = .ok (.putfield 18, 3) := by decide +kernel
theorem dX1_setTo_16 : decode cX1_setTo 16 = .ok (.aload_n 0, 1) := by decide +kernel
theorem dX1_setTo_17 : decode cX1_setTo 17 = .ok (.aload_n 1, 1) := by decide +kernel
theorem dX1_setTo_18 : decode cX1_setTo 18 = .ok (.getfield 21, 3) := by decide +kernel
theorem dX1_setTo_21 : decode cX1_setTo 21 = .ok (.putfield 21, 3) := by decide +kernel
theorem dX1_setTo_24 : decode cX1_setTo 24 = .ok (.return_, 1) := by decide +kernel
theorem dX2_init_0 : decode cX2_init 0 = .ok (.aload_n 0, 1) := by decide +kernel
theorem dX2_init_1 : decode cX2_init 1 = .ok (.invokespecial 3, 3) := by decide +kernel
theorem dX2_init_4 : decode cX2_init 4 = .ok (.aload_n 0, 1) := by decide +kernel
theorem dX2_init_5 : decode cX2_init 5 = .ok (.iload_n 1, 1) := by decide +kernel
theorem dX2_init_6 : decode cX2_init 6 = .ok (.putfield 9, 3) := by decide +kernel
theorem dX2_init_9 : decode cX2_init 9 = .ok (.aload_n 0, 1) := by decide +kernel
theorem dX2_init_10 : decode cX2_init 10 = .ok (.iconst (-1), 1) := by decide +kernel
theorem dX2_init_11 : decode cX2_init 11 = .ok (.putfield 15, 3) := by decide +kernel
theorem dX2_init_14 : decode cX2_init 14 = .ok (.return_, 1) := by decide +kernel
theorem dX2_setTo_0 : decode cX2_setTo 0 = .ok (.aload_n 0, 1) := by decide +kernel
theorem dX2_setTo_1 : decode cX2_setTo 1 = .ok (.aload_n 1, 1) := by decide +kernel
theorem dX2_setTo_2 : decode cX2_setTo 2 = .ok (.getfield 18, 3) := by decide +kernel
theorem dX2_setTo_5 : decode cX2_setTo 5 = .ok (.putfield 18, 3) := by decide +kernel
theorem dX2_setTo_8 : decode cX2_setTo 8 = .ok (.aload_n 0, 1) := by decide +kernel
theorem dX2_setTo_9 : decode cX2_setTo 9 = .ok (.aload_n 1, 1) := by decide +kernel
theorem dX2_setTo_10 : decode cX2_setTo 10 = .ok (.getfield 15, 3) := by decide +kernel
theorem dX2_setTo_13 : decode cX2_setTo 13 = .ok (.putfield 15, 3) := by decide +kernel
theorem dX2_setTo_16 : decode cX2_setTo 16 = .ok (.return_, 1) := by decide +kernel
theorem dX2_tell_0 : decode cX2_tell 0 = .ok (.iload_n 1, 1) := by decide +kernel
theorem dX2_tell_1 : decode cX2_tell 1 = .ok (.ifCond .ne 10, 3) := by decide +kernel
theorem dX2_tell_4 : decode cX2_tell 4 = .ok (.aload_n 0, 1) := by decide +kernel
theorem dX2_tell_5 : decode cX2_tell 5 = .ok (.getfield 18, 3) := by decide +kernel
theorem dX2_tell_8 : decode cX2_tell 8 = .ok (.goto 7, 3) := by decide +kernel
theorem dX2_tell_11 : decode cX2_tell 11 = .ok (.aload_n 0, 1) := by decide +kernel
theorem dX2_tell_12 : decode cX2_tell 12 = .ok (.getfield 15, 3) := by decide +kernel
theorem dX2_tell_15 : decode cX2_tell 15 = .ok (.ireturn, 1) := by decide +kernel
end
section
set_option maxRecDepth 20000 in
theorem ggX3_init_X0_init : GoodIn wsX3_init wsX0_init := goodIn_r _ [22, 23, 2, 3, 24, 25, 26, 52, 53, 54, 55, 56, 57, 58, 59, 60, 61, 62, 63, 64] (by decide +kernel) (by decide +kernel)
set_option maxRecDepth 20000 in
theorem gX3_init_X0_init : GoodIn wsX3_init (wsX0_init) := ggX3_init_X0_init
set_option maxRecDepth 20000 in
theorem ggX3_init_X2_init : GoodIn wsX3_init wsX2_init := goodIn_r _ [29, 30, 2, 3, 31, 32, 65, 66, 67] (by decide +kernel) (by decide +kernel)
set_option maxRecDepth 20000 in
theorem gX3_init_X2_init : GoodIn wsX3_init (wsX2_init) := ggX3_init_X2_init
set_option maxRecDepth 20000 in
theorem ggX3_init_X1_init : GoodIn wsX3_init wsX1_init := goodIn_r _ [35, 36, 2, 3, 37, 38, 39, 68, 69, 70, 71] (by decide +kernel) (by decide +kernel)
set_option maxRecDepth 20000 in
theorem gX3_init_X1_init : GoodIn wsX3_init (wsX1_init) := ggX3_init_X1_init
theorem dX3_init_0 : decode cX3_init 0 = .ok (.aload_n 0, 1) := by decide +kernel
theorem dX3_init_1 : decode cX3_init 1 = .ok (.invokespecial 3, 3) := by decide +kernel
theorem dX3_init_4 : decode cX3_init 4 = .ok (.aload_n 0, 1) := by decide +kernel
theorem dX3_init_5 : decode cX3_init 5 = .ok (.bipush 15, 2) := by decide +kernel
theorem dX3_init_7 : decode cX3_init 7 = .ok (.anewarray 9, 3) := by decide +kernel
theorem dX3_init_10 : decode cX3_init 10 = .ok (.putfield 11, 3) := by decide +kernel
theorem dX3_init_13 : decode cX3_init 13 = .ok (.iconst 0, 1) := by decide +kernel
theorem dX3_init_14 : decode cX3_init 14 = .ok (.istore_n 1, 1) := by decide +kernel
theorem dX3_init_15 : decode cX3_init 15 = .ok (.iload_n 1, 1) := by decide +kernel
theorem dX3_init_16 : decode cX3_init 16 = .ok (.aload_n 0, 1) := by decide +kernel
theorem dX3_init_17 : decode cX3_init 17 = .ok (.getfield 11, 3) := by decide +kernel
theorem dX3_init_20 : decode cX3_init 20 = .ok (.arraylength, 1) := by decide +kernel
theorem dX3_init_21 : decode cX3_init 21 = .ok (.if_icmp .ge 23, 3) := by decide +kernel
theorem dX3_init_24 : decode cX3_init 24 = .ok (.aload_n 0, 1) := by decide +kernel
theorem dX3_init_25 : decode cX3_init 25 = .ok (.getfield 11, 3) := by decide +kernel
theorem dX3_init_28 : decode cX3_init 28 = .ok (.iload_n 1, 1) := by decide +kernel
theorem dX3_init_29 : decode cX3_init 29 = .ok (.new 9, 3) := by decide +kernel
theorem dX3_init_32 : decode cX3_init 32 = .ok (.dup, 1) := by decide +kernel
theorem dX3_init_33 : decode cX3_init 33 = .ok (.iload_n 1, 1) := by decide +kernel
theorem dX3_init_34 : decode cX3_init 34 = .ok (.invokespecial 17, 3) := by decide +kernel
theorem dX3_init_37 : decode cX3_init 37 = .ok (.aastore, 1) := by decide +kernel
theorem dX3_init_38 : decode cX3_init 38 = .ok (.iinc 1 1, 3) := by decide +kernel
theorem dX3_init_41 : decode cX3_init 41 = .ok (.goto (-26), 3) := by decide +kernel
theorem dX3_init_44 : decode cX3_init 44 = .ok (.aload_n 0, 1) := by decide +kernel
theorem dX3_init_45 : decode cX3_init 45 = .ok (.iconst 5, 1) := by decide +kernel
theorem dX3_init_46 : decode cX3_init 46 = .ok (.anewarray 20, 3) := by decide +kernel
theorem dX3_init_49 : decode cX3_init 49 = .ok (.putfield 22, 3) := by decide +kernel
theorem dX3_init_52 : decode cX3_init 52 = .ok (.iconst 0, 1) := by decide +kernel
theorem dX3_init_53 : decode cX3_init 53 = .ok (.istore_n 1, 1) := by decide +kernel
theorem dX3_init_54 : decode cX3_init 54 = .ok (.iload_n 1, 1) := by decide +kernel
theorem dX3_init_55 : decode cX3_init 55 = .ok (.aload_n 0, 1) := by decide +kernel
theorem dX3_init_56 : decode cX3_init 56 = .ok (.getfield 22, 3) := by decide +kernel
theorem dX3_init_59 : decode cX3_init 59 = .ok (.arraylength, 1) := by decide +kernel
theorem dX3_init_60 : decode cX3_init 60 = .ok (.if_icmp .ge 23, 3) := by decide +kernel
theorem dX3_init_63 : decode cX3_init 63 = .ok (.aload_n 0, 1) := by decide +kernel
theorem dX3_init_64 : decode cX3_init 64 = .ok (.getfield 22, 3) := by decide +kernel
theorem dX3_init_67 : decode cX3_init 67 = .ok (.iload_n 1, 1) := by decide +kernel
theorem dX3_init_68 : decode cX3_init 68 = .ok (.new 20, 3) := by decide +kernel
theorem dX3_init_71 : decode cX3_init 71 = .ok (.dup, 1) := by decide +kernel
theorem dX3_init_72 : decode cX3_init 72 = .ok (.iload_n 1, 1) := by decide +kernel
theorem dX3_init_73 : decode cX3_init 73 = .ok (.invokespecial 26, 3) := by decide +kernel
theorem dX3_init_76 : decode cX3_init 76 = .ok (.aastore, 1) := by decide +kernel
theorem dX3_init_77 : decode cX3_init 77 = .ok (.iinc 1 1, 3) := by decide +kernel
theorem dX3_init_80 : decode cX3_init 80 = .ok (.goto (-26), 3) := by decide +kernel
theorem dX3_init_83 : decode cX3_init 83 = .ok (.aload_n 0, 1) := by decide +kernel
theorem dX3_init_84 : decode cX3_init 84 = .ok (.iconst 3, 1) := by decide +kernel
theorem dX3_init_85 : decode cX3_init 85 = .ok (.anewarray 27, 3) := by decide +kernel
theorem dX3_init_88 : decode cX3_init 88 = .ok (.putfield 29, 3) := by decide +kernel
theorem dX3_init_91 : decode cX3_init 91 = .ok (.iconst 0, 1) := by decide +kernel
theorem dX3_init_92 : decode cX3_init 92 = .ok (.istore_n 1, 1) := by decide +kernel
theorem dX3_init_93 : decode cX3_init 93 = .ok (.iload_n 1, 1) := by decide +kernel
theorem dX3_init_94 : decode cX3_init 94 = .ok (.aload_n 0, 1) := by decide +kernel
theorem dX3_init_95 : decode cX3_init 95 = .ok (.getfield 29, 3) := by decide +kernel
theorem dX3_init_98 : decode cX3_init 98 = .ok (.arraylength, 1) := by decide +kernel
theorem dX3_init_99 : decode cX3_init 99 = .ok (.if_icmp .ge 23, 3) := by decide +kernel
theorem dX3_init_102 : decode cX3_init 102 = .ok (.aload_n 0, 1) := by decide +kernel
theorem dX3_init_103 : decode cX3_init 103 = .ok (.getfield 29, 3) := by decide +kernel
theorem dX3_init_106 : decode cX3_init 106 = .ok (.iload_n 1, 1) := by decide +kernel
theorem dX3_init_107 : decode cX3_init 107 = .ok (.new 27, 3) := by decide +kernel
theorem dX3_init_110 : decode cX3_init 110 = .ok (.dup, 1) := by decide +kernel
theorem dX3_init_111 : decode cX3_init 111 = .ok (.iload_n 1, 1) := by decide +kernel
theorem dX3_init_112 : decode cX3_init 112 = .ok (.invokespecial 33, 3) := by decide +kernel
theorem dX3_init_115 : decode cX3_init 115 = .ok (.aastore, 1) := by decide +kernel
theorem dX3_init_116 : decode cX3_init 116 = .ok (.iinc 1 1, 3) := by decide +kernel
theorem dX3_init_119 : decode cX3_init 119 = .ok (.goto (-26), 3) := by decide +kernel
theorem dX3_init_122 : decode cX3_init 122 = .ok (.aload_n 0, 1) := by decide +kernel
theorem dX3_init_123 : decode cX3_init 123 = .ok (.sipush 300, 3) := by decide +kernel
theorem dX3_init_126 : decode cX3_init 126 = .ok (.putfield 34, 3) := by decide +kernel
theorem dX3_init_129 : decode cX3_init 129 = .ok (.aload_n 0, 1) := by decide +kernel
theorem dX3_init_130 : decode cX3_init 130 = .ok (.bipush 12, 2) := by decide +kernel
theorem dX3_init_132 : decode cX3_init 132 = .ok (.putfield 38, 3) := by decide +kernel
theorem dX3_init_135 : decode cX3_init 135 = .ok (.aload_n 0, 1) := by decide +kernel
theorem dX3_init_136 : decode cX3_init 136 = .ok (.bipush 20, 2) := by decide +kernel
theorem dX3_init_138 : decode cX3_init 138 = .ok (.putfield 41, 3) := by decide +kernel
theorem dX3_init_141 : decode cX3_init 141 = .ok (.aload_n 0, 1) := by decide +kernel
theorem dX3_init_142 : decode cX3_init 142 = .ok (.bipush 30, 2) := by decide +kernel
theorem dX3_init_144 : decode cX3_init 144 = .ok (.putfield 44, 3) := by decide +kernel
theorem dX3_init_147 : decode cX3_init 147 = .ok (.return_, 1) := by decide +kernel
set_option maxRecDepth 20000 in
theorem ggX3_setTo_X0_setTo : GoodIn wsX3_setTo wsX0_setTo := goodIn_r _ [17, 18, 19, 20, 21, 22, 23, 24, 25, 26, 27, 28, 29, 57, 58, 59, 60, 61, 62, 63, 64, 65, 66, 67, 68, 69] (by decide +kernel) (by decide +kernel)
set_option maxRecDepth 20000 in
theorem gX3_setTo_X0_setTo : GoodIn wsX3_setTo (wsV RX3 47 RX0 yX0_setTo wsX0_setTo) := goodIn_app (goodIn_of _ (by decide +kernel)) ggX3_setTo_X0_setTo
set_option maxRecDepth 20000 in
theorem ggX3_setTo_X2_setTo : GoodIn wsX3_setTo wsX2_setTo := goodIn_r _ [34, 35, 36, 70, 71, 72] (by decide +kernel) (by decide +kernel)
set_option maxRecDepth 20000 in
theorem gX3_setTo_X2_setTo : GoodIn wsX3_setTo (wsV RX3 51 RX2 yX2_setTo wsX2_setTo) := goodIn_app (goodIn_of _ (by decide +kernel)) ggX3_setTo_X2_setTo
set_option maxRecDepth 20000 in
theorem ggX3_setTo_X1_setTo : GoodIn wsX3_setTo wsX1_setTo := goodIn_r _ [41, 42, 43, 44, 73, 74, 75, 76] (by decide +kernel) (by decide +kernel)
set_option maxRecDepth 20000 in
theorem gX3_setTo_X1_setTo : GoodIn wsX3_setTo (wsV RX3 54 RX1 yX1_setTo wsX1_setTo) := goodIn_app (goodIn_of _ (by decide +kernel)) ggX3_setTo_X1_setTo
theorem dX3_setTo_0 : decode cX3_setTo 0 = .ok (.iconst 0, 1) := by decide +kernel
theorem dX3_setTo_1 : decode cX3_setTo 1 = .ok (.istore_n 2, 1) := by decide +kernel
theorem dX3_setTo_2 : decode cX3_setTo 2 = .ok (.iload_n 2, 1) := by decide +kernel
theorem dX3_setTo_3 : decode cX3_setTo 3 = .ok (.aload_n 0, 1) := by decide +kernel
theorem dX3_setTo_4 : decode cX3_setTo 4 = .ok (.getfield 11, 3) := by decide +kernel
theorem dX3_setTo_7 : decode cX3_setTo 7 = .ok (.arraylength, 1) := by decide +kernel
theorem dX3_setTo_8 : decode cX3_setTo 8 = .ok (.if_icmp .ge 33, 3) := by decide +kernel
theorem dX3_setTo_11 : decode cX3_setTo 11 = .ok (.iload_n 2, 1) := by decide +kernel
theorem dX3_setTo_12 : decode cX3_setTo 12 = .ok (.aload_n 1, 1) := by decide +kernel
theorem dX3_setTo_13 : decode cX3_setTo 13 = .ok (.getfield 11, 3) := by decide +kernel
theorem dX3_setTo_16 : decode cX3_setTo 16 = .ok (.arraylength, 1) := by decide +kernel
theorem dX3_setTo_17 : decode cX3_setTo 17 = .ok (.if_icmp .ge 24, 3) := by decide +kernel
theorem dX3_setTo_20 : decode cX3_setTo 20 = .ok (.aload_n 0, 1) := by decide +kernel
theorem dX3_setTo_21 : decode cX3_setTo 21 = .ok (.getfield 11, 3) := by decide +kernel
theorem dX3_setTo_24 : decode cX3_setTo 24 = .ok (.iload_n 2, 1) := by decide +kernel
theorem dX3_setTo_25 : decode cX3_setTo 25 = .ok (.aaload, 1) := by decide +kernel
theorem dX3_setTo_26 : decode cX3_setTo 26 = .ok (.aload_n 1, 1) := by decide +kernel
theorem dX3_setTo_27 : decode cX3_setTo 27 = .ok (.getfield 11, 3) := by decide +kernel
theorem dX3_setTo_30 : decode cX3_setTo 30 = .ok (.iload_n 2, 1) := by decide +kernel
theorem dX3_setTo_31 : decode cX3_setTo 31 = .ok (.aaload, 1) := by decide +kernel
theorem dX3_setTo_32 : decode cX3_setTo 32 = .ok (.invokevirtual 47, 3) := by decide +kernel
theorem dX3_setTo_35 : decode cX3_setTo 35 = .ok (.iinc 2 1, 3) := by decide +kernel
theorem dX3_setTo_38 : decode cX3_setTo 38 = .ok (.goto (-36), 3) := by decide +kernel
theorem dX3_setTo_41 : decode cX3_setTo 41 = .ok (.iconst 0, 1) := by decide +kernel
theorem dX3_setTo_42 : decode cX3_setTo 42 = .ok (.istore_n 2, 1) := by decide +kernel
theorem dX3_setTo_43 : decode cX3_setTo 43 = .ok (.iload_n 2, 1) := by decide +kernel
theorem dX3_setTo_44 : decode cX3_setTo 44 = .ok (.aload_n 0, 1) := by decide +kernel
theorem dX3_setTo_45 : decode cX3_setTo 45 = .ok (.getfield 22, 3) := by decide +kernel
theorem dX3_setTo_48 : decode cX3_setTo 48 = .ok (.arraylength, 1) := by decide +kernel
theorem dX3_setTo_49 : decode cX3_setTo 49 = .ok (.if_icmp .ge 33, 3) := by decide +kernel
theorem dX3_setTo_52 : decode cX3_setTo 52 = .ok (.iload_n 2, 1) := by decide +kernel
theorem dX3_setTo_53 : decode cX3_setTo 53 = .ok (.aload_n 1, 1) := by decide +kernel
theorem dX3_setTo_54 : decode cX3_setTo 54 = .ok (.getfield 22, 3) := by decide +kernel
theorem dX3_setTo_57 : decode cX3_setTo 57 = .ok (.arraylength, 1) := by decide +kernel
theorem dX3_setTo_58 : decode cX3_setTo 58 = .ok (.if_icmp .ge 24, 3) := by decide +kernel
theorem dX3_setTo_61 : decode cX3_setTo 61 = .ok (.aload_n 0, 1) := by decide +kernel
theorem dX3_setTo_62 : decode cX3_setTo 62 = .ok (.getfield 22, 3) := by decide +kernel
theorem dX3_setTo_65 : decode cX3_setTo 65 = .ok (.iload_n 2, 1) := by decide +kernel
theorem dX3_setTo_66 : decode cX3_setTo 66 = .ok (.aaload, 1) := by decide +kernel
theorem dX3_setTo_67 : decode cX3_setTo 67 = .ok (.aload_n 1, 1) := by decide +kernel
theorem dX3_setTo_68 : decode cX3_setTo 68 = .ok (.getfield 22, 3) := by decide +kernel
theorem dX3_setTo_71 : decode cX3_setTo 71 = .ok (.iload_n 2, 1) := by decide +kernel
theorem dX3_setTo_72 : decode cX3_setTo 72 = .ok (.aaload, 1) := by decide +kernel
theorem dX3_setTo_73 : decode cX3_setTo 73 = .ok (.invokevirtual 51, 3) := by decide +kernel
theorem dX3_setTo_76 : decode cX3_setTo 76 = .ok (.iinc 2 1, 3) := by decide +kernel
theorem dX3_setTo_79 : decode cX3_setTo 79 = .ok (.goto (-36), 3) := by decide +kernel
theorem dX3_setTo_82 : decode cX3_setTo 82 = .ok (.iconst 0, 1) := by decide +kernel
theorem dX3_setTo_83 : decode cX3_setTo 83 = .ok (.istore_n 2, 1) := by decide +kernel
theorem dX3_setTo_84 : decode cX3_setTo 84 = .ok (.iload_n 2, 1) := by decide +kernel
theorem dX3_setTo_85 : decode cX3_setTo 85 = .ok (.aload_n 0, 1) := by decide +kernel
theorem dX3_setTo_86 : decode cX3_setTo 86 = .ok (.getfield 29, 3) := by decide +kernel
theorem dX3_setTo_89 : decode cX3_setTo 89 = .ok (.arraylength, 1) := by decide +kernel
theorem dX3_setTo_90 : decode cX3_setTo 90 = .ok (.if_icmp .ge 33, 3) := by decide +kernel
theorem dX3_setTo_93 : decode cX3_setTo 93 = .ok (.iload_n 2, 1) := by decide +kernel
theorem dX3_setTo_94 : decode cX3_setTo 94 = .ok (.aload_n 1, 1) := by decide +kernel
theorem dX3_setTo_95 : decode cX3_setTo 95 = .ok (.getfield 29, 3) := by decide +kernel
theorem dX3_setTo_98 : decode cX3_setTo 98 = .ok (.arraylength, 1) := by decide +kernel
theorem dX3_setTo_99 : decode cX3_setTo 99 = .ok (.if_icmp .ge 24, 3) := by decide +kernel
theorem dX3_setTo_102 : decode cX3_setTo 102 = .ok (.aload_n 0, 1) := by decide +kernel
theorem dX3_setTo_103 : decode cX3_setTo 103 = .ok (.getfield 29, 3) := by decide +kernel
theorem dX3_setTo_106 : decode cX3_setTo 106 = .ok (.iload_n 2, 1) := by decide +kernel
theorem dX3_setTo_107 : decode cX3_setTo 107 = .ok (.aaload, 1) := by decide +kernel
theorem dX3_setTo_108 : decode cX3_setTo 108 = .ok (.aload_n 1, 1) := by decide +kernel
theorem dX3_setTo_109 : decode cX3_setTo 109 = .ok (.getfield 29, 3) := by decide +kernel
theorem dX3_setTo_112 : decode cX3_setTo 112 = .ok (.iload_n 2, 1) := by decide +kernel
theorem dX3_setTo_113 : decode cX3_setTo 113 = .ok (.aaload, 1) := by decide +kernel
theorem dX3_setTo_114 : decode cX3_setTo 114 = .ok (.invokevirtual 54, 3) := by decide +kernel
theorem dX3_setTo_117 : decode cX3_setTo 117 = .ok (.iinc 2 1, 3) := by decide +kernel
theorem dX3_setTo_120 : decode cX3_setTo 120 = .ok (.goto (-36), 3) := by decide +kernel
theorem dX3_setTo_123 : decode cX3_setTo 123 = .ok (.aload_n 0, 1) := by decide +kernel
theorem dX3_setTo_124 : decode cX3_setTo 124 = .ok (.aload_n 1, 1) := by decide +kernel
theorem dX3_setTo_125 : decode cX3_setTo 125 = .ok (.getfield 57, 3) := by decide +kernel
theorem dX3_setTo_128 : decode cX3_setTo 128 = .ok (.putfield 57, 3) := by decide +kernel
theorem dX3_setTo_131 : decode cX3_setTo 131 = .ok (.aload_n 0, 1) := by decide +kernel
theorem dX3_setTo_132 : decode cX3_setTo 132 = .ok (.aload_n 1, 1) := by decide +kernel
theorem dX3_setTo_133 : decode cX3_setTo 133 = .ok (.getfield 60, 3) := by decide +kernel
theorem dX3_setTo_136 : decode cX3_setTo 136 = .ok (.putfield 60, 3) := by decide +kernel
theorem dX3_setTo_139 : decode cX3_setTo 139 = .ok (.aload_n 0, 1) := by decide +kernel
theorem dX3_setTo_140 : decode cX3_setTo 140 = .ok (.aload_n 1, 1) := by decide +kernel
theorem dX3_setTo_141 : decode cX3_setTo 141 = .ok (.getfield 63, 3) := by decide +kernel
theorem dX3_setTo_144 : decode cX3_setTo 144 = .ok (.putfield 63, 3) := by decide +kernel
theorem dX3_setTo_147 : decode cX3_setTo 147 = .ok (.aload_n 0, 1) := by decide +kernel
theorem dX3_setTo_148 : decode cX3_setTo 148 = .ok (.aload_n 1, 1) := by decide +kernel
theorem dX3_setTo_149 : decode cX3_setTo 149 = .ok (.getfield 44, 3) := by decide +kernel
theorem dX3_setTo_152 : decode cX3_setTo 152 = .ok (.putfield 44, 3) := by decide +kernel
theorem dX3_setTo_155 : decode cX3_setTo 155 = .ok (.aload_n 0, 1) := by decide +kernel
theorem dX3_setTo_156 : decode cX3_setTo 156 = .ok (.aload_n 1, 1) := by decide +kernel
theorem dX3_setTo_157 : decode cX3_setTo 157 = .ok (.getfield 34, 3) := by decide +kernel
theorem dX3_setTo_160 : decode cX3_setTo 160 = .ok (.putfield 34, 3) := by decide +kernel
theorem dX3_setTo_163 : decode cX3_setTo 163 = .ok (.aload_n 0, 1) := by decide +kernel
theorem dX3_setTo_164 : decode cX3_setTo 164 = .ok (.aload_n 1, 1) := by decide +kernel
theorem dX3_setTo_165 : decode cX3_setTo 165 = .ok (.getfield 38, 3) := by decide +kernel
theorem dX3_setTo_168 : decode cX3_setTo 168 = .ok (.putfield 38, 3) := by decide +kernel
theorem dX3_setTo_171 : decode cX3_setTo 171 = .ok (.aload_n 0, 1) := by decide +kernel
theorem dX3_setTo_172 : decode cX3_setTo 172 = .ok (.aload_n 1, 1) := by decide +kernel
theorem dX3_setTo_173 : decode cX3_setTo 173 = .ok (.getfield 41, 3) := by decide +kernel
theorem dX3_setTo_176 : decode cX3_setTo 176 = .ok (.putfield 41, 3) := by decide +kernel
theorem dX3_setTo_179 : decode cX3_setTo 179 = .ok (.aload_n 0, 1) := by decide +kernel
theorem dX3_setTo_180 : decode cX3_setTo 180 = .ok (.aload_n 1, 1) := by decide +kernel
theorem dX3_setTo_181 : decode cX3_setTo 181 = .ok (.getfield 66, 3) := by decide +kernel
theorem dX3_setTo_184 : decode cX3_setTo 184 = .ok (.putfield 66, 3) := by decide +kernel
theorem dX3_setTo_187 : decode cX3_setTo 187 = .ok (.aload_n 0, 1) := by decide +kernel
theorem dX3_setTo_188 : decode cX3_setTo 188 = .ok (.aload_n 1, 1) := by decide +kernel
theorem dX3_setTo_189 : decode cX3_setTo 189 = .ok (.getfield 69, 3) := by decide +kernel
theorem dX3_setTo_192 : decode cX3_setTo 192 = .ok (.putfield 69, 3) := by decide +kernel
theorem dX3_setTo_195 : decode cX3_setTo 195 = .ok (.return_, 1) := by decide +kernel
theorem dX3_bookNumbered_0 : decode cX3_bookNumbered 0 = .ok (.iload_n 1, 1) := by decide +kernel
theorem dX3_bookNumbered_1 : decode cX3_bookNumbered 1 = .ok (.ifCond .lt 20, 3) := by decide +kernel
theorem dX3_bookNumbered_4 : decode cX3_bookNumbered 4 = .ok (.iload_n 1, 1) := by decide +kernel
theorem dX3_bookNumbered_5 : decode cX3_bookNumbered 5 = .ok (.aload_n 0, 1) := by decide +kernel
theorem dX3_bookNumbered_6 : decode cX3_bookNumbered 6 = .ok (.getfield 57, 3) := by decide +kernel
theorem dX3_bookNumbered_9 : decode cX3_bookNumbered 9 = .ok (.if_icmp .ge 12, 3) := by decide +kernel
theorem dX3_bookNumbered_12 : decode cX3_bookNumbered 12 = .ok (.iload_n 1, 1) := by decide +kernel
theorem dX3_bookNumbered_13 : decode cX3_bookNumbered 13 = .ok (.aload_n 0, 1) := by decide +kernel
theorem dX3_bookNumbered_14 : decode cX3_bookNumbered 14 = .ok (.getfield 11, 3) := by decide +kernel
theorem dX3_bookNumbered_17 : decode cX3_bookNumbered 17 = .ok (.arraylength, 1) := by decide +kernel
theorem dX3_bookNumbered_18 : decode cX3_bookNumbered 18 = .ok (.if_icmp .lt 5, 3) := by decide +kernel
theorem dX3_bookNumbered_21 : decode cX3_bookNumbered 21 = .ok (.aconst_null, 1) := by decide +kernel
theorem dX3_bookNumbered_22 : decode cX3_bookNumbered 22 = .ok (.areturn, 1) := by decide +kernel
theorem dX3_bookNumbered_23 : decode cX3_bookNumbered 23 = .ok (.aload_n 0, 1) := by decide +kernel
theorem dX3_bookNumbered_24 : decode cX3_bookNumbered 24 = .ok (.getfield 11, 3) := by decide +kernel
theorem dX3_bookNumbered_27 : decode cX3_bookNumbered 27 = .ok (.iload_n 1, 1) := by decide +kernel
theorem dX3_bookNumbered_28 : decode cX3_bookNumbered 28 = .ok (.aaload, 1) := by decide +kernel
theorem dX3_bookNumbered_29 : decode cX3_bookNumbered 29 = .ok (.areturn, 1) := by decide +kernel
theorem dX3_sewerNumbered_0 : decode cX3_sewerNumbered 0 = .ok (.iload_n 1, 1) := by decide +kernel
theorem dX3_sewerNumbered_1 : decode cX3_sewerNumbered 1 = .ok (.ifCond .lt 20, 3) := by decide +kernel
theorem dX3_sewerNumbered_4 : decode cX3_sewerNumbered 4 = .ok (.iload_n 1, 1) := by decide +kernel
theorem dX3_sewerNumbered_5 : decode cX3_sewerNumbered 5 = .ok (.aload_n 0, 1) := by decide +kernel
theorem dX3_sewerNumbered_6 : decode cX3_sewerNumbered 6 = .ok (.getfield 60, 3) := by decide +kernel
theorem dX3_sewerNumbered_9 : decode cX3_sewerNumbered 9 = .ok (.if_icmp .ge 12, 3) := by decide +kernel
theorem dX3_sewerNumbered_12 : decode cX3_sewerNumbered 12 = .ok (.iload_n 1, 1) := by decide +kernel
theorem dX3_sewerNumbered_13 : decode cX3_sewerNumbered 13 = .ok (.aload_n 0, 1) := by decide +kernel
theorem dX3_sewerNumbered_14 : decode cX3_sewerNumbered 14 = .ok (.getfield 22, 3) := by decide +kernel
theorem dX3_sewerNumbered_17 : decode cX3_sewerNumbered 17 = .ok (.arraylength, 1) := by decide +kernel
theorem dX3_sewerNumbered_18 : decode cX3_sewerNumbered 18 = .ok (.if_icmp .lt 5, 3) := by decide +kernel
theorem dX3_sewerNumbered_21 : decode cX3_sewerNumbered 21 = .ok (.aconst_null, 1) := by decide +kernel
theorem dX3_sewerNumbered_22 : decode cX3_sewerNumbered 22 = .ok (.areturn, 1) := by decide +kernel
theorem dX3_sewerNumbered_23 : decode cX3_sewerNumbered 23 = .ok (.aload_n 0, 1) := by decide +kernel
theorem dX3_sewerNumbered_24 : decode cX3_sewerNumbered 24 = .ok (.getfield 22, 3) := by decide +kernel
theorem dX3_sewerNumbered_27 : decode cX3_sewerNumbered 27 = .ok (.iload_n 1, 1) := by decide +kernel
theorem dX3_sewerNumbered_28 : decode cX3_sewerNumbered 28 = .ok (.aaload, 1) := by decide +kernel
theorem dX3_sewerNumbered_29 : decode cX3_sewerNumbered 29 = .ok (.areturn, 1) := by decide +kernel
theorem dX3_freeBook_0 : decode cX3_freeBook 0 = .ok (.aload_n 0, 1) := by decide +kernel
theorem dX3_freeBook_1 : decode cX3_freeBook 1 = .ok (.getfield 57, 3) := by decide +kernel
theorem dX3_freeBook_4 : decode cX3_freeBook 4 = .ok (.ifCond .lt 27, 3) := by decide +kernel
theorem dX3_freeBook_7 : decode cX3_freeBook 7 = .ok (.aload_n 0, 1) := by decide +kernel
theorem dX3_freeBook_8 : decode cX3_freeBook 8 = .ok (.getfield 57, 3) := by decide +kernel
theorem dX3_freeBook_11 : decode cX3_freeBook 11 = .ok (.aload_n 0, 1) := by decide +kernel
theorem dX3_freeBook_12 : decode cX3_freeBook 12 = .ok (.getfield 11, 3) := by decide +kernel
theorem dX3_freeBook_15 : decode cX3_freeBook 15 = .ok (.arraylength, 1) := by decide +kernel
theorem dX3_freeBook_16 : decode cX3_freeBook 16 = .ok (.if_icmp .ge 15, 3) := by decide +kernel
theorem dX3_freeBook_19 : decode cX3_freeBook 19 = .ok (.aload_n 0, 1) := by decide +kernel
theorem dX3_freeBook_20 : decode cX3_freeBook 20 = .ok (.getfield 11, 3) := by decide +kernel
theorem dX3_freeBook_23 : decode cX3_freeBook 23 = .ok (.aload_n 0, 1) := by decide +kernel
theorem dX3_freeBook_24 : decode cX3_freeBook 24 = .ok (.getfield 57, 3) := by decide +kernel
theorem dX3_freeBook_27 : decode cX3_freeBook 27 = .ok (.aaload, 1) := by decide +kernel
theorem dX3_freeBook_28 : decode cX3_freeBook 28 = .ok (.goto 4, 3) := by decide +kernel
theorem dX3_freeBook_31 : decode cX3_freeBook 31 = .ok (.aconst_null, 1) := by decide +kernel
theorem dX3_freeBook_32 : decode cX3_freeBook 32 = .ok (.areturn, 1) := by decide +kernel
theorem dX3_freeSewer_0 : decode cX3_freeSewer 0 = .ok (.aload_n 0, 1) := by decide +kernel
theorem dX3_freeSewer_1 : decode cX3_freeSewer 1 = .ok (.getfield 60, 3) := by decide +kernel
theorem dX3_freeSewer_4 : decode cX3_freeSewer 4 = .ok (.ifCond .lt 27, 3) := by decide +kernel
theorem dX3_freeSewer_7 : decode cX3_freeSewer 7 = .ok (.aload_n 0, 1) := by decide +kernel
theorem dX3_freeSewer_8 : decode cX3_freeSewer 8 = .ok (.getfield 60, 3) := by decide +kernel
theorem dX3_freeSewer_11 : decode cX3_freeSewer 11 = .ok (.aload_n 0, 1) := by decide +kernel
theorem dX3_freeSewer_12 : decode cX3_freeSewer 12 = .ok (.getfield 22, 3) := by decide +kernel
theorem dX3_freeSewer_15 : decode cX3_freeSewer 15 = .ok (.arraylength, 1) := by decide +kernel
theorem dX3_freeSewer_16 : decode cX3_freeSewer 16 = .ok (.if_icmp .ge 15, 3) := by decide +kernel
theorem dX3_freeSewer_19 : decode cX3_freeSewer 19 = .ok (.aload_n 0, 1) := by decide +kernel
theorem dX3_freeSewer_20 : decode cX3_freeSewer 20 = .ok (.getfield 22, 3) := by decide +kernel
theorem dX3_freeSewer_23 : decode cX3_freeSewer 23 = .ok (.aload_n 0, 1) := by decide +kernel
theorem dX3_freeSewer_24 : decode cX3_freeSewer 24 = .ok (.getfield 60, 3) := by decide +kernel
theorem dX3_freeSewer_27 : decode cX3_freeSewer 27 = .ok (.aaload, 1) := by decide +kernel
theorem dX3_freeSewer_28 : decode cX3_freeSewer 28 = .ok (.goto 4, 3) := by decide +kernel
theorem dX3_freeSewer_31 : decode cX3_freeSewer 31 = .ok (.aconst_null, 1) := by decide +kernel
theorem dX3_freeSewer_32 : decode cX3_freeSewer 32 = .ok (.areturn, 1) := by decide +kernel
theorem dX3_clearFrameOf_0 : decode cX3_clearFrameOf 0 = .ok (.aload_n 0, 1) := by decide +kernel
theorem dX3_clearFrameOf_1 : decode cX3_clearFrameOf 1 = .ok (.getfield 29, 3) := by decide +kernel
theorem dX3_clearFrameOf_4 : decode cX3_clearFrameOf 4 = .ok (.astore_n 2, 1) := by decide +kernel
theorem dX3_clearFrameOf_5 : decode cX3_clearFrameOf 5 = .ok (.aload_n 2, 1) := by decide +kernel
theorem dX3_clearFrameOf_6 : decode cX3_clearFrameOf 6 = .ok (.arraylength, 1) := by decide +kernel
theorem dX3_clearFrameOf_7 : decode cX3_clearFrameOf 7 = .ok (.istore_n 3, 1) := by decide +kernel
theorem dX3_clearFrameOf_8 : decode cX3_clearFrameOf 8 = .ok (.iconst 0, 1) := by decide +kernel
theorem dX3_clearFrameOf_9 : decode cX3_clearFrameOf 9 = .ok (.istore 4, 2) := by decide +kernel
theorem dX3_clearFrameOf_11 : decode cX3_clearFrameOf 11 = .ok (.iload 4, 2) := by decide +kernel
theorem dX3_clearFrameOf_13 : decode cX3_clearFrameOf 13 = .ok (.iload_n 3, 1) := by decide +kernel
theorem dX3_clearFrameOf_14 : decode cX3_clearFrameOf 14 = .ok (.if_icmp .ge 33, 3) := by decide +kernel
theorem dX3_clearFrameOf_17 : decode cX3_clearFrameOf 17 = .ok (.aload_n 2, 1) := by decide +kernel
theorem dX3_clearFrameOf_18 : decode cX3_clearFrameOf 18 = .ok (.iload 4, 2) := by decide +kernel
theorem dX3_clearFrameOf_20 : decode cX3_clearFrameOf 20 = .ok (.aaload, 1) := by decide +kernel
theorem dX3_clearFrameOf_21 : decode cX3_clearFrameOf 21 = .ok (.astore 5, 2) := by decide +kernel
theorem dX3_clearFrameOf_23 : decode cX3_clearFrameOf 23 = .ok (.aload 5, 2) := by decide +kernel
theorem dX3_clearFrameOf_25 : decode cX3_clearFrameOf 25 = .ok (.getfield 72, 3) := by decide +kernel
theorem dX3_clearFrameOf_28 : decode cX3_clearFrameOf 28 = .ok (.aload_n 1, 1) := by decide +kernel
theorem dX3_clearFrameOf_29 : decode cX3_clearFrameOf 29 = .ok (.getfield 75, 3) := by decide +kernel
theorem dX3_clearFrameOf_32 : decode cX3_clearFrameOf 32 = .ok (.if_icmp .ne 9, 3) := by decide +kernel
theorem dX3_clearFrameOf_35 : decode cX3_clearFrameOf 35 = .ok (.aload 5, 2) := by decide +kernel
theorem dX3_clearFrameOf_37 : decode cX3_clearFrameOf 37 = .ok (.iconst (-1), 1) := by decide +kernel
theorem dX3_clearFrameOf_38 : decode cX3_clearFrameOf 38 = .ok (.putfield 72, 3) := by decide +kernel
theorem dX3_clearFrameOf_41 : decode cX3_clearFrameOf 41 = .ok (.iinc 4 1, 3) := by decide +kernel
theorem dX3_clearFrameOf_44 : decode cX3_clearFrameOf 44 = .ok (.goto (-33), 3) := by decide +kernel
theorem dX3_clearFrameOf_47 : decode cX3_clearFrameOf 47 = .ok (.return_, 1) := by decide +kernel
theorem dX3_othersAt_0 : decode cX3_othersAt 0 = .ok (.iconst 0, 1) := by decide +kernel
theorem dX3_othersAt_1 : decode cX3_othersAt 1 = .ok (.istore_n 3, 1) := by decide +kernel
theorem dX3_othersAt_2 : decode cX3_othersAt 2 = .ok (.aload_n 0, 1) := by decide +kernel
theorem dX3_othersAt_3 : decode cX3_othersAt 3 = .ok (.getfield 22, 3) := by decide +kernel
theorem dX3_othersAt_6 : decode cX3_othersAt 6 = .ok (.astore 4, 2) := by decide +kernel
theorem dX3_othersAt_8 : decode cX3_othersAt 8 = .ok (.aload 4, 2) := by decide +kernel
theorem dX3_othersAt_10 : decode cX3_othersAt 10 = .ok (.arraylength, 1) := by decide +kernel
theorem dX3_othersAt_11 : decode cX3_othersAt 11 = .ok (.istore 5, 2) := by decide +kernel
theorem dX3_othersAt_13 : decode cX3_othersAt 13 = .ok (.iconst 0, 1) := by decide +kernel
theorem dX3_othersAt_14 : decode cX3_othersAt 14 = .ok (.istore 6, 2) := by decide +kernel
theorem dX3_othersAt_16 : decode cX3_othersAt 16 = .ok (.iload 6, 2) := by decide +kernel
theorem dX3_othersAt_18 : decode cX3_othersAt 18 = .ok (.iload 5, 2) := by decide +kernel
theorem dX3_othersAt_20 : decode cX3_othersAt 20 = .ok (.if_icmp .ge 37, 3) := by decide +kernel
theorem dX3_othersAt_23 : decode cX3_othersAt 23 = .ok (.aload 4, 2) := by decide +kernel
theorem dX3_othersAt_25 : decode cX3_othersAt 25 = .ok (.iload 6, 2) := by decide +kernel
theorem dX3_othersAt_27 : decode cX3_othersAt 27 = .ok (.aaload, 1) := by decide +kernel
theorem dX3_othersAt_28 : decode cX3_othersAt 28 = .ok (.astore 7, 2) := by decide +kernel
theorem dX3_othersAt_30 : decode cX3_othersAt 30 = .ok (.aload 7, 2) := by decide +kernel
theorem dX3_othersAt_32 : decode cX3_othersAt 32 = .ok (.getfield 78, 3) := by decide +kernel
theorem dX3_othersAt_35 : decode cX3_othersAt 35 = .ok (.iload_n 1, 1) := by decide +kernel
theorem dX3_othersAt_36 : decode cX3_othersAt 36 = .ok (.if_icmp .ne 15, 3) := by decide +kernel
theorem dX3_othersAt_39 : decode cX3_othersAt 39 = .ok (.aload 7, 2) := by decide +kernel
theorem dX3_othersAt_41 : decode cX3_othersAt 41 = .ok (.getfield 81, 3) := by decide +kernel
theorem dX3_othersAt_44 : decode cX3_othersAt 44 = .ok (.iload_n 2, 1) := by decide +kernel
theorem dX3_othersAt_45 : decode cX3_othersAt 45 = .ok (.if_icmp .eq 6, 3) := by decide +kernel
theorem dX3_othersAt_48 : decode cX3_othersAt 48 = .ok (.iinc 3 1, 3) := by decide +kernel
theorem dX3_othersAt_51 : decode cX3_othersAt 51 = .ok (.iinc 6 1, 3) := by decide +kernel
theorem dX3_othersAt_54 : decode cX3_othersAt 54 = .ok (.goto (-38), 3) := by decide +kernel
theorem dX3_othersAt_57 : decode cX3_othersAt 57 = .ok (.iload_n 3, 1) := by decide +kernel
theorem dX3_othersAt_58 : decode cX3_othersAt 58 = .ok (.ireturn, 1) := by decide +kernel
set_option maxRecDepth 20000 in
theorem ggX3_sittersAt_X3_othersAt : GoodIn wsX3_sittersAt wsX3_othersAt := goodIn_r _ [5, 6, 7, 8, 9, 10, 11, 12, 13, 14, 15, 16, 17, 18, 19, 20, 21, 22, 23] (by decide +kernel) (by decide +kernel)
set_option maxRecDepth 20000 in
theorem gX3_sittersAt_X3_othersAt : GoodIn wsX3_sittersAt (wsV RX3 82 RX3 yX3_othersAt wsX3_othersAt) := goodIn_app (goodIn_of _ (by decide +kernel)) ggX3_sittersAt_X3_othersAt
theorem dX3_sittersAt_0 : decode cX3_sittersAt 0 = .ok (.aload_n 0, 1) := by decide +kernel
theorem dX3_sittersAt_1 : decode cX3_sittersAt 1 = .ok (.iload_n 1, 1) := by decide +kernel
theorem dX3_sittersAt_2 : decode cX3_sittersAt 2 = .ok (.iconst (-1), 1) := by decide +kernel
theorem dX3_sittersAt_3 : decode cX3_sittersAt 3 = .ok (.invokevirtual 82, 3) := by decide +kernel
theorem dX3_sittersAt_6 : decode cX3_sittersAt 6 = .ok (.ireturn, 1) := by decide +kernel
theorem dX3_stitchesAnHour_0 : decode cX3_stitchesAnHour 0 = .ok (.iconst 0, 1) := by decide +kernel
theorem dX3_stitchesAnHour_1 : decode cX3_stitchesAnHour 1 = .ok (.istore_n 2, 1) := by decide +kernel
theorem dX3_stitchesAnHour_2 : decode cX3_stitchesAnHour 2 = .ok (.iconst 0, 1) := by decide +kernel
theorem dX3_stitchesAnHour_3 : decode cX3_stitchesAnHour 3 = .ok (.istore_n 3, 1) := by decide +kernel
theorem dX3_stitchesAnHour_4 : decode cX3_stitchesAnHour 4 = .ok (.aload_n 0, 1) := by decide +kernel
theorem dX3_stitchesAnHour_5 : decode cX3_stitchesAnHour 5 = .ok (.getfield 22, 3) := by decide +kernel
theorem dX3_stitchesAnHour_8 : decode cX3_stitchesAnHour 8 = .ok (.astore 4, 2) := by decide +kernel
theorem dX3_stitchesAnHour_10 : decode cX3_stitchesAnHour 10 = .ok (.aload 4, 2) := by decide +kernel
theorem dX3_stitchesAnHour_12 : decode cX3_stitchesAnHour 12 = .ok (.arraylength, 1) := by decide +kernel
theorem dX3_stitchesAnHour_13 : decode cX3_stitchesAnHour 13 = .ok (.istore 5, 2) := by decide +kernel
theorem dX3_stitchesAnHour_15 : decode cX3_stitchesAnHour 15 = .ok (.iconst 0, 1) := by decide +kernel
theorem dX3_stitchesAnHour_16 : decode cX3_stitchesAnHour 16 = .ok (.istore 6, 2) := by decide +kernel
theorem dX3_stitchesAnHour_18 : decode cX3_stitchesAnHour 18 = .ok (.iload 6, 2) := by decide +kernel
theorem dX3_stitchesAnHour_20 : decode cX3_stitchesAnHour 20 = .ok (.iload 5, 2) := by decide +kernel
theorem dX3_stitchesAnHour_22 : decode cX3_stitchesAnHour 22 = .ok (.if_icmp .ge 36, 3) := by decide +kernel
theorem dX3_stitchesAnHour_25 : decode cX3_stitchesAnHour 25 = .ok (.aload 4, 2) := by decide +kernel
theorem dX3_stitchesAnHour_27 : decode cX3_stitchesAnHour 27 = .ok (.iload 6, 2) := by decide +kernel
theorem dX3_stitchesAnHour_29 : decode cX3_stitchesAnHour 29 = .ok (.aaload, 1) := by decide +kernel
theorem dX3_stitchesAnHour_30 : decode cX3_stitchesAnHour 30 = .ok (.astore 7, 2) := by decide +kernel
theorem dX3_stitchesAnHour_32 : decode cX3_stitchesAnHour 32 = .ok (.aload 7, 2) := by decide +kernel
theorem dX3_stitchesAnHour_34 : decode cX3_stitchesAnHour 34 = .ok (.getfield 78, 3) := by decide +kernel
theorem dX3_stitchesAnHour_37 : decode cX3_stitchesAnHour 37 = .ok (.iload_n 1, 1) := by decide +kernel
theorem dX3_stitchesAnHour_38 : decode cX3_stitchesAnHour 38 = .ok (.if_icmp .ne 14, 3) := by decide +kernel
theorem dX3_stitchesAnHour_41 : decode cX3_stitchesAnHour 41 = .ok (.iinc 2 1, 3) := by decide +kernel
theorem dX3_stitchesAnHour_44 : decode cX3_stitchesAnHour 44 = .ok (.iload_n 3, 1) := by decide +kernel
theorem dX3_stitchesAnHour_45 : decode cX3_stitchesAnHour 45 = .ok (.aload 7, 2) := by decide +kernel
theorem dX3_stitchesAnHour_47 : decode cX3_stitchesAnHour 47 = .ok (.getfield 86, 3) := by decide +kernel
theorem dX3_stitchesAnHour_50 : decode cX3_stitchesAnHour 50 = .ok (.iadd, 1) := by decide +kernel
theorem dX3_stitchesAnHour_51 : decode cX3_stitchesAnHour 51 = .ok (.istore_n 3, 1) := by decide +kernel
theorem dX3_stitchesAnHour_52 : decode cX3_stitchesAnHour 52 = .ok (.iinc 6 1, 3) := by decide +kernel
theorem dX3_stitchesAnHour_55 : decode cX3_stitchesAnHour 55 = .ok (.goto (-37), 3) := by decide +kernel
theorem dX3_stitchesAnHour_58 : decode cX3_stitchesAnHour 58 = .ok (.iload_n 2, 1) := by decide +kernel
theorem dX3_stitchesAnHour_59 : decode cX3_stitchesAnHour 59 = .ok (.iconst 2, 1) := by decide +kernel
theorem dX3_stitchesAnHour_60 : decode cX3_stitchesAnHour 60 = .ok (.if_icmp .ne 13, 3) := by decide +kernel
theorem dX3_stitchesAnHour_63 : decode cX3_stitchesAnHour 63 = .ok (.iconst 1, 1) := by decide +kernel
theorem dX3_stitchesAnHour_64 : decode cX3_stitchesAnHour 64 = .ok (.iload_n 3, 1) := by decide +kernel
theorem dX3_stitchesAnHour_65 : decode cX3_stitchesAnHour 65 = .ok (.iconst 3, 1) := by decide +kernel
theorem dX3_stitchesAnHour_66 : decode cX3_stitchesAnHour 66 = .ok (.isub, 1) := by decide +kernel
theorem dX3_stitchesAnHour_67 : decode cX3_stitchesAnHour 67 = .ok (.invokestatic 89, 3) := by decide +kernel
theorem dX3_stitchesAnHour_70 : decode cX3_stitchesAnHour 70 = .ok (.goto 4, 3) := by decide +kernel
theorem dX3_stitchesAnHour_73 : decode cX3_stitchesAnHour 73 = .ok (.iload_n 3, 1) := by decide +kernel
theorem dX3_stitchesAnHour_74 : decode cX3_stitchesAnHour 74 = .ok (.ireturn, 1) := by decide +kernel
theorem dX3_store_0 : decode cX3_store 0 = .ok (.iload_n 1, 1) := by decide +kernel
theorem dX3_store_1 : decode cX3_store 1 = .ok (.lookupswitch 57 #[(0, 27), (1, 42)], 27) := by decide +kernel
theorem dX3_store_28 : decode cX3_store 28 = .ok (.aload_n 0, 1) := by decide +kernel
theorem dX3_store_29 : decode cX3_store 29 = .ok (.dup, 1) := by decide +kernel
theorem dX3_store_30 : decode cX3_store 30 = .ok (.getfield 34, 3) := by decide +kernel
theorem dX3_store_33 : decode cX3_store 33 = .ok (.iload_n 2, 1) := by decide +kernel
theorem dX3_store_34 : decode cX3_store 34 = .ok (.iadd, 1) := by decide +kernel
theorem dX3_store_35 : decode cX3_store 35 = .ok (.putfield 34, 3) := by decide +kernel
theorem dX3_store_38 : decode cX3_store 38 = .ok (.aload_n 0, 1) := by decide +kernel
theorem dX3_store_39 : decode cX3_store 39 = .ok (.getfield 34, 3) := by decide +kernel
theorem dX3_store_42 : decode cX3_store 42 = .ok (.ireturn, 1) := by decide +kernel
theorem dX3_store_43 : decode cX3_store 43 = .ok (.aload_n 0, 1) := by decide +kernel
theorem dX3_store_44 : decode cX3_store 44 = .ok (.dup, 1) := by decide +kernel
theorem dX3_store_45 : decode cX3_store 45 = .ok (.getfield 38, 3) := by decide +kernel
theorem dX3_store_48 : decode cX3_store 48 = .ok (.iload_n 2, 1) := by decide +kernel
theorem dX3_store_49 : decode cX3_store 49 = .ok (.iadd, 1) := by decide +kernel
theorem dX3_store_50 : decode cX3_store 50 = .ok (.putfield 38, 3) := by decide +kernel
theorem dX3_store_53 : decode cX3_store 53 = .ok (.aload_n 0, 1) := by decide +kernel
theorem dX3_store_54 : decode cX3_store 54 = .ok (.getfield 38, 3) := by decide +kernel
theorem dX3_store_57 : decode cX3_store 57 = .ok (.ireturn, 1) := by decide +kernel
theorem dX3_store_58 : decode cX3_store 58 = .ok (.aload_n 0, 1) := by decide +kernel
theorem dX3_store_59 : decode cX3_store 59 = .ok (.dup, 1) := by decide +kernel
theorem dX3_store_60 : decode cX3_store 60 = .ok (.getfield 41, 3) := by decide +kernel
theorem dX3_store_63 : decode cX3_store 63 = .ok (.iload_n 2, 1) := by decide +kernel
theorem dX3_store_64 : decode cX3_store 64 = .ok (.iadd, 1) := by decide +kernel
theorem dX3_store_65 : decode cX3_store 65 = .ok (.putfield 41, 3) := by decide +kernel
theorem dX3_store_68 : decode cX3_store 68 = .ok (.aload_n 0, 1) := by decide +kernel
theorem dX3_store_69 : decode cX3_store 69 = .ok (.getfield 41, 3) := by decide +kernel
theorem dX3_store_72 : decode cX3_store 72 = .ok (.ireturn, 1) := by decide +kernel
set_option maxRecDepth 20000 in
theorem ggX3_letHoursGo_X3_letAnHourGo : GoodIn wsX3_letHoursGo wsX3_letAnHourGo := goodIn_r _ [5, 6, 7, 8, 9, 10, 11, 4, 12, 13, 14, 15, 16, 17, 18, 19, 20, 21, 22, 23, 24, 25, 26, 27, 28, 29, 30, 31, 32, 33, 34, 35, 36, 37, 38, 39, 40, 41, 42, 43, 44, 45, 46, 47, 48, 49, 50, 51, 52, 53, 54, 55, 56, 57, 58, 59, 60, 61, 62, 63, 64, 65, 66, 67, 68, 69, 70, 71, 72, 73, 74, 75, 76, 77, 78, 79, 80, 81, 82, 83, 84, 85, 86, 87, 88, 89, 90, 91, 92, 93, 94, 95, 96, 97, 98, 99, 100, 101, 102, 103, 104, 105, 106, 107, 108, 109, 110, 111, 112, 113, 114, 115, 116, 117, 118, 119, 120, 121, 122, 123, 124, 125, 126, 127, 128, 129, 130, 131, 132, 133, 134, 135, 136, 137, 138, 139, 140, 141, 142, 143, 144, 145, 146, 147] (by decide +kernel) (by decide +kernel)
set_option maxRecDepth 20000 in
theorem gX3_letHoursGo_X3_letAnHourGo : GoodIn wsX3_letHoursGo (wsV RX3 94 RX3 yX3_letAnHourGo wsX3_letAnHourGo) := goodIn_app (goodIn_of _ (by decide +kernel)) ggX3_letHoursGo_X3_letAnHourGo
theorem dX3_letHoursGo_0 : decode cX3_letHoursGo 0 = .ok (.iconst 0, 1) := by decide +kernel
theorem dX3_letHoursGo_1 : decode cX3_letHoursGo 1 = .ok (.istore_n 2, 1) := by decide +kernel
theorem dX3_letHoursGo_2 : decode cX3_letHoursGo 2 = .ok (.iconst 0, 1) := by decide +kernel
theorem dX3_letHoursGo_3 : decode cX3_letHoursGo 3 = .ok (.istore_n 3, 1) := by decide +kernel
theorem dX3_letHoursGo_4 : decode cX3_letHoursGo 4 = .ok (.iload_n 3, 1) := by decide +kernel
theorem dX3_letHoursGo_5 : decode cX3_letHoursGo 5 = .ok (.iload_n 1, 1) := by decide +kernel
theorem dX3_letHoursGo_6 : decode cX3_letHoursGo 6 = .ok (.if_icmp .ge 16, 3) := by decide +kernel
theorem dX3_letHoursGo_9 : decode cX3_letHoursGo 9 = .ok (.iload_n 2, 1) := by decide +kernel
theorem dX3_letHoursGo_10 : decode cX3_letHoursGo 10 = .ok (.aload_n 0, 1) := by decide +kernel
theorem dX3_letHoursGo_11 : decode cX3_letHoursGo 11 = .ok (.invokevirtual 94, 3) := by decide +kernel
theorem dX3_letHoursGo_14 : decode cX3_letHoursGo 14 = .ok (.iadd, 1) := by decide +kernel
theorem dX3_letHoursGo_15 : decode cX3_letHoursGo 15 = .ok (.istore_n 2, 1) := by decide +kernel
theorem dX3_letHoursGo_16 : decode cX3_letHoursGo 16 = .ok (.iinc 3 1, 3) := by decide +kernel
theorem dX3_letHoursGo_19 : decode cX3_letHoursGo 19 = .ok (.goto (-15), 3) := by decide +kernel
theorem dX3_letHoursGo_22 : decode cX3_letHoursGo 22 = .ok (.iload_n 2, 1) := by decide +kernel
theorem dX3_letHoursGo_23 : decode cX3_letHoursGo 23 = .ok (.ireturn, 1) := by decide +kernel
set_option maxRecDepth 20000 in
theorem ggX3_letAnHourGo_X3_booksAt : GoodIn wsX3_letAnHourGo wsX3_booksAt := goodIn_r _ [8, 9, 10, 112, 113, 114, 115, 116, 117, 118, 119, 120, 121, 122, 123, 128, 129, 130, 131, 132, 133, 134, 135, 136, 137, 138, 139, 140] (by decide +kernel) (by decide +kernel)
set_option maxRecDepth 20000 in
theorem gX3_letAnHourGo_X3_booksAt : GoodIn wsX3_letAnHourGo (wsV RX3 98 RX3 yX3_booksAt wsX3_booksAt) := goodIn_app (goodIn_of _ (by decide +kernel)) ggX3_letAnHourGo_X3_booksAt
set_option maxRecDepth 20000 in
theorem ggX3_letAnHourGo_X3_gild : GoodIn wsX3_letAnHourGo wsX3_gild := goodIn_r _ [14, 9, 10, 15, 16, 17, 18, 19, 20, 21, 22, 23, 24, 25, 26, 27, 28, 29, 30, 31, 32, 33, 112, 113, 114, 115, 116, 117, 118, 119, 120, 121, 122, 123, 128, 129, 130, 131, 132, 133, 134, 135, 136, 137, 138, 139, 140] (by decide +kernel) (by decide +kernel)
set_option maxRecDepth 20000 in
theorem gX3_letAnHourGo_X3_gild : GoodIn wsX3_letAnHourGo (wsV RX3 102 RX3 yX3_gild wsX3_gild) := goodIn_app (goodIn_of _ (by decide +kernel)) ggX3_letAnHourGo_X3_gild
set_option maxRecDepth 20000 in
theorem ggX3_letAnHourGo_X3_giveBoards : GoodIn wsX3_letAnHourGo wsX3_giveBoards := goodIn_r _ [37, 9, 10, 38, 39, 40, 41, 19, 42, 32, 33, 112, 113, 114, 115, 116, 117, 118, 119, 120, 121, 122, 123, 128, 129, 130, 131, 132, 133, 134, 135, 136, 137, 138, 139, 140] (by decide +kernel) (by decide +kernel)
set_option maxRecDepth 20000 in
theorem gX3_letAnHourGo_X3_giveBoards : GoodIn wsX3_letAnHourGo (wsV RX3 105 RX3 yX3_giveBoards wsX3_giveBoards) := goodIn_app (goodIn_of _ (by decide +kernel)) ggX3_letAnHourGo_X3_giveBoards
set_option maxRecDepth 20000 in
theorem ggX3_letAnHourGo_X3_dry : GoodIn wsX3_letAnHourGo wsX3_dry := goodIn_r _ [46, 9, 10, 47, 48, 49, 19, 50, 51, 33, 112, 113, 114, 115, 116, 117, 118, 119, 120, 121, 122, 123, 128, 129, 130, 131, 132, 133, 134, 135, 136, 137, 138, 139, 140] (by decide +kernel) (by decide +kernel)
set_option maxRecDepth 20000 in
theorem gX3_letAnHourGo_X3_dry : GoodIn wsX3_letAnHourGo (wsV RX3 108 RX3 yX3_dry wsX3_dry) := goodIn_app (goodIn_of _ (by decide +kernel)) ggX3_letAnHourGo_X3_dry
set_option maxRecDepth 20000 in
theorem ggX3_letAnHourGo_X3_sewAt : GoodIn wsX3_letAnHourGo wsX3_sewAt := goodIn_r _ [55, 2, 56, 57, 58, 59, 60, 61, 62, 63, 64, 65, 66, 67, 68, 7, 69, 70, 9, 71, 72, 73, 74, 75, 76, 77, 78, 79, 80, 81, 82, 83, 19, 84, 85, 25, 86, 87, 88, 89, 90, 91, 92, 93, 94, 95, 96, 97, 98, 99, 100, 33, 101, 51, 21, 22, 23, 24, 26, 124, 125, 126, 127, 112, 113, 114, 115, 116, 117, 118, 119, 120, 121, 122, 123, 128, 129, 130, 131, 132, 133, 134, 135, 136, 137, 138, 139, 140, 141, 142, 143] (by decide +kernel) (by decide +kernel)
set_option maxRecDepth 20000 in
theorem gX3_letAnHourGo_X3_sewAt : GoodIn wsX3_letAnHourGo (wsV RX3 111 RX3 yX3_sewAt wsX3_sewAt) := goodIn_app (goodIn_of _ (by decide +kernel)) ggX3_letAnHourGo_X3_sewAt
set_option maxRecDepth 20000 in
theorem ggX3_letAnHourGo_X3_mountOn : GoodIn wsX3_letAnHourGo wsX3_mountOn := goodIn_r _ [105, 9, 10, 56, 106, 107, 2, 108, 109, 110, 19, 111, 33, 101, 96, 112, 113, 114, 115, 116, 117, 118, 119, 120, 121, 122, 123, 128, 129, 130, 131, 132, 133, 134, 135, 136, 137, 138, 139, 140, 124, 125, 126, 127] (by decide +kernel) (by decide +kernel)
set_option maxRecDepth 20000 in
theorem gX3_letAnHourGo_X3_mountOn : GoodIn wsX3_letAnHourGo (wsV RX3 114 RX3 yX3_mountOn wsX3_mountOn) := goodIn_app (goodIn_of _ (by decide +kernel)) ggX3_letAnHourGo_X3_mountOn
theorem dX3_letAnHourGo_0 : decode cX3_letAnHourGo 0 = .ok (.aload_n 0, 1) := by decide +kernel
theorem dX3_letAnHourGo_1 : decode cX3_letAnHourGo 1 = .ok (.iconst 5, 1) := by decide +kernel
theorem dX3_letAnHourGo_2 : decode cX3_letAnHourGo 2 = .ok (.invokevirtual 98, 3) := by decide +kernel
theorem dX3_letAnHourGo_5 : decode cX3_letAnHourGo 5 = .ok (.istore_n 1, 1) := by decide +kernel
theorem dX3_letAnHourGo_6 : decode cX3_letAnHourGo 6 = .ok (.aload_n 0, 1) := by decide +kernel
theorem dX3_letAnHourGo_7 : decode cX3_letAnHourGo 7 = .ok (.invokevirtual 102, 3) := by decide +kernel
theorem dX3_letAnHourGo_10 : decode cX3_letAnHourGo 10 = .ok (.aload_n 0, 1) := by decide +kernel
theorem dX3_letAnHourGo_11 : decode cX3_letAnHourGo 11 = .ok (.invokevirtual 105, 3) := by decide +kernel
theorem dX3_letAnHourGo_14 : decode cX3_letAnHourGo 14 = .ok (.aload_n 0, 1) := by decide +kernel
theorem dX3_letAnHourGo_15 : decode cX3_letAnHourGo 15 = .ok (.invokevirtual 108, 3) := by decide +kernel
theorem dX3_letAnHourGo_18 : decode cX3_letAnHourGo 18 = .ok (.aload_n 0, 1) := by decide +kernel
theorem dX3_letAnHourGo_19 : decode cX3_letAnHourGo 19 = .ok (.getfield 29, 3) := by decide +kernel
theorem dX3_letAnHourGo_22 : decode cX3_letAnHourGo 22 = .ok (.astore_n 2, 1) := by decide +kernel
theorem dX3_letAnHourGo_23 : decode cX3_letAnHourGo 23 = .ok (.aload_n 2, 1) := by decide +kernel
theorem dX3_letAnHourGo_24 : decode cX3_letAnHourGo 24 = .ok (.arraylength, 1) := by decide +kernel
theorem dX3_letAnHourGo_25 : decode cX3_letAnHourGo 25 = .ok (.istore_n 3, 1) := by decide +kernel
theorem dX3_letAnHourGo_26 : decode cX3_letAnHourGo 26 = .ok (.iconst 0, 1) := by decide +kernel
theorem dX3_letAnHourGo_27 : decode cX3_letAnHourGo 27 = .ok (.istore 4, 2) := by decide +kernel
theorem dX3_letAnHourGo_29 : decode cX3_letAnHourGo 29 = .ok (.iload 4, 2) := by decide +kernel
theorem dX3_letAnHourGo_31 : decode cX3_letAnHourGo 31 = .ok (.iload_n 3, 1) := by decide +kernel
theorem dX3_letAnHourGo_32 : decode cX3_letAnHourGo 32 = .ok (.if_icmp .ge 21, 3) := by decide +kernel
theorem dX3_letAnHourGo_35 : decode cX3_letAnHourGo 35 = .ok (.aload_n 2, 1) := by decide +kernel
theorem dX3_letAnHourGo_36 : decode cX3_letAnHourGo 36 = .ok (.iload 4, 2) := by decide +kernel
theorem dX3_letAnHourGo_38 : decode cX3_letAnHourGo 38 = .ok (.aaload, 1) := by decide +kernel
theorem dX3_letAnHourGo_39 : decode cX3_letAnHourGo 39 = .ok (.astore 5, 2) := by decide +kernel
theorem dX3_letAnHourGo_41 : decode cX3_letAnHourGo 41 = .ok (.aload_n 0, 1) := by decide +kernel
theorem dX3_letAnHourGo_42 : decode cX3_letAnHourGo 42 = .ok (.aload 5, 2) := by decide +kernel
theorem dX3_letAnHourGo_44 : decode cX3_letAnHourGo 44 = .ok (.invokevirtual 111, 3) := by decide +kernel
theorem dX3_letAnHourGo_47 : decode cX3_letAnHourGo 47 = .ok (.iinc 4 1, 3) := by decide +kernel
theorem dX3_letAnHourGo_50 : decode cX3_letAnHourGo 50 = .ok (.goto (-21), 3) := by decide +kernel
theorem dX3_letAnHourGo_53 : decode cX3_letAnHourGo 53 = .ok (.aload_n 0, 1) := by decide +kernel
theorem dX3_letAnHourGo_54 : decode cX3_letAnHourGo 54 = .ok (.getfield 29, 3) := by decide +kernel
theorem dX3_letAnHourGo_57 : decode cX3_letAnHourGo 57 = .ok (.astore_n 2, 1) := by decide +kernel
theorem dX3_letAnHourGo_58 : decode cX3_letAnHourGo 58 = .ok (.aload_n 2, 1) := by decide +kernel
theorem dX3_letAnHourGo_59 : decode cX3_letAnHourGo 59 = .ok (.arraylength, 1) := by decide +kernel
theorem dX3_letAnHourGo_60 : decode cX3_letAnHourGo 60 = .ok (.istore_n 3, 1) := by decide +kernel
theorem dX3_letAnHourGo_61 : decode cX3_letAnHourGo 61 = .ok (.iconst 0, 1) := by decide +kernel
theorem dX3_letAnHourGo_62 : decode cX3_letAnHourGo 62 = .ok (.istore 4, 2) := by decide +kernel
theorem dX3_letAnHourGo_64 : decode cX3_letAnHourGo 64 = .ok (.iload 4, 2) := by decide +kernel
theorem dX3_letAnHourGo_66 : decode cX3_letAnHourGo 66 = .ok (.iload_n 3, 1) := by decide +kernel
theorem dX3_letAnHourGo_67 : decode cX3_letAnHourGo 67 = .ok (.if_icmp .ge 30, 3) := by decide +kernel
theorem dX3_letAnHourGo_70 : decode cX3_letAnHourGo 70 = .ok (.aload_n 2, 1) := by decide +kernel
theorem dX3_letAnHourGo_71 : decode cX3_letAnHourGo 71 = .ok (.iload 4, 2) := by decide +kernel
theorem dX3_letAnHourGo_73 : decode cX3_letAnHourGo 73 = .ok (.aaload, 1) := by decide +kernel
theorem dX3_letAnHourGo_74 : decode cX3_letAnHourGo 74 = .ok (.astore 5, 2) := by decide +kernel
theorem dX3_letAnHourGo_76 : decode cX3_letAnHourGo 76 = .ok (.aload 5, 2) := by decide +kernel
theorem dX3_letAnHourGo_78 : decode cX3_letAnHourGo 78 = .ok (.getfield 72, 3) := by decide +kernel
theorem dX3_letAnHourGo_81 : decode cX3_letAnHourGo 81 = .ok (.iconst (-1), 1) := by decide +kernel
theorem dX3_letAnHourGo_82 : decode cX3_letAnHourGo 82 = .ok (.if_icmp .ne 9, 3) := by decide +kernel
theorem dX3_letAnHourGo_85 : decode cX3_letAnHourGo 85 = .ok (.aload_n 0, 1) := by decide +kernel
theorem dX3_letAnHourGo_86 : decode cX3_letAnHourGo 86 = .ok (.aload 5, 2) := by decide +kernel
theorem dX3_letAnHourGo_88 : decode cX3_letAnHourGo 88 = .ok (.invokevirtual 114, 3) := by decide +kernel
theorem dX3_letAnHourGo_91 : decode cX3_letAnHourGo 91 = .ok (.iinc 4 1, 3) := by decide +kernel
theorem dX3_letAnHourGo_94 : decode cX3_letAnHourGo 94 = .ok (.goto (-30), 3) := by decide +kernel
theorem dX3_letAnHourGo_97 : decode cX3_letAnHourGo 97 = .ok (.aload_n 0, 1) := by decide +kernel
theorem dX3_letAnHourGo_98 : decode cX3_letAnHourGo 98 = .ok (.dup, 1) := by decide +kernel
theorem dX3_letAnHourGo_99 : decode cX3_letAnHourGo 99 = .ok (.getfield 63, 3) := by decide +kernel
theorem dX3_letAnHourGo_102 : decode cX3_letAnHourGo 102 = .ok (.iconst 1, 1) := by decide +kernel
theorem dX3_letAnHourGo_103 : decode cX3_letAnHourGo 103 = .ok (.iadd, 1) := by decide +kernel
theorem dX3_letAnHourGo_104 : decode cX3_letAnHourGo 104 = .ok (.putfield 63, 3) := by decide +kernel
theorem dX3_letAnHourGo_107 : decode cX3_letAnHourGo 107 = .ok (.aload_n 0, 1) := by decide +kernel
theorem dX3_letAnHourGo_108 : decode cX3_letAnHourGo 108 = .ok (.iconst 5, 1) := by decide +kernel
theorem dX3_letAnHourGo_109 : decode cX3_letAnHourGo 109 = .ok (.invokevirtual 98, 3) := by decide +kernel
theorem dX3_letAnHourGo_112 : decode cX3_letAnHourGo 112 = .ok (.iload_n 1, 1) := by decide +kernel
theorem dX3_letAnHourGo_113 : decode cX3_letAnHourGo 113 = .ok (.isub, 1) := by decide +kernel
theorem dX3_letAnHourGo_114 : decode cX3_letAnHourGo 114 = .ok (.ireturn, 1) := by decide +kernel
set_option maxRecDepth 20000 in
theorem ggX3_gild_X0_leavesForAnEdge : GoodIn wsX3_gild wsX0_leavesForAnEdge := goodIn_r _ [8, 9, 10, 11, 7, 12, 13, 14, 34, 35, 36, 37, 38, 39, 40, 41, 42, 43, 44, 45, 46] (by decide +kernel) (by decide +kernel)
set_option maxRecDepth 20000 in
theorem gX3_gild_X0_leavesForAnEdge : GoodIn wsX3_gild (wsV RX3 120 RX0 yX0_leavesForAnEdge wsX0_leavesForAnEdge) := goodIn_app (goodIn_of _ (by decide +kernel)) ggX3_gild_X0_leavesForAnEdge
set_option maxRecDepth 20000 in
theorem ggX3_gild_X0_gildAnEdge : GoodIn wsX3_gild wsX0_gildAnEdge := goodIn_r _ [18, 19, 20, 21, 34, 35, 36, 37, 38, 39, 40, 41, 42, 43, 44, 45, 46] (by decide +kernel) (by decide +kernel)
set_option maxRecDepth 20000 in
theorem gX3_gild_X0_gildAnEdge : GoodIn wsX3_gild (wsV RX3 123 RX0 yX0_gildAnEdge wsX0_gildAnEdge) := goodIn_app (goodIn_of _ (by decide +kernel)) ggX3_gild_X0_gildAnEdge
theorem dX3_gild_0 : decode cX3_gild 0 = .ok (.aload_n 0, 1) := by decide +kernel
theorem dX3_gild_1 : decode cX3_gild 1 = .ok (.getfield 11, 3) := by decide +kernel
theorem dX3_gild_4 : decode cX3_gild 4 = .ok (.astore_n 1, 1) := by decide +kernel
theorem dX3_gild_5 : decode cX3_gild 5 = .ok (.aload_n 1, 1) := by decide +kernel
theorem dX3_gild_6 : decode cX3_gild 6 = .ok (.arraylength, 1) := by decide +kernel
theorem dX3_gild_7 : decode cX3_gild 7 = .ok (.istore_n 2, 1) := by decide +kernel
theorem dX3_gild_8 : decode cX3_gild 8 = .ok (.iconst 0, 1) := by decide +kernel
theorem dX3_gild_9 : decode cX3_gild 9 = .ok (.istore_n 3, 1) := by decide +kernel
theorem dX3_gild_10 : decode cX3_gild 10 = .ok (.iload_n 3, 1) := by decide +kernel
theorem dX3_gild_11 : decode cX3_gild 11 = .ok (.iload_n 2, 1) := by decide +kernel
theorem dX3_gild_12 : decode cX3_gild 12 = .ok (.if_icmp .ge 56, 3) := by decide +kernel
theorem dX3_gild_15 : decode cX3_gild 15 = .ok (.aload_n 1, 1) := by decide +kernel
theorem dX3_gild_16 : decode cX3_gild 16 = .ok (.iload_n 3, 1) := by decide +kernel
theorem dX3_gild_17 : decode cX3_gild 17 = .ok (.aaload, 1) := by decide +kernel
theorem dX3_gild_18 : decode cX3_gild 18 = .ok (.astore 4, 2) := by decide +kernel
theorem dX3_gild_20 : decode cX3_gild 20 = .ok (.aload 4, 2) := by decide +kernel
theorem dX3_gild_22 : decode cX3_gild 22 = .ok (.getfield 117, 3) := by decide +kernel
theorem dX3_gild_25 : decode cX3_gild 25 = .ok (.iconst 4, 1) := by decide +kernel
theorem dX3_gild_26 : decode cX3_gild 26 = .ok (.if_icmp .ne 36, 3) := by decide +kernel
theorem dX3_gild_29 : decode cX3_gild 29 = .ok (.aload 4, 2) := by decide +kernel
theorem dX3_gild_31 : decode cX3_gild 31 = .ok (.invokevirtual 120, 3) := by decide +kernel
theorem dX3_gild_34 : decode cX3_gild 34 = .ok (.istore 5, 2) := by decide +kernel
theorem dX3_gild_36 : decode cX3_gild 36 = .ok (.aload_n 0, 1) := by decide +kernel
theorem dX3_gild_37 : decode cX3_gild 37 = .ok (.getfield 41, 3) := by decide +kernel
theorem dX3_gild_40 : decode cX3_gild 40 = .ok (.iload 5, 2) := by decide +kernel
theorem dX3_gild_42 : decode cX3_gild 42 = .ok (.if_icmp .lt 19, 3) := by decide +kernel
theorem dX3_gild_45 : decode cX3_gild 45 = .ok (.aload_n 0, 1) := by decide +kernel
theorem dX3_gild_46 : decode cX3_gild 46 = .ok (.dup, 1) := by decide +kernel
theorem dX3_gild_47 : decode cX3_gild 47 = .ok (.getfield 41, 3) := by decide +kernel
theorem dX3_gild_50 : decode cX3_gild 50 = .ok (.iload 5, 2) := by decide +kernel
theorem dX3_gild_52 : decode cX3_gild 52 = .ok (.isub, 1) := by decide +kernel
theorem dX3_gild_53 : decode cX3_gild 53 = .ok (.putfield 41, 3) := by decide +kernel
theorem dX3_gild_56 : decode cX3_gild 56 = .ok (.aload 4, 2) := by decide +kernel
theorem dX3_gild_58 : decode cX3_gild 58 = .ok (.invokevirtual 123, 3) := by decide +kernel
theorem dX3_gild_61 : decode cX3_gild 61 = .ok (.return_, 1) := by decide +kernel
theorem dX3_gild_62 : decode cX3_gild 62 = .ok (.iinc 3 1, 3) := by decide +kernel
theorem dX3_gild_65 : decode cX3_gild 65 = .ok (.goto (-55), 3) := by decide +kernel
theorem dX3_gild_68 : decode cX3_gild 68 = .ok (.return_, 1) := by decide +kernel
set_option maxRecDepth 20000 in
theorem ggX3_giveBoards_X0_bind : GoodIn wsX3_giveBoards wsX0_bind := goodIn_r _ [8, 9, 10, 23, 24, 25, 26, 27, 28, 29, 30, 31, 32, 33, 34, 35] (by decide +kernel) (by decide +kernel)
set_option maxRecDepth 20000 in
theorem gX3_giveBoards_X0_bind : GoodIn wsX3_giveBoards (wsV RX3 126 RX0 yX0_bind wsX0_bind) := goodIn_app (goodIn_of _ (by decide +kernel)) ggX3_giveBoards_X0_bind
theorem dX3_giveBoards_0 : decode cX3_giveBoards 0 = .ok (.aload_n 0, 1) := by decide +kernel
theorem dX3_giveBoards_1 : decode cX3_giveBoards 1 = .ok (.getfield 11, 3) := by decide +kernel
theorem dX3_giveBoards_4 : decode cX3_giveBoards 4 = .ok (.astore_n 1, 1) := by decide +kernel
theorem dX3_giveBoards_5 : decode cX3_giveBoards 5 = .ok (.aload_n 1, 1) := by decide +kernel
theorem dX3_giveBoards_6 : decode cX3_giveBoards 6 = .ok (.arraylength, 1) := by decide +kernel
theorem dX3_giveBoards_7 : decode cX3_giveBoards 7 = .ok (.istore_n 2, 1) := by decide +kernel
theorem dX3_giveBoards_8 : decode cX3_giveBoards 8 = .ok (.iconst 0, 1) := by decide +kernel
theorem dX3_giveBoards_9 : decode cX3_giveBoards 9 = .ok (.istore_n 3, 1) := by decide +kernel
theorem dX3_giveBoards_10 : decode cX3_giveBoards 10 = .ok (.iload_n 3, 1) := by decide +kernel
theorem dX3_giveBoards_11 : decode cX3_giveBoards 11 = .ok (.iload_n 2, 1) := by decide +kernel
theorem dX3_giveBoards_12 : decode cX3_giveBoards 12 = .ok (.if_icmp .ge 46, 3) := by decide +kernel
theorem dX3_giveBoards_15 : decode cX3_giveBoards 15 = .ok (.aload_n 1, 1) := by decide +kernel
theorem dX3_giveBoards_16 : decode cX3_giveBoards 16 = .ok (.iload_n 3, 1) := by decide +kernel
theorem dX3_giveBoards_17 : decode cX3_giveBoards 17 = .ok (.aaload, 1) := by decide +kernel
theorem dX3_giveBoards_18 : decode cX3_giveBoards 18 = .ok (.astore 4, 2) := by decide +kernel
theorem dX3_giveBoards_20 : decode cX3_giveBoards 20 = .ok (.aload 4, 2) := by decide +kernel
theorem dX3_giveBoards_22 : decode cX3_giveBoards 22 = .ok (.getfield 117, 3) := by decide +kernel
theorem dX3_giveBoards_25 : decode cX3_giveBoards 25 = .ok (.iconst 3, 1) := by decide +kernel
theorem dX3_giveBoards_26 : decode cX3_giveBoards 26 = .ok (.if_icmp .ne 26, 3) := by decide +kernel
theorem dX3_giveBoards_29 : decode cX3_giveBoards 29 = .ok (.aload_n 0, 1) := by decide +kernel
theorem dX3_giveBoards_30 : decode cX3_giveBoards 30 = .ok (.getfield 38, 3) := by decide +kernel
theorem dX3_giveBoards_33 : decode cX3_giveBoards 33 = .ok (.iconst 2, 1) := by decide +kernel
theorem dX3_giveBoards_34 : decode cX3_giveBoards 34 = .ok (.if_icmp .lt 18, 3) := by decide +kernel
theorem dX3_giveBoards_37 : decode cX3_giveBoards 37 = .ok (.aload_n 0, 1) := by decide +kernel
theorem dX3_giveBoards_38 : decode cX3_giveBoards 38 = .ok (.dup, 1) := by decide +kernel
theorem dX3_giveBoards_39 : decode cX3_giveBoards 39 = .ok (.getfield 38, 3) := by decide +kernel
theorem dX3_giveBoards_42 : decode cX3_giveBoards 42 = .ok (.iconst 2, 1) := by decide +kernel
theorem dX3_giveBoards_43 : decode cX3_giveBoards 43 = .ok (.isub, 1) := by decide +kernel
theorem dX3_giveBoards_44 : decode cX3_giveBoards 44 = .ok (.putfield 38, 3) := by decide +kernel
theorem dX3_giveBoards_47 : decode cX3_giveBoards 47 = .ok (.aload 4, 2) := by decide +kernel
theorem dX3_giveBoards_49 : decode cX3_giveBoards 49 = .ok (.invokevirtual 126, 3) := by decide +kernel
theorem dX3_giveBoards_52 : decode cX3_giveBoards 52 = .ok (.iinc 3 1, 3) := by decide +kernel
theorem dX3_giveBoards_55 : decode cX3_giveBoards 55 = .ok (.goto (-45), 3) := by decide +kernel
theorem dX3_giveBoards_58 : decode cX3_giveBoards 58 = .ok (.return_, 1) := by decide +kernel
set_option maxRecDepth 20000 in
theorem ggX3_dry_X0_dryForAnHour : GoodIn wsX3_dry wsX0_dryForAnHour := goodIn_r _ [7, 8, 9, 22, 23, 24, 25, 26, 27, 28, 29, 30, 31, 32, 33, 34] (by decide +kernel) (by decide +kernel)
set_option maxRecDepth 20000 in
theorem gX3_dry_X0_dryForAnHour : GoodIn wsX3_dry (wsV RX3 129 RX0 yX0_dryForAnHour wsX0_dryForAnHour) := goodIn_app (goodIn_of _ (by decide +kernel)) ggX3_dry_X0_dryForAnHour
theorem dX3_dry_0 : decode cX3_dry 0 = .ok (.aload_n 0, 1) := by decide +kernel
theorem dX3_dry_1 : decode cX3_dry 1 = .ok (.getfield 11, 3) := by decide +kernel
theorem dX3_dry_4 : decode cX3_dry 4 = .ok (.astore_n 1, 1) := by decide +kernel
theorem dX3_dry_5 : decode cX3_dry 5 = .ok (.aload_n 1, 1) := by decide +kernel
theorem dX3_dry_6 : decode cX3_dry 6 = .ok (.arraylength, 1) := by decide +kernel
theorem dX3_dry_7 : decode cX3_dry 7 = .ok (.istore_n 2, 1) := by decide +kernel
theorem dX3_dry_8 : decode cX3_dry 8 = .ok (.iconst 0, 1) := by decide +kernel
theorem dX3_dry_9 : decode cX3_dry 9 = .ok (.istore_n 3, 1) := by decide +kernel
theorem dX3_dry_10 : decode cX3_dry 10 = .ok (.iload_n 3, 1) := by decide +kernel
theorem dX3_dry_11 : decode cX3_dry 11 = .ok (.iload_n 2, 1) := by decide +kernel
theorem dX3_dry_12 : decode cX3_dry 12 = .ok (.if_icmp .ge 28, 3) := by decide +kernel
theorem dX3_dry_15 : decode cX3_dry 15 = .ok (.aload_n 1, 1) := by decide +kernel
theorem dX3_dry_16 : decode cX3_dry 16 = .ok (.iload_n 3, 1) := by decide +kernel
theorem dX3_dry_17 : decode cX3_dry 17 = .ok (.aaload, 1) := by decide +kernel
theorem dX3_dry_18 : decode cX3_dry 18 = .ok (.astore 4, 2) := by decide +kernel
theorem dX3_dry_20 : decode cX3_dry 20 = .ok (.aload 4, 2) := by decide +kernel
theorem dX3_dry_22 : decode cX3_dry 22 = .ok (.getfield 117, 3) := by decide +kernel
theorem dX3_dry_25 : decode cX3_dry 25 = .ok (.iconst 2, 1) := by decide +kernel
theorem dX3_dry_26 : decode cX3_dry 26 = .ok (.if_icmp .ne 8, 3) := by decide +kernel
theorem dX3_dry_29 : decode cX3_dry 29 = .ok (.aload 4, 2) := by decide +kernel
theorem dX3_dry_31 : decode cX3_dry 31 = .ok (.invokevirtual 129, 3) := by decide +kernel
theorem dX3_dry_34 : decode cX3_dry 34 = .ok (.iinc 3 1, 3) := by decide +kernel
theorem dX3_dry_37 : decode cX3_dry 37 = .ok (.goto (-27), 3) := by decide +kernel
theorem dX3_dry_40 : decode cX3_dry 40 = .ok (.return_, 1) := by decide +kernel
set_option maxRecDepth 20000 in
theorem ggX3_sewAt_X3_bookNumbered : GoodIn wsX3_sewAt wsX3_bookNumbered := goodIn_r _ [16, 17, 18, 63, 64, 65, 66, 67, 68, 69, 70, 71, 72, 73, 74] (by decide +kernel) (by decide +kernel)
set_option maxRecDepth 20000 in
theorem gX3_sewAt_X3_bookNumbered : GoodIn wsX3_sewAt (wsV RX3 132 RX3 yX3_bookNumbered wsX3_bookNumbered) := goodIn_app (goodIn_of _ (by decide +kernel)) ggX3_sewAt_X3_bookNumbered
set_option maxRecDepth 20000 in
theorem ggX3_sewAt_X3_stitchesAnHour : GoodIn wsX3_sewAt wsX3_stitchesAnHour := goodIn_r _ [22, 23, 24, 25, 26, 27, 6, 28, 63, 64, 65, 66, 67, 68, 69, 70, 71, 72, 73, 74, 88, 89, 90] (by decide +kernel) (by decide +kernel)
set_option maxRecDepth 20000 in
theorem gX3_sewAt_X3_stitchesAnHour : GoodIn wsX3_sewAt (wsV RX3 137 RX3 yX3_stitchesAnHour wsX3_stitchesAnHour) := goodIn_app (goodIn_of _ (by decide +kernel)) ggX3_sewAt_X3_stitchesAnHour
set_option maxRecDepth 20000 in
theorem ggX3_sewAt_X0_isSewn : GoodIn wsX3_sewAt wsX0_isSewn := goodIn_r _ [33, 34, 35, 75, 76, 77, 78, 79, 80, 81, 82, 83, 84, 85, 86, 87] (by decide +kernel) (by decide +kernel)
set_option maxRecDepth 20000 in
theorem gX3_sewAt_X0_isSewn : GoodIn wsX3_sewAt (wsV RX3 143 RX0 yX0_isSewn wsX0_isSewn) := goodIn_app (goodIn_of _ (by decide +kernel)) ggX3_sewAt_X0_isSewn
set_option maxRecDepth 20000 in
theorem ggX3_sewAt_X0_addStitch : GoodIn wsX3_sewAt wsX0_addStitch := goodIn_r _ [39, 40, 41, 34, 42, 43, 44, 32, 45, 46, 35, 75, 76, 77, 78, 79, 80, 81, 82, 83, 84, 85, 86, 87] (by decide +kernel) (by decide +kernel)
set_option maxRecDepth 20000 in
theorem gX3_sewAt_X0_addStitch : GoodIn wsX3_sewAt (wsV RX3 148 RX0 yX0_addStitch wsX0_addStitch) := goodIn_app (goodIn_of _ (by decide +kernel)) ggX3_sewAt_X0_addStitch
set_option maxRecDepth 20000 in
theorem ggX3_sewAt_X0_beginToDry : GoodIn wsX3_sewAt wsX0_beginToDry := goodIn_r _ [50, 51, 52, 53, 54, 55, 56, 32, 57, 35, 58, 75, 76, 77, 78, 79, 80, 81, 82, 83, 84, 85, 86, 87] (by decide +kernel) (by decide +kernel)
set_option maxRecDepth 20000 in
theorem gX3_sewAt_X0_beginToDry : GoodIn wsX3_sewAt (wsV RX3 152 RX0 yX0_beginToDry wsX0_beginToDry) := goodIn_app (goodIn_of _ (by decide +kernel)) ggX3_sewAt_X0_beginToDry
theorem dX3_sewAt_0 : decode cX3_sewAt 0 = .ok (.aload_n 0, 1) := by decide +kernel
theorem dX3_sewAt_1 : decode cX3_sewAt 1 = .ok (.aload_n 1, 1) := by decide +kernel
theorem dX3_sewAt_2 : decode cX3_sewAt 2 = .ok (.getfield 72, 3) := by decide +kernel
theorem dX3_sewAt_5 : decode cX3_sewAt 5 = .ok (.invokevirtual 132, 3) := by decide +kernel
theorem dX3_sewAt_8 : decode cX3_sewAt 8 = .ok (.astore_n 2, 1) := by decide +kernel
theorem dX3_sewAt_9 : decode cX3_sewAt 9 = .ok (.aload_n 2, 1) := by decide +kernel
theorem dX3_sewAt_10 : decode cX3_sewAt 10 = .ok (.ifnonnull 4, 3) := by decide +kernel
theorem dX3_sewAt_13 : decode cX3_sewAt 13 = .ok (.return_, 1) := by decide +kernel
theorem dX3_sewAt_14 : decode cX3_sewAt 14 = .ok (.aload_n 0, 1) := by decide +kernel
theorem dX3_sewAt_15 : decode cX3_sewAt 15 = .ok (.aload_n 1, 1) := by decide +kernel
theorem dX3_sewAt_16 : decode cX3_sewAt 16 = .ok (.getfield 136, 3) := by decide +kernel
theorem dX3_sewAt_19 : decode cX3_sewAt 19 = .ok (.invokevirtual 137, 3) := by decide +kernel
theorem dX3_sewAt_22 : decode cX3_sewAt 22 = .ok (.aload_n 0, 1) := by decide +kernel
theorem dX3_sewAt_23 : decode cX3_sewAt 23 = .ok (.getfield 34, 3) := by decide +kernel
theorem dX3_sewAt_26 : decode cX3_sewAt 26 = .ok (.invokestatic 140, 3) := by decide +kernel
theorem dX3_sewAt_29 : decode cX3_sewAt 29 = .ok (.istore_n 3, 1) := by decide +kernel
theorem dX3_sewAt_30 : decode cX3_sewAt 30 = .ok (.iconst 1, 1) := by decide +kernel
theorem dX3_sewAt_31 : decode cX3_sewAt 31 = .ok (.istore 4, 2) := by decide +kernel
theorem dX3_sewAt_33 : decode cX3_sewAt 33 = .ok (.iload 4, 2) := by decide +kernel
theorem dX3_sewAt_35 : decode cX3_sewAt 35 = .ok (.iload_n 3, 1) := by decide +kernel
theorem dX3_sewAt_36 : decode cX3_sewAt 36 = .ok (.if_icmp .gt 84, 3) := by decide +kernel
theorem dX3_sewAt_39 : decode cX3_sewAt 39 = .ok (.aload_n 2, 1) := by decide +kernel
theorem dX3_sewAt_40 : decode cX3_sewAt 40 = .ok (.invokevirtual 143, 3) := by decide +kernel
theorem dX3_sewAt_43 : decode cX3_sewAt 43 = .ok (.ifCond .ne 77, 3) := by decide +kernel
theorem dX3_sewAt_46 : decode cX3_sewAt 46 = .ok (.aload_n 0, 1) := by decide +kernel
theorem dX3_sewAt_47 : decode cX3_sewAt 47 = .ok (.dup, 1) := by decide +kernel
theorem dX3_sewAt_48 : decode cX3_sewAt 48 = .ok (.getfield 34, 3) := by decide +kernel
theorem dX3_sewAt_51 : decode cX3_sewAt 51 = .ok (.iconst 1, 1) := by decide +kernel
theorem dX3_sewAt_52 : decode cX3_sewAt 52 = .ok (.isub, 1) := by decide +kernel
theorem dX3_sewAt_53 : decode cX3_sewAt 53 = .ok (.putfield 34, 3) := by decide +kernel
theorem dX3_sewAt_56 : decode cX3_sewAt 56 = .ok (.aload_n 0, 1) := by decide +kernel
theorem dX3_sewAt_57 : decode cX3_sewAt 57 = .ok (.dup, 1) := by decide +kernel
theorem dX3_sewAt_58 : decode cX3_sewAt 58 = .ok (.getfield 66, 3) := by decide +kernel
theorem dX3_sewAt_61 : decode cX3_sewAt 61 = .ok (.iconst 1, 1) := by decide +kernel
theorem dX3_sewAt_62 : decode cX3_sewAt 62 = .ok (.iadd, 1) := by decide +kernel
theorem dX3_sewAt_63 : decode cX3_sewAt 63 = .ok (.putfield 66, 3) := by decide +kernel
theorem dX3_sewAt_66 : decode cX3_sewAt 66 = .ok (.aload_n 1, 1) := by decide +kernel
theorem dX3_sewAt_67 : decode cX3_sewAt 67 = .ok (.dup, 1) := by decide +kernel
theorem dX3_sewAt_68 : decode cX3_sewAt 68 = .ok (.getfield 147, 3) := by decide +kernel
theorem dX3_sewAt_71 : decode cX3_sewAt 71 = .ok (.iconst 1, 1) := by decide +kernel
theorem dX3_sewAt_72 : decode cX3_sewAt 72 = .ok (.iadd, 1) := by decide +kernel
theorem dX3_sewAt_73 : decode cX3_sewAt 73 = .ok (.putfield 147, 3) := by decide +kernel
theorem dX3_sewAt_76 : decode cX3_sewAt 76 = .ok (.aload_n 2, 1) := by decide +kernel
theorem dX3_sewAt_77 : decode cX3_sewAt 77 = .ok (.invokevirtual 148, 3) := by decide +kernel
theorem dX3_sewAt_80 : decode cX3_sewAt 80 = .ok (.istore 5, 2) := by decide +kernel
theorem dX3_sewAt_82 : decode cX3_sewAt 82 = .ok (.iload 5, 2) := by decide +kernel
theorem dX3_sewAt_84 : decode cX3_sewAt 84 = .ok (.ifCond .eq 30, 3) := by decide +kernel
theorem dX3_sewAt_87 : decode cX3_sewAt 87 = .ok (.iload 4, 2) := by decide +kernel
theorem dX3_sewAt_89 : decode cX3_sewAt 89 = .ok (.bipush 10, 2) := by decide +kernel
theorem dX3_sewAt_91 : decode cX3_sewAt 91 = .ok (.if_icmp .lt 23, 3) := by decide +kernel
theorem dX3_sewAt_94 : decode cX3_sewAt 94 = .ok (.aload_n 2, 1) := by decide +kernel
theorem dX3_sewAt_95 : decode cX3_sewAt 95 = .ok (.dup, 1) := by decide +kernel
theorem dX3_sewAt_96 : decode cX3_sewAt 96 = .ok (.getfield 151, 3) := by decide +kernel
theorem dX3_sewAt_99 : decode cX3_sewAt 99 = .ok (.iconst 1, 1) := by decide +kernel
theorem dX3_sewAt_100 : decode cX3_sewAt 100 = .ok (.iadd, 1) := by decide +kernel
theorem dX3_sewAt_101 : decode cX3_sewAt 101 = .ok (.putfield 151, 3) := by decide +kernel
theorem dX3_sewAt_104 : decode cX3_sewAt 104 = .ok (.aload_n 0, 1) := by decide +kernel
theorem dX3_sewAt_105 : decode cX3_sewAt 105 = .ok (.dup, 1) := by decide +kernel
theorem dX3_sewAt_106 : decode cX3_sewAt 106 = .ok (.getfield 69, 3) := by decide +kernel
theorem dX3_sewAt_109 : decode cX3_sewAt 109 = .ok (.iconst 1, 1) := by decide +kernel
theorem dX3_sewAt_110 : decode cX3_sewAt 110 = .ok (.iadd, 1) := by decide +kernel
theorem dX3_sewAt_111 : decode cX3_sewAt 111 = .ok (.putfield 69, 3) := by decide +kernel
theorem dX3_sewAt_114 : decode cX3_sewAt 114 = .ok (.iinc 4 1, 3) := by decide +kernel
theorem dX3_sewAt_117 : decode cX3_sewAt 117 = .ok (.goto (-84), 3) := by decide +kernel
theorem dX3_sewAt_120 : decode cX3_sewAt 120 = .ok (.aload_n 2, 1) := by decide +kernel
theorem dX3_sewAt_121 : decode cX3_sewAt 121 = .ok (.invokevirtual 143, 3) := by decide +kernel
theorem dX3_sewAt_124 : decode cX3_sewAt 124 = .ok (.ifCond .eq 12, 3) := by decide +kernel
theorem dX3_sewAt_127 : decode cX3_sewAt 127 = .ok (.aload_n 1, 1) := by decide +kernel
theorem dX3_sewAt_128 : decode cX3_sewAt 128 = .ok (.iconst (-1), 1) := by decide +kernel
theorem dX3_sewAt_129 : decode cX3_sewAt 129 = .ok (.putfield 72, 3) := by decide +kernel
theorem dX3_sewAt_132 : decode cX3_sewAt 132 = .ok (.aload_n 2, 1) := by decide +kernel
theorem dX3_sewAt_133 : decode cX3_sewAt 133 = .ok (.invokevirtual 152, 3) := by decide +kernel
theorem dX3_sewAt_136 : decode cX3_sewAt 136 = .ok (.return_, 1) := by decide +kernel
set_option maxRecDepth 20000 in
theorem ggX3_mountOn_X0_mount : GoodIn wsX3_mountOn wsX0_mount := goodIn_r _ [11, 12, 13, 14, 27, 28, 29, 30, 31, 32, 33, 34, 35, 36, 37, 38, 39] (by decide +kernel) (by decide +kernel)
set_option maxRecDepth 20000 in
theorem gX3_mountOn_X0_mount : GoodIn wsX3_mountOn (wsV RX3 158 RX0 yX0_mount wsX0_mount) := goodIn_app (goodIn_of _ (by decide +kernel)) ggX3_mountOn_X0_mount
theorem dX3_mountOn_0 : decode cX3_mountOn 0 = .ok (.aload_n 0, 1) := by decide +kernel
theorem dX3_mountOn_1 : decode cX3_mountOn 1 = .ok (.getfield 11, 3) := by decide +kernel
theorem dX3_mountOn_4 : decode cX3_mountOn 4 = .ok (.astore_n 2, 1) := by decide +kernel
theorem dX3_mountOn_5 : decode cX3_mountOn 5 = .ok (.aload_n 2, 1) := by decide +kernel
theorem dX3_mountOn_6 : decode cX3_mountOn 6 = .ok (.arraylength, 1) := by decide +kernel
theorem dX3_mountOn_7 : decode cX3_mountOn 7 = .ok (.istore_n 3, 1) := by decide +kernel
theorem dX3_mountOn_8 : decode cX3_mountOn 8 = .ok (.iconst 0, 1) := by decide +kernel
theorem dX3_mountOn_9 : decode cX3_mountOn 9 = .ok (.istore 4, 2) := by decide +kernel
theorem dX3_mountOn_11 : decode cX3_mountOn 11 = .ok (.iload 4, 2) := by decide +kernel
theorem dX3_mountOn_13 : decode cX3_mountOn 13 = .ok (.iload_n 3, 1) := by decide +kernel
theorem dX3_mountOn_14 : decode cX3_mountOn 14 = .ok (.if_icmp .ge 46, 3) := by decide +kernel
theorem dX3_mountOn_17 : decode cX3_mountOn 17 = .ok (.aload_n 2, 1) := by decide +kernel
theorem dX3_mountOn_18 : decode cX3_mountOn 18 = .ok (.iload 4, 2) := by decide +kernel
theorem dX3_mountOn_20 : decode cX3_mountOn 20 = .ok (.aaload, 1) := by decide +kernel
theorem dX3_mountOn_21 : decode cX3_mountOn 21 = .ok (.astore 5, 2) := by decide +kernel
theorem dX3_mountOn_23 : decode cX3_mountOn 23 = .ok (.aload 5, 2) := by decide +kernel
theorem dX3_mountOn_25 : decode cX3_mountOn 25 = .ok (.getfield 117, 3) := by decide +kernel
theorem dX3_mountOn_28 : decode cX3_mountOn 28 = .ok (.ifCond .ne 26, 3) := by decide +kernel
theorem dX3_mountOn_31 : decode cX3_mountOn 31 = .ok (.aload 5, 2) := by decide +kernel
theorem dX3_mountOn_33 : decode cX3_mountOn 33 = .ok (.aload_n 1, 1) := by decide +kernel
theorem dX3_mountOn_34 : decode cX3_mountOn 34 = .ok (.getfield 136, 3) := by decide +kernel
theorem dX3_mountOn_37 : decode cX3_mountOn 37 = .ok (.aload_n 1, 1) := by decide +kernel
theorem dX3_mountOn_38 : decode cX3_mountOn 38 = .ok (.getfield 155, 3) := by decide +kernel
theorem dX3_mountOn_41 : decode cX3_mountOn 41 = .ok (.invokevirtual 158, 3) := by decide +kernel
theorem dX3_mountOn_44 : decode cX3_mountOn 44 = .ok (.aload_n 1, 1) := by decide +kernel
theorem dX3_mountOn_45 : decode cX3_mountOn 45 = .ok (.aload 5, 2) := by decide +kernel
theorem dX3_mountOn_47 : decode cX3_mountOn 47 = .ok (.getfield 75, 3) := by decide +kernel
theorem dX3_mountOn_50 : decode cX3_mountOn 50 = .ok (.putfield 72, 3) := by decide +kernel
theorem dX3_mountOn_53 : decode cX3_mountOn 53 = .ok (.return_, 1) := by decide +kernel
theorem dX3_mountOn_54 : decode cX3_mountOn 54 = .ok (.iinc 4 1, 3) := by decide +kernel
theorem dX3_mountOn_57 : decode cX3_mountOn 57 = .ok (.goto (-46), 3) := by decide +kernel
theorem dX3_mountOn_60 : decode cX3_mountOn 60 = .ok (.return_, 1) := by decide +kernel
theorem dX3_booksAt_0 : decode cX3_booksAt 0 = .ok (.iconst 0, 1) := by decide +kernel
theorem dX3_booksAt_1 : decode cX3_booksAt 1 = .ok (.istore_n 2, 1) := by decide +kernel
theorem dX3_booksAt_2 : decode cX3_booksAt 2 = .ok (.aload_n 0, 1) := by decide +kernel
theorem dX3_booksAt_3 : decode cX3_booksAt 3 = .ok (.getfield 11, 3) := by decide +kernel
theorem dX3_booksAt_6 : decode cX3_booksAt 6 = .ok (.astore_n 3, 1) := by decide +kernel
theorem dX3_booksAt_7 : decode cX3_booksAt 7 = .ok (.aload_n 3, 1) := by decide +kernel
theorem dX3_booksAt_8 : decode cX3_booksAt 8 = .ok (.arraylength, 1) := by decide +kernel
theorem dX3_booksAt_9 : decode cX3_booksAt 9 = .ok (.istore 4, 2) := by decide +kernel
theorem dX3_booksAt_11 : decode cX3_booksAt 11 = .ok (.iconst 0, 1) := by decide +kernel
theorem dX3_booksAt_12 : decode cX3_booksAt 12 = .ok (.istore 5, 2) := by decide +kernel
theorem dX3_booksAt_14 : decode cX3_booksAt 14 = .ok (.iload 5, 2) := by decide +kernel
theorem dX3_booksAt_16 : decode cX3_booksAt 16 = .ok (.iload 4, 2) := by decide +kernel
theorem dX3_booksAt_18 : decode cX3_booksAt 18 = .ok (.if_icmp .ge 27, 3) := by decide +kernel
theorem dX3_booksAt_21 : decode cX3_booksAt 21 = .ok (.aload_n 3, 1) := by decide +kernel
theorem dX3_booksAt_22 : decode cX3_booksAt 22 = .ok (.iload 5, 2) := by decide +kernel
theorem dX3_booksAt_24 : decode cX3_booksAt 24 = .ok (.aaload, 1) := by decide +kernel
theorem dX3_booksAt_25 : decode cX3_booksAt 25 = .ok (.astore 6, 2) := by decide +kernel
theorem dX3_booksAt_27 : decode cX3_booksAt 27 = .ok (.aload 6, 2) := by decide +kernel
theorem dX3_booksAt_29 : decode cX3_booksAt 29 = .ok (.getfield 117, 3) := by decide +kernel
theorem dX3_booksAt_32 : decode cX3_booksAt 32 = .ok (.iload_n 1, 1) := by decide +kernel
theorem dX3_booksAt_33 : decode cX3_booksAt 33 = .ok (.if_icmp .ne 6, 3) := by decide +kernel
theorem dX3_booksAt_36 : decode cX3_booksAt 36 = .ok (.iinc 2 1, 3) := by decide +kernel
theorem dX3_booksAt_39 : decode cX3_booksAt 39 = .ok (.iinc 5 1, 3) := by decide +kernel
theorem dX3_booksAt_42 : decode cX3_booksAt 42 = .ok (.goto (-28), 3) := by decide +kernel
theorem dX3_booksAt_45 : decode cX3_booksAt 45 = .ok (.iload_n 2, 1) := by decide +kernel
theorem dX3_booksAt_46 : decode cX3_booksAt 46 = .ok (.ireturn, 1) := by decide +kernel
set_option maxRecDepth 20000 in
theorem ggX3_tellOfFrame_X3_bookNumbered : GoodIn wsX3_tellOfFrame wsX3_bookNumbered := goodIn_r _ [9, 10, 11, 48, 49, 50, 51, 52, 53, 54, 55, 56, 57, 58, 59] (by decide +kernel) (by decide +kernel)
set_option maxRecDepth 20000 in
theorem gX3_tellOfFrame_X3_bookNumbered : GoodIn wsX3_tellOfFrame (wsV RX3 132 RX3 yX3_bookNumbered wsX3_bookNumbered) := goodIn_app (goodIn_of _ (by decide +kernel)) ggX3_tellOfFrame_X3_bookNumbered
set_option maxRecDepth 20000 in
theorem ggX3_tellOfFrame_X3_sittersAt : GoodIn wsX3_tellOfFrame wsX3_sittersAt := goodIn_r _ [15, 16, 17, 18, 8, 19, 20, 21, 22, 48, 49, 50, 51, 52, 53, 54, 55, 56, 57, 58, 59, 60, 61, 62] (by decide +kernel) (by decide +kernel)
set_option maxRecDepth 20000 in
theorem gX3_tellOfFrame_X3_sittersAt : GoodIn wsX3_tellOfFrame (wsV RX3 162 RX3 yX3_sittersAt wsX3_sittersAt) := goodIn_app (goodIn_of _ (by decide +kernel)) ggX3_tellOfFrame_X3_sittersAt
set_option maxRecDepth 20000 in
theorem ggX3_tellOfFrame_X3_stitchesAnHour : GoodIn wsX3_tellOfFrame wsX3_stitchesAnHour := goodIn_r _ [26, 20, 21, 27, 28, 29, 30, 31, 48, 49, 50, 51, 52, 53, 54, 55, 56, 57, 58, 59, 60, 61, 62] (by decide +kernel) (by decide +kernel)
set_option maxRecDepth 20000 in
theorem gX3_tellOfFrame_X3_stitchesAnHour : GoodIn wsX3_tellOfFrame (wsV RX3 137 RX3 yX3_stitchesAnHour wsX3_stitchesAnHour) := goodIn_app (goodIn_of _ (by decide +kernel)) ggX3_tellOfFrame_X3_stitchesAnHour
set_option maxRecDepth 20000 in
theorem ggX3_tellOfFrame_X0_stitchesToSew : GoodIn wsX3_tellOfFrame wsX0_stitchesToSew := goodIn_r _ [36, 37, 38, 39, 40, 41, 35, 42, 43, 63, 64, 65, 66, 67, 68, 69, 70, 71, 72, 73, 74, 75] (by decide +kernel) (by decide +kernel)
set_option maxRecDepth 20000 in
theorem gX3_tellOfFrame_X0_stitchesToSew : GoodIn wsX3_tellOfFrame (wsV RX3 165 RX0 yX0_stitchesToSew wsX0_stitchesToSew) := goodIn_app (goodIn_of _ (by decide +kernel)) ggX3_tellOfFrame_X0_stitchesToSew
theorem dX3_tellOfFrame_0 : decode cX3_tellOfFrame 0 = .ok (.aload_n 0, 1) := by decide +kernel
theorem dX3_tellOfFrame_1 : decode cX3_tellOfFrame 1 = .ok (.aload_n 1, 1) := by decide +kernel
theorem dX3_tellOfFrame_2 : decode cX3_tellOfFrame 2 = .ok (.getfield 72, 3) := by decide +kernel
theorem dX3_tellOfFrame_5 : decode cX3_tellOfFrame 5 = .ok (.invokevirtual 132, 3) := by decide +kernel
theorem dX3_tellOfFrame_8 : decode cX3_tellOfFrame 8 = .ok (.astore_n 3, 1) := by decide +kernel
theorem dX3_tellOfFrame_9 : decode cX3_tellOfFrame 9 = .ok (.iload_n 2, 1) := by decide +kernel
theorem dX3_tellOfFrame_10 : decode cX3_tellOfFrame 10 = .ok (.tableswitch 75 0 4 #[34, 39, 44, 53, 62], 34) := by decide +kernel
theorem dX3_tellOfFrame_44 : decode cX3_tellOfFrame 44 = .ok (.aload_n 1, 1) := by decide +kernel
theorem dX3_tellOfFrame_45 : decode cX3_tellOfFrame 45 = .ok (.getfield 155, 3) := by decide +kernel
theorem dX3_tellOfFrame_48 : decode cX3_tellOfFrame 48 = .ok (.ireturn, 1) := by decide +kernel
theorem dX3_tellOfFrame_49 : decode cX3_tellOfFrame 49 = .ok (.aload_n 1, 1) := by decide +kernel
theorem dX3_tellOfFrame_50 : decode cX3_tellOfFrame 50 = .ok (.getfield 72, 3) := by decide +kernel
theorem dX3_tellOfFrame_53 : decode cX3_tellOfFrame 53 = .ok (.ireturn, 1) := by decide +kernel
theorem dX3_tellOfFrame_54 : decode cX3_tellOfFrame 54 = .ok (.aload_n 0, 1) := by decide +kernel
theorem dX3_tellOfFrame_55 : decode cX3_tellOfFrame 55 = .ok (.aload_n 1, 1) := by decide +kernel
theorem dX3_tellOfFrame_56 : decode cX3_tellOfFrame 56 = .ok (.getfield 136, 3) := by decide +kernel
theorem dX3_tellOfFrame_59 : decode cX3_tellOfFrame 59 = .ok (.invokevirtual 162, 3) := by decide +kernel
theorem dX3_tellOfFrame_62 : decode cX3_tellOfFrame 62 = .ok (.ireturn, 1) := by decide +kernel
theorem dX3_tellOfFrame_63 : decode cX3_tellOfFrame 63 = .ok (.aload_n 0, 1) := by decide +kernel
theorem dX3_tellOfFrame_64 : decode cX3_tellOfFrame 64 = .ok (.aload_n 1, 1) := by decide +kernel
theorem dX3_tellOfFrame_65 : decode cX3_tellOfFrame 65 = .ok (.getfield 136, 3) := by decide +kernel
theorem dX3_tellOfFrame_68 : decode cX3_tellOfFrame 68 = .ok (.invokevirtual 137, 3) := by decide +kernel
theorem dX3_tellOfFrame_71 : decode cX3_tellOfFrame 71 = .ok (.ireturn, 1) := by decide +kernel
theorem dX3_tellOfFrame_72 : decode cX3_tellOfFrame 72 = .ok (.aload_n 3, 1) := by decide +kernel
theorem dX3_tellOfFrame_73 : decode cX3_tellOfFrame 73 = .ok (.ifnonnull 7, 3) := by decide +kernel
theorem dX3_tellOfFrame_76 : decode cX3_tellOfFrame 76 = .ok (.iconst 0, 1) := by decide +kernel
theorem dX3_tellOfFrame_77 : decode cX3_tellOfFrame 77 = .ok (.goto 7, 3) := by decide +kernel
theorem dX3_tellOfFrame_80 : decode cX3_tellOfFrame 80 = .ok (.aload_n 3, 1) := by decide +kernel
theorem dX3_tellOfFrame_81 : decode cX3_tellOfFrame 81 = .ok (.invokevirtual 165, 3) := by decide +kernel
theorem dX3_tellOfFrame_84 : decode cX3_tellOfFrame 84 = .ok (.ireturn, 1) := by decide +kernel
theorem dX3_tellOfFrame_85 : decode cX3_tellOfFrame 85 = .ok (.aload_n 1, 1) := by decide +kernel
theorem dX3_tellOfFrame_86 : decode cX3_tellOfFrame 86 = .ok (.getfield 147, 3) := by decide +kernel
theorem dX3_tellOfFrame_89 : decode cX3_tellOfFrame 89 = .ok (.ireturn, 1) := by decide +kernel
set_option maxRecDepth 20000 in
theorem ggX3_tellOfAll_X3_booksAt : GoodIn wsX3_tellOfAll wsX3_booksAt := goodIn_r _ [13, 14, 15, 16, 17, 18, 19, 20, 21, 22, 23, 24, 25, 26, 27, 28, 29, 30, 31, 32, 33, 34, 35, 36, 37, 38, 39, 40] (by decide +kernel) (by decide +kernel)
set_option maxRecDepth 20000 in
theorem gX3_tellOfAll_X3_booksAt : GoodIn wsX3_tellOfAll (wsV RX3 98 RX3 yX3_booksAt wsX3_booksAt) := goodIn_app (goodIn_of _ (by decide +kernel)) ggX3_tellOfAll_X3_booksAt
theorem dX3_tellOfAll_0 : decode cX3_tellOfAll 0 = .ok (.iload_n 1, 1) := by decide +kernel
theorem dX3_tellOfAll_1 : decode cX3_tellOfAll 1 = .ok (.tableswitch 115 0 14 #[75, 80, 115, 115, 115, 115, 115, 115, 115, 85, 90, 95, 100, 105, 110], 75) := by decide +kernel
theorem dX3_tellOfAll_76 : decode cX3_tellOfAll 76 = .ok (.aload_n 0, 1) := by decide +kernel
theorem dX3_tellOfAll_77 : decode cX3_tellOfAll 77 = .ok (.getfield 63, 3) := by decide +kernel
theorem dX3_tellOfAll_80 : decode cX3_tellOfAll 80 = .ok (.ireturn, 1) := by decide +kernel
theorem dX3_tellOfAll_81 : decode cX3_tellOfAll 81 = .ok (.aload_n 0, 1) := by decide +kernel
theorem dX3_tellOfAll_82 : decode cX3_tellOfAll 82 = .ok (.getfield 57, 3) := by decide +kernel
theorem dX3_tellOfAll_85 : decode cX3_tellOfAll 85 = .ok (.ireturn, 1) := by decide +kernel
theorem dX3_tellOfAll_86 : decode cX3_tellOfAll 86 = .ok (.aload_n 0, 1) := by decide +kernel
theorem dX3_tellOfAll_87 : decode cX3_tellOfAll 87 = .ok (.getfield 44, 3) := by decide +kernel
theorem dX3_tellOfAll_90 : decode cX3_tellOfAll 90 = .ok (.ireturn, 1) := by decide +kernel
theorem dX3_tellOfAll_91 : decode cX3_tellOfAll 91 = .ok (.aload_n 0, 1) := by decide +kernel
theorem dX3_tellOfAll_92 : decode cX3_tellOfAll 92 = .ok (.getfield 34, 3) := by decide +kernel
theorem dX3_tellOfAll_95 : decode cX3_tellOfAll 95 = .ok (.ireturn, 1) := by decide +kernel
theorem dX3_tellOfAll_96 : decode cX3_tellOfAll 96 = .ok (.aload_n 0, 1) := by decide +kernel
theorem dX3_tellOfAll_97 : decode cX3_tellOfAll 97 = .ok (.getfield 38, 3) := by decide +kernel
theorem dX3_tellOfAll_100 : decode cX3_tellOfAll 100 = .ok (.ireturn, 1) := by decide +kernel
theorem dX3_tellOfAll_101 : decode cX3_tellOfAll 101 = .ok (.aload_n 0, 1) := by decide +kernel
theorem dX3_tellOfAll_102 : decode cX3_tellOfAll 102 = .ok (.getfield 41, 3) := by decide +kernel
theorem dX3_tellOfAll_105 : decode cX3_tellOfAll 105 = .ok (.ireturn, 1) := by decide +kernel
theorem dX3_tellOfAll_106 : decode cX3_tellOfAll 106 = .ok (.aload_n 0, 1) := by decide +kernel
theorem dX3_tellOfAll_107 : decode cX3_tellOfAll 107 = .ok (.getfield 66, 3) := by decide +kernel
theorem dX3_tellOfAll_110 : decode cX3_tellOfAll 110 = .ok (.ireturn, 1) := by decide +kernel
theorem dX3_tellOfAll_111 : decode cX3_tellOfAll 111 = .ok (.aload_n 0, 1) := by decide +kernel
theorem dX3_tellOfAll_112 : decode cX3_tellOfAll 112 = .ok (.getfield 69, 3) := by decide +kernel
theorem dX3_tellOfAll_115 : decode cX3_tellOfAll 115 = .ok (.ireturn, 1) := by decide +kernel
theorem dX3_tellOfAll_116 : decode cX3_tellOfAll 116 = .ok (.aload_n 0, 1) := by decide +kernel
theorem dX3_tellOfAll_117 : decode cX3_tellOfAll 117 = .ok (.iload_n 1, 1) := by decide +kernel
theorem dX3_tellOfAll_118 : decode cX3_tellOfAll 118 = .ok (.iconst 2, 1) := by decide +kernel
theorem dX3_tellOfAll_119 : decode cX3_tellOfAll 119 = .ok (.isub, 1) := by decide +kernel
theorem dX3_tellOfAll_120 : decode cX3_tellOfAll 120 = .ok (.invokevirtual 98, 3) := by decide +kernel
theorem dX3_tellOfAll_123 : decode cX3_tellOfAll 123 = .ok (.ireturn, 1) := by decide +kernel
end
section
set_option maxRecDepth 20000 in
theorem ggX4_init_X3_init : GoodIn wsX4_init wsX3_init := goodIn_r _ [11, 12, 2, 3, 13, 14, 15, 16, 17, 18, 19, 20, 21, 22, 23, 24, 25, 26, 27, 28, 29, 30, 31, 32, 33, 34, 35, 36, 37, 38, 39, 40, 41, 42, 43, 44, 45, 46, 47, 48, 49, 50, 51, 52, 53, 54, 55, 56, 57, 58, 59, 60, 63, 64, 65, 66, 67, 68, 69, 70, 71, 72, 73, 74, 75, 76, 77, 78, 79, 80, 81, 82] (by decide +kernel) (by decide +kernel)
set_option maxRecDepth 20000 in
theorem gX4_init_X3_init : GoodIn wsX4_init (wsX3_init) := ggX4_init_X3_init
theorem dX4_init_0 : decode cX4_init 0 = .ok (.aload_n 0, 1) := by decide +kernel
theorem dX4_init_1 : decode cX4_init 1 = .ok (.invokespecial 1, 3) := by decide +kernel
theorem dX4_init_4 : decode cX4_init 4 = .ok (.aload_n 0, 1) := by decide +kernel
theorem dX4_init_5 : decode cX4_init 5 = .ok (.new 7, 3) := by decide +kernel
theorem dX4_init_8 : decode cX4_init 8 = .ok (.dup, 1) := by decide +kernel
theorem dX4_init_9 : decode cX4_init 9 = .ok (.invokespecial 9, 3) := by decide +kernel
theorem dX4_init_12 : decode cX4_init 12 = .ok (.putfield 10, 3) := by decide +kernel
theorem dX4_init_15 : decode cX4_init 15 = .ok (.aload_n 0, 1) := by decide +kernel
theorem dX4_init_16 : decode cX4_init 16 = .ok (.new 7, 3) := by decide +kernel
theorem dX4_init_19 : decode cX4_init 19 = .ok (.dup, 1) := by decide +kernel
theorem dX4_init_20 : decode cX4_init 20 = .ok (.invokespecial 9, 3) := by decide +kernel
theorem dX4_init_23 : decode cX4_init 23 = .ok (.putfield 16, 3) := by decide +kernel
theorem dX4_init_26 : decode cX4_init 26 = .ok (.return_, 1) := by decide +kernel
set_option maxRecDepth 20000 in
theorem ggX4_order_X3_freeBook : GoodIn wsX4_order wsX3_freeBook := goodIn_r _ [12, 13, 14, 26, 27, 28, 29, 30, 31, 32, 33, 34, 35, 36, 37] (by decide +kernel) (by decide +kernel)
set_option maxRecDepth 20000 in
theorem gX4_order_X3_freeBook : GoodIn wsX4_order (wsV RX4 30 RX3 yX3_freeBook wsX3_freeBook) := goodIn_app (goodIn_of _ (by decide +kernel)) ggX4_order_X3_freeBook
set_option maxRecDepth 20000 in
theorem ggX4_order_X0_begin : GoodIn wsX4_order wsX0_begin := goodIn_r _ [19, 20, 21, 22, 23, 38, 39, 40, 41, 42, 43, 44, 45, 46, 47, 48, 49, 50] (by decide +kernel) (by decide +kernel)
set_option maxRecDepth 20000 in
theorem gX4_order_X0_begin : GoodIn wsX4_order (wsV RX4 39 RX0 yX0_begin wsX0_begin) := goodIn_app (goodIn_of _ (by decide +kernel)) ggX4_order_X0_begin
theorem dX4_order_0 : decode cX4_order 0 = .ok (.iload_n 1, 1) := by decide +kernel
theorem dX4_order_1 : decode cX4_order 1 = .ok (.iconst 1, 1) := by decide +kernel
theorem dX4_order_2 : decode cX4_order 2 = .ok (.if_icmp .lt 9, 3) := by decide +kernel
theorem dX4_order_5 : decode cX4_order 5 = .ok (.iload_n 1, 1) := by decide +kernel
theorem dX4_order_6 : decode cX4_order 6 = .ok (.bipush 24, 2) := by decide +kernel
theorem dX4_order_8 : decode cX4_order 8 = .ok (.if_icmp .le 13, 3) := by decide +kernel
theorem dX4_order_11 : decode cX4_order 11 = .ok (.new 19, 3) := by decide +kernel
theorem dX4_order_14 : decode cX4_order 14 = .ok (.dup, 1) := by decide +kernel
theorem dX4_order_15 : decode cX4_order 15 = .ok (.ldc 21, 2) := by decide +kernel
theorem dX4_order_17 : decode cX4_order 17 = .ok (.invokespecial 23, 3) := by decide +kernel
theorem dX4_order_20 : decode cX4_order 20 = .ok (.athrow, 1) := by decide +kernel
theorem dX4_order_21 : decode cX4_order 21 = .ok (.iload_n 2, 1) := by decide +kernel
theorem dX4_order_22 : decode cX4_order 22 = .ok (.iconst 1, 1) := by decide +kernel
theorem dX4_order_23 : decode cX4_order 23 = .ok (.if_icmp .lt 9, 3) := by decide +kernel
theorem dX4_order_26 : decode cX4_order 26 = .ok (.iload_n 2, 1) := by decide +kernel
theorem dX4_order_27 : decode cX4_order 27 = .ok (.bipush 8, 2) := by decide +kernel
theorem dX4_order_29 : decode cX4_order 29 = .ok (.if_icmp .le 13, 3) := by decide +kernel
theorem dX4_order_32 : decode cX4_order 32 = .ok (.new 19, 3) := by decide +kernel
theorem dX4_order_35 : decode cX4_order 35 = .ok (.dup, 1) := by decide +kernel
theorem dX4_order_36 : decode cX4_order 36 = .ok (.ldc 26, 2) := by decide +kernel
theorem dX4_order_38 : decode cX4_order 38 = .ok (.invokespecial 23, 3) := by decide +kernel
theorem dX4_order_41 : decode cX4_order 41 = .ok (.athrow, 1) := by decide +kernel
theorem dX4_order_42 : decode cX4_order 42 = .ok (.iload_n 3, 1) := by decide +kernel
theorem dX4_order_43 : decode cX4_order 43 = .ok (.ifCond .lt 8, 3) := by decide +kernel
theorem dX4_order_46 : decode cX4_order 46 = .ok (.iload_n 3, 1) := by decide +kernel
theorem dX4_order_47 : decode cX4_order 47 = .ok (.iconst 3, 1) := by decide +kernel
theorem dX4_order_48 : decode cX4_order 48 = .ok (.if_icmp .le 13, 3) := by decide +kernel
theorem dX4_order_51 : decode cX4_order 51 = .ok (.new 19, 3) := by decide +kernel
theorem dX4_order_54 : decode cX4_order 54 = .ok (.dup, 1) := by decide +kernel
theorem dX4_order_55 : decode cX4_order 55 = .ok (.ldc 28, 2) := by decide +kernel
theorem dX4_order_57 : decode cX4_order 57 = .ok (.invokespecial 23, 3) := by decide +kernel
theorem dX4_order_60 : decode cX4_order 60 = .ok (.athrow, 1) := by decide +kernel
theorem dX4_order_61 : decode cX4_order 61 = .ok (.aload_n 0, 1) := by decide +kernel
theorem dX4_order_62 : decode cX4_order 62 = .ok (.getfield 10, 3) := by decide +kernel
theorem dX4_order_65 : decode cX4_order 65 = .ok (.invokevirtual 30, 3) := by decide +kernel
theorem dX4_order_68 : decode cX4_order 68 = .ok (.astore 4, 2) := by decide +kernel
theorem dX4_order_70 : decode cX4_order 70 = .ok (.aload 4, 2) := by decide +kernel
theorem dX4_order_72 : decode cX4_order 72 = .ok (.ifnonnull 13, 3) := by decide +kernel
theorem dX4_order_75 : decode cX4_order 75 = .ok (.new 34, 3) := by decide +kernel
theorem dX4_order_78 : decode cX4_order 78 = .ok (.dup, 1) := by decide +kernel
theorem dX4_order_79 : decode cX4_order 79 = .ok (.ldc 36, 2) := by decide +kernel
theorem dX4_order_81 : decode cX4_order 81 = .ok (.invokespecial 38, 3) := by decide +kernel
theorem dX4_order_84 : decode cX4_order 84 = .ok (.athrow, 1) := by decide +kernel
theorem dX4_order_85 : decode cX4_order 85 = .ok (.aload 4, 2) := by decide +kernel
theorem dX4_order_87 : decode cX4_order 87 = .ok (.iload_n 1, 1) := by decide +kernel
theorem dX4_order_88 : decode cX4_order 88 = .ok (.iload_n 2, 1) := by decide +kernel
theorem dX4_order_89 : decode cX4_order 89 = .ok (.iload_n 3, 1) := by decide +kernel
theorem dX4_order_90 : decode cX4_order 90 = .ok (.invokevirtual 39, 3) := by decide +kernel
theorem dX4_order_93 : decode cX4_order 93 = .ok (.aload_n 0, 1) := by decide +kernel
theorem dX4_order_94 : decode cX4_order 94 = .ok (.getfield 10, 3) := by decide +kernel
theorem dX4_order_97 : decode cX4_order 97 = .ok (.dup, 1) := by decide +kernel
theorem dX4_order_98 : decode cX4_order 98 = .ok (.getfield 45, 3) := by decide +kernel
theorem dX4_order_101 : decode cX4_order 101 = .ok (.iconst 1, 1) := by decide +kernel
theorem dX4_order_102 : decode cX4_order 102 = .ok (.iadd, 1) := by decide +kernel
theorem dX4_order_103 : decode cX4_order 103 = .ok (.putfield 45, 3) := by decide +kernel
theorem dX4_order_106 : decode cX4_order 106 = .ok (.aload 4, 2) := by decide +kernel
theorem dX4_order_108 : decode cX4_order 108 = .ok (.getfield 49, 3) := by decide +kernel
theorem dX4_order_111 : decode cX4_order 111 = .ok (.ireturn, 1) := by decide +kernel
set_option maxRecDepth 20000 in
theorem ggX4_unpick_X4_knownBook : GoodIn wsX4_unpick wsX4_knownBook := goodIn_ca (goodIn_r _ [10, 11, 12, 5, 13, 14, 15, 16, 17, 18, 19, 52, 53, 54, 55, 56, 57, 58, 59, 60, 61, 62, 63, 64, 65] (by decide +kernel) (by decide +kernel)) (goodIn_sub (fun _ h => List.mem_cons_of_mem _ (List.mem_append_right _ h)) (by decide +kernel))
set_option maxRecDepth 20000 in
theorem gX4_unpick_X4_knownBook : GoodIn wsX4_unpick (wsV RX4 52 RX4 yX4_knownBook wsX4_knownBook) := goodIn_app (goodIn_of _ (by decide +kernel)) ggX4_unpick_X4_knownBook
set_option maxRecDepth 20000 in
theorem ggX4_unpick_X3_clearFrameOf : GoodIn wsX4_unpick wsX3_clearFrameOf := goodIn_r _ [23, 24, 25, 26, 54, 55, 56, 57, 58, 59, 60, 61, 62, 63, 64, 65, 66, 67, 68, 69, 39, 40, 41, 42, 43, 44, 45, 46, 47, 48, 49, 50, 51] (by decide +kernel) (by decide +kernel)
set_option maxRecDepth 20000 in
theorem gX4_unpick_X3_clearFrameOf : GoodIn wsX4_unpick (wsV RX4 64 RX3 yX3_clearFrameOf wsX3_clearFrameOf) := goodIn_app (goodIn_of _ (by decide +kernel)) ggX4_unpick_X3_clearFrameOf
set_option maxRecDepth 20000 in
theorem ggX4_unpick_X0_undo : GoodIn wsX4_unpick wsX0_undo := goodIn_r _ [31, 32, 33, 34, 35, 36, 37, 38, 39, 40, 41, 42, 43, 44, 45, 46, 47, 48, 49, 50, 51] (by decide +kernel) (by decide +kernel)
set_option maxRecDepth 20000 in
theorem gX4_unpick_X0_undo : GoodIn wsX4_unpick (wsV RX4 68 RX0 yX0_undo wsX0_undo) := goodIn_app (goodIn_of _ (by decide +kernel)) ggX4_unpick_X0_undo
theorem dX4_unpick_0 : decode cX4_unpick 0 = .ok (.aload_n 0, 1) := by decide +kernel
theorem dX4_unpick_1 : decode cX4_unpick 1 = .ok (.iload_n 1, 1) := by decide +kernel
theorem dX4_unpick_2 : decode cX4_unpick 2 = .ok (.invokevirtual 52, 3) := by decide +kernel
theorem dX4_unpick_5 : decode cX4_unpick 5 = .ok (.astore_n 2, 1) := by decide +kernel
theorem dX4_unpick_6 : decode cX4_unpick 6 = .ok (.aload_n 2, 1) := by decide +kernel
theorem dX4_unpick_7 : decode cX4_unpick 7 = .ok (.getfield 56, 3) := by decide +kernel
theorem dX4_unpick_10 : decode cX4_unpick 10 = .ok (.iconst 1, 1) := by decide +kernel
theorem dX4_unpick_11 : decode cX4_unpick 11 = .ok (.if_icmp .eq 13, 3) := by decide +kernel
theorem dX4_unpick_14 : decode cX4_unpick 14 = .ok (.new 34, 3) := by decide +kernel
theorem dX4_unpick_17 : decode cX4_unpick 17 = .ok (.dup, 1) := by decide +kernel
theorem dX4_unpick_18 : decode cX4_unpick 18 = .ok (.ldc 59, 2) := by decide +kernel
theorem dX4_unpick_20 : decode cX4_unpick 20 = .ok (.invokespecial 38, 3) := by decide +kernel
theorem dX4_unpick_23 : decode cX4_unpick 23 = .ok (.athrow, 1) := by decide +kernel
theorem dX4_unpick_24 : decode cX4_unpick 24 = .ok (.aload_n 2, 1) := by decide +kernel
theorem dX4_unpick_25 : decode cX4_unpick 25 = .ok (.getfield 61, 3) := by decide +kernel
theorem dX4_unpick_28 : decode cX4_unpick 28 = .ok (.istore_n 3, 1) := by decide +kernel
theorem dX4_unpick_29 : decode cX4_unpick 29 = .ok (.aload_n 0, 1) := by decide +kernel
theorem dX4_unpick_30 : decode cX4_unpick 30 = .ok (.getfield 10, 3) := by decide +kernel
theorem dX4_unpick_33 : decode cX4_unpick 33 = .ok (.aload_n 2, 1) := by decide +kernel
theorem dX4_unpick_34 : decode cX4_unpick 34 = .ok (.invokevirtual 64, 3) := by decide +kernel
theorem dX4_unpick_37 : decode cX4_unpick 37 = .ok (.aload_n 2, 1) := by decide +kernel
theorem dX4_unpick_38 : decode cX4_unpick 38 = .ok (.invokevirtual 68, 3) := by decide +kernel
theorem dX4_unpick_41 : decode cX4_unpick 41 = .ok (.iload_n 3, 1) := by decide +kernel
theorem dX4_unpick_42 : decode cX4_unpick 42 = .ok (.ireturn, 1) := by decide +kernel
set_option maxRecDepth 20000 in
theorem ggX4_sell_X4_knownBook : GoodIn wsX4_sell wsX4_knownBook := goodIn_ca (goodIn_r _ [10, 11, 12, 4, 13, 14, 15, 16, 17, 18, 19, 46, 47, 48, 49, 50, 51, 52, 53, 54, 55, 56, 57, 58, 59] (by decide +kernel) (by decide +kernel)) (goodIn_sub (fun _ h => List.mem_cons_of_mem _ (List.mem_append_right _ h)) (by decide +kernel))
set_option maxRecDepth 20000 in
theorem gX4_sell_X4_knownBook : GoodIn wsX4_sell (wsV RX4 52 RX4 yX4_knownBook wsX4_knownBook) := goodIn_app (goodIn_of _ (by decide +kernel)) ggX4_sell_X4_knownBook
set_option maxRecDepth 20000 in
theorem ggX4_sell_X0_value : GoodIn wsX4_sell wsX0_value := goodIn_r _ [24, 25, 26, 27, 28, 29, 30, 31, 32, 33, 34, 35, 36, 37, 38, 39, 40, 41, 42, 43, 44, 45] (by decide +kernel) (by decide +kernel)
set_option maxRecDepth 20000 in
theorem gX4_sell_X0_value : GoodIn wsX4_sell (wsV RX4 76 RX0 yX0_value wsX0_value) := goodIn_app (goodIn_of _ (by decide +kernel)) ggX4_sell_X0_value
theorem dX4_sell_0 : decode cX4_sell 0 = .ok (.aload_n 0, 1) := by decide +kernel
theorem dX4_sell_1 : decode cX4_sell 1 = .ok (.iload_n 1, 1) := by decide +kernel
theorem dX4_sell_2 : decode cX4_sell 2 = .ok (.invokevirtual 52, 3) := by decide +kernel
theorem dX4_sell_5 : decode cX4_sell 5 = .ok (.astore_n 2, 1) := by decide +kernel
theorem dX4_sell_6 : decode cX4_sell 6 = .ok (.aload_n 2, 1) := by decide +kernel
theorem dX4_sell_7 : decode cX4_sell 7 = .ok (.getfield 56, 3) := by decide +kernel
theorem dX4_sell_10 : decode cX4_sell 10 = .ok (.iconst 5, 1) := by decide +kernel
theorem dX4_sell_11 : decode cX4_sell 11 = .ok (.if_icmp .eq 13, 3) := by decide +kernel
theorem dX4_sell_14 : decode cX4_sell 14 = .ok (.new 34, 3) := by decide +kernel
theorem dX4_sell_17 : decode cX4_sell 17 = .ok (.dup, 1) := by decide +kernel
theorem dX4_sell_18 : decode cX4_sell 18 = .ok (.ldc 71, 2) := by decide +kernel
theorem dX4_sell_20 : decode cX4_sell 20 = .ok (.invokespecial 38, 3) := by decide +kernel
theorem dX4_sell_23 : decode cX4_sell 23 = .ok (.athrow, 1) := by decide +kernel
theorem dX4_sell_24 : decode cX4_sell 24 = .ok (.aload_n 2, 1) := by decide +kernel
theorem dX4_sell_25 : decode cX4_sell 25 = .ok (.bipush 6, 2) := by decide +kernel
theorem dX4_sell_27 : decode cX4_sell 27 = .ok (.putfield 56, 3) := by decide +kernel
theorem dX4_sell_30 : decode cX4_sell 30 = .ok (.aload_n 0, 1) := by decide +kernel
theorem dX4_sell_31 : decode cX4_sell 31 = .ok (.getfield 10, 3) := by decide +kernel
theorem dX4_sell_34 : decode cX4_sell 34 = .ok (.dup, 1) := by decide +kernel
theorem dX4_sell_35 : decode cX4_sell 35 = .ok (.getfield 73, 3) := by decide +kernel
theorem dX4_sell_38 : decode cX4_sell 38 = .ok (.aload_n 2, 1) := by decide +kernel
theorem dX4_sell_39 : decode cX4_sell 39 = .ok (.invokevirtual 76, 3) := by decide +kernel
theorem dX4_sell_42 : decode cX4_sell 42 = .ok (.iadd, 1) := by decide +kernel
theorem dX4_sell_43 : decode cX4_sell 43 = .ok (.putfield 73, 3) := by decide +kernel
theorem dX4_sell_46 : decode cX4_sell 46 = .ok (.aload_n 0, 1) := by decide +kernel
theorem dX4_sell_47 : decode cX4_sell 47 = .ok (.getfield 10, 3) := by decide +kernel
theorem dX4_sell_50 : decode cX4_sell 50 = .ok (.getfield 73, 3) := by decide +kernel
theorem dX4_sell_53 : decode cX4_sell 53 = .ok (.ireturn, 1) := by decide +kernel
set_option maxRecDepth 20000 in
theorem ggX4_told_X4_knownBook : GoodIn wsX4_told wsX4_knownBook := goodIn_ca (goodIn_r _ [5, 6, 7, 8, 9, 10, 11, 12, 13, 14, 15, 43, 44, 45, 46, 47, 48, 49, 50, 51, 52, 53, 54, 55, 56] (by decide +kernel) (by decide +kernel)) (goodIn_sub (fun _ h => List.mem_cons_of_mem _ (List.mem_append_right _ h)) (by decide +kernel))
set_option maxRecDepth 20000 in
theorem gX4_told_X4_knownBook : GoodIn wsX4_told (wsV RX4 52 RX4 yX4_knownBook wsX4_knownBook) := goodIn_app (goodIn_of _ (by decide +kernel)) ggX4_told_X4_knownBook
set_option maxRecDepth 20000 in
theorem ggX4_told_X4_checkKind : GoodIn wsX4_told wsX4_checkKind := goodIn_ca (goodIn_r _ [18, 6, 7] (by decide +kernel) (by decide +kernel)) (goodIn_sub (fun _ h => List.mem_cons_of_mem _ (List.mem_append_right _ h)) (by decide +kernel))
set_option maxRecDepth 20000 in
theorem gX4_told_X4_checkKind : GoodIn wsX4_told (va_wsS RX4 80 yX4_checkKind wsX4_checkKind) := goodIn_app (goodIn_of _ (by decide +kernel)) ggX4_told_X4_checkKind
set_option maxRecDepth 20000 in
theorem ggX4_told_X0_tell : GoodIn wsX4_told wsX0_tell := goodIn_r _ [23, 24, 25, 26, 27, 28, 29, 30, 31, 32, 33, 34, 35, 36, 22, 37, 38, 39, 40, 41, 42, 57, 58, 59, 60, 61, 62, 63, 64, 65, 66, 67, 68, 69] (by decide +kernel) (by decide +kernel)
set_option maxRecDepth 20000 in
theorem gX4_told_X0_tell : GoodIn wsX4_told (wsV RX4 84 RX0 yX0_tell wsX0_tell) := goodIn_app (goodIn_of _ (by decide +kernel)) ggX4_told_X0_tell
theorem dX4_told_0 : decode cX4_told 0 = .ok (.aload_n 0, 1) := by decide +kernel
theorem dX4_told_1 : decode cX4_told 1 = .ok (.iload_n 1, 1) := by decide +kernel
theorem dX4_told_2 : decode cX4_told 2 = .ok (.invokevirtual 52, 3) := by decide +kernel
theorem dX4_told_5 : decode cX4_told 5 = .ok (.astore_n 3, 1) := by decide +kernel
theorem dX4_told_6 : decode cX4_told 6 = .ok (.iload_n 2, 1) := by decide +kernel
theorem dX4_told_7 : decode cX4_told 7 = .ok (.bipush 11, 2) := by decide +kernel
theorem dX4_told_9 : decode cX4_told 9 = .ok (.invokestatic 80, 3) := by decide +kernel
theorem dX4_told_12 : decode cX4_told 12 = .ok (.aload_n 3, 1) := by decide +kernel
theorem dX4_told_13 : decode cX4_told 13 = .ok (.iload_n 2, 1) := by decide +kernel
theorem dX4_told_14 : decode cX4_told 14 = .ok (.invokevirtual 84, 3) := by decide +kernel
theorem dX4_told_17 : decode cX4_told 17 = .ok (.ireturn, 1) := by decide +kernel
set_option maxRecDepth 20000 in
theorem ggX4_hire_X3_freeSewer : GoodIn wsX4_hire wsX3_freeSewer := goodIn_r _ [13, 14, 15, 21, 22, 23, 24, 25, 26, 27, 28, 29, 30, 31, 32] (by decide +kernel) (by decide +kernel)
set_option maxRecDepth 20000 in
theorem gX4_hire_X3_freeSewer : GoodIn wsX4_hire (wsV RX4 90 RX3 yX3_freeSewer wsX3_freeSewer) := goodIn_app (goodIn_of _ (by decide +kernel)) ggX4_hire_X3_freeSewer
theorem dX4_hire_0 : decode cX4_hire 0 = .ok (.iload_n 1, 1) := by decide +kernel
theorem dX4_hire_1 : decode cX4_hire 1 = .ok (.iconst 1, 1) := by decide +kernel
theorem dX4_hire_2 : decode cX4_hire 2 = .ok (.if_icmp .lt 9, 3) := by decide +kernel
theorem dX4_hire_5 : decode cX4_hire 5 = .ok (.iload_n 1, 1) := by decide +kernel
theorem dX4_hire_6 : decode cX4_hire 6 = .ok (.bipush 9, 2) := by decide +kernel
theorem dX4_hire_8 : decode cX4_hire 8 = .ok (.if_icmp .le 13, 3) := by decide +kernel
theorem dX4_hire_11 : decode cX4_hire 11 = .ok (.new 19, 3) := by decide +kernel
theorem dX4_hire_14 : decode cX4_hire 14 = .ok (.dup, 1) := by decide +kernel
theorem dX4_hire_15 : decode cX4_hire 15 = .ok (.ldc 88, 2) := by decide +kernel
theorem dX4_hire_17 : decode cX4_hire 17 = .ok (.invokespecial 23, 3) := by decide +kernel
theorem dX4_hire_20 : decode cX4_hire 20 = .ok (.athrow, 1) := by decide +kernel
theorem dX4_hire_21 : decode cX4_hire 21 = .ok (.aload_n 0, 1) := by decide +kernel
theorem dX4_hire_22 : decode cX4_hire 22 = .ok (.getfield 10, 3) := by decide +kernel
theorem dX4_hire_25 : decode cX4_hire 25 = .ok (.invokevirtual 90, 3) := by decide +kernel
theorem dX4_hire_28 : decode cX4_hire 28 = .ok (.astore_n 2, 1) := by decide +kernel
theorem dX4_hire_29 : decode cX4_hire 29 = .ok (.aload_n 2, 1) := by decide +kernel
theorem dX4_hire_30 : decode cX4_hire 30 = .ok (.ifnonnull 13, 3) := by decide +kernel
theorem dX4_hire_33 : decode cX4_hire 33 = .ok (.new 34, 3) := by decide +kernel
theorem dX4_hire_36 : decode cX4_hire 36 = .ok (.dup, 1) := by decide +kernel
theorem dX4_hire_37 : decode cX4_hire 37 = .ok (.ldc 94, 2) := by decide +kernel
theorem dX4_hire_39 : decode cX4_hire 39 = .ok (.invokespecial 38, 3) := by decide +kernel
theorem dX4_hire_42 : decode cX4_hire 42 = .ok (.athrow, 1) := by decide +kernel
theorem dX4_hire_43 : decode cX4_hire 43 = .ok (.aload_n 2, 1) := by decide +kernel
theorem dX4_hire_44 : decode cX4_hire 44 = .ok (.iload_n 1, 1) := by decide +kernel
theorem dX4_hire_45 : decode cX4_hire 45 = .ok (.putfield 96, 3) := by decide +kernel
theorem dX4_hire_48 : decode cX4_hire 48 = .ok (.aload_n 0, 1) := by decide +kernel
theorem dX4_hire_49 : decode cX4_hire 49 = .ok (.getfield 10, 3) := by decide +kernel
theorem dX4_hire_52 : decode cX4_hire 52 = .ok (.dup, 1) := by decide +kernel
theorem dX4_hire_53 : decode cX4_hire 53 = .ok (.getfield 101, 3) := by decide +kernel
theorem dX4_hire_56 : decode cX4_hire 56 = .ok (.iconst 1, 1) := by decide +kernel
theorem dX4_hire_57 : decode cX4_hire 57 = .ok (.iadd, 1) := by decide +kernel
theorem dX4_hire_58 : decode cX4_hire 58 = .ok (.putfield 101, 3) := by decide +kernel
theorem dX4_hire_61 : decode cX4_hire 61 = .ok (.aload_n 2, 1) := by decide +kernel
theorem dX4_hire_62 : decode cX4_hire 62 = .ok (.getfield 104, 3) := by decide +kernel
theorem dX4_hire_65 : decode cX4_hire 65 = .ok (.ireturn, 1) := by decide +kernel
set_option maxRecDepth 20000 in
theorem ggX4_seat_X4_knownSewer : GoodIn wsX4_seat wsX4_knownSewer := goodIn_ca (goodIn_r _ [11, 1, 2, 5, 12, 13, 14, 15, 16, 17, 18, 25, 26, 30, 31, 32, 33, 34, 35, 36, 37, 38, 39, 40, 41] (by decide +kernel) (by decide +kernel)) (goodIn_sub (fun _ h => List.mem_cons_of_mem _ (List.mem_append_left _ (List.mem_append_right _ h))) (by decide +kernel))
set_option maxRecDepth 20000 in
theorem gX4_seat_X4_knownSewer : GoodIn wsX4_seat (wsV RX4 105 RX4 yX4_knownSewer wsX4_knownSewer) := goodIn_app (goodIn_of _ (by decide +kernel)) ggX4_seat_X4_knownSewer
set_option maxRecDepth 20000 in
theorem ggX4_seat_X3_othersAt : GoodIn wsX4_seat wsX3_othersAt := goodIn_r _ [22, 18, 23, 24, 30, 31, 32, 33, 34, 35, 36, 37, 38, 39, 40, 41, 27, 28, 29] (by decide +kernel) (by decide +kernel)
set_option maxRecDepth 20000 in
theorem gX4_seat_X3_othersAt : GoodIn wsX4_seat (wsV RX4 114 RX3 yX3_othersAt wsX3_othersAt) := goodIn_app (goodIn_of _ (by decide +kernel)) ggX4_seat_X3_othersAt
theorem dX4_seat_0 : decode cX4_seat 0 = .ok (.aload_n 0, 1) := by decide +kernel
theorem dX4_seat_1 : decode cX4_seat 1 = .ok (.iload_n 1, 1) := by decide +kernel
theorem dX4_seat_2 : decode cX4_seat 2 = .ok (.invokevirtual 105, 3) := by decide +kernel
theorem dX4_seat_5 : decode cX4_seat 5 = .ok (.astore_n 3, 1) := by decide +kernel
theorem dX4_seat_6 : decode cX4_seat 6 = .ok (.iload_n 2, 1) := by decide +kernel
theorem dX4_seat_7 : decode cX4_seat 7 = .ok (.iconst (-1), 1) := by decide +kernel
theorem dX4_seat_8 : decode cX4_seat 8 = .ok (.if_icmp .eq 22, 3) := by decide +kernel
theorem dX4_seat_11 : decode cX4_seat 11 = .ok (.iload_n 2, 1) := by decide +kernel
theorem dX4_seat_12 : decode cX4_seat 12 = .ok (.ifCond .lt 8, 3) := by decide +kernel
theorem dX4_seat_15 : decode cX4_seat 15 = .ok (.iload_n 2, 1) := by decide +kernel
theorem dX4_seat_16 : decode cX4_seat 16 = .ok (.iconst 3, 1) := by decide +kernel
theorem dX4_seat_17 : decode cX4_seat 17 = .ok (.if_icmp .lt 13, 3) := by decide +kernel
theorem dX4_seat_20 : decode cX4_seat 20 = .ok (.new 109, 3) := by decide +kernel
theorem dX4_seat_23 : decode cX4_seat 23 = .ok (.dup, 1) := by decide +kernel
theorem dX4_seat_24 : decode cX4_seat 24 = .ok (.ldc 111, 2) := by decide +kernel
theorem dX4_seat_26 : decode cX4_seat 26 = .ok (.invokespecial 113, 3) := by decide +kernel
theorem dX4_seat_29 : decode cX4_seat 29 = .ok (.athrow, 1) := by decide +kernel
theorem dX4_seat_30 : decode cX4_seat 30 = .ok (.iload_n 2, 1) := by decide +kernel
theorem dX4_seat_31 : decode cX4_seat 31 = .ok (.iconst (-1), 1) := by decide +kernel
theorem dX4_seat_32 : decode cX4_seat 32 = .ok (.if_icmp .eq 26, 3) := by decide +kernel
theorem dX4_seat_35 : decode cX4_seat 35 = .ok (.aload_n 0, 1) := by decide +kernel
theorem dX4_seat_36 : decode cX4_seat 36 = .ok (.getfield 10, 3) := by decide +kernel
theorem dX4_seat_39 : decode cX4_seat 39 = .ok (.iload_n 2, 1) := by decide +kernel
theorem dX4_seat_40 : decode cX4_seat 40 = .ok (.iload_n 1, 1) := by decide +kernel
theorem dX4_seat_41 : decode cX4_seat 41 = .ok (.invokevirtual 114, 3) := by decide +kernel
theorem dX4_seat_44 : decode cX4_seat 44 = .ok (.iconst 2, 1) := by decide +kernel
theorem dX4_seat_45 : decode cX4_seat 45 = .ok (.if_icmp .lt 13, 3) := by decide +kernel
theorem dX4_seat_48 : decode cX4_seat 48 = .ok (.new 34, 3) := by decide +kernel
theorem dX4_seat_51 : decode cX4_seat 51 = .ok (.dup, 1) := by decide +kernel
theorem dX4_seat_52 : decode cX4_seat 52 = .ok (.ldc 118, 2) := by decide +kernel
theorem dX4_seat_54 : decode cX4_seat 54 = .ok (.invokespecial 38, 3) := by decide +kernel
theorem dX4_seat_57 : decode cX4_seat 57 = .ok (.athrow, 1) := by decide +kernel
theorem dX4_seat_58 : decode cX4_seat 58 = .ok (.aload_n 3, 1) := by decide +kernel
theorem dX4_seat_59 : decode cX4_seat 59 = .ok (.getfield 120, 3) := by decide +kernel
theorem dX4_seat_62 : decode cX4_seat 62 = .ok (.istore 4, 2) := by decide +kernel
theorem dX4_seat_64 : decode cX4_seat 64 = .ok (.aload_n 3, 1) := by decide +kernel
theorem dX4_seat_65 : decode cX4_seat 65 = .ok (.iload_n 2, 1) := by decide +kernel
theorem dX4_seat_66 : decode cX4_seat 66 = .ok (.putfield 120, 3) := by decide +kernel
theorem dX4_seat_69 : decode cX4_seat 69 = .ok (.iload 4, 2) := by decide +kernel
theorem dX4_seat_71 : decode cX4_seat 71 = .ok (.ireturn, 1) := by decide +kernel
set_option maxRecDepth 20000 in
theorem ggX4_string_X4_knownFrame : GoodIn wsX4_string wsX4_knownFrame := goodIn_ca (goodIn_r _ [11, 12, 13, 14, 15, 20, 21, 22, 23, 24, 25, 26, 27, 28, 29, 30, 31, 32, 33] (by decide +kernel) (by decide +kernel)) (goodIn_sub (fun _ h => List.mem_cons_of_mem _ (List.mem_append_right _ h)) (by decide +kernel))
set_option maxRecDepth 20000 in
theorem gX4_string_X4_knownFrame : GoodIn wsX4_string (wsV RX4 124 RX4 yX4_knownFrame wsX4_knownFrame) := goodIn_app (goodIn_of _ (by decide +kernel)) ggX4_string_X4_knownFrame
theorem dX4_string_0 : decode cX4_string 0 = .ok (.aload_n 0, 1) := by decide +kernel
theorem dX4_string_1 : decode cX4_string 1 = .ok (.iload_n 1, 1) := by decide +kernel
theorem dX4_string_2 : decode cX4_string 2 = .ok (.invokevirtual 124, 3) := by decide +kernel
theorem dX4_string_5 : decode cX4_string 5 = .ok (.astore_n 3, 1) := by decide +kernel
theorem dX4_string_6 : decode cX4_string 6 = .ok (.iload_n 2, 1) := by decide +kernel
theorem dX4_string_7 : decode cX4_string 7 = .ok (.iconst 2, 1) := by decide +kernel
theorem dX4_string_8 : decode cX4_string 8 = .ok (.if_icmp .lt 9, 3) := by decide +kernel
theorem dX4_string_11 : decode cX4_string 11 = .ok (.iload_n 2, 1) := by decide +kernel
theorem dX4_string_12 : decode cX4_string 12 = .ok (.bipush 6, 2) := by decide +kernel
theorem dX4_string_14 : decode cX4_string 14 = .ok (.if_icmp .le 13, 3) := by decide +kernel
theorem dX4_string_17 : decode cX4_string 17 = .ok (.new 19, 3) := by decide +kernel
theorem dX4_string_20 : decode cX4_string 20 = .ok (.dup, 1) := by decide +kernel
theorem dX4_string_21 : decode cX4_string 21 = .ok (.ldc 128, 2) := by decide +kernel
theorem dX4_string_23 : decode cX4_string 23 = .ok (.invokespecial 23, 3) := by decide +kernel
theorem dX4_string_26 : decode cX4_string 26 = .ok (.athrow, 1) := by decide +kernel
theorem dX4_string_27 : decode cX4_string 27 = .ok (.aload_n 3, 1) := by decide +kernel
theorem dX4_string_28 : decode cX4_string 28 = .ok (.getfield 130, 3) := by decide +kernel
theorem dX4_string_31 : decode cX4_string 31 = .ok (.iconst (-1), 1) := by decide +kernel
theorem dX4_string_32 : decode cX4_string 32 = .ok (.if_icmp .eq 13, 3) := by decide +kernel
theorem dX4_string_35 : decode cX4_string 35 = .ok (.new 34, 3) := by decide +kernel
theorem dX4_string_38 : decode cX4_string 38 = .ok (.dup, 1) := by decide +kernel
theorem dX4_string_39 : decode cX4_string 39 = .ok (.ldc 135, 2) := by decide +kernel
theorem dX4_string_41 : decode cX4_string 41 = .ok (.invokespecial 38, 3) := by decide +kernel
theorem dX4_string_44 : decode cX4_string 44 = .ok (.athrow, 1) := by decide +kernel
theorem dX4_string_45 : decode cX4_string 45 = .ok (.aload_n 3, 1) := by decide +kernel
theorem dX4_string_46 : decode cX4_string 46 = .ok (.getfield 137, 3) := by decide +kernel
theorem dX4_string_49 : decode cX4_string 49 = .ok (.istore 4, 2) := by decide +kernel
theorem dX4_string_51 : decode cX4_string 51 = .ok (.aload_n 3, 1) := by decide +kernel
theorem dX4_string_52 : decode cX4_string 52 = .ok (.iload_n 2, 1) := by decide +kernel
theorem dX4_string_53 : decode cX4_string 53 = .ok (.putfield 137, 3) := by decide +kernel
theorem dX4_string_56 : decode cX4_string 56 = .ok (.iload 4, 2) := by decide +kernel
theorem dX4_string_58 : decode cX4_string 58 = .ok (.ireturn, 1) := by decide +kernel
set_option maxRecDepth 20000 in
theorem ggX4_frame_X4_knownFrame : GoodIn wsX4_frame wsX4_knownFrame := goodIn_ca (goodIn_r _ [6, 7, 8, 1, 9, 60, 61, 62, 63, 64, 65, 66, 67, 68, 69, 70, 71, 72, 73] (by decide +kernel) (by decide +kernel)) (goodIn_sub (fun _ h => List.mem_cons_of_mem _ (List.mem_append_right _ h)) (by decide +kernel))
set_option maxRecDepth 20000 in
theorem gX4_frame_X4_knownFrame : GoodIn wsX4_frame (wsV RX4 124 RX4 yX4_knownFrame wsX4_knownFrame) := goodIn_app (goodIn_of _ (by decide +kernel)) ggX4_frame_X4_knownFrame
set_option maxRecDepth 20000 in
theorem ggX4_frame_X4_checkKind : GoodIn wsX4_frame wsX4_checkKind := goodIn_ca (goodIn_r _ [12, 7, 8] (by decide +kernel) (by decide +kernel)) (goodIn_sub (fun _ h => List.mem_cons_of_mem _ (List.mem_append_right _ h)) (by decide +kernel))
set_option maxRecDepth 20000 in
theorem gX4_frame_X4_checkKind : GoodIn wsX4_frame (va_wsS RX4 80 yX4_checkKind wsX4_checkKind) := goodIn_app (goodIn_of _ (by decide +kernel)) ggX4_frame_X4_checkKind
set_option maxRecDepth 20000 in
theorem ggX4_frame_X3_tellOfFrame : GoodIn wsX4_frame wsX3_tellOfFrame := goodIn_r _ [17, 18, 19, 20, 21, 22, 23, 24, 16, 25, 26, 27, 28, 29, 30, 31, 32, 33, 34, 35, 36, 37, 38, 39, 40, 41, 42, 43, 44, 45, 46, 47, 48, 49, 50, 51, 52, 53, 54, 55, 56, 57, 58, 59, 74, 75, 76, 77, 62, 63, 64, 65, 66, 67, 68, 69, 70, 71, 72, 73, 78, 79, 80, 81, 82, 83, 84, 85, 86, 87, 88, 89, 90, 91, 92, 93] (by decide +kernel) (by decide +kernel)
set_option maxRecDepth 20000 in
theorem gX4_frame_X3_tellOfFrame : GoodIn wsX4_frame (wsV RX4 140 RX3 yX3_tellOfFrame wsX3_tellOfFrame) := goodIn_app (goodIn_of _ (by decide +kernel)) ggX4_frame_X3_tellOfFrame
theorem dX4_frame_0 : decode cX4_frame 0 = .ok (.aload_n 0, 1) := by decide +kernel
theorem dX4_frame_1 : decode cX4_frame 1 = .ok (.iload_n 1, 1) := by decide +kernel
theorem dX4_frame_2 : decode cX4_frame 2 = .ok (.invokevirtual 124, 3) := by decide +kernel
theorem dX4_frame_5 : decode cX4_frame 5 = .ok (.astore_n 3, 1) := by decide +kernel
theorem dX4_frame_6 : decode cX4_frame 6 = .ok (.iload_n 2, 1) := by decide +kernel
theorem dX4_frame_7 : decode cX4_frame 7 = .ok (.bipush 6, 2) := by decide +kernel
theorem dX4_frame_9 : decode cX4_frame 9 = .ok (.invokestatic 80, 3) := by decide +kernel
theorem dX4_frame_12 : decode cX4_frame 12 = .ok (.aload_n 0, 1) := by decide +kernel
theorem dX4_frame_13 : decode cX4_frame 13 = .ok (.getfield 10, 3) := by decide +kernel
theorem dX4_frame_16 : decode cX4_frame 16 = .ok (.aload_n 3, 1) := by decide +kernel
theorem dX4_frame_17 : decode cX4_frame 17 = .ok (.iload_n 2, 1) := by decide +kernel
theorem dX4_frame_18 : decode cX4_frame 18 = .ok (.invokevirtual 140, 3) := by decide +kernel
theorem dX4_frame_21 : decode cX4_frame 21 = .ok (.ireturn, 1) := by decide +kernel
set_option maxRecDepth 20000 in
theorem ggX4_buy_X4_priceOf : GoodIn wsX4_buy wsX4_priceOf := goodIn_r _ [12] (by decide +kernel) (by decide +kernel)
set_option maxRecDepth 20000 in
theorem gX4_buy_X4_priceOf : GoodIn wsX4_buy (va_wsS RX4 148 yX4_priceOf wsX4_priceOf) := goodIn_app (goodIn_of _ (by decide +kernel)) ggX4_buy_X4_priceOf
set_option maxRecDepth 20000 in
theorem ggX4_buy_X3_store : GoodIn wsX4_buy wsX3_store := goodIn_r _ [17, 18, 19, 20, 23, 24, 25, 26, 27, 28, 29, 30, 31, 32, 33, 34] (by decide +kernel) (by decide +kernel)
set_option maxRecDepth 20000 in
theorem gX4_buy_X3_store : GoodIn wsX4_buy (wsV RX4 153 RX3 yX3_store wsX3_store) := goodIn_app (goodIn_of _ (by decide +kernel)) ggX4_buy_X3_store
theorem dX4_buy_0 : decode cX4_buy 0 = .ok (.iload_n 1, 1) := by decide +kernel
theorem dX4_buy_1 : decode cX4_buy 1 = .ok (.ifCond .lt 8, 3) := by decide +kernel
theorem dX4_buy_4 : decode cX4_buy 4 = .ok (.iload_n 1, 1) := by decide +kernel
theorem dX4_buy_5 : decode cX4_buy 5 = .ok (.iconst 2, 1) := by decide +kernel
theorem dX4_buy_6 : decode cX4_buy 6 = .ok (.if_icmp .le 13, 3) := by decide +kernel
theorem dX4_buy_9 : decode cX4_buy 9 = .ok (.new 109, 3) := by decide +kernel
theorem dX4_buy_12 : decode cX4_buy 12 = .ok (.dup, 1) := by decide +kernel
theorem dX4_buy_13 : decode cX4_buy 13 = .ok (.ldc 144, 2) := by decide +kernel
theorem dX4_buy_15 : decode cX4_buy 15 = .ok (.invokespecial 113, 3) := by decide +kernel
theorem dX4_buy_18 : decode cX4_buy 18 = .ok (.athrow, 1) := by decide +kernel
theorem dX4_buy_19 : decode cX4_buy 19 = .ok (.iload_n 2, 1) := by decide +kernel
theorem dX4_buy_20 : decode cX4_buy 20 = .ok (.iconst 1, 1) := by decide +kernel
theorem dX4_buy_21 : decode cX4_buy 21 = .ok (.if_icmp .lt 10, 3) := by decide +kernel
theorem dX4_buy_24 : decode cX4_buy 24 = .ok (.iload_n 2, 1) := by decide +kernel
theorem dX4_buy_25 : decode cX4_buy 25 = .ok (.sipush 200, 3) := by decide +kernel
theorem dX4_buy_28 : decode cX4_buy 28 = .ok (.if_icmp .le 13, 3) := by decide +kernel
theorem dX4_buy_31 : decode cX4_buy 31 = .ok (.new 19, 3) := by decide +kernel
theorem dX4_buy_34 : decode cX4_buy 34 = .ok (.dup, 1) := by decide +kernel
theorem dX4_buy_35 : decode cX4_buy 35 = .ok (.ldc 146, 2) := by decide +kernel
theorem dX4_buy_37 : decode cX4_buy 37 = .ok (.invokespecial 23, 3) := by decide +kernel
theorem dX4_buy_40 : decode cX4_buy 40 = .ok (.athrow, 1) := by decide +kernel
theorem dX4_buy_41 : decode cX4_buy 41 = .ok (.iload_n 1, 1) := by decide +kernel
theorem dX4_buy_42 : decode cX4_buy 42 = .ok (.iload_n 2, 1) := by decide +kernel
theorem dX4_buy_43 : decode cX4_buy 43 = .ok (.invokestatic 148, 3) := by decide +kernel
theorem dX4_buy_46 : decode cX4_buy 46 = .ok (.istore_n 3, 1) := by decide +kernel
theorem dX4_buy_47 : decode cX4_buy 47 = .ok (.iload_n 3, 1) := by decide +kernel
theorem dX4_buy_48 : decode cX4_buy 48 = .ok (.aload_n 0, 1) := by decide +kernel
theorem dX4_buy_49 : decode cX4_buy 49 = .ok (.getfield 10, 3) := by decide +kernel
theorem dX4_buy_52 : decode cX4_buy 52 = .ok (.getfield 73, 3) := by decide +kernel
theorem dX4_buy_55 : decode cX4_buy 55 = .ok (.if_icmp .le 13, 3) := by decide +kernel
theorem dX4_buy_58 : decode cX4_buy 58 = .ok (.new 34, 3) := by decide +kernel
theorem dX4_buy_61 : decode cX4_buy 61 = .ok (.dup, 1) := by decide +kernel
theorem dX4_buy_62 : decode cX4_buy 62 = .ok (.ldc 151, 2) := by decide +kernel
theorem dX4_buy_64 : decode cX4_buy 64 = .ok (.invokespecial 38, 3) := by decide +kernel
theorem dX4_buy_67 : decode cX4_buy 67 = .ok (.athrow, 1) := by decide +kernel
theorem dX4_buy_68 : decode cX4_buy 68 = .ok (.aload_n 0, 1) := by decide +kernel
theorem dX4_buy_69 : decode cX4_buy 69 = .ok (.getfield 10, 3) := by decide +kernel
theorem dX4_buy_72 : decode cX4_buy 72 = .ok (.dup, 1) := by decide +kernel
theorem dX4_buy_73 : decode cX4_buy 73 = .ok (.getfield 73, 3) := by decide +kernel
theorem dX4_buy_76 : decode cX4_buy 76 = .ok (.iload_n 3, 1) := by decide +kernel
theorem dX4_buy_77 : decode cX4_buy 77 = .ok (.isub, 1) := by decide +kernel
theorem dX4_buy_78 : decode cX4_buy 78 = .ok (.putfield 73, 3) := by decide +kernel
theorem dX4_buy_81 : decode cX4_buy 81 = .ok (.aload_n 0, 1) := by decide +kernel
theorem dX4_buy_82 : decode cX4_buy 82 = .ok (.getfield 10, 3) := by decide +kernel
theorem dX4_buy_85 : decode cX4_buy 85 = .ok (.iload_n 1, 1) := by decide +kernel
theorem dX4_buy_86 : decode cX4_buy 86 = .ok (.iload_n 2, 1) := by decide +kernel
theorem dX4_buy_87 : decode cX4_buy 87 = .ok (.invokevirtual 153, 3) := by decide +kernel
theorem dX4_buy_90 : decode cX4_buy 90 = .ok (.ireturn, 1) := by decide +kernel
set_option maxRecDepth 20000 in
theorem ggX4_count_X4_checkKind : GoodIn wsX4_count wsX4_checkKind := goodIn_ca (goodIn_r _ [5, 6, 7] (by decide +kernel) (by decide +kernel)) (goodIn_sub (fun _ h => List.mem_cons_of_mem _ (List.mem_append_right _ h)) (by decide +kernel))
set_option maxRecDepth 20000 in
theorem gX4_count_X4_checkKind : GoodIn wsX4_count (va_wsS RX4 80 yX4_checkKind wsX4_checkKind) := goodIn_app (goodIn_of _ (by decide +kernel)) ggX4_count_X4_checkKind
set_option maxRecDepth 20000 in
theorem ggX4_count_X3_tellOfAll : GoodIn wsX4_count wsX3_tellOfAll := goodIn_r _ [12, 13, 14, 15, 16, 17, 18, 19, 20, 21, 22, 23, 11, 24, 25, 26, 29, 30, 31, 32, 33, 34, 35, 36, 37, 38, 39, 40, 41, 42, 43, 44, 45, 46, 47, 48, 49, 50, 51, 52, 53] (by decide +kernel) (by decide +kernel)
set_option maxRecDepth 20000 in
theorem gX4_count_X3_tellOfAll : GoodIn wsX4_count (wsV RX4 156 RX3 yX3_tellOfAll wsX3_tellOfAll) := goodIn_app (goodIn_of _ (by decide +kernel)) ggX4_count_X3_tellOfAll
theorem dX4_count_0 : decode cX4_count 0 = .ok (.iload_n 1, 1) := by decide +kernel
theorem dX4_count_1 : decode cX4_count 1 = .ok (.bipush 15, 2) := by decide +kernel
theorem dX4_count_3 : decode cX4_count 3 = .ok (.invokestatic 80, 3) := by decide +kernel
theorem dX4_count_6 : decode cX4_count 6 = .ok (.aload_n 0, 1) := by decide +kernel
theorem dX4_count_7 : decode cX4_count 7 = .ok (.getfield 10, 3) := by decide +kernel
theorem dX4_count_10 : decode cX4_count 10 = .ok (.iload_n 1, 1) := by decide +kernel
theorem dX4_count_11 : decode cX4_count 11 = .ok (.invokevirtual 156, 3) := by decide +kernel
theorem dX4_count_14 : decode cX4_count 14 = .ok (.ireturn, 1) := by decide +kernel
set_option maxRecDepth 20000 in
theorem ggX4_pass_X4_checkHours : GoodIn wsX4_pass wsX4_checkHours := goodIn_ca (goodIn_r _ [5, 6, 7] (by decide +kernel) (by decide +kernel)) (goodIn_sub (fun _ h => List.mem_cons_of_mem _ (List.mem_append_right _ h)) (by decide +kernel))
set_option maxRecDepth 20000 in
theorem gX4_pass_X4_checkHours : GoodIn wsX4_pass (va_wsS RX4 159 yX4_checkHours wsX4_checkHours) := goodIn_app (goodIn_of _ (by decide +kernel)) ggX4_pass_X4_checkHours
set_option maxRecDepth 20000 in
theorem ggX4_pass_X3_letHoursGo : GoodIn wsX4_pass wsX3_letHoursGo := goodIn_r _ [12, 13, 14, 15, 11, 16, 17, 18, 19, 20, 21, 22, 23, 24, 25, 26, 27, 28, 29, 30, 31, 32, 33, 34, 35, 36, 37, 38, 39, 40, 41, 42, 43, 44, 45, 46, 47, 48, 49, 50, 51, 52, 53, 54, 55, 56, 57, 58, 59, 60, 61, 62, 63, 64, 65, 66, 67, 68, 69, 70, 71, 72, 73, 74, 75, 76, 77, 78, 79, 80, 81, 82, 83, 84, 85, 86, 87, 88, 89, 90, 91, 92, 93, 94, 95, 96, 97, 98, 99, 100, 101, 102, 103, 104, 105, 106, 107, 108, 109, 110, 111, 112, 113, 114, 115, 116, 117, 118, 119, 120, 121, 122, 123, 124, 125, 126, 129, 130, 131, 132, 133, 134, 135, 136, 137, 138, 139, 140, 141, 142, 143, 144, 145, 146, 147, 148, 149, 150, 151, 152, 153, 154, 155, 156, 157, 158, 159, 160] (by decide +kernel) (by decide +kernel)
set_option maxRecDepth 20000 in
theorem gX4_pass_X3_letHoursGo : GoodIn wsX4_pass (wsV RX4 163 RX3 yX3_letHoursGo wsX3_letHoursGo) := goodIn_app (goodIn_of _ (by decide +kernel)) ggX4_pass_X3_letHoursGo
theorem dX4_pass_0 : decode cX4_pass 0 = .ok (.iload_n 1, 1) := by decide +kernel
theorem dX4_pass_1 : decode cX4_pass 1 = .ok (.invokestatic 159, 3) := by decide +kernel
theorem dX4_pass_4 : decode cX4_pass 4 = .ok (.aload_n 0, 1) := by decide +kernel
theorem dX4_pass_5 : decode cX4_pass 5 = .ok (.getfield 10, 3) := by decide +kernel
theorem dX4_pass_8 : decode cX4_pass 8 = .ok (.iload_n 1, 1) := by decide +kernel
theorem dX4_pass_9 : decode cX4_pass 9 = .ok (.invokevirtual 163, 3) := by decide +kernel
theorem dX4_pass_12 : decode cX4_pass 12 = .ok (.ireturn, 1) := by decide +kernel
set_option maxRecDepth 20000 in
theorem ggX4_foresee_X4_checkHours : GoodIn wsX4_foresee wsX4_checkHours := goodIn_ca (goodIn_r _ [8, 9, 10] (by decide +kernel) (by decide +kernel)) (goodIn_sub (fun _ h => List.mem_cons_of_mem _ (List.mem_append_right _ h)) (by decide +kernel))
set_option maxRecDepth 20000 in
theorem gX4_foresee_X4_checkHours : GoodIn wsX4_foresee (va_wsS RX4 159 yX4_checkHours wsX4_checkHours) := goodIn_app (goodIn_of _ (by decide +kernel)) ggX4_foresee_X4_checkHours
set_option maxRecDepth 20000 in
theorem ggX4_foresee_X3_setTo : GoodIn wsX4_foresee wsX3_setTo := goodIn_r _ [15, 16, 17, 18, 19, 20, 21, 22, 23, 24, 25, 26, 27, 28, 29, 30, 31, 32, 33, 34, 35, 36, 37, 38, 39, 40, 41, 42, 43, 44, 45, 46, 47, 48, 49, 50, 51, 52, 53, 54, 55, 56, 57, 58, 59, 162, 163, 164, 165, 166, 167, 168, 169, 170, 171, 172, 173, 174, 175, 176, 177, 178, 179, 180, 181, 182, 183, 184, 185, 186, 187, 188, 189, 190, 191, 192, 193] (by decide +kernel) (by decide +kernel)
set_option maxRecDepth 20000 in
theorem gX4_foresee_X3_setTo : GoodIn wsX4_foresee (wsV RX4 168 RX3 yX3_setTo wsX3_setTo) := goodIn_app (goodIn_of _ (by decide +kernel)) ggX4_foresee_X3_setTo
set_option maxRecDepth 20000 in
theorem ggX4_foresee_X3_letHoursGo : GoodIn wsX4_foresee wsX3_letHoursGo := goodIn_r _ [63, 64, 65, 66, 14, 67, 18, 68, 21, 69, 70, 71, 72, 16, 73, 74, 75, 76, 77, 25, 78, 79, 80, 31, 81, 82, 83, 84, 85, 33, 34, 86, 87, 88, 89, 44, 35, 36, 90, 91, 92, 93, 24, 94, 95, 96, 97, 98, 99, 100, 101, 102, 103, 104, 105, 43, 106, 107, 108, 109, 110, 23, 111, 112, 113, 114, 26, 115, 116, 27, 117, 118, 119, 120, 19, 121, 122, 123, 124, 17, 125, 126, 127, 128, 129, 130, 131, 132, 133, 40, 134, 135, 136, 137, 39, 41, 138, 139, 140, 141, 38, 142, 143, 144, 145, 37, 146, 147, 148, 149, 150, 151, 152, 153, 154, 155, 162, 163, 164, 165, 166, 167, 168, 169, 170, 171, 172, 173, 190, 191, 192, 193, 174, 175, 176, 177, 178, 179, 180, 181, 182, 183, 184, 185, 186, 187, 188, 189] (by decide +kernel) (by decide +kernel)
set_option maxRecDepth 20000 in
theorem gX4_foresee_X3_letHoursGo : GoodIn wsX4_foresee (wsV RX4 163 RX3 yX3_letHoursGo wsX3_letHoursGo) := goodIn_app (goodIn_of _ (by decide +kernel)) ggX4_foresee_X3_letHoursGo
set_option maxRecDepth 20000 in
theorem ggX4_foresee_X3_tellOfAll : GoodIn wsX4_foresee wsX3_tellOfAll := goodIn_r _ [159, 21, 19, 22, 23, 24, 25, 26, 27, 69, 70, 71, 14, 72, 16, 73, 162, 163, 164, 165, 166, 167, 168, 169, 170, 171, 172, 173, 174, 175, 176, 177, 178, 179, 180, 181, 182, 183, 184, 185, 186] (by decide +kernel) (by decide +kernel)
set_option maxRecDepth 20000 in
theorem gX4_foresee_X3_tellOfAll : GoodIn wsX4_foresee (wsV RX4 156 RX3 yX3_tellOfAll wsX3_tellOfAll) := goodIn_app (goodIn_of _ (by decide +kernel)) ggX4_foresee_X3_tellOfAll
theorem dX4_foresee_0 : decode cX4_foresee 0 = .ok (.iload_n 1, 1) := by decide +kernel
theorem dX4_foresee_1 : decode cX4_foresee 1 = .ok (.invokestatic 159, 3) := by decide +kernel
theorem dX4_foresee_4 : decode cX4_foresee 4 = .ok (.iload_n 2, 1) := by decide +kernel
theorem dX4_foresee_5 : decode cX4_foresee 5 = .ok (.iconst 2, 1) := by decide +kernel
theorem dX4_foresee_6 : decode cX4_foresee 6 = .ok (.if_icmp .lt 21, 3) := by decide +kernel
theorem dX4_foresee_9 : decode cX4_foresee 9 = .ok (.iload_n 2, 1) := by decide +kernel
theorem dX4_foresee_10 : decode cX4_foresee 10 = .ok (.bipush 14, 2) := by decide +kernel
theorem dX4_foresee_12 : decode cX4_foresee 12 = .ok (.if_icmp .gt 15, 3) := by decide +kernel
theorem dX4_foresee_15 : decode cX4_foresee 15 = .ok (.iload_n 2, 1) := by decide +kernel
theorem dX4_foresee_16 : decode cX4_foresee 16 = .ok (.bipush 8, 2) := by decide +kernel
theorem dX4_foresee_18 : decode cX4_foresee 18 = .ok (.if_icmp .eq 9, 3) := by decide +kernel
theorem dX4_foresee_21 : decode cX4_foresee 21 = .ok (.iload_n 2, 1) := by decide +kernel
theorem dX4_foresee_22 : decode cX4_foresee 22 = .ok (.bipush 9, 2) := by decide +kernel
theorem dX4_foresee_24 : decode cX4_foresee 24 = .ok (.if_icmp .ne 13, 3) := by decide +kernel
theorem dX4_foresee_27 : decode cX4_foresee 27 = .ok (.new 109, 3) := by decide +kernel
theorem dX4_foresee_30 : decode cX4_foresee 30 = .ok (.dup, 1) := by decide +kernel
theorem dX4_foresee_31 : decode cX4_foresee 31 = .ok (.ldc 166, 2) := by decide +kernel
theorem dX4_foresee_33 : decode cX4_foresee 33 = .ok (.invokespecial 113, 3) := by decide +kernel
theorem dX4_foresee_36 : decode cX4_foresee 36 = .ok (.athrow, 1) := by decide +kernel
theorem dX4_foresee_37 : decode cX4_foresee 37 = .ok (.aload_n 0, 1) := by decide +kernel
theorem dX4_foresee_38 : decode cX4_foresee 38 = .ok (.getfield 16, 3) := by decide +kernel
theorem dX4_foresee_41 : decode cX4_foresee 41 = .ok (.aload_n 0, 1) := by decide +kernel
theorem dX4_foresee_42 : decode cX4_foresee 42 = .ok (.getfield 10, 3) := by decide +kernel
theorem dX4_foresee_45 : decode cX4_foresee 45 = .ok (.invokevirtual 168, 3) := by decide +kernel
theorem dX4_foresee_48 : decode cX4_foresee 48 = .ok (.aload_n 0, 1) := by decide +kernel
theorem dX4_foresee_49 : decode cX4_foresee 49 = .ok (.getfield 16, 3) := by decide +kernel
theorem dX4_foresee_52 : decode cX4_foresee 52 = .ok (.iload_n 1, 1) := by decide +kernel
theorem dX4_foresee_53 : decode cX4_foresee 53 = .ok (.invokevirtual 163, 3) := by decide +kernel
theorem dX4_foresee_56 : decode cX4_foresee 56 = .ok (.pop, 1) := by decide +kernel
theorem dX4_foresee_57 : decode cX4_foresee 57 = .ok (.aload_n 0, 1) := by decide +kernel
theorem dX4_foresee_58 : decode cX4_foresee 58 = .ok (.getfield 16, 3) := by decide +kernel
theorem dX4_foresee_61 : decode cX4_foresee 61 = .ok (.iload_n 2, 1) := by decide +kernel
theorem dX4_foresee_62 : decode cX4_foresee 62 = .ok (.invokevirtual 156, 3) := by decide +kernel
theorem dX4_foresee_65 : decode cX4_foresee 65 = .ok (.ireturn, 1) := by decide +kernel
set_option maxRecDepth 20000 in
theorem ggX4_until_X4_knownBook : GoodIn wsX4_until wsX4_knownBook := goodIn_ca (goodIn_r _ [8, 9, 10, 3, 11, 12, 13, 14, 15, 16, 17, 166, 167, 168, 169, 170, 171, 172, 173, 174, 175, 176, 177, 178, 179] (by decide +kernel) (by decide +kernel)) (goodIn_sub (fun _ h => List.mem_cons_of_mem _ (List.mem_append_right _ h)) (by decide +kernel))
set_option maxRecDepth 20000 in
theorem gX4_until_X4_knownBook : GoodIn wsX4_until (wsV RX4 52 RX4 yX4_knownBook wsX4_knownBook) := goodIn_app (goodIn_of _ (by decide +kernel)) ggX4_until_X4_knownBook
set_option maxRecDepth 20000 in
theorem ggX4_until_X3_setTo : GoodIn wsX4_until wsX3_setTo := goodIn_r _ [21, 17, 22, 23, 16, 24, 25, 26, 27, 28, 29, 30, 31, 32, 33, 34, 35, 36, 37, 38, 39, 40, 41, 42, 43, 44, 45, 46, 47, 48, 49, 50, 51, 52, 53, 54, 55, 56, 57, 58, 59, 60, 61, 62, 63, 168, 169, 170, 171, 172, 173, 174, 175, 176, 177, 178, 179, 153, 154, 155, 156, 157, 158, 159, 160, 161, 162, 163, 164, 165, 180, 181, 182, 183, 184, 185, 186] (by decide +kernel) (by decide +kernel)
set_option maxRecDepth 20000 in
theorem gX4_until_X3_setTo : GoodIn wsX4_until (wsV RX4 168 RX3 yX3_setTo wsX3_setTo) := goodIn_app (goodIn_of _ (by decide +kernel)) ggX4_until_X3_setTo
set_option maxRecDepth 20000 in
theorem ggX4_until_X3_bookNumbered : GoodIn wsX4_until wsX3_bookNumbered := goodIn_r _ [15, 16, 17, 168, 169, 170, 171, 172, 173, 174, 175, 176, 177, 178, 179] (by decide +kernel) (by decide +kernel)
set_option maxRecDepth 20000 in
theorem gX4_until_X3_bookNumbered : GoodIn wsX4_until (wsV RX4 172 RX3 yX3_bookNumbered wsX3_bookNumbered) := goodIn_app (goodIn_of _ (by decide +kernel)) ggX4_until_X3_bookNumbered
set_option maxRecDepth 20000 in
theorem ggX4_until_X3_letAnHourGo : GoodIn wsX4_until wsX3_letAnHourGo := goodIn_r _ [67, 23, 68, 25, 69, 70, 71, 14, 72, 17, 73, 74, 75, 76, 77, 29, 78, 79, 80, 35, 81, 82, 83, 84, 85, 37, 38, 86, 87, 88, 89, 48, 39, 40, 90, 91, 92, 93, 28, 94, 95, 96, 97, 98, 99, 100, 101, 102, 103, 104, 105, 47, 106, 107, 108, 109, 110, 27, 111, 112, 113, 114, 30, 115, 116, 31, 117, 12, 13, 15, 16, 118, 119, 120, 121, 22, 122, 123, 124, 125, 126, 127, 128, 129, 130, 44, 131, 132, 133, 134, 43, 45, 135, 136, 137, 138, 42, 139, 140, 141, 142, 41, 143, 144, 145, 146, 147, 148, 149, 150, 151, 152, 168, 169, 170, 171, 172, 173, 174, 175, 176, 177, 178, 179, 183, 184, 185, 186, 153, 154, 155, 156, 157, 158, 159, 160, 161, 162, 163, 164, 165, 180, 181, 182] (by decide +kernel) (by decide +kernel)
set_option maxRecDepth 20000 in
theorem gX4_until_X3_letAnHourGo : GoodIn wsX4_until (wsV RX4 175 RX3 yX3_letAnHourGo wsX3_letAnHourGo) := goodIn_app (goodIn_of _ (by decide +kernel)) ggX4_until_X3_letAnHourGo
theorem dX4_until_0 : decode cX4_until 0 = .ok (.aload_n 0, 1) := by decide +kernel
theorem dX4_until_1 : decode cX4_until 1 = .ok (.iload_n 1, 1) := by decide +kernel
theorem dX4_until_2 : decode cX4_until 2 = .ok (.invokevirtual 52, 3) := by decide +kernel
theorem dX4_until_5 : decode cX4_until 5 = .ok (.getfield 56, 3) := by decide +kernel
theorem dX4_until_8 : decode cX4_until 8 = .ok (.iconst 5, 1) := by decide +kernel
theorem dX4_until_9 : decode cX4_until 9 = .ok (.if_icmp .lt 5, 3) := by decide +kernel
theorem dX4_until_12 : decode cX4_until 12 = .ok (.iconst 0, 1) := by decide +kernel
theorem dX4_until_13 : decode cX4_until 13 = .ok (.ireturn, 1) := by decide +kernel
theorem dX4_until_14 : decode cX4_until 14 = .ok (.aload_n 0, 1) := by decide +kernel
theorem dX4_until_15 : decode cX4_until 15 = .ok (.getfield 16, 3) := by decide +kernel
theorem dX4_until_18 : decode cX4_until 18 = .ok (.aload_n 0, 1) := by decide +kernel
theorem dX4_until_19 : decode cX4_until 19 = .ok (.getfield 10, 3) := by decide +kernel
theorem dX4_until_22 : decode cX4_until 22 = .ok (.invokevirtual 168, 3) := by decide +kernel
theorem dX4_until_25 : decode cX4_until 25 = .ok (.aload_n 0, 1) := by decide +kernel
theorem dX4_until_26 : decode cX4_until 26 = .ok (.getfield 16, 3) := by decide +kernel
theorem dX4_until_29 : decode cX4_until 29 = .ok (.iload_n 1, 1) := by decide +kernel
theorem dX4_until_30 : decode cX4_until 30 = .ok (.invokevirtual 172, 3) := by decide +kernel
theorem dX4_until_33 : decode cX4_until 33 = .ok (.astore_n 2, 1) := by decide +kernel
theorem dX4_until_34 : decode cX4_until 34 = .ok (.iconst 1, 1) := by decide +kernel
theorem dX4_until_35 : decode cX4_until 35 = .ok (.istore_n 3, 1) := by decide +kernel
theorem dX4_until_36 : decode cX4_until 36 = .ok (.iload_n 3, 1) := by decide +kernel
theorem dX4_until_37 : decode cX4_until 37 = .ok (.sipush 250, 3) := by decide +kernel
theorem dX4_until_40 : decode cX4_until 40 = .ok (.if_icmp .gt 31, 3) := by decide +kernel
theorem dX4_until_43 : decode cX4_until 43 = .ok (.aload_n 0, 1) := by decide +kernel
theorem dX4_until_44 : decode cX4_until 44 = .ok (.getfield 16, 3) := by decide +kernel
theorem dX4_until_47 : decode cX4_until 47 = .ok (.invokevirtual 175, 3) := by decide +kernel
theorem dX4_until_50 : decode cX4_until 50 = .ok (.pop, 1) := by decide +kernel
theorem dX4_until_51 : decode cX4_until 51 = .ok (.aload_n 2, 1) := by decide +kernel
theorem dX4_until_52 : decode cX4_until 52 = .ok (.ifnull 13, 3) := by decide +kernel
theorem dX4_until_55 : decode cX4_until 55 = .ok (.aload_n 2, 1) := by decide +kernel
theorem dX4_until_56 : decode cX4_until 56 = .ok (.getfield 56, 3) := by decide +kernel
theorem dX4_until_59 : decode cX4_until 59 = .ok (.iconst 5, 1) := by decide +kernel
theorem dX4_until_60 : decode cX4_until 60 = .ok (.if_icmp .ne 5, 3) := by decide +kernel
theorem dX4_until_63 : decode cX4_until 63 = .ok (.iload_n 3, 1) := by decide +kernel
theorem dX4_until_64 : decode cX4_until 64 = .ok (.ireturn, 1) := by decide +kernel
theorem dX4_until_65 : decode cX4_until 65 = .ok (.iinc 3 1, 3) := by decide +kernel
theorem dX4_until_68 : decode cX4_until 68 = .ok (.goto (-32), 3) := by decide +kernel
theorem dX4_until_71 : decode cX4_until 71 = .ok (.iconst (-1), 1) := by decide +kernel
theorem dX4_until_72 : decode cX4_until 72 = .ok (.ireturn, 1) := by decide +kernel
set_option maxRecDepth 20000 in
theorem ggX4_next_X3_setTo : GoodIn wsX4_next wsX3_setTo := goodIn_r _ [7, 8, 9, 10, 11, 12, 13, 14, 15, 16, 17, 18, 19, 20, 21, 22, 23, 24, 25, 26, 27, 28, 29, 30, 31, 32, 33, 34, 35, 36, 37, 38, 39, 40, 41, 42, 43, 44, 45, 46, 47, 48, 49, 50, 51, 153, 154, 155, 156, 157, 158, 159, 160, 161, 162, 163, 164, 165, 166, 167, 168, 169, 170, 171, 172, 173, 174, 175, 176, 177, 178, 179, 180, 181, 182, 183, 184] (by decide +kernel) (by decide +kernel)
set_option maxRecDepth 20000 in
theorem gX4_next_X3_setTo : GoodIn wsX4_next (wsV RX4 168 RX3 yX3_setTo wsX3_setTo) := goodIn_app (goodIn_of _ (by decide +kernel)) ggX4_next_X3_setTo
set_option maxRecDepth 20000 in
theorem ggX4_next_X3_letAnHourGo : GoodIn wsX4_next wsX3_letAnHourGo := goodIn_r _ [55, 10, 56, 13, 57, 58, 59, 6, 60, 8, 61, 62, 63, 64, 65, 17, 66, 67, 68, 23, 69, 70, 71, 72, 73, 25, 26, 74, 75, 76, 77, 36, 27, 28, 78, 79, 80, 81, 16, 82, 83, 84, 85, 86, 87, 88, 89, 90, 91, 92, 93, 35, 94, 95, 96, 97, 98, 15, 99, 100, 101, 102, 18, 103, 104, 19, 105, 106, 107, 108, 11, 109, 110, 111, 112, 9, 113, 114, 115, 116, 117, 118, 119, 120, 121, 32, 122, 123, 124, 125, 31, 33, 126, 127, 128, 129, 30, 130, 131, 132, 133, 29, 134, 135, 136, 137, 138, 139, 140, 141, 142, 143, 153, 154, 155, 156, 157, 158, 159, 160, 161, 162, 163, 164, 181, 182, 183, 184, 165, 166, 167, 168, 169, 170, 171, 172, 173, 174, 175, 176, 177, 178, 179, 180] (by decide +kernel) (by decide +kernel)
set_option maxRecDepth 20000 in
theorem gX4_next_X3_letAnHourGo : GoodIn wsX4_next (wsV RX4 175 RX3 yX3_letAnHourGo wsX3_letAnHourGo) := goodIn_app (goodIn_of _ (by decide +kernel)) ggX4_next_X3_letAnHourGo
set_option maxRecDepth 20000 in
theorem ggX4_next_X4_firstDoneAhead : GoodIn wsX4_next wsX4_firstDoneAhead := goodIn_r _ [148, 2, 149, 1, 150, 151, 152, 153, 154, 155, 156, 157, 158, 159, 160, 161, 162, 163, 164, 165, 166, 167, 168, 169, 170, 171, 172, 173, 174, 175, 176, 177] (by decide +kernel) (by decide +kernel)
set_option maxRecDepth 20000 in
theorem gX4_next_X4_firstDoneAhead : GoodIn wsX4_next (wsV RX4 178 RX4 yX4_firstDoneAhead wsX4_firstDoneAhead) := goodIn_app (goodIn_of _ (by decide +kernel)) ggX4_next_X4_firstDoneAhead
theorem dX4_next_0 : decode cX4_next 0 = .ok (.aload_n 0, 1) := by decide +kernel
theorem dX4_next_1 : decode cX4_next 1 = .ok (.getfield 16, 3) := by decide +kernel
theorem dX4_next_4 : decode cX4_next 4 = .ok (.aload_n 0, 1) := by decide +kernel
theorem dX4_next_5 : decode cX4_next 5 = .ok (.getfield 10, 3) := by decide +kernel
theorem dX4_next_8 : decode cX4_next 8 = .ok (.invokevirtual 168, 3) := by decide +kernel
theorem dX4_next_11 : decode cX4_next 11 = .ok (.iconst 1, 1) := by decide +kernel
theorem dX4_next_12 : decode cX4_next 12 = .ok (.istore_n 1, 1) := by decide +kernel
theorem dX4_next_13 : decode cX4_next 13 = .ok (.iload_n 1, 1) := by decide +kernel
theorem dX4_next_14 : decode cX4_next 14 = .ok (.sipush 250, 3) := by decide +kernel
theorem dX4_next_17 : decode cX4_next 17 = .ok (.if_icmp .gt 24, 3) := by decide +kernel
theorem dX4_next_20 : decode cX4_next 20 = .ok (.aload_n 0, 1) := by decide +kernel
theorem dX4_next_21 : decode cX4_next 21 = .ok (.getfield 16, 3) := by decide +kernel
theorem dX4_next_24 : decode cX4_next 24 = .ok (.invokevirtual 175, 3) := by decide +kernel
theorem dX4_next_27 : decode cX4_next 27 = .ok (.ifCond .le 8, 3) := by decide +kernel
theorem dX4_next_30 : decode cX4_next 30 = .ok (.aload_n 0, 1) := by decide +kernel
theorem dX4_next_31 : decode cX4_next 31 = .ok (.invokevirtual 178, 3) := by decide +kernel
theorem dX4_next_34 : decode cX4_next 34 = .ok (.ireturn, 1) := by decide +kernel
theorem dX4_next_35 : decode cX4_next 35 = .ok (.iinc 1 1, 3) := by decide +kernel
theorem dX4_next_38 : decode cX4_next 38 = .ok (.goto (-25), 3) := by decide +kernel
theorem dX4_next_41 : decode cX4_next 41 = .ok (.iconst (-1), 1) := by decide +kernel
theorem dX4_next_42 : decode cX4_next 42 = .ok (.ireturn, 1) := by decide +kernel
set_option maxRecDepth 20000 in
theorem ggX4_advise_X4_knownSewer : GoodIn wsX4_advise wsX4_knownSewer := goodIn_ca (goodIn_r _ [6, 7, 8, 1, 9, 10, 11, 12, 13, 14, 15, 170, 171, 172, 173, 174, 175, 176, 177, 178, 179, 180, 181, 182, 183] (by decide +kernel) (by decide +kernel)) (goodIn_sub (fun _ h => List.mem_cons_of_mem _ (List.mem_append_right _ h)) (by decide +kernel))
set_option maxRecDepth 20000 in
theorem gX4_advise_X4_knownSewer : GoodIn wsX4_advise (wsV RX4 105 RX4 yX4_knownSewer wsX4_knownSewer) := goodIn_app (goodIn_of _ (by decide +kernel)) ggX4_advise_X4_knownSewer
set_option maxRecDepth 20000 in
theorem ggX4_advise_X3_othersAt : GoodIn wsX4_advise wsX3_othersAt := goodIn_r _ [19, 15, 20, 21, 172, 173, 174, 175, 176, 177, 178, 179, 180, 181, 182, 183, 184, 185, 186] (by decide +kernel) (by decide +kernel)
set_option maxRecDepth 20000 in
theorem gX4_advise_X3_othersAt : GoodIn wsX4_advise (wsV RX4 114 RX3 yX3_othersAt wsX3_othersAt) := goodIn_app (goodIn_of _ (by decide +kernel)) ggX4_advise_X3_othersAt
set_option maxRecDepth 20000 in
theorem ggX4_advise_X4_sewnAheadWith : GoodIn wsX4_advise wsX4_sewnAheadWith := goodIn_r _ [25, 26, 1, 27, 28, 29, 30, 31, 12, 32, 33, 15, 34, 35, 14, 36, 37, 38, 39, 40, 41, 42, 43, 44, 45, 46, 47, 48, 49, 50, 51, 52, 53, 54, 55, 56, 57, 58, 59, 60, 61, 62, 63, 64, 65, 66, 67, 68, 69, 70, 71, 72, 73, 74, 9, 10, 11, 13, 75, 76, 77, 78, 79, 80, 81, 82, 83, 84, 85, 86, 87, 88, 89, 90, 91, 92, 93, 94, 95, 96, 97, 98, 99, 100, 101, 102, 103, 104, 105, 106, 107, 108, 109, 110, 111, 112, 113, 114, 115, 116, 117, 118, 119, 120, 121, 122, 123, 124, 125, 126, 127, 128, 129, 130, 131, 132, 133, 134, 135, 136, 137, 138, 139, 20, 140, 141, 142, 143, 144, 145, 146, 147, 148, 149, 150, 151, 152, 153, 154, 155, 156, 157, 158, 159, 160, 161, 162, 163, 164, 165, 166, 167, 168, 169, 170, 171, 184, 185, 186, 172, 173, 174, 175, 176, 177, 178, 179, 180, 181, 182, 183, 187, 188, 189, 190, 191, 192, 193, 194, 195, 196, 197, 198, 199, 200, 201, 202, 203] (by decide +kernel) (by decide +kernel)
set_option maxRecDepth 20000 in
theorem gX4_advise_X4_sewnAheadWith : GoodIn wsX4_advise (wsV RX4 181 RX4 yX4_sewnAheadWith wsX4_sewnAheadWith) := goodIn_app (goodIn_of _ (by decide +kernel)) ggX4_advise_X4_sewnAheadWith
theorem dX4_advise_0 : decode cX4_advise 0 = .ok (.aload_n 0, 1) := by decide +kernel
theorem dX4_advise_1 : decode cX4_advise 1 = .ok (.iload_n 1, 1) := by decide +kernel
theorem dX4_advise_2 : decode cX4_advise 2 = .ok (.invokevirtual 105, 3) := by decide +kernel
theorem dX4_advise_5 : decode cX4_advise 5 = .ok (.pop, 1) := by decide +kernel
theorem dX4_advise_6 : decode cX4_advise 6 = .ok (.iconst (-1), 1) := by decide +kernel
theorem dX4_advise_7 : decode cX4_advise 7 = .ok (.istore_n 2, 1) := by decide +kernel
theorem dX4_advise_8 : decode cX4_advise 8 = .ok (.iconst (-1), 1) := by decide +kernel
theorem dX4_advise_9 : decode cX4_advise 9 = .ok (.istore_n 3, 1) := by decide +kernel
theorem dX4_advise_10 : decode cX4_advise 10 = .ok (.iconst 0, 1) := by decide +kernel
theorem dX4_advise_11 : decode cX4_advise 11 = .ok (.istore 4, 2) := by decide +kernel
theorem dX4_advise_13 : decode cX4_advise 13 = .ok (.iload 4, 2) := by decide +kernel
theorem dX4_advise_15 : decode cX4_advise 15 = .ok (.iconst 3, 1) := by decide +kernel
theorem dX4_advise_16 : decode cX4_advise 16 = .ok (.if_icmp .ge 44, 3) := by decide +kernel
theorem dX4_advise_19 : decode cX4_advise 19 = .ok (.aload_n 0, 1) := by decide +kernel
theorem dX4_advise_20 : decode cX4_advise 20 = .ok (.getfield 10, 3) := by decide +kernel
theorem dX4_advise_23 : decode cX4_advise 23 = .ok (.iload 4, 2) := by decide +kernel
theorem dX4_advise_25 : decode cX4_advise 25 = .ok (.iload_n 1, 1) := by decide +kernel
theorem dX4_advise_26 : decode cX4_advise 26 = .ok (.invokevirtual 114, 3) := by decide +kernel
theorem dX4_advise_29 : decode cX4_advise 29 = .ok (.iconst 2, 1) := by decide +kernel
theorem dX4_advise_30 : decode cX4_advise 30 = .ok (.if_icmp .ge 24, 3) := by decide +kernel
theorem dX4_advise_33 : decode cX4_advise 33 = .ok (.aload_n 0, 1) := by decide +kernel
theorem dX4_advise_34 : decode cX4_advise 34 = .ok (.iload_n 1, 1) := by decide +kernel
theorem dX4_advise_35 : decode cX4_advise 35 = .ok (.iload 4, 2) := by decide +kernel
theorem dX4_advise_37 : decode cX4_advise 37 = .ok (.invokevirtual 181, 3) := by decide +kernel
theorem dX4_advise_40 : decode cX4_advise 40 = .ok (.istore 5, 2) := by decide +kernel
theorem dX4_advise_42 : decode cX4_advise 42 = .ok (.iload 5, 2) := by decide +kernel
theorem dX4_advise_44 : decode cX4_advise 44 = .ok (.iload_n 3, 1) := by decide +kernel
theorem dX4_advise_45 : decode cX4_advise 45 = .ok (.if_icmp .le 9, 3) := by decide +kernel
theorem dX4_advise_48 : decode cX4_advise 48 = .ok (.iload 5, 2) := by decide +kernel
theorem dX4_advise_50 : decode cX4_advise 50 = .ok (.istore_n 3, 1) := by decide +kernel
theorem dX4_advise_51 : decode cX4_advise 51 = .ok (.iload 4, 2) := by decide +kernel
theorem dX4_advise_53 : decode cX4_advise 53 = .ok (.istore_n 2, 1) := by decide +kernel
theorem dX4_advise_54 : decode cX4_advise 54 = .ok (.iinc 4 1, 3) := by decide +kernel
theorem dX4_advise_57 : decode cX4_advise 57 = .ok (.goto (-44), 3) := by decide +kernel
theorem dX4_advise_60 : decode cX4_advise 60 = .ok (.iload_n 2, 1) := by decide +kernel
theorem dX4_advise_61 : decode cX4_advise 61 = .ok (.ireturn, 1) := by decide +kernel
set_option maxRecDepth 20000 in
theorem ggX4_digest_X3_tellOfAll : GoodIn wsX4_digest wsX3_tellOfAll := goodIn_r _ [13, 14, 15, 16, 17, 18, 19, 20, 21, 22, 23, 24, 12, 25, 26, 27, 99, 100, 101, 102, 103, 104, 105, 106, 107, 108, 109, 110, 111, 112, 113, 114, 115, 116, 117, 118, 119, 120, 121, 122, 123] (by decide +kernel) (by decide +kernel)
set_option maxRecDepth 20000 in
theorem gX4_digest_X3_tellOfAll : GoodIn wsX4_digest (wsV RX4 156 RX3 yX3_tellOfAll wsX3_tellOfAll) := goodIn_app (goodIn_of _ (by decide +kernel)) ggX4_digest_X3_tellOfAll
set_option maxRecDepth 20000 in
theorem ggX4_digest_X3_tellOfFrame : GoodIn wsX4_digest wsX3_tellOfFrame := goodIn_r _ [31, 32, 33, 34, 35, 36, 37, 38, 12, 39, 15, 26, 40, 41, 42, 43, 44, 45, 46, 47, 48, 49, 50, 51, 52, 53, 54, 55, 56, 57, 58, 59, 60, 61, 62, 63, 64, 65, 66, 67, 68, 69, 70, 71, 124, 125, 126, 127, 99, 100, 101, 102, 103, 104, 105, 106, 107, 108, 109, 110, 128, 129, 130, 111, 112, 113, 114, 115, 116, 117, 118, 119, 120, 121, 122, 123] (by decide +kernel) (by decide +kernel)
set_option maxRecDepth 20000 in
theorem gX4_digest_X3_tellOfFrame : GoodIn wsX4_digest (wsV RX4 140 RX3 yX3_tellOfFrame wsX3_tellOfFrame) := goodIn_app (goodIn_of _ (by decide +kernel)) ggX4_digest_X3_tellOfFrame
set_option maxRecDepth 20000 in
theorem ggX4_digest_X2_tell : GoodIn wsX4_digest wsX2_tell := goodIn_r _ [76, 77, 78, 128, 129, 130] (by decide +kernel) (by decide +kernel)
set_option maxRecDepth 20000 in
theorem gX4_digest_X2_tell : GoodIn wsX4_digest (wsV RX4 123 RX2 yX2_tell wsX2_tell) := goodIn_app (goodIn_of _ (by decide +kernel)) ggX4_digest_X2_tell
set_option maxRecDepth 20000 in
theorem ggX4_digest_X0_tell : GoodIn wsX4_digest wsX0_tell := goodIn_r _ [82, 65, 83, 84, 85, 86, 87, 88, 89, 90, 91, 92, 93, 94, 63, 95, 71, 96, 57, 58, 59, 111, 112, 113, 114, 115, 116, 117, 118, 119, 120, 121, 122, 123] (by decide +kernel) (by decide +kernel)
set_option maxRecDepth 20000 in
theorem gX4_digest_X0_tell : GoodIn wsX4_digest (wsV RX4 84 RX0 yX0_tell wsX0_tell) := goodIn_app (goodIn_of _ (by decide +kernel)) ggX4_digest_X0_tell
theorem dX4_digest_0 : decode cX4_digest 0 = .ok (.ldc2_w 188, 3) := by decide +kernel
theorem dX4_digest_3 : decode cX4_digest 3 = .ok (.lstore_n 1, 1) := by decide +kernel
theorem dX4_digest_4 : decode cX4_digest 4 = .ok (.iconst 0, 1) := by decide +kernel
theorem dX4_digest_5 : decode cX4_digest 5 = .ok (.istore_n 3, 1) := by decide +kernel
theorem dX4_digest_6 : decode cX4_digest 6 = .ok (.iload_n 3, 1) := by decide +kernel
theorem dX4_digest_7 : decode cX4_digest 7 = .ok (.bipush 15, 2) := by decide +kernel
theorem dX4_digest_9 : decode cX4_digest 9 = .ok (.if_icmp .ge 25, 3) := by decide +kernel
theorem dX4_digest_12 : decode cX4_digest 12 = .ok (.lload_n 1, 1) := by decide +kernel
theorem dX4_digest_13 : decode cX4_digest 13 = .ok (.ldc2_w 190, 3) := by decide +kernel
theorem dX4_digest_16 : decode cX4_digest 16 = .ok (.lmul, 1) := by decide +kernel
theorem dX4_digest_17 : decode cX4_digest 17 = .ok (.aload_n 0, 1) := by decide +kernel
theorem dX4_digest_18 : decode cX4_digest 18 = .ok (.getfield 10, 3) := by decide +kernel
theorem dX4_digest_21 : decode cX4_digest 21 = .ok (.iload_n 3, 1) := by decide +kernel
theorem dX4_digest_22 : decode cX4_digest 22 = .ok (.invokevirtual 156, 3) := by decide +kernel
theorem dX4_digest_25 : decode cX4_digest 25 = .ok (.i2l, 1) := by decide +kernel
theorem dX4_digest_26 : decode cX4_digest 26 = .ok (.ladd, 1) := by decide +kernel
theorem dX4_digest_27 : decode cX4_digest 27 = .ok (.lstore_n 1, 1) := by decide +kernel
theorem dX4_digest_28 : decode cX4_digest 28 = .ok (.iinc 3 1, 3) := by decide +kernel
theorem dX4_digest_31 : decode cX4_digest 31 = .ok (.goto (-25), 3) := by decide +kernel
theorem dX4_digest_34 : decode cX4_digest 34 = .ok (.aload_n 0, 1) := by decide +kernel
theorem dX4_digest_35 : decode cX4_digest 35 = .ok (.getfield 10, 3) := by decide +kernel
theorem dX4_digest_38 : decode cX4_digest 38 = .ok (.getfield 192, 3) := by decide +kernel
theorem dX4_digest_41 : decode cX4_digest 41 = .ok (.astore_n 3, 1) := by decide +kernel
theorem dX4_digest_42 : decode cX4_digest 42 = .ok (.aload_n 3, 1) := by decide +kernel
theorem dX4_digest_43 : decode cX4_digest 43 = .ok (.arraylength, 1) := by decide +kernel
theorem dX4_digest_44 : decode cX4_digest 44 = .ok (.istore 4, 2) := by decide +kernel
theorem dX4_digest_46 : decode cX4_digest 46 = .ok (.iconst 0, 1) := by decide +kernel
theorem dX4_digest_47 : decode cX4_digest 47 = .ok (.istore 5, 2) := by decide +kernel
theorem dX4_digest_49 : decode cX4_digest 49 = .ok (.iload 5, 2) := by decide +kernel
theorem dX4_digest_51 : decode cX4_digest 51 = .ok (.iload 4, 2) := by decide +kernel
theorem dX4_digest_53 : decode cX4_digest 53 = .ok (.if_icmp .ge 50, 3) := by decide +kernel
theorem dX4_digest_56 : decode cX4_digest 56 = .ok (.aload_n 3, 1) := by decide +kernel
theorem dX4_digest_57 : decode cX4_digest 57 = .ok (.iload 5, 2) := by decide +kernel
theorem dX4_digest_59 : decode cX4_digest 59 = .ok (.aaload, 1) := by decide +kernel
theorem dX4_digest_60 : decode cX4_digest 60 = .ok (.astore 6, 2) := by decide +kernel
theorem dX4_digest_62 : decode cX4_digest 62 = .ok (.iconst 0, 1) := by decide +kernel
theorem dX4_digest_63 : decode cX4_digest 63 = .ok (.istore 7, 2) := by decide +kernel
theorem dX4_digest_65 : decode cX4_digest 65 = .ok (.iload 7, 2) := by decide +kernel
theorem dX4_digest_67 : decode cX4_digest 67 = .ok (.bipush 6, 2) := by decide +kernel
theorem dX4_digest_69 : decode cX4_digest 69 = .ok (.if_icmp .ge 28, 3) := by decide +kernel
theorem dX4_digest_72 : decode cX4_digest 72 = .ok (.lload_n 1, 1) := by decide +kernel
theorem dX4_digest_73 : decode cX4_digest 73 = .ok (.ldc2_w 190, 3) := by decide +kernel
theorem dX4_digest_76 : decode cX4_digest 76 = .ok (.lmul, 1) := by decide +kernel
theorem dX4_digest_77 : decode cX4_digest 77 = .ok (.aload_n 0, 1) := by decide +kernel
theorem dX4_digest_78 : decode cX4_digest 78 = .ok (.getfield 10, 3) := by decide +kernel
theorem dX4_digest_81 : decode cX4_digest 81 = .ok (.aload 6, 2) := by decide +kernel
theorem dX4_digest_83 : decode cX4_digest 83 = .ok (.iload 7, 2) := by decide +kernel
theorem dX4_digest_85 : decode cX4_digest 85 = .ok (.invokevirtual 140, 3) := by decide +kernel
theorem dX4_digest_88 : decode cX4_digest 88 = .ok (.i2l, 1) := by decide +kernel
theorem dX4_digest_89 : decode cX4_digest 89 = .ok (.ladd, 1) := by decide +kernel
theorem dX4_digest_90 : decode cX4_digest 90 = .ok (.lstore_n 1, 1) := by decide +kernel
theorem dX4_digest_91 : decode cX4_digest 91 = .ok (.iinc 7 1, 3) := by decide +kernel
theorem dX4_digest_94 : decode cX4_digest 94 = .ok (.goto (-29), 3) := by decide +kernel
theorem dX4_digest_97 : decode cX4_digest 97 = .ok (.iinc 5 1, 3) := by decide +kernel
theorem dX4_digest_100 : decode cX4_digest 100 = .ok (.goto (-51), 3) := by decide +kernel
theorem dX4_digest_103 : decode cX4_digest 103 = .ok (.iconst 0, 1) := by decide +kernel
theorem dX4_digest_104 : decode cX4_digest 104 = .ok (.istore_n 3, 1) := by decide +kernel
theorem dX4_digest_105 : decode cX4_digest 105 = .ok (.iload_n 3, 1) := by decide +kernel
theorem dX4_digest_106 : decode cX4_digest 106 = .ok (.aload_n 0, 1) := by decide +kernel
theorem dX4_digest_107 : decode cX4_digest 107 = .ok (.getfield 10, 3) := by decide +kernel
theorem dX4_digest_110 : decode cX4_digest 110 = .ok (.getfield 196, 3) := by decide +kernel
theorem dX4_digest_113 : decode cX4_digest 113 = .ok (.arraylength, 1) := by decide +kernel
theorem dX4_digest_114 : decode cX4_digest 114 = .ok (.if_icmp .ge 57, 3) := by decide +kernel
theorem dX4_digest_117 : decode cX4_digest 117 = .ok (.iload_n 3, 1) := by decide +kernel
theorem dX4_digest_118 : decode cX4_digest 118 = .ok (.aload_n 0, 1) := by decide +kernel
theorem dX4_digest_119 : decode cX4_digest 119 = .ok (.getfield 10, 3) := by decide +kernel
theorem dX4_digest_122 : decode cX4_digest 122 = .ok (.getfield 101, 3) := by decide +kernel
theorem dX4_digest_125 : decode cX4_digest 125 = .ok (.if_icmp .ge 46, 3) := by decide +kernel
theorem dX4_digest_128 : decode cX4_digest 128 = .ok (.iconst 0, 1) := by decide +kernel
theorem dX4_digest_129 : decode cX4_digest 129 = .ok (.istore 4, 2) := by decide +kernel
theorem dX4_digest_131 : decode cX4_digest 131 = .ok (.iload 4, 2) := by decide +kernel
theorem dX4_digest_133 : decode cX4_digest 133 = .ok (.iconst 2, 1) := by decide +kernel
theorem dX4_digest_134 : decode cX4_digest 134 = .ok (.if_icmp .ge 31, 3) := by decide +kernel
theorem dX4_digest_137 : decode cX4_digest 137 = .ok (.lload_n 1, 1) := by decide +kernel
theorem dX4_digest_138 : decode cX4_digest 138 = .ok (.ldc2_w 190, 3) := by decide +kernel
theorem dX4_digest_141 : decode cX4_digest 141 = .ok (.lmul, 1) := by decide +kernel
theorem dX4_digest_142 : decode cX4_digest 142 = .ok (.aload_n 0, 1) := by decide +kernel
theorem dX4_digest_143 : decode cX4_digest 143 = .ok (.getfield 10, 3) := by decide +kernel
theorem dX4_digest_146 : decode cX4_digest 146 = .ok (.getfield 196, 3) := by decide +kernel
theorem dX4_digest_149 : decode cX4_digest 149 = .ok (.iload_n 3, 1) := by decide +kernel
theorem dX4_digest_150 : decode cX4_digest 150 = .ok (.aaload, 1) := by decide +kernel
theorem dX4_digest_151 : decode cX4_digest 151 = .ok (.iload 4, 2) := by decide +kernel
theorem dX4_digest_153 : decode cX4_digest 153 = .ok (.invokevirtual 123, 3) := by decide +kernel
theorem dX4_digest_156 : decode cX4_digest 156 = .ok (.i2l, 1) := by decide +kernel
theorem dX4_digest_157 : decode cX4_digest 157 = .ok (.ladd, 1) := by decide +kernel
theorem dX4_digest_158 : decode cX4_digest 158 = .ok (.lstore_n 1, 1) := by decide +kernel
theorem dX4_digest_159 : decode cX4_digest 159 = .ok (.iinc 4 1, 3) := by decide +kernel
theorem dX4_digest_162 : decode cX4_digest 162 = .ok (.goto (-31), 3) := by decide +kernel
theorem dX4_digest_165 : decode cX4_digest 165 = .ok (.iinc 3 1, 3) := by decide +kernel
theorem dX4_digest_168 : decode cX4_digest 168 = .ok (.goto (-63), 3) := by decide +kernel
theorem dX4_digest_171 : decode cX4_digest 171 = .ok (.iconst 0, 1) := by decide +kernel
theorem dX4_digest_172 : decode cX4_digest 172 = .ok (.istore_n 3, 1) := by decide +kernel
theorem dX4_digest_173 : decode cX4_digest 173 = .ok (.iload_n 3, 1) := by decide +kernel
theorem dX4_digest_174 : decode cX4_digest 174 = .ok (.aload_n 0, 1) := by decide +kernel
theorem dX4_digest_175 : decode cX4_digest 175 = .ok (.getfield 10, 3) := by decide +kernel
theorem dX4_digest_178 : decode cX4_digest 178 = .ok (.getfield 184, 3) := by decide +kernel
theorem dX4_digest_181 : decode cX4_digest 181 = .ok (.arraylength, 1) := by decide +kernel
theorem dX4_digest_182 : decode cX4_digest 182 = .ok (.if_icmp .ge 58, 3) := by decide +kernel
theorem dX4_digest_185 : decode cX4_digest 185 = .ok (.iload_n 3, 1) := by decide +kernel
theorem dX4_digest_186 : decode cX4_digest 186 = .ok (.aload_n 0, 1) := by decide +kernel
theorem dX4_digest_187 : decode cX4_digest 187 = .ok (.getfield 10, 3) := by decide +kernel
theorem dX4_digest_190 : decode cX4_digest 190 = .ok (.getfield 45, 3) := by decide +kernel
theorem dX4_digest_193 : decode cX4_digest 193 = .ok (.if_icmp .ge 47, 3) := by decide +kernel
theorem dX4_digest_196 : decode cX4_digest 196 = .ok (.iconst 0, 1) := by decide +kernel
theorem dX4_digest_197 : decode cX4_digest 197 = .ok (.istore 4, 2) := by decide +kernel
theorem dX4_digest_199 : decode cX4_digest 199 = .ok (.iload 4, 2) := by decide +kernel
theorem dX4_digest_201 : decode cX4_digest 201 = .ok (.bipush 11, 2) := by decide +kernel
theorem dX4_digest_203 : decode cX4_digest 203 = .ok (.if_icmp .ge 31, 3) := by decide +kernel
theorem dX4_digest_206 : decode cX4_digest 206 = .ok (.lload_n 1, 1) := by decide +kernel
theorem dX4_digest_207 : decode cX4_digest 207 = .ok (.ldc2_w 190, 3) := by decide +kernel
theorem dX4_digest_210 : decode cX4_digest 210 = .ok (.lmul, 1) := by decide +kernel
theorem dX4_digest_211 : decode cX4_digest 211 = .ok (.aload_n 0, 1) := by decide +kernel
theorem dX4_digest_212 : decode cX4_digest 212 = .ok (.getfield 10, 3) := by decide +kernel
theorem dX4_digest_215 : decode cX4_digest 215 = .ok (.getfield 184, 3) := by decide +kernel
theorem dX4_digest_218 : decode cX4_digest 218 = .ok (.iload_n 3, 1) := by decide +kernel
theorem dX4_digest_219 : decode cX4_digest 219 = .ok (.aaload, 1) := by decide +kernel
theorem dX4_digest_220 : decode cX4_digest 220 = .ok (.iload 4, 2) := by decide +kernel
theorem dX4_digest_222 : decode cX4_digest 222 = .ok (.invokevirtual 84, 3) := by decide +kernel
theorem dX4_digest_225 : decode cX4_digest 225 = .ok (.i2l, 1) := by decide +kernel
theorem dX4_digest_226 : decode cX4_digest 226 = .ok (.ladd, 1) := by decide +kernel
theorem dX4_digest_227 : decode cX4_digest 227 = .ok (.lstore_n 1, 1) := by decide +kernel
theorem dX4_digest_228 : decode cX4_digest 228 = .ok (.iinc 4 1, 3) := by decide +kernel
theorem dX4_digest_231 : decode cX4_digest 231 = .ok (.goto (-32), 3) := by decide +kernel
theorem dX4_digest_234 : decode cX4_digest 234 = .ok (.iinc 3 1, 3) := by decide +kernel
theorem dX4_digest_237 : decode cX4_digest 237 = .ok (.goto (-64), 3) := by decide +kernel
theorem dX4_digest_240 : decode cX4_digest 240 = .ok (.lload_n 1, 1) := by decide +kernel
theorem dX4_digest_241 : decode cX4_digest 241 = .ok (.lreturn, 1) := by decide +kernel
set_option maxRecDepth 20000 in
theorem ggX4_knownBook_X3_bookNumbered : GoodIn wsX4_knownBook wsX3_bookNumbered := goodIn_r _ [8, 9, 10, 13, 14, 15, 16, 17, 18, 19, 20, 21, 22, 23, 24] (by decide +kernel) (by decide +kernel)
set_option maxRecDepth 20000 in
theorem gX4_knownBook_X3_bookNumbered : GoodIn wsX4_knownBook (wsV RX4 172 RX3 yX3_bookNumbered wsX3_bookNumbered) := goodIn_app (goodIn_of _ (by decide +kernel)) ggX4_knownBook_X3_bookNumbered
theorem dX4_knownBook_0 : decode cX4_knownBook 0 = .ok (.aload_n 0, 1) := by decide +kernel
theorem dX4_knownBook_1 : decode cX4_knownBook 1 = .ok (.getfield 10, 3) := by decide +kernel
theorem dX4_knownBook_4 : decode cX4_knownBook 4 = .ok (.iload_n 1, 1) := by decide +kernel
theorem dX4_knownBook_5 : decode cX4_knownBook 5 = .ok (.invokevirtual 172, 3) := by decide +kernel
theorem dX4_knownBook_8 : decode cX4_knownBook 8 = .ok (.astore_n 2, 1) := by decide +kernel
theorem dX4_knownBook_9 : decode cX4_knownBook 9 = .ok (.aload_n 2, 1) := by decide +kernel
theorem dX4_knownBook_10 : decode cX4_knownBook 10 = .ok (.ifnonnull 13, 3) := by decide +kernel
theorem dX4_knownBook_13 : decode cX4_knownBook 13 = .ok (.new 109, 3) := by decide +kernel
theorem dX4_knownBook_16 : decode cX4_knownBook 16 = .ok (.dup, 1) := by decide +kernel
theorem dX4_knownBook_17 : decode cX4_knownBook 17 = .ok (.ldc 200, 2) := by decide +kernel
theorem dX4_knownBook_19 : decode cX4_knownBook 19 = .ok (.invokespecial 113, 3) := by decide +kernel
theorem dX4_knownBook_22 : decode cX4_knownBook 22 = .ok (.athrow, 1) := by decide +kernel
theorem dX4_knownBook_23 : decode cX4_knownBook 23 = .ok (.aload_n 2, 1) := by decide +kernel
theorem dX4_knownBook_24 : decode cX4_knownBook 24 = .ok (.areturn, 1) := by decide +kernel
set_option maxRecDepth 20000 in
theorem ggX4_knownSewer_X3_sewerNumbered : GoodIn wsX4_knownSewer wsX3_sewerNumbered := goodIn_r _ [8, 9, 10, 13, 14, 15, 16, 17, 18, 19, 20, 21, 22, 23, 24] (by decide +kernel) (by decide +kernel)
set_option maxRecDepth 20000 in
theorem gX4_knownSewer_X3_sewerNumbered : GoodIn wsX4_knownSewer (wsV RX4 202 RX3 yX3_sewerNumbered wsX3_sewerNumbered) := goodIn_app (goodIn_of _ (by decide +kernel)) ggX4_knownSewer_X3_sewerNumbered
theorem dX4_knownSewer_0 : decode cX4_knownSewer 0 = .ok (.aload_n 0, 1) := by decide +kernel
theorem dX4_knownSewer_1 : decode cX4_knownSewer 1 = .ok (.getfield 10, 3) := by decide +kernel
theorem dX4_knownSewer_4 : decode cX4_knownSewer 4 = .ok (.iload_n 1, 1) := by decide +kernel
theorem dX4_knownSewer_5 : decode cX4_knownSewer 5 = .ok (.invokevirtual 202, 3) := by decide +kernel
theorem dX4_knownSewer_8 : decode cX4_knownSewer 8 = .ok (.astore_n 2, 1) := by decide +kernel
theorem dX4_knownSewer_9 : decode cX4_knownSewer 9 = .ok (.aload_n 2, 1) := by decide +kernel
theorem dX4_knownSewer_10 : decode cX4_knownSewer 10 = .ok (.ifnonnull 13, 3) := by decide +kernel
theorem dX4_knownSewer_13 : decode cX4_knownSewer 13 = .ok (.new 109, 3) := by decide +kernel
theorem dX4_knownSewer_16 : decode cX4_knownSewer 16 = .ok (.dup, 1) := by decide +kernel
theorem dX4_knownSewer_17 : decode cX4_knownSewer 17 = .ok (.ldc 205, 2) := by decide +kernel
theorem dX4_knownSewer_19 : decode cX4_knownSewer 19 = .ok (.invokespecial 113, 3) := by decide +kernel
theorem dX4_knownSewer_22 : decode cX4_knownSewer 22 = .ok (.athrow, 1) := by decide +kernel
theorem dX4_knownSewer_23 : decode cX4_knownSewer 23 = .ok (.aload_n 2, 1) := by decide +kernel
theorem dX4_knownSewer_24 : decode cX4_knownSewer 24 = .ok (.areturn, 1) := by decide +kernel
theorem dX4_knownFrame_0 : decode cX4_knownFrame 0 = .ok (.iload_n 1, 1) := by decide +kernel
theorem dX4_knownFrame_1 : decode cX4_knownFrame 1 = .ok (.ifCond .lt 15, 3) := by decide +kernel
theorem dX4_knownFrame_4 : decode cX4_knownFrame 4 = .ok (.iload_n 1, 1) := by decide +kernel
theorem dX4_knownFrame_5 : decode cX4_knownFrame 5 = .ok (.aload_n 0, 1) := by decide +kernel
theorem dX4_knownFrame_6 : decode cX4_knownFrame 6 = .ok (.getfield 10, 3) := by decide +kernel
theorem dX4_knownFrame_9 : decode cX4_knownFrame 9 = .ok (.getfield 192, 3) := by decide +kernel
theorem dX4_knownFrame_12 : decode cX4_knownFrame 12 = .ok (.arraylength, 1) := by decide +kernel
theorem dX4_knownFrame_13 : decode cX4_knownFrame 13 = .ok (.if_icmp .lt 13, 3) := by decide +kernel
theorem dX4_knownFrame_16 : decode cX4_knownFrame 16 = .ok (.new 109, 3) := by decide +kernel
theorem dX4_knownFrame_19 : decode cX4_knownFrame 19 = .ok (.dup, 1) := by decide +kernel
theorem dX4_knownFrame_20 : decode cX4_knownFrame 20 = .ok (.ldc 111, 2) := by decide +kernel
theorem dX4_knownFrame_22 : decode cX4_knownFrame 22 = .ok (.invokespecial 113, 3) := by decide +kernel
theorem dX4_knownFrame_25 : decode cX4_knownFrame 25 = .ok (.athrow, 1) := by decide +kernel
theorem dX4_knownFrame_26 : decode cX4_knownFrame 26 = .ok (.aload_n 0, 1) := by decide +kernel
theorem dX4_knownFrame_27 : decode cX4_knownFrame 27 = .ok (.getfield 10, 3) := by decide +kernel
theorem dX4_knownFrame_30 : decode cX4_knownFrame 30 = .ok (.getfield 192, 3) := by decide +kernel
theorem dX4_knownFrame_33 : decode cX4_knownFrame 33 = .ok (.iload_n 1, 1) := by decide +kernel
theorem dX4_knownFrame_34 : decode cX4_knownFrame 34 = .ok (.aaload, 1) := by decide +kernel
theorem dX4_knownFrame_35 : decode cX4_knownFrame 35 = .ok (.areturn, 1) := by decide +kernel
theorem dX4_checkKind_0 : decode cX4_checkKind 0 = .ok (.iload_n 0, 1) := by decide +kernel
theorem dX4_checkKind_1 : decode cX4_checkKind 1 = .ok (.ifCond .lt 8, 3) := by decide +kernel
theorem dX4_checkKind_4 : decode cX4_checkKind 4 = .ok (.iload_n 0, 1) := by decide +kernel
theorem dX4_checkKind_5 : decode cX4_checkKind 5 = .ok (.iload_n 1, 1) := by decide +kernel
theorem dX4_checkKind_6 : decode cX4_checkKind 6 = .ok (.if_icmp .lt 13, 3) := by decide +kernel
theorem dX4_checkKind_9 : decode cX4_checkKind 9 = .ok (.new 109, 3) := by decide +kernel
theorem dX4_checkKind_12 : decode cX4_checkKind 12 = .ok (.dup, 1) := by decide +kernel
theorem dX4_checkKind_13 : decode cX4_checkKind 13 = .ok (.ldc 207, 2) := by decide +kernel
theorem dX4_checkKind_15 : decode cX4_checkKind 15 = .ok (.invokespecial 113, 3) := by decide +kernel
theorem dX4_checkKind_18 : decode cX4_checkKind 18 = .ok (.athrow, 1) := by decide +kernel
theorem dX4_checkKind_19 : decode cX4_checkKind 19 = .ok (.return_, 1) := by decide +kernel
theorem dX4_checkHours_0 : decode cX4_checkHours 0 = .ok (.iload_n 0, 1) := by decide +kernel
theorem dX4_checkHours_1 : decode cX4_checkHours 1 = .ok (.iconst 1, 1) := by decide +kernel
theorem dX4_checkHours_2 : decode cX4_checkHours 2 = .ok (.if_icmp .lt 9, 3) := by decide +kernel
theorem dX4_checkHours_5 : decode cX4_checkHours 5 = .ok (.iload_n 0, 1) := by decide +kernel
theorem dX4_checkHours_6 : decode cX4_checkHours 6 = .ok (.bipush 120, 2) := by decide +kernel
theorem dX4_checkHours_8 : decode cX4_checkHours 8 = .ok (.if_icmp .le 13, 3) := by decide +kernel
theorem dX4_checkHours_11 : decode cX4_checkHours 11 = .ok (.new 19, 3) := by decide +kernel
theorem dX4_checkHours_14 : decode cX4_checkHours 14 = .ok (.dup, 1) := by decide +kernel
theorem dX4_checkHours_15 : decode cX4_checkHours 15 = .ok (.ldc 209, 2) := by decide +kernel
theorem dX4_checkHours_17 : decode cX4_checkHours 17 = .ok (.invokespecial 23, 3) := by decide +kernel
theorem dX4_checkHours_20 : decode cX4_checkHours 20 = .ok (.athrow, 1) := by decide +kernel
theorem dX4_checkHours_21 : decode cX4_checkHours 21 = .ok (.return_, 1) := by decide +kernel
theorem dX4_priceOf_0 : decode cX4_priceOf 0 = .ok (.iload_n 0, 1) := by decide +kernel
theorem dX4_priceOf_1 : decode cX4_priceOf 1 = .ok (.lookupswitch 37 #[(0, 27), (1, 33)], 27) := by decide +kernel
theorem dX4_priceOf_28 : decode cX4_priceOf 28 = .ok (.iload_n 1, 1) := by decide +kernel
theorem dX4_priceOf_29 : decode cX4_priceOf 29 = .ok (.iconst 4, 1) := by decide +kernel
theorem dX4_priceOf_30 : decode cX4_priceOf 30 = .ok (.iadd, 1) := by decide +kernel
theorem dX4_priceOf_31 : decode cX4_priceOf 31 = .ok (.iconst 5, 1) := by decide +kernel
theorem dX4_priceOf_32 : decode cX4_priceOf 32 = .ok (.idiv, 1) := by decide +kernel
theorem dX4_priceOf_33 : decode cX4_priceOf 33 = .ok (.ireturn, 1) := by decide +kernel
theorem dX4_priceOf_34 : decode cX4_priceOf 34 = .ok (.iconst 3, 1) := by decide +kernel
theorem dX4_priceOf_35 : decode cX4_priceOf 35 = .ok (.iload_n 1, 1) := by decide +kernel
theorem dX4_priceOf_36 : decode cX4_priceOf 36 = .ok (.imul, 1) := by decide +kernel
theorem dX4_priceOf_37 : decode cX4_priceOf 37 = .ok (.ireturn, 1) := by decide +kernel
theorem dX4_priceOf_38 : decode cX4_priceOf 38 = .ok (.iconst 2, 1) := by decide +kernel
theorem dX4_priceOf_39 : decode cX4_priceOf 39 = .ok (.iload_n 1, 1) := by decide +kernel
theorem dX4_priceOf_40 : decode cX4_priceOf 40 = .ok (.imul, 1) := by decide +kernel
theorem dX4_priceOf_41 : decode cX4_priceOf 41 = .ok (.ireturn, 1) := by decide +kernel
theorem dX4_firstDoneAhead_0 : decode cX4_firstDoneAhead 0 = .ok (.iconst 0, 1) := by decide +kernel
theorem dX4_firstDoneAhead_1 : decode cX4_firstDoneAhead 1 = .ok (.istore_n 1, 1) := by decide +kernel
theorem dX4_firstDoneAhead_2 : decode cX4_firstDoneAhead 2 = .ok (.iload_n 1, 1) := by decide +kernel
theorem dX4_firstDoneAhead_3 : decode cX4_firstDoneAhead 3 = .ok (.aload_n 0, 1) := by decide +kernel
theorem dX4_firstDoneAhead_4 : decode cX4_firstDoneAhead 4 = .ok (.getfield 10, 3) := by decide +kernel
theorem dX4_firstDoneAhead_7 : decode cX4_firstDoneAhead 7 = .ok (.getfield 184, 3) := by decide +kernel
theorem dX4_firstDoneAhead_10 : decode cX4_firstDoneAhead 10 = .ok (.arraylength, 1) := by decide +kernel
theorem dX4_firstDoneAhead_11 : decode cX4_firstDoneAhead 11 = .ok (.if_icmp .ge 55, 3) := by decide +kernel
theorem dX4_firstDoneAhead_14 : decode cX4_firstDoneAhead 14 = .ok (.iload_n 1, 1) := by decide +kernel
theorem dX4_firstDoneAhead_15 : decode cX4_firstDoneAhead 15 = .ok (.aload_n 0, 1) := by decide +kernel
theorem dX4_firstDoneAhead_16 : decode cX4_firstDoneAhead 16 = .ok (.getfield 16, 3) := by decide +kernel
theorem dX4_firstDoneAhead_19 : decode cX4_firstDoneAhead 19 = .ok (.getfield 184, 3) := by decide +kernel
theorem dX4_firstDoneAhead_22 : decode cX4_firstDoneAhead 22 = .ok (.arraylength, 1) := by decide +kernel
theorem dX4_firstDoneAhead_23 : decode cX4_firstDoneAhead 23 = .ok (.if_icmp .ge 43, 3) := by decide +kernel
theorem dX4_firstDoneAhead_26 : decode cX4_firstDoneAhead 26 = .ok (.aload_n 0, 1) := by decide +kernel
theorem dX4_firstDoneAhead_27 : decode cX4_firstDoneAhead 27 = .ok (.getfield 10, 3) := by decide +kernel
theorem dX4_firstDoneAhead_30 : decode cX4_firstDoneAhead 30 = .ok (.getfield 184, 3) := by decide +kernel
theorem dX4_firstDoneAhead_33 : decode cX4_firstDoneAhead 33 = .ok (.iload_n 1, 1) := by decide +kernel
theorem dX4_firstDoneAhead_34 : decode cX4_firstDoneAhead 34 = .ok (.aaload, 1) := by decide +kernel
theorem dX4_firstDoneAhead_35 : decode cX4_firstDoneAhead 35 = .ok (.getfield 56, 3) := by decide +kernel
theorem dX4_firstDoneAhead_38 : decode cX4_firstDoneAhead 38 = .ok (.iconst 5, 1) := by decide +kernel
theorem dX4_firstDoneAhead_39 : decode cX4_firstDoneAhead 39 = .ok (.if_icmp .ge 21, 3) := by decide +kernel
theorem dX4_firstDoneAhead_42 : decode cX4_firstDoneAhead 42 = .ok (.aload_n 0, 1) := by decide +kernel
theorem dX4_firstDoneAhead_43 : decode cX4_firstDoneAhead 43 = .ok (.getfield 16, 3) := by decide +kernel
theorem dX4_firstDoneAhead_46 : decode cX4_firstDoneAhead 46 = .ok (.getfield 184, 3) := by decide +kernel
theorem dX4_firstDoneAhead_49 : decode cX4_firstDoneAhead 49 = .ok (.iload_n 1, 1) := by decide +kernel
theorem dX4_firstDoneAhead_50 : decode cX4_firstDoneAhead 50 = .ok (.aaload, 1) := by decide +kernel
theorem dX4_firstDoneAhead_51 : decode cX4_firstDoneAhead 51 = .ok (.getfield 56, 3) := by decide +kernel
theorem dX4_firstDoneAhead_54 : decode cX4_firstDoneAhead 54 = .ok (.iconst 5, 1) := by decide +kernel
theorem dX4_firstDoneAhead_55 : decode cX4_firstDoneAhead 55 = .ok (.if_icmp .ne 5, 3) := by decide +kernel
theorem dX4_firstDoneAhead_58 : decode cX4_firstDoneAhead 58 = .ok (.iload_n 1, 1) := by decide +kernel
theorem dX4_firstDoneAhead_59 : decode cX4_firstDoneAhead 59 = .ok (.ireturn, 1) := by decide +kernel
theorem dX4_firstDoneAhead_60 : decode cX4_firstDoneAhead 60 = .ok (.iinc 1 1, 3) := by decide +kernel
theorem dX4_firstDoneAhead_63 : decode cX4_firstDoneAhead 63 = .ok (.goto (-61), 3) := by decide +kernel
theorem dX4_firstDoneAhead_66 : decode cX4_firstDoneAhead 66 = .ok (.iconst (-1), 1) := by decide +kernel
theorem dX4_firstDoneAhead_67 : decode cX4_firstDoneAhead 67 = .ok (.ireturn, 1) := by decide +kernel
set_option maxRecDepth 20000 in
theorem ggX4_sewnAheadWith_X3_setTo : GoodIn wsX4_sewnAheadWith wsX3_setTo := goodIn_r _ [9, 10, 11, 12, 13, 14, 15, 16, 17, 18, 19, 20, 21, 22, 23, 24, 25, 26, 27, 28, 29, 30, 31, 32, 33, 34, 35, 36, 37, 38, 39, 40, 41, 42, 43, 44, 45, 46, 47, 48, 49, 50, 51, 52, 53, 159, 160, 161, 162, 163, 164, 165, 166, 167, 168, 169, 170, 171, 172, 173, 174, 175, 176, 177, 178, 179, 180, 181, 182, 183, 156, 157, 158, 184, 185, 186, 187] (by decide +kernel) (by decide +kernel)
set_option maxRecDepth 20000 in
theorem gX4_sewnAheadWith_X3_setTo : GoodIn wsX4_sewnAheadWith (wsV RX4 168 RX3 yX3_setTo wsX3_setTo) := goodIn_app (goodIn_of _ (by decide +kernel)) ggX4_sewnAheadWith_X3_setTo
set_option maxRecDepth 20000 in
theorem ggX4_sewnAheadWith_X3_sewerNumbered : GoodIn wsX4_sewnAheadWith wsX3_sewerNumbered := goodIn_r _ [57, 14, 11, 159, 160, 161, 162, 163, 164, 165, 166, 167, 168, 169, 170] (by decide +kernel) (by decide +kernel)
set_option maxRecDepth 20000 in
theorem gX4_sewnAheadWith_X3_sewerNumbered : GoodIn wsX4_sewnAheadWith (wsV RX4 202 RX3 yX3_sewerNumbered wsX3_sewerNumbered) := goodIn_app (goodIn_of _ (by decide +kernel)) ggX4_sewnAheadWith_X3_sewerNumbered
set_option maxRecDepth 20000 in
theorem ggX4_sewnAheadWith_X3_letHoursGo : GoodIn wsX4_sewnAheadWith wsX3_letHoursGo := goodIn_r _ [61, 62, 63, 64, 8, 65, 12, 66, 15, 67, 68, 69, 70, 10, 71, 72, 73, 74, 75, 19, 76, 77, 78, 25, 79, 80, 81, 82, 83, 27, 28, 84, 85, 86, 87, 38, 29, 30, 88, 89, 90, 91, 18, 92, 93, 94, 95, 96, 97, 98, 99, 100, 101, 102, 103, 37, 104, 105, 106, 107, 108, 17, 109, 110, 111, 112, 20, 113, 114, 21, 115, 116, 117, 118, 13, 119, 120, 121, 122, 11, 123, 124, 125, 126, 127, 128, 129, 130, 131, 34, 132, 133, 134, 135, 33, 35, 136, 137, 138, 139, 32, 140, 141, 142, 143, 31, 144, 145, 146, 147, 148, 149, 150, 151, 152, 153, 159, 160, 161, 162, 163, 164, 165, 166, 167, 168, 169, 170, 184, 185, 186, 187, 171, 172, 173, 174, 175, 176, 177, 178, 179, 180, 181, 182, 183, 156, 157, 158] (by decide +kernel) (by decide +kernel)
set_option maxRecDepth 20000 in
theorem gX4_sewnAheadWith_X3_letHoursGo : GoodIn wsX4_sewnAheadWith (wsV RX4 163 RX3 yX3_letHoursGo wsX3_letHoursGo) := goodIn_app (goodIn_of _ (by decide +kernel)) ggX4_sewnAheadWith_X3_letHoursGo
theorem dX4_sewnAheadWith_0 : decode cX4_sewnAheadWith 0 = .ok (.aload_n 0, 1) := by decide +kernel
theorem dX4_sewnAheadWith_1 : decode cX4_sewnAheadWith 1 = .ok (.getfield 16, 3) := by decide +kernel
theorem dX4_sewnAheadWith_4 : decode cX4_sewnAheadWith 4 = .ok (.aload_n 0, 1) := by decide +kernel
theorem dX4_sewnAheadWith_5 : decode cX4_sewnAheadWith 5 = .ok (.getfield 10, 3) := by decide +kernel
theorem dX4_sewnAheadWith_8 : decode cX4_sewnAheadWith 8 = .ok (.invokevirtual 168, 3) := by decide +kernel
theorem dX4_sewnAheadWith_11 : decode cX4_sewnAheadWith 11 = .ok (.aload_n 0, 1) := by decide +kernel
theorem dX4_sewnAheadWith_12 : decode cX4_sewnAheadWith 12 = .ok (.getfield 16, 3) := by decide +kernel
theorem dX4_sewnAheadWith_15 : decode cX4_sewnAheadWith 15 = .ok (.iload_n 1, 1) := by decide +kernel
theorem dX4_sewnAheadWith_16 : decode cX4_sewnAheadWith 16 = .ok (.invokevirtual 202, 3) := by decide +kernel
theorem dX4_sewnAheadWith_19 : decode cX4_sewnAheadWith 19 = .ok (.astore_n 3, 1) := by decide +kernel
theorem dX4_sewnAheadWith_20 : decode cX4_sewnAheadWith 20 = .ok (.aload_n 3, 1) := by decide +kernel
theorem dX4_sewnAheadWith_21 : decode cX4_sewnAheadWith 21 = .ok (.ifnull 8, 3) := by decide +kernel
theorem dX4_sewnAheadWith_24 : decode cX4_sewnAheadWith 24 = .ok (.aload_n 3, 1) := by decide +kernel
theorem dX4_sewnAheadWith_25 : decode cX4_sewnAheadWith 25 = .ok (.iload_n 2, 1) := by decide +kernel
theorem dX4_sewnAheadWith_26 : decode cX4_sewnAheadWith 26 = .ok (.putfield 120, 3) := by decide +kernel
theorem dX4_sewnAheadWith_29 : decode cX4_sewnAheadWith 29 = .ok (.aload_n 0, 1) := by decide +kernel
theorem dX4_sewnAheadWith_30 : decode cX4_sewnAheadWith 30 = .ok (.getfield 16, 3) := by decide +kernel
theorem dX4_sewnAheadWith_33 : decode cX4_sewnAheadWith 33 = .ok (.bipush 12, 2) := by decide +kernel
theorem dX4_sewnAheadWith_35 : decode cX4_sewnAheadWith 35 = .ok (.invokevirtual 163, 3) := by decide +kernel
theorem dX4_sewnAheadWith_38 : decode cX4_sewnAheadWith 38 = .ok (.pop, 1) := by decide +kernel
theorem dX4_sewnAheadWith_39 : decode cX4_sewnAheadWith 39 = .ok (.aload_n 0, 1) := by decide +kernel
theorem dX4_sewnAheadWith_40 : decode cX4_sewnAheadWith 40 = .ok (.getfield 16, 3) := by decide +kernel
theorem dX4_sewnAheadWith_43 : decode cX4_sewnAheadWith 43 = .ok (.getfield 211, 3) := by decide +kernel
theorem dX4_sewnAheadWith_46 : decode cX4_sewnAheadWith 46 = .ok (.ireturn, 1) := by decide +kernel
end
section
section YF
theorem ykd_bk {o i : Nat} (ho : o = 0 ∨ o = 27) (hi : i < 15) : ykd (o + 4 + i) = 0 := by
  have h1 : o + 4 + i < 54 := by omega
  have h2 : (o + 4 + i) % 27 = 4 + i := by omega
  unfold ykd
  rw [if_pos h1, if_neg (by omega), if_neg (by omega), if_pos (by omega)]
theorem ykd_sw {o i : Nat} (ho : o = 0 ∨ o = 27) (hi : i < 5) : ykd (o + 19 + i) = 2 := by
  have h1 : o + 19 + i < 54 := by omega
  have h2 : (o + 19 + i) % 27 = 19 + i := by omega
  unfold ykd
  rw [if_pos h1, if_neg (by omega), if_neg (by omega), if_neg (by omega), if_pos (by omega)]
theorem ykd_fr {o i : Nat} (ho : o = 0 ∨ o = 27) (hi : i < 3) : ykd (o + 24 + i) = 1 := by
  have h1 : o + 24 + i < 54 := by omega
  have h2 : (o + 24 + i) % 27 = 24 + i := by omega
  unfold ykd
  rw [if_pos h1, if_neg (by omega), if_neg (by omega), if_neg (by omega), if_neg (by omega)]
theorem ykd_w {o : Nat} (ho : o = 0 ∨ o = 27) : ykd o = 3 := by rcases ho with rfl | rfl <;> rfl
theorem ykd_w1 {o : Nat} (ho : o = 0 ∨ o = 27) : ykd (o + 1) = 7 := by rcases ho with rfl | rfl <;> rfl
theorem ykd_w2 {o : Nat} (ho : o = 0 ∨ o = 27) : ykd (o + 2) = 8 := by rcases ho with rfl | rfl <;> rfl
theorem ykd_w3 {o : Nat} (ho : o = 0 ∨ o = 27) : ykd (o + 3) = 9 := by rcases ho with rfl | rfl <;> rfl
theorem ykd_now : ykd 0 = 3 := rfl
theorem ykd_ahead : ykd 27 = 3 := rfl
theorem ykd_54 : ykd 54 = 4 := rfl
theorem yel_bk {o i : Nat} (ho : o = 0 ∨ o = 27) : yel (o + 1) i = o + 4 + i := by unfold yel; rw [if_pos (ykd_w1 ho)]
theorem yel_sw {o i : Nat} (ho : o = 0 ∨ o = 27) : yel (o + 2) i = o + 19 + i := by unfold yel; rw [ykd_w2 ho, if_neg (by decide), if_pos rfl]
theorem yel_fr {o i : Nat} (ho : o = 0 ∨ o = 27) : yel (o + 3) i = o + 24 + i := by unfold yel; rw [ykd_w3 ho, if_neg (by decide), if_neg (by decide)]
theorem yrn0 {j k : Nat} (h : ykd j = 0) : yrf j k = none := by simp [yrf, h]
theorem yrn1 {j k : Nat} (h : ykd j = 1) : yrf j k = none := by simp [yrf, h]
theorem yrn2 {j k : Nat} (h : ykd j = 2) : yrf j k = none := by simp [yrf, h]
theorem yrn3 {j k : Nat} (h : ykd j = 3) (hk : ¬ k < 3) : yrf j k = none := by simp [yrf, h, hk]
theorem yvi {adr : Nat → Nat} {M : yM} {j k : Nat} (h : yrf j k = none) : yvl adr M j k = .int (M j k) := by simp [yvl, h]
theorem yvi0 {adr : Nat → Nat} {M : yM} {j k : Nat} (h : ykd j = 0) : yvl adr M j k = .int (M j k) := yvi (yrn0 h)
theorem yvi1 {adr : Nat → Nat} {M : yM} {j k : Nat} (h : ykd j = 1) : yvl adr M j k = .int (M j k) := yvi (yrn1 h)
theorem yvi2 {adr : Nat → Nat} {M : yM} {j k : Nat} (h : ykd j = 2) : yvl adr M j k = .int (M j k) := yvi (yrn2 h)
theorem yvi3 {adr : Nat → Nat} {M : yM} {j k : Nat} (h : ykd j = 3) (hk : ¬ k < 3) : yvl adr M j k = .int (M j k) := yvi (yrn3 h hk)
theorem yv3_books {adr : Nat → Nat} {M : yM} {j : Nat} (h : ykd j = 3) : yvl adr M j 0 = .ref (adr (j + 1)) := by simp [yvl, yrf, h]
theorem yv3_sewers {adr : Nat → Nat} {M : yM} {j : Nat} (h : ykd j = 3) : yvl adr M j 1 = .ref (adr (j + 2)) := by simp [yvl, yrf, h]
theorem yv3_frames {adr : Nat → Nat} {M : yM} {j : Nat} (h : ykd j = 3) : yvl adr M j 2 = .ref (adr (j + 3)) := by simp [yvl, yrf, h]
theorem yv4_now {adr : Nat → Nat} {M : yM} : yvl adr M 54 0 = .ref (adr 0) := rfl
theorem yv4_ahead {adr : Nat → Nat} {M : yM} : yvl adr M 54 1 = .ref (adr 27) := rfl
theorem yinc_ok {x : Int32} {a n : Nat} {z : Int} (h : x = nI a) (hz : Int32.ofInt z = nI n) : x + Int32.ofInt z = nI (a + n) := by rw [h, hz, nI_add]
section
variable {K : yK} {l : Launch} {R : Room} {D : va_G} {cy : Nat → ClassId} {adr : Nat → Nat} {nL cells slots : Nat} {Q : State → Prop} {M : yM} {E : va_W} {lv : List (Nat × Value)} {pc : Nat} {st : List Value} {cc : ByteArray} {own : String} {Ts : List Cond} {ret : Option FieldType}
theorem y_iaddN (C0 : Cx K cc own Ts nL ret D cy) {x y : Int32} {a b : Nat} (ha : x = nI a) (hb : y = nI b) (d : decode cc pc = .ok (.iadd, 1)) (k : Y K l R D cy adr nL cells slots Q M E lv (pc + 1) (.int (nI (a + b)) :: st)) : Y K l R D cy adr nL cells slots Q M E lv pc (.int y :: .int x :: st) := by
  subst ha; subst hb
  refine y_iadd C0 d ?_
  rw [nI_add]; exact k
theorem y_imulN (C0 : Cx K cc own Ts nL ret D cy) {x y : Int32} {a b : Nat} (ha : x = nI a) (hb : y = nI b) (d : decode cc pc = .ok (.imul, 1)) (k : Y K l R D cy adr nL cells slots Q M E lv (pc + 1) (.int (nI (a * b)) :: st)) : Y K l R D cy adr nL cells slots Q M E lv pc (.int y :: .int x :: st) := by
  subst ha; subst hb
  refine y_imul C0 d ?_
  rw [pk_mul]; exact k
theorem y_top {x y : Int32} (h : x = y) (k : Y K l R D cy adr nL cells slots Q M E lv pc (.int y :: st)) : Y K l R D cy adr nL cells slots Q M E lv pc (.int x :: st) := by subst h; exact k
theorem y_topr {x y : Nat} (h : x = y) (k : Y K l R D cy adr nL cells slots Q M E lv pc (.ref (adr y) :: st)) : Y K l R D cy adr nL cells slots Q M E lv pc (.ref (adr x) :: st) := by subst h; exact k
theorem y_mem {M' : yM} (h : M = M') (k : Y K l R D cy adr nL cells slots Q M' E lv pc st) : Y K l R D cy adr nL cells slots Q M E lv pc st := by subst h; exact k
end
/-! rows of ints -/
abbrev Rw : Type := Nat → Int32
def ru (f : Rw) (k : Nat) (v : Int32) : Rw := fun j => if j = k then v else f j
theorem ru_s {f : Rw} {k : Nat} {v : Int32} : ru f k v k = v := by simp [ru]
theorem ru_n {f : Rw} {k j : Nat} {v : Int32} (h : j ≠ k) : ru f k v j = f j := by simp [ru, h]
theorem ru_i {f : Rw} {k j : Nat} {v : Int32} : ru f k v j = if j = k then v else f j := rfl
theorem yst_ru {M : yM} {j k : Nat} {v : Int32} : yst M j k v = va_up M j (ru (M j) k v) := by
  funext a b
  by_cases h : a = j
  · subst h; simp [yst, va_up, ru]
  · simp [yst, va_up, h]
theorem up_up {M : yM} {j : Nat} {f g : Rw} : va_up (va_up M j f) j g = va_up M j g := by
  funext a
  by_cases h : a = j <;> simp [va_up, h]
theorem up_s {M : yM} {j : Nat} {f : Rw} : va_up M j f j = f := va_up_self _ _ _
theorem up_n {M : yM} {j i : Nat} {f : Rw} (h : i ≠ j) : va_up M j f i = M i := va_up_ne _ _ h
theorem up_id {M : yM} {j : Nat} : va_up M j (M j) = M := by
  funext a
  by_cases h : a = j <;> simp [va_up, h]
/-! a book's row: 0 number, 1 signatures, 2 sheets, 3 edges, 4 stage, 5 frame, 6 cords, 7 stitches, 8 whole, 9 of the next, 10 loose, 11 hours, 12 gilt -/
def bBegin (f : Rw) (a b c : Int32) : Rw := ru (ru (ru (ru f 1 a) 2 b) 3 c) 4 0
def bMount (f : Rw) (a c : Int32) : Rw := ru (ru (ru f 4 1) 5 a) 6 c
def bUndo (f : Rw) : Rw := ru (ru (ru (ru (ru (ru (ru f 4 0) 5 (-1)) 6 0) 7 0) 8 0) 9 0) 10 0
def bThick (f : Rw) : Int32 := f 1 * f 2
def bLeaves (f : Rw) : Int32 := 1 + bThick f / 16
def bSos (f : Rw) (s : Int32) : Int32 := if s = f 1 - 1 then (if s = 0 then f 6 + 2 + 2 else f 6 + 2) + 2 else (if s = 0 then f 6 + 2 + 2 else f 6 + 2)
def bSum (f : Rw) : Nat → Int32 | 0 => 0 | n + 1 => bSum f n + bSos f (nI n)
def bToSew (f : Rw) : Int32 := bSum f (f 1).toNatClampNeg - f 7
def bInc (f : Rw) : Rw := ru (ru f 7 (f 7 + 1)) 9 (f 9 + 1)
def bAdd (f : Rw) : Rw := if bSos f (f 8) ≤ f 9 + 1 then ru (ru (bInc f) 8 (f 8 + 1)) 9 0 else bInc f
def bAddR (f : Rw) : Int32 := if bSos f (f 8) ≤ f 9 + 1 then 1 else 0
def bSewn (f : Rw) : Int32 := if f 8 < f 1 then 0 else 1
def bDryB (f : Rw) : Rw := ru (ru (ru f 4 2) 5 (-1)) 11 (2 + bThick f / 8)
def bDryH (f : Rw) : Rw := if f 11 - 1 = 0 then ru (ru f 11 (f 11 - 1)) 4 3 else ru f 11 (f 11 - 1)
def bBind (f : Rw) : Rw := ru f 4 (if f 3 = 0 then 5 else 4)
def bGild (f : Rw) : Rw := if f 12 + 1 < f 3 then ru f 12 (f 12 + 1) else ru (ru f 12 (f 12 + 1)) 4 5
def bVal (f : Rw) : Int32 := if 1 < 4 * f 1 + 2 * f 6 + 6 * f 12 - 3 * f 10 then 4 * f 1 + 2 * f 6 + 6 * f 12 - 3 * f 10 else 1
def bTell (f : Rw) (w : Int32) : Int32 := if w = 0 then f 1 else if w = 1 then f 2 else if w = 2 then f 3 else if w = 3 then f 4 else if w = 4 then f 5 else if w = 5 then f 8 else if w = 6 then f 9 else if w = 7 then f 10 else if w = 8 then f 11 else if w = 9 then f 12 else bVal f
def bSet (f g : Rw) : Rw := fun k => if 1 ≤ k ∧ k ≤ 12 then g k else f k
/-! a frame's row: 0 number, 1 cords, 2 book, 3 sewn; a sewer's: 0 number, 1 speed, 2 frame -/
def fSet (f g : Rw) : Rw := fun k => if 1 ≤ k ∧ k ≤ 3 then g k else f k
def sSet (f g : Rw) : Rw := fun k => if 1 ≤ k ∧ k ≤ 2 then g k else f k
def sTell (f : Rw) (w : Int32) : Int32 := if w = 0 then f 1 else f 2
end YF
end
section
section YBK
abbrev rX0_begin : Room := { frames := 0, cells := 0, slots := 0, locals := 0 }
set_option maxRecDepth 100000 in
set_option maxHeartbeats 4000000 in
theorem mX0_begin (l : Launch) (D : va_G) (cy : Nat → ClassId) (adr : Nat → Nat) (M : yM) (b : Nat) (hk : ykd b = 0) (x y z : Int32) : Ct l yX0_begin wsX0_begin rX0_begin D cy adr [.ref (adr b), .int x, .int y, .int z] M (none) (va_up M b (bBegin (M b) x y z)) 0 0 := by
  refine Ct.mk cX0_begin 4 none RX0 (by decide) rfl rfl (Nat.le_of_ble_eq_true rfl) ?_
  intro K C0
  refine y_eq rfl (show ([(0, .ref (adr b)), (1, .int x), (2, .int y), (3, .int z)] : List (Nat × Value)) = lv_args 0 [.ref (adr b), .int x, .int y, .int z] from rfl) rfl ?_
  have hin0 : ∀ w ∈ u_ws RX0 TX0 13, w ∈ wsX0_begin := by decide +kernel
  refine y_aload_n C0 0 dX0_begin_0 rfl rfl ?_
  refine y_iload_n C0 1 dX0_begin_1 rfl rfl ?_
  refine y_put C0 0 rfl rfl (by decide) hin0 tyX0 tyX0_ok nmX0 1 hk (by decide) (by decide +kernel) (yrn0 hk) rfl (by decide +kernel) dX0_begin_2 ?_
  refine y_aload_n C0 0 dX0_begin_5 rfl rfl ?_
  refine y_iload_n C0 2 dX0_begin_6 rfl rfl ?_
  refine y_put C0 0 rfl rfl (by decide) hin0 tyX0 tyX0_ok nmX0 2 hk (by decide) (by decide +kernel) (yrn0 hk) rfl (by decide +kernel) dX0_begin_7 ?_
  refine y_aload_n C0 0 dX0_begin_10 rfl rfl ?_
  refine y_iload_n C0 3 dX0_begin_11 rfl rfl ?_
  refine y_put C0 0 rfl rfl (by decide) hin0 tyX0 tyX0_ok nmX0 3 hk (by decide) (by decide +kernel) (yrn0 hk) rfl (by decide +kernel) dX0_begin_12 ?_
  refine y_aload_n C0 0 dX0_begin_15 rfl rfl ?_
  refine y_iconst (v := 0) C0 dX0_begin_16 (by decide) ?_
  refine y_put C0 0 rfl rfl (by decide) hin0 tyX0 tyX0_ok nmX0 4 hk (by decide) (by decide +kernel) (yrn0 hk) rfl (by decide +kernel) dX0_begin_17 ?_
  exact y_vret C0 dX0_begin_20 rfl (by simp_all [yst_ru, up_up, up_s, ru_i, up_id, -Int32.not_le, -Int32.not_lt, bBegin])
abbrev rX0_mount : Room := { frames := 0, cells := 0, slots := 0, locals := 0 }
set_option maxRecDepth 100000 in
set_option maxHeartbeats 4000000 in
theorem mX0_mount (l : Launch) (D : va_G) (cy : Nat → ClassId) (adr : Nat → Nat) (M : yM) (b : Nat) (hk : ykd b = 0) (x y : Int32) : Ct l yX0_mount wsX0_mount rX0_mount D cy adr [.ref (adr b), .int x, .int y] M (none) (va_up M b (bMount (M b) x y)) 0 0 := by
  refine Ct.mk cX0_mount 3 none RX0 (by decide) rfl rfl (Nat.le_of_ble_eq_true rfl) ?_
  intro K C0
  refine y_eq rfl (show ([(0, .ref (adr b)), (1, .int x), (2, .int y)] : List (Nat × Value)) = lv_args 0 [.ref (adr b), .int x, .int y] from rfl) rfl ?_
  have hin0 : ∀ w ∈ u_ws RX0 TX0 13, w ∈ wsX0_mount := by decide +kernel
  refine y_aload_n C0 0 dX0_mount_0 rfl rfl ?_
  refine y_iconst (v := 1) C0 dX0_mount_1 (by decide) ?_
  refine y_put C0 0 rfl rfl (by decide) hin0 tyX0 tyX0_ok nmX0 4 hk (by decide) (by decide +kernel) (yrn0 hk) rfl (by decide +kernel) dX0_mount_2 ?_
  refine y_aload_n C0 0 dX0_mount_5 rfl rfl ?_
  refine y_iload_n C0 1 dX0_mount_6 rfl rfl ?_
  refine y_put C0 0 rfl rfl (by decide) hin0 tyX0 tyX0_ok nmX0 5 hk (by decide) (by decide +kernel) (yrn0 hk) rfl (by decide +kernel) dX0_mount_7 ?_
  refine y_aload_n C0 0 dX0_mount_10 rfl rfl ?_
  refine y_iload_n C0 2 dX0_mount_11 rfl rfl ?_
  refine y_put C0 0 rfl rfl (by decide) hin0 tyX0 tyX0_ok nmX0 6 hk (by decide) (by decide +kernel) (yrn0 hk) rfl (by decide +kernel) dX0_mount_12 ?_
  exact y_vret C0 dX0_mount_15 rfl (by simp_all [yst_ru, up_up, up_s, ru_i, up_id, -Int32.not_le, -Int32.not_lt, bMount])
abbrev rX0_undo : Room := { frames := 0, cells := 0, slots := 0, locals := 0 }
set_option maxRecDepth 100000 in
set_option maxHeartbeats 4000000 in
theorem mX0_undo (l : Launch) (D : va_G) (cy : Nat → ClassId) (adr : Nat → Nat) (M : yM) (b : Nat) (hk : ykd b = 0) : Ct l yX0_undo wsX0_undo rX0_undo D cy adr [.ref (adr b)] M (none) (va_up M b (bUndo (M b))) 0 0 := by
  refine Ct.mk cX0_undo 1 none RX0 (by decide) rfl rfl (Nat.le_of_ble_eq_true rfl) ?_
  intro K C0
  refine y_eq rfl (show ([(0, .ref (adr b))] : List (Nat × Value)) = lv_args 0 [.ref (adr b)] from rfl) rfl ?_
  have hin0 : ∀ w ∈ u_ws RX0 TX0 13, w ∈ wsX0_undo := by decide +kernel
  refine y_aload_n C0 0 dX0_undo_0 rfl rfl ?_
  refine y_iconst (v := 0) C0 dX0_undo_1 (by decide) ?_
  refine y_put C0 0 rfl rfl (by decide) hin0 tyX0 tyX0_ok nmX0 4 hk (by decide) (by decide +kernel) (yrn0 hk) rfl (by decide +kernel) dX0_undo_2 ?_
  refine y_aload_n C0 0 dX0_undo_5 rfl rfl ?_
  refine y_iconst (v := (-1)) C0 dX0_undo_6 (by decide) ?_
  refine y_put C0 0 rfl rfl (by decide) hin0 tyX0 tyX0_ok nmX0 5 hk (by decide) (by decide +kernel) (yrn0 hk) rfl (by decide +kernel) dX0_undo_7 ?_
  refine y_aload_n C0 0 dX0_undo_10 rfl rfl ?_
  refine y_iconst (v := 0) C0 dX0_undo_11 (by decide) ?_
  refine y_put C0 0 rfl rfl (by decide) hin0 tyX0 tyX0_ok nmX0 6 hk (by decide) (by decide +kernel) (yrn0 hk) rfl (by decide +kernel) dX0_undo_12 ?_
  refine y_aload_n C0 0 dX0_undo_15 rfl rfl ?_
  refine y_iconst (v := 0) C0 dX0_undo_16 (by decide) ?_
  refine y_put C0 0 rfl rfl (by decide) hin0 tyX0 tyX0_ok nmX0 7 hk (by decide) (by decide +kernel) (yrn0 hk) rfl (by decide +kernel) dX0_undo_17 ?_
  refine y_aload_n C0 0 dX0_undo_20 rfl rfl ?_
  refine y_iconst (v := 0) C0 dX0_undo_21 (by decide) ?_
  refine y_put C0 0 rfl rfl (by decide) hin0 tyX0 tyX0_ok nmX0 8 hk (by decide) (by decide +kernel) (yrn0 hk) rfl (by decide +kernel) dX0_undo_22 ?_
  refine y_aload_n C0 0 dX0_undo_25 rfl rfl ?_
  refine y_iconst (v := 0) C0 dX0_undo_26 (by decide) ?_
  refine y_put C0 0 rfl rfl (by decide) hin0 tyX0 tyX0_ok nmX0 9 hk (by decide) (by decide +kernel) (yrn0 hk) rfl (by decide +kernel) dX0_undo_27 ?_
  refine y_aload_n C0 0 dX0_undo_30 rfl rfl ?_
  refine y_iconst (v := 0) C0 dX0_undo_31 (by decide) ?_
  refine y_put C0 0 rfl rfl (by decide) hin0 tyX0 tyX0_ok nmX0 10 hk (by decide) (by decide +kernel) (yrn0 hk) rfl (by decide +kernel) dX0_undo_32 ?_
  exact y_vret C0 dX0_undo_35 rfl (by simp_all [yst_ru, up_up, up_s, ru_i, up_id, -Int32.not_le, -Int32.not_lt, bUndo])
abbrev rX0_thickness : Room := { frames := 0, cells := 0, slots := 0, locals := 0 }
set_option maxRecDepth 100000 in
set_option maxHeartbeats 4000000 in
theorem mX0_thickness (l : Launch) (D : va_G) (cy : Nat → ClassId) (adr : Nat → Nat) (M : yM) (b : Nat) (hk : ykd b = 0) : Ct l yX0_thickness wsX0_thickness rX0_thickness D cy adr [.ref (adr b)] M (some (.int (bThick (M b)))) (M) 0 0 := by
  refine Ct.mk cX0_thickness 1 (some .int) RX0 (by decide) rfl rfl (Nat.le_of_ble_eq_true rfl) ?_
  intro K C0
  refine y_eq rfl (show ([(0, .ref (adr b))] : List (Nat × Value)) = lv_args 0 [.ref (adr b)] from rfl) rfl ?_
  have hin0 : ∀ w ∈ u_ws RX0 TX0 13, w ∈ wsX0_thickness := by decide +kernel
  refine y_aload_n C0 0 dX0_thickness_0 rfl rfl ?_
  refine y_get C0 0 rfl rfl (by decide) hin0 1 hk (by decide) (by decide +kernel) (yvi0 hk) dX0_thickness_1 ?_
  refine y_aload_n C0 0 dX0_thickness_4 rfl rfl ?_
  refine y_get C0 0 rfl rfl (by decide) hin0 2 hk (by decide) (by decide +kernel) (yvi0 hk) dX0_thickness_5 ?_
  refine y_imul C0 dX0_thickness_8 ?_
  exact y_iret C0 dX0_thickness_9 (by simp_all [yst_ru, up_up, up_s, ru_i, up_id, -Int32.not_le, -Int32.not_lt, bThick]) (by simp_all [yst_ru, up_up, up_s, ru_i, up_id, -Int32.not_le, -Int32.not_lt, bThick])
abbrev rX0_leavesForAnEdge : Room := { frames := 1, cells := 0, slots := 0, locals := 20 }
set_option maxRecDepth 100000 in
set_option maxHeartbeats 4000000 in
theorem mX0_leavesForAnEdge (l : Launch) (D : va_G) (cy : Nat → ClassId) (adr : Nat → Nat) (M : yM) (b : Nat) (hk : ykd b = 0) : Ct l yX0_leavesForAnEdge wsX0_leavesForAnEdge rX0_leavesForAnEdge D cy adr [.ref (adr b)] M (some (.int (bLeaves (M b)))) (M) 0 0 := by
  refine Ct.mk cX0_leavesForAnEdge 1 (some .int) RX0 (by decide) rfl rfl (Nat.le_of_ble_eq_true rfl) ?_
  intro K C0
  refine y_eq rfl (show ([(0, .ref (adr b))] : List (Nat × Value)) = lv_args 0 [.ref (adr b)] from rfl) rfl ?_
  refine y_iconst (v := 1) C0 dX0_leavesForAnEdge_0 (by decide) ?_
  refine y_aload_n C0 0 dX0_leavesForAnEdge_1 rfl rfl ?_
  refine y_callV (As := []) (rest := _) (n := 0) C0 (mX0_thickness l D cy adr _ _ hk) 0 rfl (by decide) hk gX0_leavesForAnEdge_X0_thickness rfl rfl rfl (by decide +kernel) ⟨by decide, by decide⟩ rfl rfl (Nat.le_of_ble_eq_true rfl) dX0_leavesForAnEdge_2 ⟨by decide, by decide⟩ ?_
  refine y_bipush (v := 16) C0 dX0_leavesForAnEdge_5 (by decide) ?_
  refine y_idiv C0 dX0_leavesForAnEdge_7 (by decide) ?_
  refine y_iadd C0 dX0_leavesForAnEdge_8 ?_
  exact y_iret C0 dX0_leavesForAnEdge_9 (by simp_all [yst_ru, up_up, up_s, ru_i, up_id, -Int32.not_le, -Int32.not_lt, bLeaves]) (by simp_all [yst_ru, up_up, up_s, ru_i, up_id, -Int32.not_le, -Int32.not_lt, bLeaves])
abbrev rX0_stitchesOfSignature : Room := { frames := 0, cells := 0, slots := 0, locals := 0 }
set_option maxRecDepth 100000 in
set_option maxHeartbeats 4000000 in
theorem mX0_stitchesOfSignature (l : Launch) (D : va_G) (cy : Nat → ClassId) (adr : Nat → Nat) (M : yM) (b : Nat) (hk : ykd b = 0) (x : Int32) : Ct l yX0_stitchesOfSignature wsX0_stitchesOfSignature rX0_stitchesOfSignature D cy adr [.ref (adr b), .int x] M (some (.int (bSos (M b) x))) (M) 0 0 := by
  refine Ct.mk cX0_stitchesOfSignature 3 (some .int) RX0 (by decide) rfl rfl (Nat.le_of_ble_eq_true rfl) ?_
  intro K C0
  refine y_eq rfl (show ([(0, .ref (adr b)), (1, .int x)] : List (Nat × Value)) = lv_args 0 [.ref (adr b), .int x] from rfl) rfl ?_
  have hin0 : ∀ w ∈ u_ws RX0 TX0 13, w ∈ wsX0_stitchesOfSignature := by decide +kernel
  refine y_aload_n C0 0 dX0_stitchesOfSignature_0 rfl rfl ?_
  refine y_get C0 0 rfl rfl (by decide) hin0 6 hk (by decide) (by decide +kernel) (yvi0 hk) dX0_stitchesOfSignature_1 ?_
  refine y_iconst (v := 2) C0 dX0_stitchesOfSignature_4 (by decide) ?_
  refine y_iadd C0 dX0_stitchesOfSignature_5 ?_
  refine y_istore_n C0 [(2, _), (0, _), (1, _)] dX0_stitchesOfSignature_6 rfl (by decide) rfl ?_
  refine y_iload_n C0 2 dX0_stitchesOfSignature_7 rfl rfl ?_
  refine y_if_ne C0 14 dX0_stitchesOfSignature_8 (by decide) (fun c_8 => ?_) (fun c_8 => ?_)
  · refine y_iload_n C0 2 dX0_stitchesOfSignature_14 rfl rfl ?_
    refine y_aload_n C0 1 dX0_stitchesOfSignature_15 rfl rfl ?_
    refine y_get C0 0 rfl rfl (by decide) hin0 1 hk (by decide) (by decide +kernel) (yvi0 hk) dX0_stitchesOfSignature_16 ?_
    refine y_iconst (v := 1) C0 dX0_stitchesOfSignature_19 (by decide) ?_
    refine y_isub C0 dX0_stitchesOfSignature_20 ?_
    refine y_icmp_ne C0 27 dX0_stitchesOfSignature_21 (by decide) (fun c_21 => ?_) (fun c_21 => ?_)
    · refine y_iload_n C0 0 dX0_stitchesOfSignature_27 rfl rfl ?_
      exact y_iret C0 dX0_stitchesOfSignature_28 (by simp_all [yst_ru, up_up, up_s, ru_i, up_id, -Int32.not_le, -Int32.not_lt, bSos]) (by simp_all [yst_ru, up_up, up_s, ru_i, up_id, -Int32.not_le, -Int32.not_lt, bSos])
    · refine y_iinc C0 0 [(2, _), (0, _), (1, _)] dX0_stitchesOfSignature_24 rfl rfl (by decide) rfl ?_
      refine y_iload_n C0 0 dX0_stitchesOfSignature_27 rfl rfl ?_
      exact y_iret C0 dX0_stitchesOfSignature_28 (by simp_all [yst_ru, up_up, up_s, ru_i, up_id, -Int32.not_le, -Int32.not_lt, bSos]) (by simp_all [yst_ru, up_up, up_s, ru_i, up_id, -Int32.not_le, -Int32.not_lt, bSos])
  · refine y_iinc C0 0 [(2, _), (0, _), (1, _)] dX0_stitchesOfSignature_11 rfl rfl (by decide) rfl ?_
    refine y_iload_n C0 2 dX0_stitchesOfSignature_14 rfl rfl ?_
    refine y_aload_n C0 1 dX0_stitchesOfSignature_15 rfl rfl ?_
    refine y_get C0 0 rfl rfl (by decide) hin0 1 hk (by decide) (by decide +kernel) (yvi0 hk) dX0_stitchesOfSignature_16 ?_
    refine y_iconst (v := 1) C0 dX0_stitchesOfSignature_19 (by decide) ?_
    refine y_isub C0 dX0_stitchesOfSignature_20 ?_
    refine y_icmp_ne C0 27 dX0_stitchesOfSignature_21 (by decide) (fun c_21 => ?_) (fun c_21 => ?_)
    · refine y_iload_n C0 0 dX0_stitchesOfSignature_27 rfl rfl ?_
      exact y_iret C0 dX0_stitchesOfSignature_28 (by simp_all [yst_ru, up_up, up_s, ru_i, up_id, -Int32.not_le, -Int32.not_lt, bSos]) (by simp_all [yst_ru, up_up, up_s, ru_i, up_id, -Int32.not_le, -Int32.not_lt, bSos])
    · refine y_iinc C0 0 [(2, _), (0, _), (1, _)] dX0_stitchesOfSignature_24 rfl rfl (by decide) rfl ?_
      refine y_iload_n C0 0 dX0_stitchesOfSignature_27 rfl rfl ?_
      exact y_iret C0 dX0_stitchesOfSignature_28 (by simp_all [yst_ru, up_up, up_s, ru_i, up_id, -Int32.not_le, -Int32.not_lt, bSos]) (by simp_all [yst_ru, up_up, up_s, ru_i, up_id, -Int32.not_le, -Int32.not_lt, bSos])
abbrev rX0_addStitch : Room := { frames := 1, cells := 0, slots := 0, locals := 22 }
set_option maxRecDepth 100000 in
set_option maxHeartbeats 4000000 in
theorem mX0_addStitch (l : Launch) (D : va_G) (cy : Nat → ClassId) (adr : Nat → Nat) (M : yM) (b : Nat) (hk : ykd b = 0) : Ct l yX0_addStitch wsX0_addStitch rX0_addStitch D cy adr [.ref (adr b)] M (some (.int (bAddR (M b)))) (va_up M b (bAdd (M b))) 0 0 := by
  refine Ct.mk cX0_addStitch 1 (some .boolean) RX0 (by decide) rfl rfl (Nat.le_of_ble_eq_true rfl) ?_
  intro K C0
  refine y_eq rfl (show ([(0, .ref (adr b))] : List (Nat × Value)) = lv_args 0 [.ref (adr b)] from rfl) rfl ?_
  have hin0 : ∀ w ∈ u_ws RX0 TX0 13, w ∈ wsX0_addStitch := by decide +kernel
  refine y_aload_n C0 0 dX0_addStitch_0 rfl rfl ?_
  refine y_dup C0 dX0_addStitch_1 rfl ?_
  refine y_get C0 0 rfl rfl (by decide) hin0 7 hk (by decide) (by decide +kernel) (yvi0 hk) dX0_addStitch_2 ?_
  refine y_iconst (v := 1) C0 dX0_addStitch_5 (by decide) ?_
  refine y_iadd C0 dX0_addStitch_6 ?_
  refine y_put C0 0 rfl rfl (by decide) hin0 tyX0 tyX0_ok nmX0 7 hk (by decide) (by decide +kernel) (yrn0 hk) rfl (by decide +kernel) dX0_addStitch_7 ?_
  refine y_aload_n C0 0 dX0_addStitch_10 rfl rfl ?_
  refine y_dup C0 dX0_addStitch_11 rfl ?_
  refine y_get C0 0 rfl rfl (by decide) hin0 9 hk (by decide) (by decide +kernel) (yvi0 hk) dX0_addStitch_12 ?_
  refine y_iconst (v := 1) C0 dX0_addStitch_15 (by decide) ?_
  refine y_iadd C0 dX0_addStitch_16 ?_
  refine y_put C0 0 rfl rfl (by decide) hin0 tyX0 tyX0_ok nmX0 9 hk (by decide) (by decide +kernel) (yrn0 hk) rfl (by decide +kernel) dX0_addStitch_17 ?_
  refine y_aload_n C0 0 dX0_addStitch_20 rfl rfl ?_
  refine y_get C0 0 rfl rfl (by decide) hin0 9 hk (by decide) (by decide +kernel) (yvi0 hk) dX0_addStitch_21 ?_
  refine y_aload_n C0 0 dX0_addStitch_24 rfl rfl ?_
  refine y_aload_n C0 0 dX0_addStitch_25 rfl rfl ?_
  refine y_get C0 0 rfl rfl (by decide) hin0 8 hk (by decide) (by decide +kernel) (yvi0 hk) dX0_addStitch_26 ?_
  refine y_callV (As := [_]) (rest := _) (n := 1) C0 (mX0_stitchesOfSignature l D cy adr _ _ hk _) 0 rfl (by decide) hk gX0_addStitch_X0_stitchesOfSignature rfl rfl rfl (by decide +kernel) ⟨by decide, by decide⟩ rfl rfl (Nat.le_of_ble_eq_true rfl) dX0_addStitch_29 ⟨by decide, by decide⟩ ?_
  refine y_icmp_ge C0 37 dX0_addStitch_32 (by decide) (fun c_32 => ?_) (fun c_32 => ?_)
  · refine y_aload_n C0 0 dX0_addStitch_37 rfl rfl ?_
    refine y_dup C0 dX0_addStitch_38 rfl ?_
    refine y_get C0 0 rfl rfl (by decide) hin0 8 hk (by decide) (by decide +kernel) (yvi0 hk) dX0_addStitch_39 ?_
    refine y_iconst (v := 1) C0 dX0_addStitch_42 (by decide) ?_
    refine y_iadd C0 dX0_addStitch_43 ?_
    refine y_put C0 0 rfl rfl (by decide) hin0 tyX0 tyX0_ok nmX0 8 hk (by decide) (by decide +kernel) (yrn0 hk) rfl (by decide +kernel) dX0_addStitch_44 ?_
    refine y_aload_n C0 0 dX0_addStitch_47 rfl rfl ?_
    refine y_iconst (v := 0) C0 dX0_addStitch_48 (by decide) ?_
    refine y_put C0 0 rfl rfl (by decide) hin0 tyX0 tyX0_ok nmX0 9 hk (by decide) (by decide +kernel) (yrn0 hk) rfl (by decide +kernel) dX0_addStitch_49 ?_
    refine y_iconst (v := 1) C0 dX0_addStitch_52 (by decide) ?_
    exact y_zret C0 rfl dX0_addStitch_53 (by simp_all [yst_ru, up_up, up_s, ru_i, up_id, -Int32.not_le, -Int32.not_lt, bAdd, bAddR, bInc, bSos]) (by simp_all [yst_ru, up_up, up_s, ru_i, up_id, -Int32.not_le, -Int32.not_lt, bAdd, bAddR, bInc, bSos])
  · refine y_iconst (v := 0) C0 dX0_addStitch_35 (by decide) ?_
    exact y_zret C0 rfl dX0_addStitch_36 (by simp_all [yst_ru, up_up, up_s, ru_i, up_id, -Int32.not_le, -Int32.not_lt, bAdd, bAddR, bInc, bSos]) (by simp_all [yst_ru, up_up, up_s, ru_i, up_id, -Int32.not_le, -Int32.not_lt, bAdd, bAddR, bInc, bSos])
abbrev rX0_isSewn : Room := { frames := 0, cells := 0, slots := 0, locals := 0 }
set_option maxRecDepth 100000 in
set_option maxHeartbeats 4000000 in
theorem mX0_isSewn (l : Launch) (D : va_G) (cy : Nat → ClassId) (adr : Nat → Nat) (M : yM) (b : Nat) (hk : ykd b = 0) : Ct l yX0_isSewn wsX0_isSewn rX0_isSewn D cy adr [.ref (adr b)] M (some (.int (bSewn (M b)))) (M) 0 0 := by
  refine Ct.mk cX0_isSewn 1 (some .boolean) RX0 (by decide) rfl rfl (Nat.le_of_ble_eq_true rfl) ?_
  intro K C0
  refine y_eq rfl (show ([(0, .ref (adr b))] : List (Nat × Value)) = lv_args 0 [.ref (adr b)] from rfl) rfl ?_
  have hin0 : ∀ w ∈ u_ws RX0 TX0 13, w ∈ wsX0_isSewn := by decide +kernel
  refine y_aload_n C0 0 dX0_isSewn_0 rfl rfl ?_
  refine y_get C0 0 rfl rfl (by decide) hin0 8 hk (by decide) (by decide +kernel) (yvi0 hk) dX0_isSewn_1 ?_
  refine y_aload_n C0 0 dX0_isSewn_4 rfl rfl ?_
  refine y_get C0 0 rfl rfl (by decide) hin0 1 hk (by decide) (by decide +kernel) (yvi0 hk) dX0_isSewn_5 ?_
  refine y_icmp_lt C0 15 dX0_isSewn_8 (by decide) (fun c_8 => ?_) (fun c_8 => ?_)
  · refine y_iconst (v := 0) C0 dX0_isSewn_15 (by decide) ?_
    exact y_zret C0 rfl dX0_isSewn_16 (by simp_all [yst_ru, up_up, up_s, ru_i, up_id, -Int32.not_le, -Int32.not_lt, bSewn]) (by simp_all [yst_ru, up_up, up_s, ru_i, up_id, -Int32.not_le, -Int32.not_lt, bSewn])
  · refine y_iconst (v := 1) C0 dX0_isSewn_11 (by decide) ?_
    refine y_goto C0 16 dX0_isSewn_12 (by decide) ?_
    exact y_zret C0 rfl dX0_isSewn_16 (by simp_all [yst_ru, up_up, up_s, ru_i, up_id, -Int32.not_le, -Int32.not_lt, bSewn]) (by simp_all [yst_ru, up_up, up_s, ru_i, up_id, -Int32.not_le, -Int32.not_lt, bSewn])
abbrev rX0_beginToDry : Room := { frames := 1, cells := 0, slots := 0, locals := 20 }
set_option maxRecDepth 100000 in
set_option maxHeartbeats 4000000 in
theorem mX0_beginToDry (l : Launch) (D : va_G) (cy : Nat → ClassId) (adr : Nat → Nat) (M : yM) (b : Nat) (hk : ykd b = 0) : Ct l yX0_beginToDry wsX0_beginToDry rX0_beginToDry D cy adr [.ref (adr b)] M (none) (va_up M b (bDryB (M b))) 0 0 := by
  refine Ct.mk cX0_beginToDry 1 none RX0 (by decide) rfl rfl (Nat.le_of_ble_eq_true rfl) ?_
  intro K C0
  refine y_eq rfl (show ([(0, .ref (adr b))] : List (Nat × Value)) = lv_args 0 [.ref (adr b)] from rfl) rfl ?_
  have hin0 : ∀ w ∈ u_ws RX0 TX0 13, w ∈ wsX0_beginToDry := by decide +kernel
  refine y_aload_n C0 0 dX0_beginToDry_0 rfl rfl ?_
  refine y_iconst (v := 2) C0 dX0_beginToDry_1 (by decide) ?_
  refine y_put C0 0 rfl rfl (by decide) hin0 tyX0 tyX0_ok nmX0 4 hk (by decide) (by decide +kernel) (yrn0 hk) rfl (by decide +kernel) dX0_beginToDry_2 ?_
  refine y_aload_n C0 0 dX0_beginToDry_5 rfl rfl ?_
  refine y_iconst (v := (-1)) C0 dX0_beginToDry_6 (by decide) ?_
  refine y_put C0 0 rfl rfl (by decide) hin0 tyX0 tyX0_ok nmX0 5 hk (by decide) (by decide +kernel) (yrn0 hk) rfl (by decide +kernel) dX0_beginToDry_7 ?_
  refine y_aload_n C0 0 dX0_beginToDry_10 rfl rfl ?_
  refine y_iconst (v := 2) C0 dX0_beginToDry_11 (by decide) ?_
  refine y_aload_n C0 0 dX0_beginToDry_12 rfl rfl ?_
  refine y_callV (As := []) (rest := _) (n := 0) C0 (mX0_thickness l D cy adr _ _ hk) 0 rfl (by decide) hk gX0_beginToDry_X0_thickness rfl rfl rfl (by decide +kernel) ⟨by decide, by decide⟩ rfl rfl (Nat.le_of_ble_eq_true rfl) dX0_beginToDry_13 ⟨by decide, by decide⟩ ?_
  refine y_bipush (v := 8) C0 dX0_beginToDry_16 (by decide) ?_
  refine y_idiv C0 dX0_beginToDry_18 (by decide) ?_
  refine y_iadd C0 dX0_beginToDry_19 ?_
  refine y_put C0 0 rfl rfl (by decide) hin0 tyX0 tyX0_ok nmX0 11 hk (by decide) (by decide +kernel) (yrn0 hk) rfl (by decide +kernel) dX0_beginToDry_20 ?_
  exact y_vret C0 dX0_beginToDry_23 rfl (by simp_all [yst_ru, up_up, up_s, ru_i, up_id, -Int32.not_le, -Int32.not_lt, bDryB, bThick])
abbrev rX0_dryForAnHour : Room := { frames := 0, cells := 0, slots := 0, locals := 0 }
set_option maxRecDepth 100000 in
set_option maxHeartbeats 4000000 in
theorem mX0_dryForAnHour (l : Launch) (D : va_G) (cy : Nat → ClassId) (adr : Nat → Nat) (M : yM) (b : Nat) (hk : ykd b = 0) : Ct l yX0_dryForAnHour wsX0_dryForAnHour rX0_dryForAnHour D cy adr [.ref (adr b)] M (none) (va_up M b (bDryH (M b))) 0 0 := by
  refine Ct.mk cX0_dryForAnHour 1 none RX0 (by decide) rfl rfl (Nat.le_of_ble_eq_true rfl) ?_
  intro K C0
  refine y_eq rfl (show ([(0, .ref (adr b))] : List (Nat × Value)) = lv_args 0 [.ref (adr b)] from rfl) rfl ?_
  have hin0 : ∀ w ∈ u_ws RX0 TX0 13, w ∈ wsX0_dryForAnHour := by decide +kernel
  refine y_aload_n C0 0 dX0_dryForAnHour_0 rfl rfl ?_
  refine y_dup C0 dX0_dryForAnHour_1 rfl ?_
  refine y_get C0 0 rfl rfl (by decide) hin0 11 hk (by decide) (by decide +kernel) (yvi0 hk) dX0_dryForAnHour_2 ?_
  refine y_iconst (v := 1) C0 dX0_dryForAnHour_5 (by decide) ?_
  refine y_isub C0 dX0_dryForAnHour_6 ?_
  refine y_put C0 0 rfl rfl (by decide) hin0 tyX0 tyX0_ok nmX0 11 hk (by decide) (by decide +kernel) (yrn0 hk) rfl (by decide +kernel) dX0_dryForAnHour_7 ?_
  refine y_aload_n C0 0 dX0_dryForAnHour_10 rfl rfl ?_
  refine y_get C0 0 rfl rfl (by decide) hin0 11 hk (by decide) (by decide +kernel) (yvi0 hk) dX0_dryForAnHour_11 ?_
  refine y_if_ne C0 22 dX0_dryForAnHour_14 (by decide) (fun c_14 => ?_) (fun c_14 => ?_)
  · exact y_vret C0 dX0_dryForAnHour_22 rfl (by simp_all [yst_ru, up_up, up_s, ru_i, up_id, -Int32.not_le, -Int32.not_lt, bDryH])
  · refine y_aload_n C0 0 dX0_dryForAnHour_17 rfl rfl ?_
    refine y_iconst (v := 3) C0 dX0_dryForAnHour_18 (by decide) ?_
    refine y_put C0 0 rfl rfl (by decide) hin0 tyX0 tyX0_ok nmX0 4 hk (by decide) (by decide +kernel) (yrn0 hk) rfl (by decide +kernel) dX0_dryForAnHour_19 ?_
    exact y_vret C0 dX0_dryForAnHour_22 rfl (by simp_all [yst_ru, up_up, up_s, ru_i, up_id, -Int32.not_le, -Int32.not_lt, bDryH])
abbrev rX0_bind : Room := { frames := 0, cells := 0, slots := 0, locals := 0 }
set_option maxRecDepth 100000 in
set_option maxHeartbeats 4000000 in
theorem mX0_bind (l : Launch) (D : va_G) (cy : Nat → ClassId) (adr : Nat → Nat) (M : yM) (b : Nat) (hk : ykd b = 0) : Ct l yX0_bind wsX0_bind rX0_bind D cy adr [.ref (adr b)] M (none) (va_up M b (bBind (M b))) 0 0 := by
  refine Ct.mk cX0_bind 1 none RX0 (by decide) rfl rfl (Nat.le_of_ble_eq_true rfl) ?_
  intro K C0
  refine y_eq rfl (show ([(0, .ref (adr b))] : List (Nat × Value)) = lv_args 0 [.ref (adr b)] from rfl) rfl ?_
  have hin0 : ∀ w ∈ u_ws RX0 TX0 13, w ∈ wsX0_bind := by decide +kernel
  refine y_aload_n C0 0 dX0_bind_0 rfl rfl ?_
  refine y_aload_n C0 0 dX0_bind_1 rfl rfl ?_
  refine y_get C0 0 rfl rfl (by decide) hin0 3 hk (by decide) (by decide +kernel) (yvi0 hk) dX0_bind_2 ?_
  refine y_if_ne C0 12 dX0_bind_5 (by decide) (fun c_5 => ?_) (fun c_5 => ?_)
  · refine y_iconst (v := 4) C0 dX0_bind_12 (by decide) ?_
    refine y_put C0 0 rfl rfl (by decide) hin0 tyX0 tyX0_ok nmX0 4 hk (by decide) (by decide +kernel) (yrn0 hk) rfl (by decide +kernel) dX0_bind_13 ?_
    exact y_vret C0 dX0_bind_16 rfl (by simp_all [yst_ru, up_up, up_s, ru_i, up_id, -Int32.not_le, -Int32.not_lt, bBind])
  · refine y_iconst (v := 5) C0 dX0_bind_8 (by decide) ?_
    refine y_goto C0 13 dX0_bind_9 (by decide) ?_
    refine y_put C0 0 rfl rfl (by decide) hin0 tyX0 tyX0_ok nmX0 4 hk (by decide) (by decide +kernel) (yrn0 hk) rfl (by decide +kernel) dX0_bind_13 ?_
    exact y_vret C0 dX0_bind_16 rfl (by simp_all [yst_ru, up_up, up_s, ru_i, up_id, -Int32.not_le, -Int32.not_lt, bBind])
abbrev rX0_gildAnEdge : Room := { frames := 0, cells := 0, slots := 0, locals := 0 }
set_option maxRecDepth 100000 in
set_option maxHeartbeats 4000000 in
theorem mX0_gildAnEdge (l : Launch) (D : va_G) (cy : Nat → ClassId) (adr : Nat → Nat) (M : yM) (b : Nat) (hk : ykd b = 0) : Ct l yX0_gildAnEdge wsX0_gildAnEdge rX0_gildAnEdge D cy adr [.ref (adr b)] M (none) (va_up M b (bGild (M b))) 0 0 := by
  refine Ct.mk cX0_gildAnEdge 1 none RX0 (by decide) rfl rfl (Nat.le_of_ble_eq_true rfl) ?_
  intro K C0
  refine y_eq rfl (show ([(0, .ref (adr b))] : List (Nat × Value)) = lv_args 0 [.ref (adr b)] from rfl) rfl ?_
  have hin0 : ∀ w ∈ u_ws RX0 TX0 13, w ∈ wsX0_gildAnEdge := by decide +kernel
  refine y_aload_n C0 0 dX0_gildAnEdge_0 rfl rfl ?_
  refine y_dup C0 dX0_gildAnEdge_1 rfl ?_
  refine y_get C0 0 rfl rfl (by decide) hin0 12 hk (by decide) (by decide +kernel) (yvi0 hk) dX0_gildAnEdge_2 ?_
  refine y_iconst (v := 1) C0 dX0_gildAnEdge_5 (by decide) ?_
  refine y_iadd C0 dX0_gildAnEdge_6 ?_
  refine y_put C0 0 rfl rfl (by decide) hin0 tyX0 tyX0_ok nmX0 12 hk (by decide) (by decide +kernel) (yrn0 hk) rfl (by decide +kernel) dX0_gildAnEdge_7 ?_
  refine y_aload_n C0 0 dX0_gildAnEdge_10 rfl rfl ?_
  refine y_get C0 0 rfl rfl (by decide) hin0 12 hk (by decide) (by decide +kernel) (yvi0 hk) dX0_gildAnEdge_11 ?_
  refine y_aload_n C0 0 dX0_gildAnEdge_14 rfl rfl ?_
  refine y_get C0 0 rfl rfl (by decide) hin0 3 hk (by decide) (by decide +kernel) (yvi0 hk) dX0_gildAnEdge_15 ?_
  refine y_icmp_lt C0 26 dX0_gildAnEdge_18 (by decide) (fun c_18 => ?_) (fun c_18 => ?_)
  · exact y_vret C0 dX0_gildAnEdge_26 rfl (by simp_all [yst_ru, up_up, up_s, ru_i, up_id, -Int32.not_le, -Int32.not_lt, bGild])
  · refine y_aload_n C0 0 dX0_gildAnEdge_21 rfl rfl ?_
    refine y_iconst (v := 5) C0 dX0_gildAnEdge_22 (by decide) ?_
    refine y_put C0 0 rfl rfl (by decide) hin0 tyX0 tyX0_ok nmX0 4 hk (by decide) (by decide +kernel) (yrn0 hk) rfl (by decide +kernel) dX0_gildAnEdge_23 ?_
    exact y_vret C0 dX0_gildAnEdge_26 rfl (by simp_all [yst_ru, up_up, up_s, ru_i, up_id, -Int32.not_le, -Int32.not_lt, bGild])
abbrev rX0_value : Room := { frames := 1, cells := 0, slots := 0, locals := 16 }
set_option maxRecDepth 100000 in
set_option maxHeartbeats 4000000 in
theorem mX0_value (l : Launch) (D : va_G) (cy : Nat → ClassId) (adr : Nat → Nat) (M : yM) (b : Nat) (hk : ykd b = 0) : Ct l yX0_value wsX0_value rX0_value D cy adr [.ref (adr b)] M (some (.int (bVal (M b)))) (M) 0 0 := by
  refine Ct.mk cX0_value 1 (some .int) RX0 (by decide) rfl rfl (Nat.le_of_ble_eq_true rfl) ?_
  intro K C0
  refine y_eq rfl (show ([(0, .ref (adr b))] : List (Nat × Value)) = lv_args 0 [.ref (adr b)] from rfl) rfl ?_
  have hin0 : ∀ w ∈ u_ws RX0 TX0 13, w ∈ wsX0_value := by decide +kernel
  refine y_iconst (v := 1) C0 dX0_value_0 (by decide) ?_
  refine y_iconst (v := 4) C0 dX0_value_1 (by decide) ?_
  refine y_aload_n C0 0 dX0_value_2 rfl rfl ?_
  refine y_get C0 0 rfl rfl (by decide) hin0 1 hk (by decide) (by decide +kernel) (yvi0 hk) dX0_value_3 ?_
  refine y_imul C0 dX0_value_6 ?_
  refine y_iconst (v := 2) C0 dX0_value_7 (by decide) ?_
  refine y_aload_n C0 0 dX0_value_8 rfl rfl ?_
  refine y_get C0 0 rfl rfl (by decide) hin0 6 hk (by decide) (by decide +kernel) (yvi0 hk) dX0_value_9 ?_
  refine y_imul C0 dX0_value_12 ?_
  refine y_iadd C0 dX0_value_13 ?_
  refine y_bipush (v := 6) C0 dX0_value_14 (by decide) ?_
  refine y_aload_n C0 0 dX0_value_16 rfl rfl ?_
  refine y_get C0 0 rfl rfl (by decide) hin0 12 hk (by decide) (by decide +kernel) (yvi0 hk) dX0_value_17 ?_
  refine y_imul C0 dX0_value_20 ?_
  refine y_iadd C0 dX0_value_21 ?_
  refine y_iconst (v := 3) C0 dX0_value_22 (by decide) ?_
  refine y_aload_n C0 0 dX0_value_23 rfl rfl ?_
  refine y_get C0 0 rfl rfl (by decide) hin0 10 hk (by decide) (by decide +kernel) (yvi0 hk) dX0_value_24 ?_
  refine y_imul C0 dX0_value_27 ?_
  refine y_isub C0 dX0_value_28 ?_
  refine y_mmax C0 (by decide +kernel) (by decide +kernel) (by decide +kernel) (by decide +kernel) (by decide) (Nat.le_of_ble_eq_true rfl) (by decide) (by decide) dX0_value_29 ?_
  exact y_iret C0 dX0_value_32 (by simp_all [yst_ru, up_up, up_s, ru_i, up_id, -Int32.not_le, -Int32.not_lt, bVal]) (by simp_all [yst_ru, up_up, up_s, ru_i, up_id, -Int32.not_le, -Int32.not_lt, bVal])
end YBK
end
section
section YG
variable {K : yK} {l : Launch} {R : Room} {D : va_G} {cy : Nat → ClassId} {adr : Nat → Nat} {nL cells slots : Nat} {Q : State → Prop} {M : yM} {E : va_W} {lv : List (Nat × Value)} {pc : Nat} {st : List Value} {cc : ByteArray} {own : String} {Ts : List Cond} {ret : Option FieldType}
theorem y_tswI (C0 : Cx K cc own Ts nL ret D cy) {dflt lo hi : Int} {offs : Array Int} {len : Nat} {x : Int32} (v : Int) {off : Int} (d : decode cc pc = .ok (.tableswitch dflt lo hi offs, len)) (hx : x.toInt = v) (h1 : ¬ v < lo) (h2 : ¬ hi < v) (ho : offs[(v - lo).toNat]? = some off) (tgt : Nat) (ht : (pc : Int) + off = (tgt : Int)) (k : Y K l R D cy adr nL cells slots Q M E lv tgt st) : Y K l R D cy adr nL cells slots Q M E lv pc (.int x :: st) := by
  subst hx
  obtain ⟨p, e, s, m, args, below, meth, c, A⟩ := K
  exact fun H locs ls hP hD hS hl => lv_tableIn C0.1 C0.2.1 d h1 h2 ho ht (k H locs ls hP hD hS hl)
theorem y_tswO (C0 : Cx K cc own Ts nL ret D cy) {dflt lo hi : Int} {offs : Array Int} {len : Nat} {x : Int32} (d : decode cc pc = .ok (.tableswitch dflt lo hi offs, len)) (h : x.toInt < lo ∨ hi < x.toInt) (tgt : Nat) (ht : (pc : Int) + dflt = (tgt : Int)) (k : Y K l R D cy adr nL cells slots Q M E lv tgt st) : Y K l R D cy adr nL cells slots Q M E lv pc (.int x :: st) := by
  obtain ⟨p, e, s, m, args, below, meth, c, A⟩ := K
  exact fun H locs ls hP hD hS hl => lv_tableOut C0.1 C0.2.1 d h ht (k H locs ls hP hD hS hl)
theorem y_lsw (C0 : Cx K cc own Ts nL ret D cy) {dflt : Int} {ps : Array (Int × Int)} {len : Nat} {x : Int32} {off : Int} (d : decode cc pc = .ok (.lookupswitch dflt ps, len)) (hp : (ps.toList.zip (ps.toList.drop 1)).all (fun (a, next) => a.1 < next.1) = true) (ho : Op.lookupswitch.offset ps.toList dflt x.toInt = off) (tgt : Nat) (ht : (pc : Int) + off = (tgt : Int)) (k : Y K l R D cy adr nL cells slots Q M E lv tgt st) : Y K l R D cy adr nL cells slots Q M E lv pc (.int x :: st) := by
  obtain ⟨p, e, s, m, args, below, meth, c, A⟩ := K
  exact fun H locs ls hP hD hS hl => lv_lookup C0.1 C0.2.1 d hp ho ht (k H locs ls hP hD hS hl)
theorem y_null (C0 : Cx K cc own Ts nL ret D cy) (d : decode cc pc = .ok (.aconst_null, 1)) (k : Y K l R D cy adr nL cells slots Q M E lv (pc + 1) (.null :: st)) : Y K l R D cy adr nL cells slots Q M E lv pc st := by
  obtain ⟨p, e, s, m, args, below, meth, c, A⟩ := K
  exact fun H locs ls hP hD hS hl => lv_null C0.1 C0.2.1 d (k H locs ls hP hD hS hl)
theorem y_aload_nN (C0 : Cx K cc own Ts nL ret D cy) (k : Nat) {q : Fin 4} {i : Nat} (d : decode cc pc = .ok (.aload_n q, 1)) (hi : (q : Nat) = i) (hk : lv[k]? = some (i, .null)) (kk : Y K l R D cy adr nL cells slots Q M E lv (pc + 1) (.null :: st)) : Y K l R D cy adr nL cells slots Q M E lv pc st := by
  obtain ⟨p, e, s, m, args, below, meth, c, A⟩ := K
  exact fun H locs ls hP hD hS hl => lv_aload_nN C0.1 C0.2.1 d hi (lv_at hl k hk) (kk H locs ls hP hD hS hl)
theorem y_aloadN (C0 : Cx K cc own Ts nL ret D cy) (k : Nat) {i : Nat} (d : decode cc pc = .ok (.aload i, 2)) (hk : lv[k]? = some (i, .null)) (kk : Y K l R D cy adr nL cells slots Q M E lv (pc + 2) (.null :: st)) : Y K l R D cy adr nL cells slots Q M E lv pc st := by
  obtain ⟨p, e, s, m, args, below, meth, c, A⟩ := K
  exact fun H locs ls hP hD hS hl => lv_aloadN C0.1 C0.2.1 d (lv_at hl k hk) (kk H locs ls hP hD hS hl)
theorem y_astore_nN (C0 : Cx K cc own Ts nL ret D cy) {q : Fin 4} {i : Nat} (lv' : List (Nat × Value)) (d : decode cc pc = .ok (.astore_n q, 1)) (hi : (q : Nat) = i) (hn : i < nL) (hl' : (i, Value.null) :: lv.filter (fun q => !(q.1 == i) && !(q.1 + 1 == i && q.2.category == 2)) = lv') (kk : Y K l R D cy adr nL cells slots Q M E lv' (pc + 1) st) : Y K l R D cy adr nL cells slots Q M E lv pc (.null :: st) := by
  obtain ⟨p, e, s, m, args, below, meth, c, A⟩ := K
  exact fun H locs ls hP hD hS hl => lv_astore_nN C0.1 C0.2.1 d hi hl hn hl' (fun ls hl => kk H locs ls hP hD hS hl)
theorem y_astoreN (C0 : Cx K cc own Ts nL ret D cy) {i : Nat} (lv' : List (Nat × Value)) (d : decode cc pc = .ok (.astore i, 2)) (hn : i < nL) (hl' : (i, Value.null) :: lv.filter (fun q => !(q.1 == i) && !(q.1 + 1 == i && q.2.category == 2)) = lv') (kk : Y K l R D cy adr nL cells slots Q M E lv' (pc + 2) st) : Y K l R D cy adr nL cells slots Q M E lv pc (.null :: st) := by
  obtain ⟨p, e, s, m, args, below, meth, c, A⟩ := K
  exact fun H locs ls hP hD hS hl => lv_astoreN C0.1 C0.2.1 d hl hn hl' (fun ls hl => kk H locs ls hP hD hS hl)
/-- an int counter against any bound -/
theorem cl_end {x : Int32} {i : Nat} (hi : i ≤ x.toNatClampNeg) (h : x ≤ nI i) : i = x.toNatClampNeg := by
  have hx : x.toNatClampNeg < 2 ^ 31 := by
    have := Int32.toInt_lt x
    show x.toInt.toNat < 2 ^ 31
    omega
  have h2 : x.toInt ≤ (nI i).toInt := Int32.le_iff_toInt_le.mp h
  rw [nI_toInt (by omega)] at h2
  have : x.toNatClampNeg = x.toInt.toNat := rfl
  omega
theorem cl_lt {x : Int32} {i : Nat} (hi : i ≤ x.toNatClampNeg) (h : ¬ x ≤ nI i) : i < x.toNatClampNeg := by
  have hx : x.toNatClampNeg < 2 ^ 31 := by
    have := Int32.toInt_lt x
    show x.toInt.toNat < 2 ^ 31
    omega
  have h2 : ¬ x.toInt ≤ (nI i).toInt := fun q => h (Int32.le_iff_toInt_le.mpr q)
  rw [nI_toInt (by omega)] at h2
  have : x.toNatClampNeg = x.toInt.toNat := rfl
  omega
/-- a counter from 1 on, while it isn't greater than the bound -/
theorem cg_end {x : Int32} {i : Nat} (hb : x.toNatClampNeg < 1000) (hi : i ≤ x.toNatClampNeg) (h : x < nI (i + 1)) : i = x.toNatClampNeg := by
  have h2 : x.toInt < (nI (i + 1)).toInt := Int32.lt_iff_toInt_lt.mp h
  rw [nI_toInt (by omega)] at h2
  have : x.toNatClampNeg = x.toInt.toNat := rfl
  omega
theorem cg_lt {x : Int32} {i : Nat} (hb : x.toNatClampNeg < 1000) (hi : i ≤ x.toNatClampNeg) (h : ¬ x < nI (i + 1)) : i < x.toNatClampNeg := by
  have h2 : ¬ x.toInt < (nI (i + 1)).toInt := fun q => h (Int32.lt_iff_toInt_lt.mpr q)
  rw [nI_toInt (by omega)] at h2
  have : x.toNatClampNeg = x.toInt.toNat := rfl
  omega
/-- a counter against a written bound -/
theorem ct_end {i N : Nat} (hN : N < 2 ^ 31) (hi : i ≤ N) (h : nI N ≤ nI i) : i = N := by
  have := (nI_leI hN (by omega)).mp h
  omega
theorem ct_lt {i N : Nat} (hN : N < 2 ^ 31) (hi : i ≤ N) (h : ¬ nI N ≤ nI i) : i < N := by
  rcases Nat.lt_or_ge i N with q | q
  · exact q
  · exact absurd (nI_le q (by omega)) h
end YG
end
section
section YBK2
theorem bSet_e (f g : Rw) : ru (ru (ru (ru (ru (ru (ru (ru (ru (ru (ru (ru (f) 1 (g 1)) 2 (g 2)) 3 (g 3)) 4 (g 4)) 5 (g 5)) 6 (g 6)) 7 (g 7)) 8 (g 8)) 9 (g 9)) 10 (g 10)) 11 (g 11)) 12 (g 12) = bSet f g := by
  funext k
  unfold bSet
  simp only [ru_i]
  by_cases h : k = 1 ∨ k = 2 ∨ k = 3 ∨ k = 4 ∨ k = 5 ∨ k = 6 ∨ k = 7 ∨ k = 8 ∨ k = 9 ∨ k = 10 ∨ k = 11 ∨ k = 12
  · rcases h with rfl | rfl | rfl | rfl | rfl | rfl | rfl | rfl | rfl | rfl | rfl | rfl <;> simp
  · simp only [not_or] at h
    simp [h]
    intros
    omega
theorem fSet_e (f g : Rw) : ru (ru (ru (f) 1 (g 1)) 2 (g 2)) 3 (g 3) = fSet f g := by
  funext k
  unfold fSet
  simp only [ru_i]
  by_cases h : k = 1 ∨ k = 2 ∨ k = 3
  · rcases h with rfl | rfl | rfl <;> simp
  · simp only [not_or] at h
    simp [h]
    intros
    omega
theorem sSet_e (f g : Rw) : ru (ru (f) 1 (g 1)) 2 (g 2) = sSet f g := by
  funext k
  unfold sSet
  simp only [ru_i]
  by_cases h : k = 1 ∨ k = 2
  · rcases h with rfl | rfl <;> simp
  · simp only [not_or] at h
    simp [h]
    intros
    omega
abbrev rX0_stitchesToSew : Room := { frames := 1, cells := 0, slots := 0, locals := 22 }
set_option maxRecDepth 100000 in
set_option maxHeartbeats 4000000 in
theorem mX0_stitchesToSew (l : Launch) (D : va_G) (cy : Nat → ClassId) (adr : Nat → Nat) (M : yM) (b : Nat) (hk : ykd b = 0) : Ct l yX0_stitchesToSew wsX0_stitchesToSew rX0_stitchesToSew D cy adr [.ref (adr b)] M (some (.int (bToSew (M b)))) (M) 0 0 := by
  refine Ct.mk cX0_stitchesToSew 3 (some .int) RX0 (by decide) rfl rfl (Nat.le_of_ble_eq_true rfl) ?_
  intro K C0
  refine y_eq rfl (show ([(0, .ref (adr b))] : List (Nat × Value)) = lv_args 0 [.ref (adr b)] from rfl) rfl ?_
  have hin0 : ∀ w ∈ u_ws RX0 TX0 13, w ∈ wsX0_stitchesToSew := by decide +kernel
  refine y_iconst (v := 0) C0 dX0_stitchesToSew_0 (by decide) ?_
  refine y_istore_n C0 [(1, _), (0, _)] dX0_stitchesToSew_1 rfl (by decide) rfl ?_
  refine y_iconst (v := 0) C0 dX0_stitchesToSew_2 (by decide) ?_
  refine y_istore_n C0 [(2, _), (1, _), (0, _)] dX0_stitchesToSew_3 rfl (by decide) rfl ?_
  have hl_4 : ∀ (n : Nat) (i : Nat), (M b 1).toNatClampNeg - i = n → i ≤ (M b 1).toNatClampNeg → Y K l rX0_stitchesToSew D cy adr 3 0 0 (QT K D cy adr (some (.int (bToSew (M b)))) (M) 0 0) M [] [(2, .int (nI i)), (1, .int (bSum (M b) i)), (0, .ref (adr b))] 4 [] := by
    intro n
    induction n using Nat.strongRecOn with
    | _ n ih_4 =>
      intro i hn_4 hi
      refine y_iload_n C0 0 dX0_stitchesToSew_4 rfl rfl ?_
      refine y_aload_n C0 2 dX0_stitchesToSew_5 rfl rfl ?_
      refine y_get C0 0 rfl rfl (by decide) hin0 1 hk (by decide) (by decide +kernel) (yvi0 hk) dX0_stitchesToSew_6 ?_
      refine y_icmp_ge C0 26 dX0_stitchesToSew_9 (by decide) (fun c_9 => ?_) (fun c_9 => ?_)
      · have he := cl_end hi c_9
        rw [he]
        refine y_iload_n C0 1 dX0_stitchesToSew_26 rfl rfl ?_
        refine y_aload_n C0 2 dX0_stitchesToSew_27 rfl rfl ?_
        refine y_get C0 0 rfl rfl (by decide) hin0 7 hk (by decide) (by decide +kernel) (yvi0 hk) dX0_stitchesToSew_28 ?_
        refine y_isub C0 dX0_stitchesToSew_31 ?_
        exact y_iret C0 dX0_stitchesToSew_32 (by rw [bToSew]) rfl
      · have hlt := cl_lt hi c_9
        refine y_iload_n C0 1 dX0_stitchesToSew_12 rfl rfl ?_
        refine y_aload_n C0 2 dX0_stitchesToSew_13 rfl rfl ?_
        refine y_iload_n C0 0 dX0_stitchesToSew_14 rfl rfl ?_
        refine y_callV (As := [_]) (rest := _) (n := 1) C0 (mX0_stitchesOfSignature l D cy adr _ _ hk _) 0 rfl (by decide) hk gX0_stitchesToSew_X0_stitchesOfSignature rfl rfl rfl (by decide +kernel) ⟨by decide, by decide⟩ rfl rfl (Nat.le_of_ble_eq_true rfl) dX0_stitchesToSew_15 ⟨by decide, by decide⟩ ?_
        refine y_iadd C0 dX0_stitchesToSew_18 ?_
        refine y_istore_n C0 [(1, _), (2, _), (0, _)] dX0_stitchesToSew_19 rfl (by decide) rfl ?_
        refine y_iinc (v := nI (i + 1)) C0 1 [(2, _), (1, _), (0, _)] dX0_stitchesToSew_20 rfl (yinc_ok rfl rfl) (by decide) rfl ?_
        refine y_goto C0 4 dX0_stitchesToSew_23 (by decide) ?_
        refine y_sub [0, 1, 2] [(2, _), (1, _), (0, _)] rfl ?_
        exact y_eq (by first | rfl | simp [bSum, c_9]) (by first | rfl | simp [bSum, c_9]) rfl (ih_4 _ (by omega) (i + 1) rfl hlt)
  refine y_sub [0, 1, 2] [(2, _), (1, _), (0, _)] rfl ?_
  exact hl_4 _ 0 rfl (Nat.zero_le _)
abbrev rX0_tell : Room := { frames := 2, cells := 0, slots := 0, locals := 36 }
set_option maxRecDepth 100000 in
set_option maxHeartbeats 4000000 in
theorem mX0_tell (l : Launch) (D : va_G) (cy : Nat → ClassId) (adr : Nat → Nat) (M : yM) (b : Nat) (hk : ykd b = 0) (x : Int32) : Ct l yX0_tell wsX0_tell rX0_tell D cy adr [.ref (adr b), .int x] M (some (.int (bTell (M b) x))) (M) 0 0 := by
  refine Ct.mk cX0_tell 2 (some .int) RX0 (by decide) rfl rfl (Nat.le_of_ble_eq_true rfl) ?_
  intro K C0
  refine y_eq rfl (show ([(0, .ref (adr b)), (1, .int x)] : List (Nat × Value)) = lv_args 0 [.ref (adr b), .int x] from rfl) rfl ?_
  have hin0 : ∀ w ∈ u_ws RX0 TX0 13, w ∈ wsX0_tell := by decide +kernel
  refine y_iload_n C0 1 dX0_tell_0 rfl rfl ?_
  by_cases s_1_0 : x = 0
  · refine y_tswI (v := 0) C0 dX0_tell_1 (by rw [s_1_0]; rfl) (by decide) (by decide) rfl (tgt := 56) (by decide) ?_
    refine y_aload_n C0 0 dX0_tell_56 rfl rfl ?_
    refine y_get C0 0 rfl rfl (by decide) hin0 1 hk (by decide) (by decide +kernel) (yvi0 hk) dX0_tell_57 ?_
    exact y_iret C0 dX0_tell_60 (by simp_all [yst_ru, up_up, up_s, ru_i, up_id, -Int32.not_le, -Int32.not_lt, bTell]) (by simp_all [yst_ru, up_up, up_s, ru_i, up_id, -Int32.not_le, -Int32.not_lt, bTell])
  by_cases s_1_1 : x = 1
  · refine y_tswI (v := 1) C0 dX0_tell_1 (by rw [s_1_1]; rfl) (by decide) (by decide) rfl (tgt := 61) (by decide) ?_
    refine y_aload_n C0 0 dX0_tell_61 rfl rfl ?_
    refine y_get C0 0 rfl rfl (by decide) hin0 2 hk (by decide) (by decide +kernel) (yvi0 hk) dX0_tell_62 ?_
    exact y_iret C0 dX0_tell_65 (by simp_all [yst_ru, up_up, up_s, ru_i, up_id, -Int32.not_le, -Int32.not_lt, bTell]) (by simp_all [yst_ru, up_up, up_s, ru_i, up_id, -Int32.not_le, -Int32.not_lt, bTell])
  by_cases s_1_2 : x = 2
  · refine y_tswI (v := 2) C0 dX0_tell_1 (by rw [s_1_2]; rfl) (by decide) (by decide) rfl (tgt := 66) (by decide) ?_
    refine y_aload_n C0 0 dX0_tell_66 rfl rfl ?_
    refine y_get C0 0 rfl rfl (by decide) hin0 3 hk (by decide) (by decide +kernel) (yvi0 hk) dX0_tell_67 ?_
    exact y_iret C0 dX0_tell_70 (by simp_all [yst_ru, up_up, up_s, ru_i, up_id, -Int32.not_le, -Int32.not_lt, bTell]) (by simp_all [yst_ru, up_up, up_s, ru_i, up_id, -Int32.not_le, -Int32.not_lt, bTell])
  by_cases s_1_3 : x = 3
  · refine y_tswI (v := 3) C0 dX0_tell_1 (by rw [s_1_3]; rfl) (by decide) (by decide) rfl (tgt := 71) (by decide) ?_
    refine y_aload_n C0 0 dX0_tell_71 rfl rfl ?_
    refine y_get C0 0 rfl rfl (by decide) hin0 4 hk (by decide) (by decide +kernel) (yvi0 hk) dX0_tell_72 ?_
    exact y_iret C0 dX0_tell_75 (by simp_all [yst_ru, up_up, up_s, ru_i, up_id, -Int32.not_le, -Int32.not_lt, bTell]) (by simp_all [yst_ru, up_up, up_s, ru_i, up_id, -Int32.not_le, -Int32.not_lt, bTell])
  by_cases s_1_4 : x = 4
  · refine y_tswI (v := 4) C0 dX0_tell_1 (by rw [s_1_4]; rfl) (by decide) (by decide) rfl (tgt := 76) (by decide) ?_
    refine y_aload_n C0 0 dX0_tell_76 rfl rfl ?_
    refine y_get C0 0 rfl rfl (by decide) hin0 5 hk (by decide) (by decide +kernel) (yvi0 hk) dX0_tell_77 ?_
    exact y_iret C0 dX0_tell_80 (by simp_all [yst_ru, up_up, up_s, ru_i, up_id, -Int32.not_le, -Int32.not_lt, bTell]) (by simp_all [yst_ru, up_up, up_s, ru_i, up_id, -Int32.not_le, -Int32.not_lt, bTell])
  by_cases s_1_5 : x = 5
  · refine y_tswI (v := 5) C0 dX0_tell_1 (by rw [s_1_5]; rfl) (by decide) (by decide) rfl (tgt := 81) (by decide) ?_
    refine y_aload_n C0 0 dX0_tell_81 rfl rfl ?_
    refine y_get C0 0 rfl rfl (by decide) hin0 8 hk (by decide) (by decide +kernel) (yvi0 hk) dX0_tell_82 ?_
    exact y_iret C0 dX0_tell_85 (by simp_all [yst_ru, up_up, up_s, ru_i, up_id, -Int32.not_le, -Int32.not_lt, bTell]) (by simp_all [yst_ru, up_up, up_s, ru_i, up_id, -Int32.not_le, -Int32.not_lt, bTell])
  by_cases s_1_6 : x = 6
  · refine y_tswI (v := 6) C0 dX0_tell_1 (by rw [s_1_6]; rfl) (by decide) (by decide) rfl (tgt := 86) (by decide) ?_
    refine y_aload_n C0 0 dX0_tell_86 rfl rfl ?_
    refine y_get C0 0 rfl rfl (by decide) hin0 9 hk (by decide) (by decide +kernel) (yvi0 hk) dX0_tell_87 ?_
    exact y_iret C0 dX0_tell_90 (by simp_all [yst_ru, up_up, up_s, ru_i, up_id, -Int32.not_le, -Int32.not_lt, bTell]) (by simp_all [yst_ru, up_up, up_s, ru_i, up_id, -Int32.not_le, -Int32.not_lt, bTell])
  by_cases s_1_7 : x = 7
  · refine y_tswI (v := 7) C0 dX0_tell_1 (by rw [s_1_7]; rfl) (by decide) (by decide) rfl (tgt := 91) (by decide) ?_
    refine y_aload_n C0 0 dX0_tell_91 rfl rfl ?_
    refine y_get C0 0 rfl rfl (by decide) hin0 10 hk (by decide) (by decide +kernel) (yvi0 hk) dX0_tell_92 ?_
    exact y_iret C0 dX0_tell_95 (by simp_all [yst_ru, up_up, up_s, ru_i, up_id, -Int32.not_le, -Int32.not_lt, bTell]) (by simp_all [yst_ru, up_up, up_s, ru_i, up_id, -Int32.not_le, -Int32.not_lt, bTell])
  by_cases s_1_8 : x = 8
  · refine y_tswI (v := 8) C0 dX0_tell_1 (by rw [s_1_8]; rfl) (by decide) (by decide) rfl (tgt := 96) (by decide) ?_
    refine y_aload_n C0 0 dX0_tell_96 rfl rfl ?_
    refine y_get C0 0 rfl rfl (by decide) hin0 11 hk (by decide) (by decide +kernel) (yvi0 hk) dX0_tell_97 ?_
    exact y_iret C0 dX0_tell_100 (by simp_all [yst_ru, up_up, up_s, ru_i, up_id, -Int32.not_le, -Int32.not_lt, bTell]) (by simp_all [yst_ru, up_up, up_s, ru_i, up_id, -Int32.not_le, -Int32.not_lt, bTell])
  by_cases s_1_9 : x = 9
  · refine y_tswI (v := 9) C0 dX0_tell_1 (by rw [s_1_9]; rfl) (by decide) (by decide) rfl (tgt := 101) (by decide) ?_
    refine y_aload_n C0 0 dX0_tell_101 rfl rfl ?_
    refine y_get C0 0 rfl rfl (by decide) hin0 12 hk (by decide) (by decide +kernel) (yvi0 hk) dX0_tell_102 ?_
    exact y_iret C0 dX0_tell_105 (by simp_all [yst_ru, up_up, up_s, ru_i, up_id, -Int32.not_le, -Int32.not_lt, bTell]) (by simp_all [yst_ru, up_up, up_s, ru_i, up_id, -Int32.not_le, -Int32.not_lt, bTell])
  refine y_tswO C0 dX0_tell_1 (by have z0 := lv_neT s_1_0 (a := 0) rfl; have z1 := lv_neT s_1_1 (a := 1) rfl; have z2 := lv_neT s_1_2 (a := 2) rfl; have z3 := lv_neT s_1_3 (a := 3) rfl; have z4 := lv_neT s_1_4 (a := 4) rfl; have z5 := lv_neT s_1_5 (a := 5) rfl; have z6 := lv_neT s_1_6 (a := 6) rfl; have z7 := lv_neT s_1_7 (a := 7) rfl; have z8 := lv_neT s_1_8 (a := 8) rfl; have z9 := lv_neT s_1_9 (a := 9) rfl; omega) (tgt := 106) (by decide) ?_
  refine y_aload_n C0 0 dX0_tell_106 rfl rfl ?_
  refine y_callV (As := []) (rest := _) (n := 0) C0 (mX0_value l D cy adr _ _ hk) 0 rfl (by decide) hk gX0_tell_X0_value rfl rfl rfl (by decide +kernel) ⟨by decide, by decide⟩ rfl rfl (Nat.le_of_ble_eq_true rfl) dX0_tell_107 ⟨by decide, by decide⟩ ?_
  exact y_iret C0 dX0_tell_110 (by simp_all [yst_ru, up_up, up_s, ru_i, up_id, -Int32.not_le, -Int32.not_lt, bTell]) (by simp_all [yst_ru, up_up, up_s, ru_i, up_id, -Int32.not_le, -Int32.not_lt, bTell])
abbrev rX0_setTo : Room := { frames := 0, cells := 0, slots := 0, locals := 0 }
set_option maxRecDepth 100000 in
set_option maxHeartbeats 4000000 in
theorem mX0_setTo (l : Launch) (D : va_G) (cy : Nat → ClassId) (adr : Nat → Nat) (M : yM) (b a : Nat) (hk : ykd b = 0) (ha : ykd a = 0) (hne : a ≠ b) : Ct l yX0_setTo wsX0_setTo rX0_setTo D cy adr [.ref (adr b), .ref (adr a)] M (none) (va_up M b (bSet (M b) (M a))) 0 0 := by
  refine Ct.mk cX0_setTo 2 none RX0 (by decide) rfl rfl (Nat.le_of_ble_eq_true rfl) ?_
  intro K C0
  refine y_eq rfl (show ([(0, .ref (adr b)), (1, .ref (adr a))] : List (Nat × Value)) = lv_args 0 [.ref (adr b), .ref (adr a)] from rfl) rfl ?_
  have hin0 : ∀ w ∈ u_ws RX0 TX0 13, w ∈ wsX0_setTo := by decide +kernel
  refine y_aload_n C0 0 dX0_setTo_0 rfl rfl ?_
  refine y_aload_n C0 1 dX0_setTo_1 rfl rfl ?_
  refine y_get C0 0 rfl rfl (by decide) hin0 1 ha (by decide) (by decide +kernel) (yvi0 ha) dX0_setTo_2 ?_
  refine y_put C0 0 rfl rfl (by decide) hin0 tyX0 tyX0_ok nmX0 1 hk (by decide) (by decide +kernel) (yrn0 hk) rfl (by decide +kernel) dX0_setTo_5 ?_
  refine y_aload_n C0 0 dX0_setTo_8 rfl rfl ?_
  refine y_aload_n C0 1 dX0_setTo_9 rfl rfl ?_
  refine y_get C0 0 rfl rfl (by decide) hin0 2 ha (by decide) (by decide +kernel) (yvi0 ha) dX0_setTo_10 ?_
  refine y_put C0 0 rfl rfl (by decide) hin0 tyX0 tyX0_ok nmX0 2 hk (by decide) (by decide +kernel) (yrn0 hk) rfl (by decide +kernel) dX0_setTo_13 ?_
  refine y_aload_n C0 0 dX0_setTo_16 rfl rfl ?_
  refine y_aload_n C0 1 dX0_setTo_17 rfl rfl ?_
  refine y_get C0 0 rfl rfl (by decide) hin0 3 ha (by decide) (by decide +kernel) (yvi0 ha) dX0_setTo_18 ?_
  refine y_put C0 0 rfl rfl (by decide) hin0 tyX0 tyX0_ok nmX0 3 hk (by decide) (by decide +kernel) (yrn0 hk) rfl (by decide +kernel) dX0_setTo_21 ?_
  refine y_aload_n C0 0 dX0_setTo_24 rfl rfl ?_
  refine y_aload_n C0 1 dX0_setTo_25 rfl rfl ?_
  refine y_get C0 0 rfl rfl (by decide) hin0 4 ha (by decide) (by decide +kernel) (yvi0 ha) dX0_setTo_26 ?_
  refine y_put C0 0 rfl rfl (by decide) hin0 tyX0 tyX0_ok nmX0 4 hk (by decide) (by decide +kernel) (yrn0 hk) rfl (by decide +kernel) dX0_setTo_29 ?_
  refine y_aload_n C0 0 dX0_setTo_32 rfl rfl ?_
  refine y_aload_n C0 1 dX0_setTo_33 rfl rfl ?_
  refine y_get C0 0 rfl rfl (by decide) hin0 5 ha (by decide) (by decide +kernel) (yvi0 ha) dX0_setTo_34 ?_
  refine y_put C0 0 rfl rfl (by decide) hin0 tyX0 tyX0_ok nmX0 5 hk (by decide) (by decide +kernel) (yrn0 hk) rfl (by decide +kernel) dX0_setTo_37 ?_
  refine y_aload_n C0 0 dX0_setTo_40 rfl rfl ?_
  refine y_aload_n C0 1 dX0_setTo_41 rfl rfl ?_
  refine y_get C0 0 rfl rfl (by decide) hin0 6 ha (by decide) (by decide +kernel) (yvi0 ha) dX0_setTo_42 ?_
  refine y_put C0 0 rfl rfl (by decide) hin0 tyX0 tyX0_ok nmX0 6 hk (by decide) (by decide +kernel) (yrn0 hk) rfl (by decide +kernel) dX0_setTo_45 ?_
  refine y_aload_n C0 0 dX0_setTo_48 rfl rfl ?_
  refine y_aload_n C0 1 dX0_setTo_49 rfl rfl ?_
  refine y_get C0 0 rfl rfl (by decide) hin0 7 ha (by decide) (by decide +kernel) (yvi0 ha) dX0_setTo_50 ?_
  refine y_put C0 0 rfl rfl (by decide) hin0 tyX0 tyX0_ok nmX0 7 hk (by decide) (by decide +kernel) (yrn0 hk) rfl (by decide +kernel) dX0_setTo_53 ?_
  refine y_aload_n C0 0 dX0_setTo_56 rfl rfl ?_
  refine y_aload_n C0 1 dX0_setTo_57 rfl rfl ?_
  refine y_get C0 0 rfl rfl (by decide) hin0 8 ha (by decide) (by decide +kernel) (yvi0 ha) dX0_setTo_58 ?_
  refine y_put C0 0 rfl rfl (by decide) hin0 tyX0 tyX0_ok nmX0 8 hk (by decide) (by decide +kernel) (yrn0 hk) rfl (by decide +kernel) dX0_setTo_61 ?_
  refine y_aload_n C0 0 dX0_setTo_64 rfl rfl ?_
  refine y_aload_n C0 1 dX0_setTo_65 rfl rfl ?_
  refine y_get C0 0 rfl rfl (by decide) hin0 9 ha (by decide) (by decide +kernel) (yvi0 ha) dX0_setTo_66 ?_
  refine y_put C0 0 rfl rfl (by decide) hin0 tyX0 tyX0_ok nmX0 9 hk (by decide) (by decide +kernel) (yrn0 hk) rfl (by decide +kernel) dX0_setTo_69 ?_
  refine y_aload_n C0 0 dX0_setTo_72 rfl rfl ?_
  refine y_aload_n C0 1 dX0_setTo_73 rfl rfl ?_
  refine y_get C0 0 rfl rfl (by decide) hin0 10 ha (by decide) (by decide +kernel) (yvi0 ha) dX0_setTo_74 ?_
  refine y_put C0 0 rfl rfl (by decide) hin0 tyX0 tyX0_ok nmX0 10 hk (by decide) (by decide +kernel) (yrn0 hk) rfl (by decide +kernel) dX0_setTo_77 ?_
  refine y_aload_n C0 0 dX0_setTo_80 rfl rfl ?_
  refine y_aload_n C0 1 dX0_setTo_81 rfl rfl ?_
  refine y_get C0 0 rfl rfl (by decide) hin0 11 ha (by decide) (by decide +kernel) (yvi0 ha) dX0_setTo_82 ?_
  refine y_put C0 0 rfl rfl (by decide) hin0 tyX0 tyX0_ok nmX0 11 hk (by decide) (by decide +kernel) (yrn0 hk) rfl (by decide +kernel) dX0_setTo_85 ?_
  refine y_aload_n C0 0 dX0_setTo_88 rfl rfl ?_
  refine y_aload_n C0 1 dX0_setTo_89 rfl rfl ?_
  refine y_get C0 0 rfl rfl (by decide) hin0 12 ha (by decide) (by decide +kernel) (yvi0 ha) dX0_setTo_90 ?_
  refine y_put C0 0 rfl rfl (by decide) hin0 tyX0 tyX0_ok nmX0 12 hk (by decide) (by decide +kernel) (yrn0 hk) rfl (by decide +kernel) dX0_setTo_93 ?_
  exact y_vret C0 dX0_setTo_96 rfl (by simp only [yst_ru, up_up, up_s, up_n hne]; exact congrArg (va_up M b) (bSet_e (M b) (M a)))
abbrev rX1_setTo : Room := { frames := 0, cells := 0, slots := 0, locals := 0 }
set_option maxRecDepth 100000 in
set_option maxHeartbeats 4000000 in
theorem mX1_setTo (l : Launch) (D : va_G) (cy : Nat → ClassId) (adr : Nat → Nat) (M : yM) (b a : Nat) (hk : ykd b = 1) (ha : ykd a = 1) (hne : a ≠ b) : Ct l yX1_setTo wsX1_setTo rX1_setTo D cy adr [.ref (adr b), .ref (adr a)] M (none) (va_up M b (fSet (M b) (M a))) 0 0 := by
  refine Ct.mk cX1_setTo 2 none RX1 (by decide) rfl rfl (Nat.le_of_ble_eq_true rfl) ?_
  intro K C0
  refine y_eq rfl (show ([(0, .ref (adr b)), (1, .ref (adr a))] : List (Nat × Value)) = lv_args 0 [.ref (adr b), .ref (adr a)] from rfl) rfl ?_
  have hin1 : ∀ w ∈ u_ws RX1 TX1 4, w ∈ wsX1_setTo := by decide +kernel
  refine y_aload_n C0 0 dX1_setTo_0 rfl rfl ?_
  refine y_aload_n C0 1 dX1_setTo_1 rfl rfl ?_
  refine y_get C0 1 rfl rfl (by decide) hin1 1 ha (by decide) (by decide +kernel) (yvi1 ha) dX1_setTo_2 ?_
  refine y_put C0 1 rfl rfl (by decide) hin1 tyX1 tyX1_ok nmX1 1 hk (by decide) (by decide +kernel) (yrn1 hk) rfl (by decide +kernel) dX1_setTo_5 ?_
  refine y_aload_n C0 0 dX1_setTo_8 rfl rfl ?_
  refine y_aload_n C0 1 dX1_setTo_9 rfl rfl ?_
  refine y_get C0 1 rfl rfl (by decide) hin1 2 ha (by decide) (by decide +kernel) (yvi1 ha) dX1_setTo_10 ?_
  refine y_put C0 1 rfl rfl (by decide) hin1 tyX1 tyX1_ok nmX1 2 hk (by decide) (by decide +kernel) (yrn1 hk) rfl (by decide +kernel) dX1_setTo_13 ?_
  refine y_aload_n C0 0 dX1_setTo_16 rfl rfl ?_
  refine y_aload_n C0 1 dX1_setTo_17 rfl rfl ?_
  refine y_get C0 1 rfl rfl (by decide) hin1 3 ha (by decide) (by decide +kernel) (yvi1 ha) dX1_setTo_18 ?_
  refine y_put C0 1 rfl rfl (by decide) hin1 tyX1 tyX1_ok nmX1 3 hk (by decide) (by decide +kernel) (yrn1 hk) rfl (by decide +kernel) dX1_setTo_21 ?_
  exact y_vret C0 dX1_setTo_24 rfl (by simp only [yst_ru, up_up, up_s, up_n hne]; exact congrArg (va_up M b) (fSet_e (M b) (M a)))
abbrev rX2_setTo : Room := { frames := 0, cells := 0, slots := 0, locals := 0 }
set_option maxRecDepth 100000 in
set_option maxHeartbeats 4000000 in
theorem mX2_setTo (l : Launch) (D : va_G) (cy : Nat → ClassId) (adr : Nat → Nat) (M : yM) (b a : Nat) (hk : ykd b = 2) (ha : ykd a = 2) (hne : a ≠ b) : Ct l yX2_setTo wsX2_setTo rX2_setTo D cy adr [.ref (adr b), .ref (adr a)] M (none) (va_up M b (sSet (M b) (M a))) 0 0 := by
  refine Ct.mk cX2_setTo 2 none RX2 (by decide) rfl rfl (Nat.le_of_ble_eq_true rfl) ?_
  intro K C0
  refine y_eq rfl (show ([(0, .ref (adr b)), (1, .ref (adr a))] : List (Nat × Value)) = lv_args 0 [.ref (adr b), .ref (adr a)] from rfl) rfl ?_
  have hin2 : ∀ w ∈ u_ws RX2 TX2 3, w ∈ wsX2_setTo := by decide +kernel
  refine y_aload_n C0 0 dX2_setTo_0 rfl rfl ?_
  refine y_aload_n C0 1 dX2_setTo_1 rfl rfl ?_
  refine y_get C0 2 rfl rfl (by decide) hin2 1 ha (by decide) (by decide +kernel) (yvi2 ha) dX2_setTo_2 ?_
  refine y_put C0 2 rfl rfl (by decide) hin2 tyX2 tyX2_ok nmX2 1 hk (by decide) (by decide +kernel) (yrn2 hk) rfl (by decide +kernel) dX2_setTo_5 ?_
  refine y_aload_n C0 0 dX2_setTo_8 rfl rfl ?_
  refine y_aload_n C0 1 dX2_setTo_9 rfl rfl ?_
  refine y_get C0 2 rfl rfl (by decide) hin2 2 ha (by decide) (by decide +kernel) (yvi2 ha) dX2_setTo_10 ?_
  refine y_put C0 2 rfl rfl (by decide) hin2 tyX2 tyX2_ok nmX2 2 hk (by decide) (by decide +kernel) (yrn2 hk) rfl (by decide +kernel) dX2_setTo_13 ?_
  exact y_vret C0 dX2_setTo_16 rfl (by simp only [yst_ru, up_up, up_s, up_n hne]; exact congrArg (va_up M b) (sSet_e (M b) (M a)))
abbrev rX2_tell : Room := { frames := 0, cells := 0, slots := 0, locals := 0 }
set_option maxRecDepth 100000 in
set_option maxHeartbeats 4000000 in
theorem mX2_tell (l : Launch) (D : va_G) (cy : Nat → ClassId) (adr : Nat → Nat) (M : yM) (b : Nat) (hk : ykd b = 2) (x : Int32) : Ct l yX2_tell wsX2_tell rX2_tell D cy adr [.ref (adr b), .int x] M (some (.int (sTell (M b) x))) (M) 0 0 := by
  refine Ct.mk cX2_tell 2 (some .int) RX2 (by decide) rfl rfl (Nat.le_of_ble_eq_true rfl) ?_
  intro K C0
  refine y_eq rfl (show ([(0, .ref (adr b)), (1, .int x)] : List (Nat × Value)) = lv_args 0 [.ref (adr b), .int x] from rfl) rfl ?_
  have hin2 : ∀ w ∈ u_ws RX2 TX2 3, w ∈ wsX2_tell := by decide +kernel
  refine y_iload_n C0 1 dX2_tell_0 rfl rfl ?_
  refine y_if_ne C0 11 dX2_tell_1 (by decide) (fun c_1 => ?_) (fun c_1 => ?_)
  · refine y_aload_n C0 0 dX2_tell_11 rfl rfl ?_
    refine y_get C0 2 rfl rfl (by decide) hin2 2 hk (by decide) (by decide +kernel) (yvi2 hk) dX2_tell_12 ?_
    exact y_iret C0 dX2_tell_15 (by simp_all [yst_ru, up_up, up_s, ru_i, up_id, -Int32.not_le, -Int32.not_lt, sTell]) (by simp_all [yst_ru, up_up, up_s, ru_i, up_id, -Int32.not_le, -Int32.not_lt, sTell])
  · refine y_aload_n C0 0 dX2_tell_4 rfl rfl ?_
    refine y_get C0 2 rfl rfl (by decide) hin2 1 hk (by decide) (by decide +kernel) (yvi2 hk) dX2_tell_5 ?_
    refine y_goto C0 15 dX2_tell_8 (by decide) ?_
    exact y_iret C0 dX2_tell_15 (by simp_all [yst_ru, up_up, up_s, ru_i, up_id, -Int32.not_le, -Int32.not_lt, sTell]) (by simp_all [yst_ru, up_up, up_s, ru_i, up_id, -Int32.not_le, -Int32.not_lt, sTell])
end YBK2
end
section
section YW
/-! THE WORKSHOP at o (0 now, 27 ahead). Its row: 3 bookCount, 4 sewerCount, 5 hour, 6 coins, 7 thread, 8 boards, 9 gold, 10 sewn, 11 loose. Written as the code goes. -/
def wOth (M : yM) (o : Nat) (f s : Int32) : Nat → Int32 | 0 => 0 | n + 1 => if M (o + 19 + n) 2 = f then (if M (o + 19 + n) 0 = s then wOth M o f s n else wOth M o f s n + 1) else wOth M o f s n
def wSpd (M : yM) (o : Nat) (f : Int32) : Nat → Int32 | 0 => 0 | n + 1 => if M (o + 19 + n) 2 = f then wSpd M o f n + M (o + 19 + n) 1 else wSpd M o f n
/-- those who sit at f, of the first n -/
def wSit (M : yM) (o : Nat) (f : Int32) : Nat → Int32 | 0 => 0 | n + 1 => if M (o + 19 + n) 2 = f then wSit M o f n + 1 else wSit M o f n
def wRate (M : yM) (o : Nat) (f : Int32) : Int32 := if wSit M o f 5 = 2 then (if 1 < wSpd M o f 5 - 3 then wSpd M o f 5 - 3 else 1) else wSpd M o f 5
def wCnt (M : yM) (o : Nat) (s : Int32) : Nat → Int32 | 0 => 0 | n + 1 => if M (o + 4 + n) 4 = s then wCnt M o s n + 1 else wCnt M o s n
def wFst (M : yM) (o : Nat) (s : Int32) : Nat → Option Nat | 0 => none | n + 1 => match wFst M o s n with | some i => some i | none => if M (o + 4 + n) 4 = s then some n else none
def wNo (M : yM) (o : Nat) (x : Int32) : Prop := x < 0 ∨ M o 3 ≤ x ∨ nI 15 ≤ x
def wNoS (M : yM) (o : Nat) (x : Int32) : Prop := x < 0 ∨ M o 4 ≤ x ∨ nI 5 ≤ x
def wPay (M : yM) (o : Nat) (x : Int32) : yM := yst M o 9 (M o 9 - x)
def wGildB (M : yM) (j : Nat) : yM := va_up M j (bGild (M j))
def wGildAt (M : yM) (o i : Nat) : yM := if M o 9 < bLeaves (M (o + 4 + i)) then M else wGildB (wPay M o (bLeaves (M (o + 4 + i)))) (o + 4 + i)
def wGild (M : yM) (o : Nat) : yM := match wFst M o 4 15 with | some i => wGildAt M o i | none => M
def wBoardB (M : yM) (j : Nat) : yM := va_up M j (bBind (M j))
def wBoardAt (M : yM) (o i : Nat) : yM := wBoardB (yst M o 8 (M o 8 - 2)) (o + 4 + i)
def wBoard (M : yM) (o : Nat) : Nat → yM | 0 => M | n + 1 => if wBoard M o n (o + 4 + n) 4 = 3 then (if wBoard M o n o 8 < 2 then wBoard M o n else wBoardAt (wBoard M o n) o n) else wBoard M o n
def wDry (M : yM) (o : Nat) : Nat → yM | 0 => M | n + 1 => if wDry M o n (o + 4 + n) 4 = 2 then va_up (wDry M o n) (o + 4 + n) (bDryH (wDry M o n (o + 4 + n))) else wDry M o n
def wMountA (M : yM) (o f i : Nat) : yM := va_up M (o + 4 + i) (bMount (M (o + 4 + i)) (M (o + 24 + f) 0) (M (o + 24 + f) 1))
def wMountAt (M : yM) (o f i : Nat) : yM := yst (wMountA M o f i) (o + 24 + f) 2 (wMountA M o f i (o + 4 + i) 0)
def wMount (M : yM) (o f : Nat) : yM := match wFst M o 0 15 with | some i => wMountAt M o f i | none => M
def yinc (M : yM) (j k : Nat) (x : Int32) : yM := yst M j k (M j k + x)
def ydec (M : yM) (j k : Nat) (x : Int32) : yM := yst M j k (M j k - x)
def wStA (M : yM) (o f : Nat) : yM := yinc (yinc (ydec M o 7 1) o 10 1) (o + 24 + f) 3 1
def wAddB (M : yM) (j : Nat) : yM := va_up M j (bAdd (M j))
def wStB (M : yM) (o f b : Nat) : yM := wAddB (wStA M o f) (o + 4 + b)
def wStC (M : yM) (o b : Nat) : yM := yinc (yinc M (o + 4 + b) 10 1) o 11 1
def wStitch (M : yM) (o f b k : Nat) : yM := if bAddR (wStA M o f (o + 4 + b)) = 0 then wStB M o f b else (if nI k < 10 then wStB M o f b else wStC (wStB M o f b) o b)
def wSewL (M : yM) (o f b : Nat) : Nat → yM | 0 => M | n + 1 => if bSewn (wSewL M o f b n (o + 4 + b)) = 0 then wStitch (wSewL M o f b n) o f b (n + 1) else wSewL M o f b n
def wMost (M : yM) (o f : Nat) : Int32 := if M o 7 < wRate M o (M (o + 24 + f) 0) then M o 7 else wRate M o (M (o + 24 + f) 0)
def wDryB (M : yM) (j : Nat) : yM := va_up M j (bDryB (M j))
def wSewE (M : yM) (o f b : Nat) : yM := if bSewn (M (o + 4 + b)) = 0 then M else wDryB (yst M (o + 24 + f) 2 (-1)) (o + 4 + b)
def wSewB (M : yM) (o f b : Nat) : yM := wSewE (wSewL M o f b (wMost M o f).toNatClampNeg) o f b
noncomputable def wSew (M : yM) (o f : Nat) : yM := by classical exact if wNo M o (M (o + 24 + f) 2) then M else wSewB M o f (M (o + 24 + f) 2).toNatClampNeg
noncomputable def wSews (M : yM) (o : Nat) : Nat → yM | 0 => M | n + 1 => wSew (wSews M o n) o n
def wMounts (M : yM) (o : Nat) : Nat → yM | 0 => M | n + 1 => if wMounts M o n (o + 24 + n) 2 = -1 then wMount (wMounts M o n) o n else wMounts M o n
noncomputable def wHourA (M : yM) (o : Nat) : yM := wMounts (wSews (wDry (wBoard (wGild M o) o 15) o 15) o 3) o 3
noncomputable def wHour (M : yM) (o : Nat) : yM := yst (wHourA M o) o 5 (wHourA M o o 5 + 1)
noncomputable def wHourR (M : yM) (o : Nat) : Int32 := wCnt (wHour M o) o 5 15 - wCnt M o 5 15
noncomputable def wHours (M : yM) (o : Nat) : Nat → yM | 0 => M | n + 1 => wHour (wHours M o n) o
noncomputable def wHoursR (M : yM) (o : Nat) : Nat → Int32 | 0 => 0 | n + 1 => wHoursR M o n + wHourR (wHours M o n) o
def wClr (M : yM) (o : Nat) (x : Int32) : Nat → yM | 0 => M | n + 1 => if wClr M o x n (o + 24 + n) 2 = x then yst (wClr M o x n) (o + 24 + n) 2 (-1) else wClr M o x n
def wSetB (M : yM) (o a : Nat) : Nat → yM | 0 => M | n + 1 => va_up (wSetB M o a n) (o + 4 + n) (bSet (wSetB M o a n (o + 4 + n)) (wSetB M o a n (a + 4 + n)))
def wSetS (M : yM) (o a : Nat) : Nat → yM | 0 => M | n + 1 => va_up (wSetS M o a n) (o + 19 + n) (sSet (wSetS M o a n (o + 19 + n)) (wSetS M o a n (a + 19 + n)))
def wSetF (M : yM) (o a : Nat) : Nat → yM | 0 => M | n + 1 => va_up (wSetF M o a n) (o + 24 + n) (fSet (wSetF M o a n (o + 24 + n)) (wSetF M o a n (a + 24 + n)))
def wRow (f g : Rw) : Rw := fun k => if 3 ≤ k ∧ k ≤ 11 then g k else f k
def wSetA (M : yM) (o a : Nat) : yM := wSetF (wSetS (wSetB M o a 15) o a 5) o a 3
def wSet (M : yM) (o a : Nat) : yM := va_up (wSetA M o a) o (wRow (wSetA M o a o) (wSetA M o a a))
noncomputable def wTellF (M : yM) (o f : Nat) (w : Int32) : Int32 := by classical exact if w = 0 then M (o + 24 + f) 1 else if w = 1 then M (o + 24 + f) 2 else if w = 2 then wOth M o (M (o + 24 + f) 0) (-1) 5 else if w = 3 then wRate M o (M (o + 24 + f) 0) else if w = 4 then (if wNo M o (M (o + 24 + f) 2) then 0 else bToSew (M (o + 4 + (M (o + 24 + f) 2).toNatClampNeg))) else M (o + 24 + f) 3
def wTellA (M : yM) (o : Nat) (w : Int32) : Int32 := if w = 0 then M o 5 else if w = 1 then M o 3 else if w = 9 then M o 6 else if w = 10 then M o 7 else if w = 11 then M o 8 else if w = 12 then M o 9 else if w = 13 then M o 10 else if w = 14 then M o 11 else wCnt M o (w - 2) 15
def wStore (M : yM) (o : Nat) (w x : Int32) : yM := if w = 0 then yst M o 7 (M o 7 + x) else if w = 1 then yst M o 8 (M o 8 + x) else yst M o 9 (M o 9 + x)
def wStoreR (M : yM) (o : Nat) (w x : Int32) : Int32 := if w = 0 then M o 7 + x else if w = 1 then M o 8 + x else M o 9 + x
theorem wNo_not {M : yM} {o : Nat} {x : Int32} (h : ¬ wNo M o x) : ∃ b : Nat, b < 15 ∧ x = nI b ∧ ¬ M o 3 ≤ nI b := by
  simp only [wNo, not_or] at h
  obtain ⟨b, hb, rfl⟩ := nI_of h.1
  refine ⟨b, ?_, rfl, h.2.1⟩
  rcases Nat.lt_or_ge b 15 with q | q
  · exact q
  · exact absurd (nI_le q (by omega)) h.2.2
theorem wNoS_not {M : yM} {o : Nat} {x : Int32} (h : ¬ wNoS M o x) : ∃ b : Nat, b < 5 ∧ x = nI b ∧ ¬ M o 4 ≤ nI b := by
  simp only [wNoS, not_or] at h
  obtain ⟨b, hb, rfl⟩ := nI_of h.1
  refine ⟨b, ?_, rfl, h.2.1⟩
  rcases Nat.lt_or_ge b 5 with q | q
  · exact q
  · exact absurd (nI_le q (by omega)) h.2.2
theorem wSew_no {M : yM} {o f : Nat} (h : wNo M o (M (o + 24 + f) 2)) : wSew M o f = M := by unfold wSew; rw [if_pos h]
theorem wSew_b {M : yM} {o f b : Nat} (h : ¬ wNo M o (M (o + 24 + f) 2)) (hb : b < 15) (e : M (o + 24 + f) 2 = nI b) : wSew M o f = wSewB M o f b := by unfold wSew; rw [if_neg h, e, nI_clamp (by omega)]
/-- the speeds of a workshop's sewers -/
def wSpOK (M : yM) (o : Nat) : Prop := ∀ i, i < 5 → ∃ v : Nat, v ≤ 9 ∧ M (o + 19 + i) 1 = nI v
theorem wSpd_le {M : yM} {o : Nat} {f : Int32} (h : wSpOK M o) : ∀ n, n ≤ 5 → ∃ v : Nat, v ≤ 9 * n ∧ wSpd M o f n = nI v := by
  intro n
  induction n with
  | zero => intro _; exact ⟨0, Nat.le_refl _, rfl⟩
  | succ n ih =>
    intro hn
    obtain ⟨v, hv, e⟩ := ih (by omega)
    obtain ⟨w, hw, e2⟩ := h n (by omega)
    by_cases hc : M (o + 19 + n) 2 = f
    · exact ⟨v + w, by omega, by simp only [wSpd, if_pos hc]; rw [e, e2, nI_add]⟩
    · exact ⟨v, by omega, by simp only [wSpd, if_neg hc]; exact e⟩
theorem wRate_le {M : yM} {o : Nat} {f : Int32} (h : wSpOK M o) : (wRate M o f).toNatClampNeg ≤ 45 := by
  obtain ⟨v, hv, e⟩ := wSpd_le (f := f) h 5 (Nat.le_refl _)
  have h1 : (nI v).toNatClampNeg = v := nI_clamp (by omega)
  have h2 : (1 : Int32).toNatClampNeg = 1 := rfl
  unfold wRate
  rw [e]
  split
  · split
    · have h3 : (nI v - 3).toInt = (v : Int) - 3 := pk_sub_toInt (a := v) (b := 3) (by omega) (by omega)
      have h4 : (nI v - 3).toNatClampNeg = (nI v - 3).toInt.toNat := rfl
      omega
    · omega
  · omega
theorem wMost_le {M : yM} {o f : Nat} (h : wSpOK M o) : (wMost M o f).toNatClampNeg < 1000 := by
  have h1 := wRate_le (f := M (o + 24 + f) 0) h
  unfold wMost
  split
  · rename_i h2
    have h3 := Int32.lt_iff_toInt_lt.mp h2
    have h4 : (M o 7).toNatClampNeg = (M o 7).toInt.toNat := rfl
    have h5 : (wRate M o (M (o + 24 + f) 0)).toNatClampNeg = (wRate M o (M (o + 24 + f) 0)).toInt.toNat := rfl
    omega
  · omega
theorem wFst_none {M : yM} {o : Nat} {s : Int32} : ∀ {n i : Nat}, wFst M o s n = none → i < n → ¬ M (o + 4 + i) 4 = s := by
  intro n
  induction n with
  | zero => intro i _ h; exact absurd h (Nat.not_lt_zero _)
  | succ n ih =>
    intro i h hi hc
    have hn : wFst M o s n = none := by
      cases hq : wFst M o s n with
      | none => rfl
      | some k => simp [wFst, hq] at h
    rcases Nat.lt_or_ge i n with q | q
    · exact ih hn q hc
    · have : i = n := by omega
      subst this
      simp [wFst, hn, hc] at h
theorem wFst_up {M : yM} {o : Nat} {s : Int32} {n k : Nat} (h : wFst M o s n = some k) : ∀ d, wFst M o s (n + d) = some k := by
  intro d
  induction d with
  | zero => exact h
  | succ d ih => simp [wFst, ← Nat.add_assoc, ih]
theorem wFst_at {M : yM} {o : Nat} {s : Int32} {i : Nat} (h : wFst M o s i = none) (hc : M (o + 4 + i) 4 = s) (hi : i < 15) : wFst M o s 15 = some i := by
  have h1 : wFst M o s (i + 1) = some i := by simp [wFst, h, hc]
  have := wFst_up h1 (14 - i)
  rwa [show i + 1 + (14 - i) = 15 by omega] at this
theorem wGild_none {M : yM} {o : Nat} (h : wFst M o 4 15 = none) : M = wGild M o := by unfold wGild; rw [h]
theorem wGild_some {M : yM} {o i : Nat} (h : wFst M o 4 15 = some i) : wGild M o = wGildAt M o i := by unfold wGild; rw [h]
theorem wMount_none {M : yM} {o f : Nat} (h : wFst M o 0 15 = none) : M = wMount M o f := by unfold wMount; rw [h]
theorem wMount_some {M : yM} {o f i : Nat} (h : wFst M o 0 15 = some i) : wMount M o f = wMountAt M o f i := by unfold wMount; rw [h]
theorem wSewL_go {M : yM} {o f b n : Nat} (h : bSewn (wSewL M o f b n (o + 4 + b)) = 0) : wSewL M o f b (n + 1) = wStitch (wSewL M o f b n) o f b (n + 1) := by rw [wSewL, if_pos h]
theorem wStitch_a {M : yM} {o f b k : Nat} (h : bAddR (wStA M o f (o + 4 + b)) = 0) : wStitch M o f b k = wStB M o f b := by rw [wStitch, if_pos h]
theorem wStitch_b {M : yM} {o f b k : Nat} (h : ¬ bAddR (wStA M o f (o + 4 + b)) = 0) (h2 : nI k < 10) : wStitch M o f b k = wStB M o f b := by rw [wStitch, if_neg h, if_pos h2]
theorem wStitch_c {M : yM} {o f b k : Nat} (h : ¬ bAddR (wStA M o f (o + 4 + b)) = 0) (h2 : ¬ nI k < 10) : wStitch M o f b k = wStC (wStB M o f b) o b := by rw [wStitch, if_neg h, if_neg h2]
theorem wSewL_stop {M : yM} {o f b n : Nat} (h : ¬ bSewn (wSewL M o f b n (o + 4 + b)) = 0) : ∀ d, wSewL M o f b (n + d) = wSewL M o f b n := by
  intro d
  induction d with
  | zero => rfl
  | succ d ih => rw [← Nat.add_assoc, wSewL, ih, if_neg h]
end YW
end
section
section YZ
abbrev rX3_bookNumbered : Room := { frames := 0, cells := 0, slots := 0, locals := 0 }
set_option maxRecDepth 100000 in
set_option maxHeartbeats 4000000 in
theorem mX3_bookNumbered (l : Launch) (D : va_G) (cy : Nat → ClassId) (adr : Nat → Nat) (M : yM) (o : Nat) (ho : o = 0 ∨ o = 27) (i : Nat) (hi : i < 15) (hc : ¬ M o 3 ≤ nI i) : Ct l yX3_bookNumbered wsX3_bookNumbered rX3_bookNumbered D cy adr [.ref (adr o), .int (nI i)] M (some (.ref (adr (o + 4 + i)))) (M) 0 0 := by
  refine Ct.mk cX3_bookNumbered 2 (some (.object "SewingFrames$Book")) RX3 (by decide) rfl rfl (Nat.le_of_ble_eq_true rfl) ?_
  intro K C0
  refine y_eq rfl (show ([(0, .ref (adr o)), (1, .int (nI i))] : List (Nat × Value)) = lv_args 0 [.ref (adr o), .int (nI i)] from rfl) rfl ?_
  have hin3 : ∀ w ∈ u_ws RX3 TX3 12, w ∈ wsX3_bookNumbered := by decide +kernel
  refine y_iload_n C0 1 dX3_bookNumbered_0 rfl rfl ?_
  refine y_if_lt C0 21 dX3_bookNumbered_1 (by decide) (fun c_1 => ?_) (fun c_1 => ?_)
  · exact absurd c_1 (nI_pos (by omega))
  · refine y_iload_n C0 1 dX3_bookNumbered_4 rfl rfl ?_
    refine y_aload_n C0 0 dX3_bookNumbered_5 rfl rfl ?_
    refine y_get C0 3 rfl rfl (by decide) hin3 3 (ykd_w ho) (by decide) (by decide +kernel) (yvi3 (ykd_w ho) (by decide)) dX3_bookNumbered_6 ?_
    refine y_icmp_ge C0 21 dX3_bookNumbered_9 (by decide) (fun c_9 => ?_) (fun c_9 => ?_)
    · exact absurd c_9 hc
    · refine y_iload_n C0 1 dX3_bookNumbered_12 rfl rfl ?_
      refine y_aload_n C0 0 dX3_bookNumbered_13 rfl rfl ?_
      refine y_get C0 3 rfl rfl (by decide) hin3 0 (ykd_w ho) (by decide) (by decide +kernel) (yv3_books (ykd_w ho)) dX3_bookNumbered_14 ?_
      refine y_alen C0 7 (ykd_w1 ho) (by decide) (by decide) dX3_bookNumbered_17 ?_
      refine y_icmp_lt C0 23 dX3_bookNumbered_18 (by decide) (fun c_18 => ?_) (fun c_18 => ?_)
      · refine y_aload_n C0 0 dX3_bookNumbered_23 rfl rfl ?_
        refine y_get C0 3 rfl rfl (by decide) hin3 0 (ykd_w ho) (by decide) (by decide +kernel) (yv3_books (ykd_w ho)) dX3_bookNumbered_24 ?_
        refine y_iload_n C0 1 dX3_bookNumbered_27 rfl rfl ?_
        refine y_aald C0 (i) 7 (ykd_w1 ho) (by decide) (by decide) rfl (by omega : i < 15) (yel_bk ho) dX3_bookNumbered_28 ?_
        exact y_aret C0 (Or.inr ⟨_, rfl⟩) dX3_bookNumbered_29 rfl rfl
      · exact absurd (nI_lt hi (by decide)) c_18
set_option maxRecDepth 100000 in
set_option maxHeartbeats 4000000 in
theorem mX3_bookNumbered_n (l : Launch) (D : va_G) (cy : Nat → ClassId) (adr : Nat → Nat) (M : yM) (o : Nat) (ho : o = 0 ∨ o = 27) (x : Int32) (hn : wNo M o x) : Ct l yX3_bookNumbered wsX3_bookNumbered rX3_bookNumbered D cy adr [.ref (adr o), .int x] M (some .null) (M) 0 0 := by
  refine Ct.mk cX3_bookNumbered 2 (some (.object "SewingFrames$Book")) RX3 (by decide) rfl rfl (Nat.le_of_ble_eq_true rfl) ?_
  intro K C0
  refine y_eq rfl (show ([(0, .ref (adr o)), (1, .int x)] : List (Nat × Value)) = lv_args 0 [.ref (adr o), .int x] from rfl) rfl ?_
  have hin3 : ∀ w ∈ u_ws RX3 TX3 12, w ∈ wsX3_bookNumbered := by decide +kernel
  refine y_iload_n C0 1 dX3_bookNumbered_0 rfl rfl ?_
  refine y_if_lt C0 21 dX3_bookNumbered_1 (by decide) (fun c_1 => ?_) (fun c_1 => ?_)
  · refine y_null C0 dX3_bookNumbered_21 ?_
    exact y_aret C0 (Or.inl rfl) dX3_bookNumbered_22 rfl rfl
  · refine y_iload_n C0 1 dX3_bookNumbered_4 rfl rfl ?_
    refine y_aload_n C0 0 dX3_bookNumbered_5 rfl rfl ?_
    refine y_get C0 3 rfl rfl (by decide) hin3 3 (ykd_w ho) (by decide) (by decide +kernel) (yvi3 (ykd_w ho) (by decide)) dX3_bookNumbered_6 ?_
    refine y_icmp_ge C0 21 dX3_bookNumbered_9 (by decide) (fun c_9 => ?_) (fun c_9 => ?_)
    · refine y_null C0 dX3_bookNumbered_21 ?_
      exact y_aret C0 (Or.inl rfl) dX3_bookNumbered_22 rfl rfl
    · refine y_iload_n C0 1 dX3_bookNumbered_12 rfl rfl ?_
      refine y_aload_n C0 0 dX3_bookNumbered_13 rfl rfl ?_
      refine y_get C0 3 rfl rfl (by decide) hin3 0 (ykd_w ho) (by decide) (by decide +kernel) (yv3_books (ykd_w ho)) dX3_bookNumbered_14 ?_
      refine y_alen C0 7 (ykd_w1 ho) (by decide) (by decide) dX3_bookNumbered_17 ?_
      refine y_icmp_lt C0 23 dX3_bookNumbered_18 (by decide) (fun c_18 => ?_) (fun c_18 => ?_)
      · exact hn.elim (fun h => absurd h c_1) (fun h => h.elim (fun h => absurd h c_9) (fun h => absurd c_18 (Int32.not_lt.mpr h)))
      · refine y_null C0 dX3_bookNumbered_21 ?_
        exact y_aret C0 (Or.inl rfl) dX3_bookNumbered_22 rfl rfl
abbrev rX3_sewerNumbered : Room := { frames := 0, cells := 0, slots := 0, locals := 0 }
set_option maxRecDepth 100000 in
set_option maxHeartbeats 4000000 in
theorem mX3_sewerNumbered (l : Launch) (D : va_G) (cy : Nat → ClassId) (adr : Nat → Nat) (M : yM) (o : Nat) (ho : o = 0 ∨ o = 27) (i : Nat) (hi : i < 5) (hc : ¬ M o 4 ≤ nI i) : Ct l yX3_sewerNumbered wsX3_sewerNumbered rX3_sewerNumbered D cy adr [.ref (adr o), .int (nI i)] M (some (.ref (adr (o + 19 + i)))) (M) 0 0 := by
  refine Ct.mk cX3_sewerNumbered 2 (some (.object "SewingFrames$Sewer")) RX3 (by decide) rfl rfl (Nat.le_of_ble_eq_true rfl) ?_
  intro K C0
  refine y_eq rfl (show ([(0, .ref (adr o)), (1, .int (nI i))] : List (Nat × Value)) = lv_args 0 [.ref (adr o), .int (nI i)] from rfl) rfl ?_
  have hin3 : ∀ w ∈ u_ws RX3 TX3 12, w ∈ wsX3_sewerNumbered := by decide +kernel
  refine y_iload_n C0 1 dX3_sewerNumbered_0 rfl rfl ?_
  refine y_if_lt C0 21 dX3_sewerNumbered_1 (by decide) (fun c_1 => ?_) (fun c_1 => ?_)
  · exact absurd c_1 (nI_pos (by omega))
  · refine y_iload_n C0 1 dX3_sewerNumbered_4 rfl rfl ?_
    refine y_aload_n C0 0 dX3_sewerNumbered_5 rfl rfl ?_
    refine y_get C0 3 rfl rfl (by decide) hin3 4 (ykd_w ho) (by decide) (by decide +kernel) (yvi3 (ykd_w ho) (by decide)) dX3_sewerNumbered_6 ?_
    refine y_icmp_ge C0 21 dX3_sewerNumbered_9 (by decide) (fun c_9 => ?_) (fun c_9 => ?_)
    · exact absurd c_9 hc
    · refine y_iload_n C0 1 dX3_sewerNumbered_12 rfl rfl ?_
      refine y_aload_n C0 0 dX3_sewerNumbered_13 rfl rfl ?_
      refine y_get C0 3 rfl rfl (by decide) hin3 1 (ykd_w ho) (by decide) (by decide +kernel) (yv3_sewers (ykd_w ho)) dX3_sewerNumbered_14 ?_
      refine y_alen C0 8 (ykd_w2 ho) (by decide) (by decide) dX3_sewerNumbered_17 ?_
      refine y_icmp_lt C0 23 dX3_sewerNumbered_18 (by decide) (fun c_18 => ?_) (fun c_18 => ?_)
      · refine y_aload_n C0 0 dX3_sewerNumbered_23 rfl rfl ?_
        refine y_get C0 3 rfl rfl (by decide) hin3 1 (ykd_w ho) (by decide) (by decide +kernel) (yv3_sewers (ykd_w ho)) dX3_sewerNumbered_24 ?_
        refine y_iload_n C0 1 dX3_sewerNumbered_27 rfl rfl ?_
        refine y_aald C0 (i) 8 (ykd_w2 ho) (by decide) (by decide) rfl (by omega : i < 5) (yel_sw ho) dX3_sewerNumbered_28 ?_
        exact y_aret C0 (Or.inr ⟨_, rfl⟩) dX3_sewerNumbered_29 rfl rfl
      · exact absurd (nI_lt hi (by decide)) c_18
set_option maxRecDepth 100000 in
set_option maxHeartbeats 4000000 in
theorem mX3_sewerNumbered_n (l : Launch) (D : va_G) (cy : Nat → ClassId) (adr : Nat → Nat) (M : yM) (o : Nat) (ho : o = 0 ∨ o = 27) (x : Int32) (hn : wNoS M o x) : Ct l yX3_sewerNumbered wsX3_sewerNumbered rX3_sewerNumbered D cy adr [.ref (adr o), .int x] M (some .null) (M) 0 0 := by
  refine Ct.mk cX3_sewerNumbered 2 (some (.object "SewingFrames$Sewer")) RX3 (by decide) rfl rfl (Nat.le_of_ble_eq_true rfl) ?_
  intro K C0
  refine y_eq rfl (show ([(0, .ref (adr o)), (1, .int x)] : List (Nat × Value)) = lv_args 0 [.ref (adr o), .int x] from rfl) rfl ?_
  have hin3 : ∀ w ∈ u_ws RX3 TX3 12, w ∈ wsX3_sewerNumbered := by decide +kernel
  refine y_iload_n C0 1 dX3_sewerNumbered_0 rfl rfl ?_
  refine y_if_lt C0 21 dX3_sewerNumbered_1 (by decide) (fun c_1 => ?_) (fun c_1 => ?_)
  · refine y_null C0 dX3_sewerNumbered_21 ?_
    exact y_aret C0 (Or.inl rfl) dX3_sewerNumbered_22 rfl rfl
  · refine y_iload_n C0 1 dX3_sewerNumbered_4 rfl rfl ?_
    refine y_aload_n C0 0 dX3_sewerNumbered_5 rfl rfl ?_
    refine y_get C0 3 rfl rfl (by decide) hin3 4 (ykd_w ho) (by decide) (by decide +kernel) (yvi3 (ykd_w ho) (by decide)) dX3_sewerNumbered_6 ?_
    refine y_icmp_ge C0 21 dX3_sewerNumbered_9 (by decide) (fun c_9 => ?_) (fun c_9 => ?_)
    · refine y_null C0 dX3_sewerNumbered_21 ?_
      exact y_aret C0 (Or.inl rfl) dX3_sewerNumbered_22 rfl rfl
    · refine y_iload_n C0 1 dX3_sewerNumbered_12 rfl rfl ?_
      refine y_aload_n C0 0 dX3_sewerNumbered_13 rfl rfl ?_
      refine y_get C0 3 rfl rfl (by decide) hin3 1 (ykd_w ho) (by decide) (by decide +kernel) (yv3_sewers (ykd_w ho)) dX3_sewerNumbered_14 ?_
      refine y_alen C0 8 (ykd_w2 ho) (by decide) (by decide) dX3_sewerNumbered_17 ?_
      refine y_icmp_lt C0 23 dX3_sewerNumbered_18 (by decide) (fun c_18 => ?_) (fun c_18 => ?_)
      · exact hn.elim (fun h => absurd h c_1) (fun h => h.elim (fun h => absurd h c_9) (fun h => absurd c_18 (Int32.not_lt.mpr h)))
      · refine y_null C0 dX3_sewerNumbered_21 ?_
        exact y_aret C0 (Or.inl rfl) dX3_sewerNumbered_22 rfl rfl
abbrev rX3_freeBook : Room := { frames := 0, cells := 0, slots := 0, locals := 0 }
set_option maxRecDepth 100000 in
set_option maxHeartbeats 4000000 in
theorem mX3_freeBook (l : Launch) (D : va_G) (cy : Nat → ClassId) (adr : Nat → Nat) (M : yM) (o : Nat) (ho : o = 0 ∨ o = 27)  (i : Nat) (hi : i < 15) (he : M o 3 = nI i) : Ct l yX3_freeBook wsX3_freeBook rX3_freeBook D cy adr [.ref (adr o)] M (some (.ref (adr (o + 4 + i)))) (M) 0 0 := by
  refine Ct.mk cX3_freeBook 1 (some (.object "SewingFrames$Book")) RX3 (by decide) rfl rfl (Nat.le_of_ble_eq_true rfl) ?_
  intro K C0
  refine y_eq rfl (show ([(0, .ref (adr o))] : List (Nat × Value)) = lv_args 0 [.ref (adr o)] from rfl) rfl ?_
  have hin3 : ∀ w ∈ u_ws RX3 TX3 12, w ∈ wsX3_freeBook := by decide +kernel
  refine y_aload_n C0 0 dX3_freeBook_0 rfl rfl ?_
  refine y_get C0 3 rfl rfl (by decide) hin3 3 (ykd_w ho) (by decide) (by decide +kernel) (yvi3 (ykd_w ho) (by decide)) dX3_freeBook_1 ?_
  refine y_top he ?_
  refine y_if_lt C0 31 dX3_freeBook_4 (by decide) (fun c_4 => ?_) (fun c_4 => ?_)
  · exact absurd c_4 (nI_pos (by omega))
  · refine y_aload_n C0 0 dX3_freeBook_7 rfl rfl ?_
    refine y_get C0 3 rfl rfl (by decide) hin3 3 (ykd_w ho) (by decide) (by decide +kernel) (yvi3 (ykd_w ho) (by decide)) dX3_freeBook_8 ?_
    refine y_top he ?_
    refine y_aload_n C0 0 dX3_freeBook_11 rfl rfl ?_
    refine y_get C0 3 rfl rfl (by decide) hin3 0 (ykd_w ho) (by decide) (by decide +kernel) (yv3_books (ykd_w ho)) dX3_freeBook_12 ?_
    refine y_alen C0 7 (ykd_w1 ho) (by decide) (by decide) dX3_freeBook_15 ?_
    refine y_icmp_ge C0 31 dX3_freeBook_16 (by decide) (fun c_16 => ?_) (fun c_16 => ?_)
    · exact absurd c_16 (nI_ge hi (by decide))
    · refine y_aload_n C0 0 dX3_freeBook_19 rfl rfl ?_
      refine y_get C0 3 rfl rfl (by decide) hin3 0 (ykd_w ho) (by decide) (by decide +kernel) (yv3_books (ykd_w ho)) dX3_freeBook_20 ?_
      refine y_aload_n C0 0 dX3_freeBook_23 rfl rfl ?_
      refine y_get C0 3 rfl rfl (by decide) hin3 3 (ykd_w ho) (by decide) (by decide +kernel) (yvi3 (ykd_w ho) (by decide)) dX3_freeBook_24 ?_
      refine y_top he ?_
      refine y_aald C0 (i) 7 (ykd_w1 ho) (by decide) (by decide) rfl (by omega : i < 15) (yel_bk ho) dX3_freeBook_27 ?_
      refine y_goto C0 32 dX3_freeBook_28 (by decide) ?_
      exact y_aret C0 (Or.inr ⟨_, rfl⟩) dX3_freeBook_32 rfl rfl
set_option maxRecDepth 100000 in
set_option maxHeartbeats 4000000 in
theorem mX3_freeBook_n (l : Launch) (D : va_G) (cy : Nat → ClassId) (adr : Nat → Nat) (M : yM) (o : Nat) (ho : o = 0 ∨ o = 27)  (hn : nI 15 ≤ M o 3) : Ct l yX3_freeBook wsX3_freeBook rX3_freeBook D cy adr [.ref (adr o)] M (some .null) (M) 0 0 := by
  refine Ct.mk cX3_freeBook 1 (some (.object "SewingFrames$Book")) RX3 (by decide) rfl rfl (Nat.le_of_ble_eq_true rfl) ?_
  intro K C0
  refine y_eq rfl (show ([(0, .ref (adr o))] : List (Nat × Value)) = lv_args 0 [.ref (adr o)] from rfl) rfl ?_
  have hin3 : ∀ w ∈ u_ws RX3 TX3 12, w ∈ wsX3_freeBook := by decide +kernel
  refine y_aload_n C0 0 dX3_freeBook_0 rfl rfl ?_
  refine y_get C0 3 rfl rfl (by decide) hin3 3 (ykd_w ho) (by decide) (by decide +kernel) (yvi3 (ykd_w ho) (by decide)) dX3_freeBook_1 ?_
  refine y_if_lt C0 31 dX3_freeBook_4 (by decide) (fun c_4 => ?_) (fun c_4 => ?_)
  · refine y_null C0 dX3_freeBook_31 ?_
    exact y_aret C0 (Or.inl rfl) dX3_freeBook_32 rfl rfl
  · refine y_aload_n C0 0 dX3_freeBook_7 rfl rfl ?_
    refine y_get C0 3 rfl rfl (by decide) hin3 3 (ykd_w ho) (by decide) (by decide +kernel) (yvi3 (ykd_w ho) (by decide)) dX3_freeBook_8 ?_
    refine y_aload_n C0 0 dX3_freeBook_11 rfl rfl ?_
    refine y_get C0 3 rfl rfl (by decide) hin3 0 (ykd_w ho) (by decide) (by decide +kernel) (yv3_books (ykd_w ho)) dX3_freeBook_12 ?_
    refine y_alen C0 7 (ykd_w1 ho) (by decide) (by decide) dX3_freeBook_15 ?_
    refine y_icmp_ge C0 31 dX3_freeBook_16 (by decide) (fun c_16 => ?_) (fun c_16 => ?_)
    · refine y_null C0 dX3_freeBook_31 ?_
      exact y_aret C0 (Or.inl rfl) dX3_freeBook_32 rfl rfl
    · exact absurd hn c_16
abbrev rX3_freeSewer : Room := { frames := 0, cells := 0, slots := 0, locals := 0 }
set_option maxRecDepth 100000 in
set_option maxHeartbeats 4000000 in
theorem mX3_freeSewer (l : Launch) (D : va_G) (cy : Nat → ClassId) (adr : Nat → Nat) (M : yM) (o : Nat) (ho : o = 0 ∨ o = 27)  (i : Nat) (hi : i < 5) (he : M o 4 = nI i) : Ct l yX3_freeSewer wsX3_freeSewer rX3_freeSewer D cy adr [.ref (adr o)] M (some (.ref (adr (o + 19 + i)))) (M) 0 0 := by
  refine Ct.mk cX3_freeSewer 1 (some (.object "SewingFrames$Sewer")) RX3 (by decide) rfl rfl (Nat.le_of_ble_eq_true rfl) ?_
  intro K C0
  refine y_eq rfl (show ([(0, .ref (adr o))] : List (Nat × Value)) = lv_args 0 [.ref (adr o)] from rfl) rfl ?_
  have hin3 : ∀ w ∈ u_ws RX3 TX3 12, w ∈ wsX3_freeSewer := by decide +kernel
  refine y_aload_n C0 0 dX3_freeSewer_0 rfl rfl ?_
  refine y_get C0 3 rfl rfl (by decide) hin3 4 (ykd_w ho) (by decide) (by decide +kernel) (yvi3 (ykd_w ho) (by decide)) dX3_freeSewer_1 ?_
  refine y_top he ?_
  refine y_if_lt C0 31 dX3_freeSewer_4 (by decide) (fun c_4 => ?_) (fun c_4 => ?_)
  · exact absurd c_4 (nI_pos (by omega))
  · refine y_aload_n C0 0 dX3_freeSewer_7 rfl rfl ?_
    refine y_get C0 3 rfl rfl (by decide) hin3 4 (ykd_w ho) (by decide) (by decide +kernel) (yvi3 (ykd_w ho) (by decide)) dX3_freeSewer_8 ?_
    refine y_top he ?_
    refine y_aload_n C0 0 dX3_freeSewer_11 rfl rfl ?_
    refine y_get C0 3 rfl rfl (by decide) hin3 1 (ykd_w ho) (by decide) (by decide +kernel) (yv3_sewers (ykd_w ho)) dX3_freeSewer_12 ?_
    refine y_alen C0 8 (ykd_w2 ho) (by decide) (by decide) dX3_freeSewer_15 ?_
    refine y_icmp_ge C0 31 dX3_freeSewer_16 (by decide) (fun c_16 => ?_) (fun c_16 => ?_)
    · exact absurd c_16 (nI_ge hi (by decide))
    · refine y_aload_n C0 0 dX3_freeSewer_19 rfl rfl ?_
      refine y_get C0 3 rfl rfl (by decide) hin3 1 (ykd_w ho) (by decide) (by decide +kernel) (yv3_sewers (ykd_w ho)) dX3_freeSewer_20 ?_
      refine y_aload_n C0 0 dX3_freeSewer_23 rfl rfl ?_
      refine y_get C0 3 rfl rfl (by decide) hin3 4 (ykd_w ho) (by decide) (by decide +kernel) (yvi3 (ykd_w ho) (by decide)) dX3_freeSewer_24 ?_
      refine y_top he ?_
      refine y_aald C0 (i) 8 (ykd_w2 ho) (by decide) (by decide) rfl (by omega : i < 5) (yel_sw ho) dX3_freeSewer_27 ?_
      refine y_goto C0 32 dX3_freeSewer_28 (by decide) ?_
      exact y_aret C0 (Or.inr ⟨_, rfl⟩) dX3_freeSewer_32 rfl rfl
set_option maxRecDepth 100000 in
set_option maxHeartbeats 4000000 in
theorem mX3_freeSewer_n (l : Launch) (D : va_G) (cy : Nat → ClassId) (adr : Nat → Nat) (M : yM) (o : Nat) (ho : o = 0 ∨ o = 27)  (hn : nI 5 ≤ M o 4) : Ct l yX3_freeSewer wsX3_freeSewer rX3_freeSewer D cy adr [.ref (adr o)] M (some .null) (M) 0 0 := by
  refine Ct.mk cX3_freeSewer 1 (some (.object "SewingFrames$Sewer")) RX3 (by decide) rfl rfl (Nat.le_of_ble_eq_true rfl) ?_
  intro K C0
  refine y_eq rfl (show ([(0, .ref (adr o))] : List (Nat × Value)) = lv_args 0 [.ref (adr o)] from rfl) rfl ?_
  have hin3 : ∀ w ∈ u_ws RX3 TX3 12, w ∈ wsX3_freeSewer := by decide +kernel
  refine y_aload_n C0 0 dX3_freeSewer_0 rfl rfl ?_
  refine y_get C0 3 rfl rfl (by decide) hin3 4 (ykd_w ho) (by decide) (by decide +kernel) (yvi3 (ykd_w ho) (by decide)) dX3_freeSewer_1 ?_
  refine y_if_lt C0 31 dX3_freeSewer_4 (by decide) (fun c_4 => ?_) (fun c_4 => ?_)
  · refine y_null C0 dX3_freeSewer_31 ?_
    exact y_aret C0 (Or.inl rfl) dX3_freeSewer_32 rfl rfl
  · refine y_aload_n C0 0 dX3_freeSewer_7 rfl rfl ?_
    refine y_get C0 3 rfl rfl (by decide) hin3 4 (ykd_w ho) (by decide) (by decide +kernel) (yvi3 (ykd_w ho) (by decide)) dX3_freeSewer_8 ?_
    refine y_aload_n C0 0 dX3_freeSewer_11 rfl rfl ?_
    refine y_get C0 3 rfl rfl (by decide) hin3 1 (ykd_w ho) (by decide) (by decide +kernel) (yv3_sewers (ykd_w ho)) dX3_freeSewer_12 ?_
    refine y_alen C0 8 (ykd_w2 ho) (by decide) (by decide) dX3_freeSewer_15 ?_
    refine y_icmp_ge C0 31 dX3_freeSewer_16 (by decide) (fun c_16 => ?_) (fun c_16 => ?_)
    · refine y_null C0 dX3_freeSewer_31 ?_
      exact y_aret C0 (Or.inl rfl) dX3_freeSewer_32 rfl rfl
    · exact absurd hn c_16
abbrev rX3_booksAt : Room := { frames := 0, cells := 0, slots := 0, locals := 0 }
set_option maxRecDepth 100000 in
set_option maxHeartbeats 4000000 in
theorem mX3_booksAt (l : Launch) (D : va_G) (cy : Nat → ClassId) (adr : Nat → Nat) (M : yM) (o : Nat) (ho : o = 0 ∨ o = 27) (x : Int32)  : Ct l yX3_booksAt wsX3_booksAt rX3_booksAt D cy adr [.ref (adr o), .int x] M (some (.int (wCnt M o x 15))) (M) 0 0 := by
  refine Ct.mk cX3_booksAt 7 (some .int) RX3 (by decide) rfl rfl (Nat.le_of_ble_eq_true rfl) ?_
  intro K C0
  refine y_eq rfl (show ([(0, .ref (adr o)), (1, .int x)] : List (Nat × Value)) = lv_args 0 [.ref (adr o), .int x] from rfl) rfl ?_
  have hin0 : ∀ w ∈ u_ws RX0 TX0 13, w ∈ wsX3_booksAt := by decide +kernel
  have hin3 : ∀ w ∈ u_ws RX3 TX3 12, w ∈ wsX3_booksAt := by decide +kernel
  refine y_iconst (v := 0) C0 dX3_booksAt_0 (by decide) ?_
  refine y_istore_n C0 [(2, _), (0, _), (1, _)] dX3_booksAt_1 rfl (by decide) rfl ?_
  refine y_aload_n C0 1 dX3_booksAt_2 rfl rfl ?_
  refine y_get C0 3 rfl rfl (by decide) hin3 0 (ykd_w ho) (by decide) (by decide +kernel) (yv3_books (ykd_w ho)) dX3_booksAt_3 ?_
  refine y_astore_n C0 [(3, _), (2, _), (0, _), (1, _)] dX3_booksAt_6 rfl (by decide) rfl ?_
  refine y_aload_n C0 0 dX3_booksAt_7 rfl rfl ?_
  refine y_alen C0 7 (ykd_w1 ho) (by decide) (by decide) dX3_booksAt_8 ?_
  refine y_istore C0 [(4, _), (3, _), (2, _), (0, _), (1, _)] dX3_booksAt_9 (by decide) rfl ?_
  refine y_iconst (v := 0) C0 dX3_booksAt_11 (by decide) ?_
  refine y_istore C0 [(5, _), (4, _), (3, _), (2, _), (0, _), (1, _)] dX3_booksAt_12 (by decide) rfl ?_
  have hl_14 : ∀ (n : Nat) (i : Nat), 15 - i = n → i ≤ 15 → Y K l rX3_booksAt D cy adr 7 0 0 (QT K D cy adr (some (.int (wCnt M o x 15))) (M) 0 0) M [] [(5, .int (nI i)), (4, .int (nI 15)), (3, .ref (adr (o + 1))), (2, .int (wCnt M o x i)), (1, .int x), (0, .ref (adr o))] 14 [] := by
    intro n
    induction n using Nat.strongRecOn with
    | _ n ih_14 =>
      intro i hn_14 hi
      refine y_iload C0 0 dX3_booksAt_14 rfl ?_
      refine y_iload C0 1 dX3_booksAt_16 rfl ?_
      refine y_icmp_ge C0 45 dX3_booksAt_18 (by decide) (fun c_18 => ?_) (fun c_18 => ?_)
      · have he := ct_end (N := 15) (by decide) hi c_18
        subst he
        refine y_iload_n C0 3 dX3_booksAt_45 rfl rfl ?_
        exact y_iret C0 dX3_booksAt_46 rfl rfl
      · have hlt := ct_lt (N := 15) (by decide) hi c_18
        refine y_aload_n C0 2 dX3_booksAt_21 rfl rfl ?_
        refine y_iload C0 0 dX3_booksAt_22 rfl ?_
        refine y_aald C0 (i) 7 (ykd_w1 ho) (by decide) (by decide) rfl (by omega : i < 15) (yel_bk ho) dX3_booksAt_24 ?_
        refine y_astore C0 [(6, _), (5, _), (4, _), (3, _), (2, _), (1, _), (0, _)] dX3_booksAt_25 (by decide) rfl ?_
        refine y_aload C0 0 dX3_booksAt_27 rfl ?_
        refine y_get C0 0 rfl rfl (by decide) hin0 4 (ykd_bk ho (by omega : i < 15)) (by decide) (by decide +kernel) (yvi0 (ykd_bk ho (by omega : i < 15))) dX3_booksAt_29 ?_
        refine y_iload_n C0 5 dX3_booksAt_32 rfl rfl ?_
        refine y_icmp_ne C0 39 dX3_booksAt_33 (by decide) (fun c_33 => ?_) (fun c_33 => ?_)
        · refine y_iinc (v := nI (i + 1)) C0 1 [(5, _), (6, _), (4, _), (3, _), (2, _), (1, _), (0, _)] dX3_booksAt_39 rfl (yinc_ok rfl rfl) (by decide) rfl ?_
          refine y_goto C0 14 dX3_booksAt_42 (by decide) ?_
          refine y_sub [0, 2, 3, 4, 5, 6] [(5, _), (4, _), (3, _), (2, _), (1, _), (0, _)] rfl ?_
          exact y_eq (by first | rfl | simp [wCnt, c_18, c_33]) (by first | rfl | simp [wCnt, c_18, c_33]) rfl (ih_14 _ (by omega) (i + 1) rfl hlt)
        · refine y_iinc C0 4 [(2, _), (6, _), (5, _), (4, _), (3, _), (1, _), (0, _)] dX3_booksAt_36 rfl rfl (by decide) rfl ?_
          refine y_iinc (v := nI (i + 1)) C0 2 [(5, _), (2, _), (6, _), (4, _), (3, _), (1, _), (0, _)] dX3_booksAt_39 rfl (yinc_ok rfl rfl) (by decide) rfl ?_
          refine y_goto C0 14 dX3_booksAt_42 (by decide) ?_
          refine y_sub [0, 3, 4, 1, 5, 6] [(5, _), (4, _), (3, _), (2, _), (1, _), (0, _)] rfl ?_
          exact y_eq (by first | rfl | simp [wCnt, c_18, c_33]) (by first | rfl | simp [wCnt, c_18, c_33]) rfl (ih_14 _ (by omega) (i + 1) rfl hlt)
  refine y_sub [0, 1, 2, 3, 5, 4] [(5, _), (4, _), (3, _), (2, _), (1, _), (0, _)] rfl ?_
  exact hl_14 _ 0 rfl (Nat.zero_le _)
abbrev rX3_othersAt : Room := { frames := 0, cells := 0, slots := 0, locals := 0 }
set_option maxRecDepth 100000 in
set_option maxHeartbeats 4000000 in
theorem mX3_othersAt (l : Launch) (D : va_G) (cy : Nat → ClassId) (adr : Nat → Nat) (M : yM) (o : Nat) (ho : o = 0 ∨ o = 27) (x : Int32) (y : Int32)  : Ct l yX3_othersAt wsX3_othersAt rX3_othersAt D cy adr [.ref (adr o), .int x, .int y] M (some (.int (wOth M o x y 5))) (M) 0 0 := by
  refine Ct.mk cX3_othersAt 8 (some .int) RX3 (by decide) rfl rfl (Nat.le_of_ble_eq_true rfl) ?_
  intro K C0
  refine y_eq rfl (show ([(0, .ref (adr o)), (1, .int x), (2, .int y)] : List (Nat × Value)) = lv_args 0 [.ref (adr o), .int x, .int y] from rfl) rfl ?_
  have hin2 : ∀ w ∈ u_ws RX2 TX2 3, w ∈ wsX3_othersAt := by decide +kernel
  have hin3 : ∀ w ∈ u_ws RX3 TX3 12, w ∈ wsX3_othersAt := by decide +kernel
  refine y_iconst (v := 0) C0 dX3_othersAt_0 (by decide) ?_
  refine y_istore_n C0 [(3, _), (0, _), (1, _), (2, _)] dX3_othersAt_1 rfl (by decide) rfl ?_
  refine y_aload_n C0 1 dX3_othersAt_2 rfl rfl ?_
  refine y_get C0 3 rfl rfl (by decide) hin3 1 (ykd_w ho) (by decide) (by decide +kernel) (yv3_sewers (ykd_w ho)) dX3_othersAt_3 ?_
  refine y_astore C0 [(4, _), (3, _), (0, _), (1, _), (2, _)] dX3_othersAt_6 (by decide) rfl ?_
  refine y_aload C0 0 dX3_othersAt_8 rfl ?_
  refine y_alen C0 8 (ykd_w2 ho) (by decide) (by decide) dX3_othersAt_10 ?_
  refine y_istore C0 [(5, _), (4, _), (3, _), (0, _), (1, _), (2, _)] dX3_othersAt_11 (by decide) rfl ?_
  refine y_iconst (v := 0) C0 dX3_othersAt_13 (by decide) ?_
  refine y_istore C0 [(6, _), (5, _), (4, _), (3, _), (0, _), (1, _), (2, _)] dX3_othersAt_14 (by decide) rfl ?_
  have hl_16 : ∀ (n : Nat) (i : Nat), 5 - i = n → i ≤ 5 → Y K l rX3_othersAt D cy adr 8 0 0 (QT K D cy adr (some (.int (wOth M o x y 5))) (M) 0 0) M [] [(6, .int (nI i)), (5, .int (nI 5)), (4, .ref (adr (o + 2))), (3, .int (wOth M o x y i)), (2, .int y), (1, .int x), (0, .ref (adr o))] 16 [] := by
    intro n
    induction n using Nat.strongRecOn with
    | _ n ih_16 =>
      intro i hn_16 hi
      refine y_iload C0 0 dX3_othersAt_16 rfl ?_
      refine y_iload C0 1 dX3_othersAt_18 rfl ?_
      refine y_icmp_ge C0 57 dX3_othersAt_20 (by decide) (fun c_20 => ?_) (fun c_20 => ?_)
      · have he := ct_end (N := 5) (by decide) hi c_20
        subst he
        refine y_iload_n C0 3 dX3_othersAt_57 rfl rfl ?_
        exact y_iret C0 dX3_othersAt_58 rfl rfl
      · have hlt := ct_lt (N := 5) (by decide) hi c_20
        refine y_aload C0 2 dX3_othersAt_23 rfl ?_
        refine y_iload C0 0 dX3_othersAt_25 rfl ?_
        refine y_aald C0 (i) 8 (ykd_w2 ho) (by decide) (by decide) rfl (by omega : i < 5) (yel_sw ho) dX3_othersAt_27 ?_
        refine y_astore C0 [(7, _), (6, _), (5, _), (4, _), (3, _), (2, _), (1, _), (0, _)] dX3_othersAt_28 (by decide) rfl ?_
        refine y_aload C0 0 dX3_othersAt_30 rfl ?_
        refine y_get C0 2 rfl rfl (by decide) hin2 2 (ykd_sw ho (by omega : i < 5)) (by decide) (by decide +kernel) (yvi2 (ykd_sw ho (by omega : i < 5))) dX3_othersAt_32 ?_
        refine y_iload_n C0 6 dX3_othersAt_35 rfl rfl ?_
        refine y_icmp_ne C0 51 dX3_othersAt_36 (by decide) (fun c_36 => ?_) (fun c_36 => ?_)
        · refine y_iinc (v := nI (i + 1)) C0 1 [(6, _), (7, _), (5, _), (4, _), (3, _), (2, _), (1, _), (0, _)] dX3_othersAt_51 rfl (yinc_ok rfl rfl) (by decide) rfl ?_
          refine y_goto C0 16 dX3_othersAt_54 (by decide) ?_
          refine y_sub [0, 2, 3, 4, 5, 6, 7] [(6, _), (5, _), (4, _), (3, _), (2, _), (1, _), (0, _)] rfl ?_
          exact y_eq (by first | rfl | simp [wOth, c_20, c_36]) (by first | rfl | simp [wOth, c_20, c_36]) rfl (ih_16 _ (by omega) (i + 1) rfl hlt)
        · refine y_aload C0 0 dX3_othersAt_39 rfl ?_
          refine y_get C0 2 rfl rfl (by decide) hin2 0 (ykd_sw ho (by omega : i < 5)) (by decide) (by decide +kernel) (yvi2 (ykd_sw ho (by omega : i < 5))) dX3_othersAt_41 ?_
          refine y_iload_n C0 5 dX3_othersAt_44 rfl rfl ?_
          refine y_icmp_eq C0 51 dX3_othersAt_45 (by decide) (fun c_45 => ?_) (fun c_45 => ?_)
          · refine y_iinc (v := nI (i + 1)) C0 1 [(6, _), (7, _), (5, _), (4, _), (3, _), (2, _), (1, _), (0, _)] dX3_othersAt_51 rfl (yinc_ok rfl rfl) (by decide) rfl ?_
            refine y_goto C0 16 dX3_othersAt_54 (by decide) ?_
            refine y_sub [0, 2, 3, 4, 5, 6, 7] [(6, _), (5, _), (4, _), (3, _), (2, _), (1, _), (0, _)] rfl ?_
            exact y_eq (by first | rfl | simp [wOth, c_20, c_36, c_45]) (by first | rfl | simp [wOth, c_20, c_36, c_45]) rfl (ih_16 _ (by omega) (i + 1) rfl hlt)
          · refine y_iinc C0 4 [(3, _), (7, _), (6, _), (5, _), (4, _), (2, _), (1, _), (0, _)] dX3_othersAt_48 rfl rfl (by decide) rfl ?_
            refine y_iinc (v := nI (i + 1)) C0 2 [(6, _), (3, _), (7, _), (5, _), (4, _), (2, _), (1, _), (0, _)] dX3_othersAt_51 rfl (yinc_ok rfl rfl) (by decide) rfl ?_
            refine y_goto C0 16 dX3_othersAt_54 (by decide) ?_
            refine y_sub [0, 3, 4, 1, 5, 6, 7] [(6, _), (5, _), (4, _), (3, _), (2, _), (1, _), (0, _)] rfl ?_
            exact y_eq (by first | rfl | simp [wOth, c_20, c_36, c_45]) (by first | rfl | simp [wOth, c_20, c_36, c_45]) rfl (ih_16 _ (by omega) (i + 1) rfl hlt)
  refine y_sub [0, 1, 2, 3, 6, 5, 4] [(6, _), (5, _), (4, _), (3, _), (2, _), (1, _), (0, _)] rfl ?_
  exact hl_16 _ 0 rfl (Nat.zero_le _)
abbrev rX3_sittersAt : Room := { frames := 1, cells := 0, slots := 0, locals := 27 }
set_option maxRecDepth 100000 in
set_option maxHeartbeats 4000000 in
theorem mX3_sittersAt (l : Launch) (D : va_G) (cy : Nat → ClassId) (adr : Nat → Nat) (M : yM) (o : Nat) (ho : o = 0 ∨ o = 27) (x : Int32)  : Ct l yX3_sittersAt wsX3_sittersAt rX3_sittersAt D cy adr [.ref (adr o), .int x] M (some (.int (wOth M o x (-1) 5))) (M) 0 0 := by
  refine Ct.mk cX3_sittersAt 2 (some .int) RX3 (by decide) rfl rfl (Nat.le_of_ble_eq_true rfl) ?_
  intro K C0
  refine y_eq rfl (show ([(0, .ref (adr o)), (1, .int x)] : List (Nat × Value)) = lv_args 0 [.ref (adr o), .int x] from rfl) rfl ?_
  refine y_aload_n C0 0 dX3_sittersAt_0 rfl rfl ?_
  refine y_iload_n C0 1 dX3_sittersAt_1 rfl rfl ?_
  refine y_iconst (v := (-1)) C0 dX3_sittersAt_2 (by decide) ?_
  refine y_callV (As := [_, _]) (rest := _) (n := 2) C0 (mX3_othersAt l D cy adr _ _ ho _ _) 3 rfl (by decide) (ykd_w ho) gX3_sittersAt_X3_othersAt rfl rfl rfl (by decide +kernel) ⟨by decide, by decide⟩ rfl rfl (Nat.le_of_ble_eq_true rfl) dX3_sittersAt_3 ⟨by decide, by decide⟩ ?_
  exact y_iret C0 dX3_sittersAt_6 rfl rfl
abbrev rX3_stitchesAnHour : Room := { frames := 1, cells := 0, slots := 0, locals := 16 }
set_option maxRecDepth 100000 in
set_option maxHeartbeats 4000000 in
theorem mX3_stitchesAnHour (l : Launch) (D : va_G) (cy : Nat → ClassId) (adr : Nat → Nat) (M : yM) (o : Nat) (ho : o = 0 ∨ o = 27) (x : Int32)  : Ct l yX3_stitchesAnHour wsX3_stitchesAnHour rX3_stitchesAnHour D cy adr [.ref (adr o), .int x] M (some (.int (wRate M o x))) (M) 0 0 := by
  refine Ct.mk cX3_stitchesAnHour 8 (some .int) RX3 (by decide) rfl rfl (Nat.le_of_ble_eq_true rfl) ?_
  intro K C0
  refine y_eq rfl (show ([(0, .ref (adr o)), (1, .int x)] : List (Nat × Value)) = lv_args 0 [.ref (adr o), .int x] from rfl) rfl ?_
  have hin2 : ∀ w ∈ u_ws RX2 TX2 3, w ∈ wsX3_stitchesAnHour := by decide +kernel
  have hin3 : ∀ w ∈ u_ws RX3 TX3 12, w ∈ wsX3_stitchesAnHour := by decide +kernel
  refine y_iconst (v := 0) C0 dX3_stitchesAnHour_0 (by decide) ?_
  refine y_istore_n C0 [(2, _), (0, _), (1, _)] dX3_stitchesAnHour_1 rfl (by decide) rfl ?_
  refine y_iconst (v := 0) C0 dX3_stitchesAnHour_2 (by decide) ?_
  refine y_istore_n C0 [(3, _), (2, _), (0, _), (1, _)] dX3_stitchesAnHour_3 rfl (by decide) rfl ?_
  refine y_aload_n C0 2 dX3_stitchesAnHour_4 rfl rfl ?_
  refine y_get C0 3 rfl rfl (by decide) hin3 1 (ykd_w ho) (by decide) (by decide +kernel) (yv3_sewers (ykd_w ho)) dX3_stitchesAnHour_5 ?_
  refine y_astore C0 [(4, _), (3, _), (2, _), (0, _), (1, _)] dX3_stitchesAnHour_8 (by decide) rfl ?_
  refine y_aload C0 0 dX3_stitchesAnHour_10 rfl ?_
  refine y_alen C0 8 (ykd_w2 ho) (by decide) (by decide) dX3_stitchesAnHour_12 ?_
  refine y_istore C0 [(5, _), (4, _), (3, _), (2, _), (0, _), (1, _)] dX3_stitchesAnHour_13 (by decide) rfl ?_
  refine y_iconst (v := 0) C0 dX3_stitchesAnHour_15 (by decide) ?_
  refine y_istore C0 [(6, _), (5, _), (4, _), (3, _), (2, _), (0, _), (1, _)] dX3_stitchesAnHour_16 (by decide) rfl ?_
  have hl_18 : ∀ (n : Nat) (i : Nat), 5 - i = n → i ≤ 5 → Y K l rX3_stitchesAnHour D cy adr 8 0 0 (QT K D cy adr (some (.int (wRate M o x))) (M) 0 0) M [] [(6, .int (nI i)), (5, .int (nI 5)), (4, .ref (adr (o + 2))), (3, .int (wSpd M o x i)), (2, .int (wSit M o x i)), (1, .int x), (0, .ref (adr o))] 18 [] := by
    intro n
    induction n using Nat.strongRecOn with
    | _ n ih_18 =>
      intro i hn_18 hi
      refine y_iload C0 0 dX3_stitchesAnHour_18 rfl ?_
      refine y_iload C0 1 dX3_stitchesAnHour_20 rfl ?_
      refine y_icmp_ge C0 58 dX3_stitchesAnHour_22 (by decide) (fun c_22 => ?_) (fun c_22 => ?_)
      · have he := ct_end (N := 5) (by decide) hi c_22
        subst he
        refine y_iload_n C0 4 dX3_stitchesAnHour_58 rfl rfl ?_
        refine y_iconst (v := 2) C0 dX3_stitchesAnHour_59 (by decide) ?_
        refine y_icmp_ne C0 73 dX3_stitchesAnHour_60 (by decide) (fun c_60 => ?_) (fun c_60 => ?_)
        · refine y_iload_n C0 3 dX3_stitchesAnHour_73 rfl rfl ?_
          exact y_iret C0 dX3_stitchesAnHour_74 (by simp only [wRate]; simp [c_22, c_60]) rfl
        · refine y_iconst (v := 1) C0 dX3_stitchesAnHour_63 (by decide) ?_
          refine y_iload_n C0 3 dX3_stitchesAnHour_64 rfl rfl ?_
          refine y_iconst (v := 3) C0 dX3_stitchesAnHour_65 (by decide) ?_
          refine y_isub C0 dX3_stitchesAnHour_66 ?_
          refine y_mmax C0 (by decide +kernel) (by decide +kernel) (by decide +kernel) (by decide +kernel) (by decide) (Nat.le_of_ble_eq_true rfl) (by decide) (by decide) dX3_stitchesAnHour_67 ?_
          refine y_goto C0 74 dX3_stitchesAnHour_70 (by decide) ?_
          exact y_iret C0 dX3_stitchesAnHour_74 (by simp only [wRate]; simp [c_22, c_60]) rfl
      · have hlt := ct_lt (N := 5) (by decide) hi c_22
        refine y_aload C0 2 dX3_stitchesAnHour_25 rfl ?_
        refine y_iload C0 0 dX3_stitchesAnHour_27 rfl ?_
        refine y_aald C0 (i) 8 (ykd_w2 ho) (by decide) (by decide) rfl (by omega : i < 5) (yel_sw ho) dX3_stitchesAnHour_29 ?_
        refine y_astore C0 [(7, _), (6, _), (5, _), (4, _), (3, _), (2, _), (1, _), (0, _)] dX3_stitchesAnHour_30 (by decide) rfl ?_
        refine y_aload C0 0 dX3_stitchesAnHour_32 rfl ?_
        refine y_get C0 2 rfl rfl (by decide) hin2 2 (ykd_sw ho (by omega : i < 5)) (by decide) (by decide +kernel) (yvi2 (ykd_sw ho (by omega : i < 5))) dX3_stitchesAnHour_34 ?_
        refine y_iload_n C0 6 dX3_stitchesAnHour_37 rfl rfl ?_
        refine y_icmp_ne C0 52 dX3_stitchesAnHour_38 (by decide) (fun c_38 => ?_) (fun c_38 => ?_)
        · refine y_iinc (v := nI (i + 1)) C0 1 [(6, _), (7, _), (5, _), (4, _), (3, _), (2, _), (1, _), (0, _)] dX3_stitchesAnHour_52 rfl (yinc_ok rfl rfl) (by decide) rfl ?_
          refine y_goto C0 18 dX3_stitchesAnHour_55 (by decide) ?_
          refine y_sub [0, 2, 3, 4, 5, 6, 7] [(6, _), (5, _), (4, _), (3, _), (2, _), (1, _), (0, _)] rfl ?_
          exact y_eq (by first | rfl | simp [wSpd, wSit, c_22, c_38]) (by first | rfl | simp [wSpd, wSit, c_22, c_38]) rfl (ih_18 _ (by omega) (i + 1) rfl hlt)
        · refine y_iinc C0 5 [(2, _), (7, _), (6, _), (5, _), (4, _), (3, _), (1, _), (0, _)] dX3_stitchesAnHour_41 rfl rfl (by decide) rfl ?_
          refine y_iload_n C0 5 dX3_stitchesAnHour_44 rfl rfl ?_
          refine y_aload C0 1 dX3_stitchesAnHour_45 rfl ?_
          refine y_get C0 2 rfl rfl (by decide) hin2 1 (ykd_sw ho (by omega : i < 5)) (by decide) (by decide +kernel) (yvi2 (ykd_sw ho (by omega : i < 5))) dX3_stitchesAnHour_47 ?_
          refine y_iadd C0 dX3_stitchesAnHour_50 ?_
          refine y_istore_n C0 [(3, _), (2, _), (7, _), (6, _), (5, _), (4, _), (1, _), (0, _)] dX3_stitchesAnHour_51 rfl (by decide) rfl ?_
          refine y_iinc (v := nI (i + 1)) C0 3 [(6, _), (3, _), (2, _), (7, _), (5, _), (4, _), (1, _), (0, _)] dX3_stitchesAnHour_52 rfl (yinc_ok rfl rfl) (by decide) rfl ?_
          refine y_goto C0 18 dX3_stitchesAnHour_55 (by decide) ?_
          refine y_sub [0, 4, 5, 1, 2, 6, 7] [(6, _), (5, _), (4, _), (3, _), (2, _), (1, _), (0, _)] rfl ?_
          exact y_eq (by first | rfl | simp [wSpd, wSit, c_22, c_38]) (by first | rfl | simp [wSpd, wSit, c_22, c_38]) rfl (ih_18 _ (by omega) (i + 1) rfl hlt)
  refine y_sub [0, 1, 2, 3, 4, 6, 5] [(6, _), (5, _), (4, _), (3, _), (2, _), (1, _), (0, _)] rfl ?_
  exact hl_18 _ 0 rfl (Nat.zero_le _)
end YZ
end
section
section YZ
abbrev rX3_store : Room := { frames := 0, cells := 0, slots := 0, locals := 0 }
set_option maxRecDepth 100000 in
set_option maxHeartbeats 4000000 in
theorem mX3_store (l : Launch) (D : va_G) (cy : Nat → ClassId) (adr : Nat → Nat) (M : yM) (o : Nat) (ho : o = 0 ∨ o = 27) (x : Int32) (y : Int32)  : Ct l yX3_store wsX3_store rX3_store D cy adr [.ref (adr o), .int x, .int y] M (some (.int (wStoreR M o x y))) (wStore M o x y) 0 0 := by
  refine Ct.mk cX3_store 3 (some .int) RX3 (by decide) rfl rfl (Nat.le_of_ble_eq_true rfl) ?_
  intro K C0
  refine y_eq rfl (show ([(0, .ref (adr o)), (1, .int x), (2, .int y)] : List (Nat × Value)) = lv_args 0 [.ref (adr o), .int x, .int y] from rfl) rfl ?_
  have hin3 : ∀ w ∈ u_ws RX3 TX3 12, w ∈ wsX3_store := by decide +kernel
  refine y_iload_n C0 1 dX3_store_0 rfl rfl ?_
  by_cases s_1_0 : x = 0
  · refine y_lsw (off := 27) C0 dX3_store_1 rfl (by rw [s_1_0]; try rfl) (tgt := 28) (by decide) ?_
    refine y_aload_n C0 0 dX3_store_28 rfl rfl ?_
    refine y_dup C0 dX3_store_29 rfl ?_
    refine y_get C0 3 rfl rfl (by decide) hin3 7 (ykd_w ho) (by decide) (by decide +kernel) (yvi3 (ykd_w ho) (by decide)) dX3_store_30 ?_
    refine y_iload_n C0 2 dX3_store_33 rfl rfl ?_
    refine y_iadd C0 dX3_store_34 ?_
    refine y_put C0 3 rfl rfl (by decide) hin3 tyX3 tyX3_ok nmX3 7 (ykd_w ho) (by decide) (by decide +kernel) (yrn3 (ykd_w ho) (by decide)) rfl (by decide +kernel) dX3_store_35 ?_
    refine y_aload_n C0 0 dX3_store_38 rfl rfl ?_
    refine y_get C0 3 rfl rfl (by decide) hin3 7 (ykd_w ho) (by decide) (by decide +kernel) (yvi3 (ykd_w ho) (by decide)) dX3_store_39 ?_
    exact y_iret C0 dX3_store_42 (by simp [wStoreR, yst, s_1_0]) (by simp [wStore, s_1_0])
  by_cases s_1_1 : x = 1
  · refine y_lsw (off := 42) C0 dX3_store_1 rfl (by rw [s_1_1]; try rfl) (tgt := 43) (by decide) ?_
    refine y_aload_n C0 0 dX3_store_43 rfl rfl ?_
    refine y_dup C0 dX3_store_44 rfl ?_
    refine y_get C0 3 rfl rfl (by decide) hin3 8 (ykd_w ho) (by decide) (by decide +kernel) (yvi3 (ykd_w ho) (by decide)) dX3_store_45 ?_
    refine y_iload_n C0 2 dX3_store_48 rfl rfl ?_
    refine y_iadd C0 dX3_store_49 ?_
    refine y_put C0 3 rfl rfl (by decide) hin3 tyX3 tyX3_ok nmX3 8 (ykd_w ho) (by decide) (by decide +kernel) (yrn3 (ykd_w ho) (by decide)) rfl (by decide +kernel) dX3_store_50 ?_
    refine y_aload_n C0 0 dX3_store_53 rfl rfl ?_
    refine y_get C0 3 rfl rfl (by decide) hin3 8 (ykd_w ho) (by decide) (by decide +kernel) (yvi3 (ykd_w ho) (by decide)) dX3_store_54 ?_
    exact y_iret C0 dX3_store_57 (by simp [wStoreR, yst, s_1_1]) (by simp [wStore, s_1_1])
  refine y_lsw (off := 57) C0 dX3_store_1 rfl ((lv_osw s_1_0 rfl).trans (lv_osw s_1_1 rfl)) (tgt := 58) (by decide) ?_
  refine y_aload_n C0 0 dX3_store_58 rfl rfl ?_
  refine y_dup C0 dX3_store_59 rfl ?_
  refine y_get C0 3 rfl rfl (by decide) hin3 9 (ykd_w ho) (by decide) (by decide +kernel) (yvi3 (ykd_w ho) (by decide)) dX3_store_60 ?_
  refine y_iload_n C0 2 dX3_store_63 rfl rfl ?_
  refine y_iadd C0 dX3_store_64 ?_
  refine y_put C0 3 rfl rfl (by decide) hin3 tyX3 tyX3_ok nmX3 9 (ykd_w ho) (by decide) (by decide +kernel) (yrn3 (ykd_w ho) (by decide)) rfl (by decide +kernel) dX3_store_65 ?_
  refine y_aload_n C0 0 dX3_store_68 rfl rfl ?_
  refine y_get C0 3 rfl rfl (by decide) hin3 9 (ykd_w ho) (by decide) (by decide +kernel) (yvi3 (ykd_w ho) (by decide)) dX3_store_69 ?_
  exact y_iret C0 dX3_store_72 (by simp [wStoreR, yst, s_1_0, s_1_1]) (by simp [wStore, s_1_0, s_1_1])
abbrev rX3_tellOfAll : Room := { frames := 1, cells := 0, slots := 0, locals := 26 }
set_option maxRecDepth 100000 in
set_option maxHeartbeats 4000000 in
theorem mX3_tellOfAll (l : Launch) (D : va_G) (cy : Nat → ClassId) (adr : Nat → Nat) (M : yM) (o : Nat) (ho : o = 0 ∨ o = 27) (x : Int32)  : Ct l yX3_tellOfAll wsX3_tellOfAll rX3_tellOfAll D cy adr [.ref (adr o), .int x] M (some (.int (wTellA M o x))) (M) 0 0 := by
  refine Ct.mk cX3_tellOfAll 2 (some .int) RX3 (by decide) rfl rfl (Nat.le_of_ble_eq_true rfl) ?_
  intro K C0
  refine y_eq rfl (show ([(0, .ref (adr o)), (1, .int x)] : List (Nat × Value)) = lv_args 0 [.ref (adr o), .int x] from rfl) rfl ?_
  have hin3 : ∀ w ∈ u_ws RX3 TX3 12, w ∈ wsX3_tellOfAll := by decide +kernel
  refine y_iload_n C0 1 dX3_tellOfAll_0 rfl rfl ?_
  by_cases s_1_0 : x = 0
  · refine y_tswI (v := 0) C0 dX3_tellOfAll_1 (by rw [s_1_0]; rfl) (by decide) (by decide) rfl (tgt := 76) (by decide) ?_
    refine y_aload_n C0 0 dX3_tellOfAll_76 rfl rfl ?_
    refine y_get C0 3 rfl rfl (by decide) hin3 5 (ykd_w ho) (by decide) (by decide +kernel) (yvi3 (ykd_w ho) (by decide)) dX3_tellOfAll_77 ?_
    exact y_iret C0 dX3_tellOfAll_80 (by simp [wTellA, s_1_0]) rfl
  by_cases s_1_1 : x = 1
  · refine y_tswI (v := 1) C0 dX3_tellOfAll_1 (by rw [s_1_1]; rfl) (by decide) (by decide) rfl (tgt := 81) (by decide) ?_
    refine y_aload_n C0 0 dX3_tellOfAll_81 rfl rfl ?_
    refine y_get C0 3 rfl rfl (by decide) hin3 3 (ykd_w ho) (by decide) (by decide +kernel) (yvi3 (ykd_w ho) (by decide)) dX3_tellOfAll_82 ?_
    exact y_iret C0 dX3_tellOfAll_85 (by simp [wTellA, s_1_1]) rfl
  by_cases s_1_2 : x = 2
  · refine y_tswI (v := 2) C0 dX3_tellOfAll_1 (by rw [s_1_2]; rfl) (by decide) (by decide) rfl (tgt := 116) (by decide) ?_
    refine y_aload_n C0 0 dX3_tellOfAll_116 rfl rfl ?_
    refine y_iload_n C0 1 dX3_tellOfAll_117 rfl rfl ?_
    refine y_iconst (v := 2) C0 dX3_tellOfAll_118 (by decide) ?_
    refine y_isub C0 dX3_tellOfAll_119 ?_
    refine y_callV (As := [_]) (rest := _) (n := 1) C0 (mX3_booksAt l D cy adr _ _ ho _) 3 rfl (by decide) (ykd_w ho) gX3_tellOfAll_X3_booksAt rfl rfl rfl (by decide +kernel) ⟨by decide, by decide⟩ rfl rfl (Nat.le_of_ble_eq_true rfl) dX3_tellOfAll_120 ⟨by decide, by decide⟩ ?_
    exact y_iret C0 dX3_tellOfAll_123 (by simp [wTellA, s_1_2]) rfl
  by_cases s_1_3 : x = 3
  · refine y_tswI (v := 3) C0 dX3_tellOfAll_1 (by rw [s_1_3]; rfl) (by decide) (by decide) rfl (tgt := 116) (by decide) ?_
    refine y_aload_n C0 0 dX3_tellOfAll_116 rfl rfl ?_
    refine y_iload_n C0 1 dX3_tellOfAll_117 rfl rfl ?_
    refine y_iconst (v := 2) C0 dX3_tellOfAll_118 (by decide) ?_
    refine y_isub C0 dX3_tellOfAll_119 ?_
    refine y_callV (As := [_]) (rest := _) (n := 1) C0 (mX3_booksAt l D cy adr _ _ ho _) 3 rfl (by decide) (ykd_w ho) gX3_tellOfAll_X3_booksAt rfl rfl rfl (by decide +kernel) ⟨by decide, by decide⟩ rfl rfl (Nat.le_of_ble_eq_true rfl) dX3_tellOfAll_120 ⟨by decide, by decide⟩ ?_
    exact y_iret C0 dX3_tellOfAll_123 (by simp [wTellA, s_1_3]) rfl
  by_cases s_1_4 : x = 4
  · refine y_tswI (v := 4) C0 dX3_tellOfAll_1 (by rw [s_1_4]; rfl) (by decide) (by decide) rfl (tgt := 116) (by decide) ?_
    refine y_aload_n C0 0 dX3_tellOfAll_116 rfl rfl ?_
    refine y_iload_n C0 1 dX3_tellOfAll_117 rfl rfl ?_
    refine y_iconst (v := 2) C0 dX3_tellOfAll_118 (by decide) ?_
    refine y_isub C0 dX3_tellOfAll_119 ?_
    refine y_callV (As := [_]) (rest := _) (n := 1) C0 (mX3_booksAt l D cy adr _ _ ho _) 3 rfl (by decide) (ykd_w ho) gX3_tellOfAll_X3_booksAt rfl rfl rfl (by decide +kernel) ⟨by decide, by decide⟩ rfl rfl (Nat.le_of_ble_eq_true rfl) dX3_tellOfAll_120 ⟨by decide, by decide⟩ ?_
    exact y_iret C0 dX3_tellOfAll_123 (by simp [wTellA, s_1_4]) rfl
  by_cases s_1_5 : x = 5
  · refine y_tswI (v := 5) C0 dX3_tellOfAll_1 (by rw [s_1_5]; rfl) (by decide) (by decide) rfl (tgt := 116) (by decide) ?_
    refine y_aload_n C0 0 dX3_tellOfAll_116 rfl rfl ?_
    refine y_iload_n C0 1 dX3_tellOfAll_117 rfl rfl ?_
    refine y_iconst (v := 2) C0 dX3_tellOfAll_118 (by decide) ?_
    refine y_isub C0 dX3_tellOfAll_119 ?_
    refine y_callV (As := [_]) (rest := _) (n := 1) C0 (mX3_booksAt l D cy adr _ _ ho _) 3 rfl (by decide) (ykd_w ho) gX3_tellOfAll_X3_booksAt rfl rfl rfl (by decide +kernel) ⟨by decide, by decide⟩ rfl rfl (Nat.le_of_ble_eq_true rfl) dX3_tellOfAll_120 ⟨by decide, by decide⟩ ?_
    exact y_iret C0 dX3_tellOfAll_123 (by simp [wTellA, s_1_5]) rfl
  by_cases s_1_6 : x = 6
  · refine y_tswI (v := 6) C0 dX3_tellOfAll_1 (by rw [s_1_6]; rfl) (by decide) (by decide) rfl (tgt := 116) (by decide) ?_
    refine y_aload_n C0 0 dX3_tellOfAll_116 rfl rfl ?_
    refine y_iload_n C0 1 dX3_tellOfAll_117 rfl rfl ?_
    refine y_iconst (v := 2) C0 dX3_tellOfAll_118 (by decide) ?_
    refine y_isub C0 dX3_tellOfAll_119 ?_
    refine y_callV (As := [_]) (rest := _) (n := 1) C0 (mX3_booksAt l D cy adr _ _ ho _) 3 rfl (by decide) (ykd_w ho) gX3_tellOfAll_X3_booksAt rfl rfl rfl (by decide +kernel) ⟨by decide, by decide⟩ rfl rfl (Nat.le_of_ble_eq_true rfl) dX3_tellOfAll_120 ⟨by decide, by decide⟩ ?_
    exact y_iret C0 dX3_tellOfAll_123 (by simp [wTellA, s_1_6]) rfl
  by_cases s_1_7 : x = 7
  · refine y_tswI (v := 7) C0 dX3_tellOfAll_1 (by rw [s_1_7]; rfl) (by decide) (by decide) rfl (tgt := 116) (by decide) ?_
    refine y_aload_n C0 0 dX3_tellOfAll_116 rfl rfl ?_
    refine y_iload_n C0 1 dX3_tellOfAll_117 rfl rfl ?_
    refine y_iconst (v := 2) C0 dX3_tellOfAll_118 (by decide) ?_
    refine y_isub C0 dX3_tellOfAll_119 ?_
    refine y_callV (As := [_]) (rest := _) (n := 1) C0 (mX3_booksAt l D cy adr _ _ ho _) 3 rfl (by decide) (ykd_w ho) gX3_tellOfAll_X3_booksAt rfl rfl rfl (by decide +kernel) ⟨by decide, by decide⟩ rfl rfl (Nat.le_of_ble_eq_true rfl) dX3_tellOfAll_120 ⟨by decide, by decide⟩ ?_
    exact y_iret C0 dX3_tellOfAll_123 (by simp [wTellA, s_1_7]) rfl
  by_cases s_1_8 : x = 8
  · refine y_tswI (v := 8) C0 dX3_tellOfAll_1 (by rw [s_1_8]; rfl) (by decide) (by decide) rfl (tgt := 116) (by decide) ?_
    refine y_aload_n C0 0 dX3_tellOfAll_116 rfl rfl ?_
    refine y_iload_n C0 1 dX3_tellOfAll_117 rfl rfl ?_
    refine y_iconst (v := 2) C0 dX3_tellOfAll_118 (by decide) ?_
    refine y_isub C0 dX3_tellOfAll_119 ?_
    refine y_callV (As := [_]) (rest := _) (n := 1) C0 (mX3_booksAt l D cy adr _ _ ho _) 3 rfl (by decide) (ykd_w ho) gX3_tellOfAll_X3_booksAt rfl rfl rfl (by decide +kernel) ⟨by decide, by decide⟩ rfl rfl (Nat.le_of_ble_eq_true rfl) dX3_tellOfAll_120 ⟨by decide, by decide⟩ ?_
    exact y_iret C0 dX3_tellOfAll_123 (by simp [wTellA, s_1_8]) rfl
  by_cases s_1_9 : x = 9
  · refine y_tswI (v := 9) C0 dX3_tellOfAll_1 (by rw [s_1_9]; rfl) (by decide) (by decide) rfl (tgt := 86) (by decide) ?_
    refine y_aload_n C0 0 dX3_tellOfAll_86 rfl rfl ?_
    refine y_get C0 3 rfl rfl (by decide) hin3 6 (ykd_w ho) (by decide) (by decide +kernel) (yvi3 (ykd_w ho) (by decide)) dX3_tellOfAll_87 ?_
    exact y_iret C0 dX3_tellOfAll_90 (by simp [wTellA, s_1_9]) rfl
  by_cases s_1_10 : x = 10
  · refine y_tswI (v := 10) C0 dX3_tellOfAll_1 (by rw [s_1_10]; rfl) (by decide) (by decide) rfl (tgt := 91) (by decide) ?_
    refine y_aload_n C0 0 dX3_tellOfAll_91 rfl rfl ?_
    refine y_get C0 3 rfl rfl (by decide) hin3 7 (ykd_w ho) (by decide) (by decide +kernel) (yvi3 (ykd_w ho) (by decide)) dX3_tellOfAll_92 ?_
    exact y_iret C0 dX3_tellOfAll_95 (by simp [wTellA, s_1_10]) rfl
  by_cases s_1_11 : x = 11
  · refine y_tswI (v := 11) C0 dX3_tellOfAll_1 (by rw [s_1_11]; rfl) (by decide) (by decide) rfl (tgt := 96) (by decide) ?_
    refine y_aload_n C0 0 dX3_tellOfAll_96 rfl rfl ?_
    refine y_get C0 3 rfl rfl (by decide) hin3 8 (ykd_w ho) (by decide) (by decide +kernel) (yvi3 (ykd_w ho) (by decide)) dX3_tellOfAll_97 ?_
    exact y_iret C0 dX3_tellOfAll_100 (by simp [wTellA, s_1_11]) rfl
  by_cases s_1_12 : x = 12
  · refine y_tswI (v := 12) C0 dX3_tellOfAll_1 (by rw [s_1_12]; rfl) (by decide) (by decide) rfl (tgt := 101) (by decide) ?_
    refine y_aload_n C0 0 dX3_tellOfAll_101 rfl rfl ?_
    refine y_get C0 3 rfl rfl (by decide) hin3 9 (ykd_w ho) (by decide) (by decide +kernel) (yvi3 (ykd_w ho) (by decide)) dX3_tellOfAll_102 ?_
    exact y_iret C0 dX3_tellOfAll_105 (by simp [wTellA, s_1_12]) rfl
  by_cases s_1_13 : x = 13
  · refine y_tswI (v := 13) C0 dX3_tellOfAll_1 (by rw [s_1_13]; rfl) (by decide) (by decide) rfl (tgt := 106) (by decide) ?_
    refine y_aload_n C0 0 dX3_tellOfAll_106 rfl rfl ?_
    refine y_get C0 3 rfl rfl (by decide) hin3 10 (ykd_w ho) (by decide) (by decide +kernel) (yvi3 (ykd_w ho) (by decide)) dX3_tellOfAll_107 ?_
    exact y_iret C0 dX3_tellOfAll_110 (by simp [wTellA, s_1_13]) rfl
  by_cases s_1_14 : x = 14
  · refine y_tswI (v := 14) C0 dX3_tellOfAll_1 (by rw [s_1_14]; rfl) (by decide) (by decide) rfl (tgt := 111) (by decide) ?_
    refine y_aload_n C0 0 dX3_tellOfAll_111 rfl rfl ?_
    refine y_get C0 3 rfl rfl (by decide) hin3 11 (ykd_w ho) (by decide) (by decide +kernel) (yvi3 (ykd_w ho) (by decide)) dX3_tellOfAll_112 ?_
    exact y_iret C0 dX3_tellOfAll_115 (by simp [wTellA, s_1_14]) rfl
  refine y_tswO C0 dX3_tellOfAll_1 (by have z0 := lv_neT s_1_0 (a := 0) rfl; have z1 := lv_neT s_1_1 (a := 1) rfl; have z2 := lv_neT s_1_2 (a := 2) rfl; have z3 := lv_neT s_1_3 (a := 3) rfl; have z4 := lv_neT s_1_4 (a := 4) rfl; have z5 := lv_neT s_1_5 (a := 5) rfl; have z6 := lv_neT s_1_6 (a := 6) rfl; have z7 := lv_neT s_1_7 (a := 7) rfl; have z8 := lv_neT s_1_8 (a := 8) rfl; have z9 := lv_neT s_1_9 (a := 9) rfl; have z10 := lv_neT s_1_10 (a := 10) rfl; have z11 := lv_neT s_1_11 (a := 11) rfl; have z12 := lv_neT s_1_12 (a := 12) rfl; have z13 := lv_neT s_1_13 (a := 13) rfl; have z14 := lv_neT s_1_14 (a := 14) rfl; omega) (tgt := 116) (by decide) ?_
  refine y_aload_n C0 0 dX3_tellOfAll_116 rfl rfl ?_
  refine y_iload_n C0 1 dX3_tellOfAll_117 rfl rfl ?_
  refine y_iconst (v := 2) C0 dX3_tellOfAll_118 (by decide) ?_
  refine y_isub C0 dX3_tellOfAll_119 ?_
  refine y_callV (As := [_]) (rest := _) (n := 1) C0 (mX3_booksAt l D cy adr _ _ ho _) 3 rfl (by decide) (ykd_w ho) gX3_tellOfAll_X3_booksAt rfl rfl rfl (by decide +kernel) ⟨by decide, by decide⟩ rfl rfl (Nat.le_of_ble_eq_true rfl) dX3_tellOfAll_120 ⟨by decide, by decide⟩ ?_
  exact y_iret C0 dX3_tellOfAll_123 (by simp [wTellA, s_1_0, s_1_1, s_1_2, s_1_3, s_1_4, s_1_5, s_1_6, s_1_7, s_1_8, s_1_9, s_1_10, s_1_11, s_1_12, s_1_13, s_1_14]) rfl
abbrev rX3_gild : Room := { frames := 2, cells := 0, slots := 0, locals := 40 }
set_option maxRecDepth 100000 in
set_option maxHeartbeats 4000000 in
theorem mX3_gild (l : Launch) (D : va_G) (cy : Nat → ClassId) (adr : Nat → Nat) (M : yM) (o : Nat) (ho : o = 0 ∨ o = 27)   : Ct l yX3_gild wsX3_gild rX3_gild D cy adr [.ref (adr o)] M (none) (wGild M o) 0 0 := by
  refine Ct.mk cX3_gild 6 none RX3 (by decide) rfl rfl (Nat.le_of_ble_eq_true rfl) ?_
  intro K C0
  refine y_eq rfl (show ([(0, .ref (adr o))] : List (Nat × Value)) = lv_args 0 [.ref (adr o)] from rfl) rfl ?_
  have hin0 : ∀ w ∈ u_ws RX0 TX0 13, w ∈ wsX3_gild := by decide +kernel
  have hin3 : ∀ w ∈ u_ws RX3 TX3 12, w ∈ wsX3_gild := by decide +kernel
  refine y_aload_n C0 0 dX3_gild_0 rfl rfl ?_
  refine y_get C0 3 rfl rfl (by decide) hin3 0 (ykd_w ho) (by decide) (by decide +kernel) (yv3_books (ykd_w ho)) dX3_gild_1 ?_
  refine y_astore_n C0 [(1, _), (0, _)] dX3_gild_4 rfl (by decide) rfl ?_
  refine y_aload_n C0 0 dX3_gild_5 rfl rfl ?_
  refine y_alen C0 7 (ykd_w1 ho) (by decide) (by decide) dX3_gild_6 ?_
  refine y_istore_n C0 [(2, _), (1, _), (0, _)] dX3_gild_7 rfl (by decide) rfl ?_
  refine y_iconst (v := 0) C0 dX3_gild_8 (by decide) ?_
  refine y_istore_n C0 [(3, _), (2, _), (1, _), (0, _)] dX3_gild_9 rfl (by decide) rfl ?_
  have hl_10 : ∀ (n : Nat) (i : Nat), 15 - i = n → i ≤ 15 → wFst M o 4 i = none → Y K l rX3_gild D cy adr 6 0 0 (QT K D cy adr (none) (wGild M o) 0 0) M [] [(3, .int (nI i)), (2, .int (nI 15)), (1, .ref (adr (o + 1))), (0, .ref (adr o))] 10 [] := by
    intro n
    induction n using Nat.strongRecOn with
    | _ n ih_10 =>
      intro i hn_10 hi hfi
      refine y_iload_n C0 0 dX3_gild_10 rfl rfl ?_
      refine y_iload_n C0 1 dX3_gild_11 rfl rfl ?_
      refine y_icmp_ge C0 68 dX3_gild_12 (by decide) (fun c_12 => ?_) (fun c_12 => ?_)
      · have he := ct_end (N := 15) (by decide) hi c_12
        subst he
        exact y_vret C0 dX3_gild_68 rfl (wGild_none hfi)
      · have hlt := ct_lt (N := 15) (by decide) hi c_12
        refine y_aload_n C0 2 dX3_gild_15 rfl rfl ?_
        refine y_iload_n C0 0 dX3_gild_16 rfl rfl ?_
        refine y_aald C0 (i) 7 (ykd_w1 ho) (by decide) (by decide) rfl (by omega : i < 15) (yel_bk ho) dX3_gild_17 ?_
        refine y_astore C0 [(4, _), (3, _), (2, _), (1, _), (0, _)] dX3_gild_18 (by decide) rfl ?_
        refine y_aload C0 0 dX3_gild_20 rfl ?_
        refine y_get C0 0 rfl rfl (by decide) hin0 4 (ykd_bk ho (by omega : i < 15)) (by decide) (by decide +kernel) (yvi0 (ykd_bk ho (by omega : i < 15))) dX3_gild_22 ?_
        refine y_iconst (v := 4) C0 dX3_gild_25 (by decide) ?_
        refine y_icmp_ne C0 62 dX3_gild_26 (by decide) (fun c_26 => ?_) (fun c_26 => ?_)
        · refine y_iinc (v := nI (i + 1)) C0 1 [(3, _), (4, _), (2, _), (1, _), (0, _)] dX3_gild_62 rfl (yinc_ok rfl rfl) (by decide) rfl ?_
          refine y_goto C0 10 dX3_gild_65 (by decide) ?_
          refine y_sub [0, 2, 3, 4] [(3, _), (2, _), (1, _), (0, _)] rfl ?_
          exact y_eq (by first | rfl | simp [c_12, c_26]) (by first | rfl | simp [c_12, c_26]) rfl (ih_10 _ (by omega) (i + 1) rfl hlt (by simp [wFst, hfi, c_26]))
        · refine y_aload C0 0 dX3_gild_29 rfl ?_
          refine y_callV (As := []) (rest := _) (n := 0) C0 (mX0_leavesForAnEdge l D cy adr _ _ (ykd_bk ho (by omega : i < 15))) 0 rfl (by decide) (ykd_bk ho (by omega : i < 15)) gX3_gild_X0_leavesForAnEdge rfl rfl rfl (by decide +kernel) ⟨by decide, by decide⟩ rfl rfl (Nat.le_of_ble_eq_true rfl) dX3_gild_31 ⟨by decide, by decide⟩ ?_
          refine y_istore C0 [(5, _), (4, _), (3, _), (2, _), (1, _), (0, _)] dX3_gild_34 (by decide) rfl ?_
          refine y_aload_n C0 5 dX3_gild_36 rfl rfl ?_
          refine y_get C0 3 rfl rfl (by decide) hin3 9 (ykd_w ho) (by decide) (by decide +kernel) (yvi3 (ykd_w ho) (by decide)) dX3_gild_37 ?_
          refine y_iload C0 0 dX3_gild_40 rfl ?_
          refine y_icmp_lt C0 61 dX3_gild_42 (by decide) (fun c_42 => ?_) (fun c_42 => ?_)
          · exact y_vret C0 dX3_gild_61 rfl (by rw [wGild_some (wFst_at hfi c_26 hlt), wGildAt, if_pos c_42])
          · refine y_aload_n C0 5 dX3_gild_45 rfl rfl ?_
            refine y_dup C0 dX3_gild_46 rfl ?_
            refine y_get C0 3 rfl rfl (by decide) hin3 9 (ykd_w ho) (by decide) (by decide +kernel) (yvi3 (ykd_w ho) (by decide)) dX3_gild_47 ?_
            refine y_iload C0 0 dX3_gild_50 rfl ?_
            refine y_isub C0 dX3_gild_52 ?_
            refine y_put C0 3 rfl rfl (by decide) hin3 tyX3 tyX3_ok nmX3 9 (ykd_w ho) (by decide) (by decide +kernel) (yrn3 (ykd_w ho) (by decide)) rfl (by decide +kernel) dX3_gild_53 ?_
            refine y_aload C0 1 dX3_gild_56 rfl ?_
            refine y_callV (As := []) (rest := _) (n := 0) C0 (mX0_gildAnEdge l D cy adr _ _ (ykd_bk ho (by omega : i < 15))) 0 rfl (by decide) (ykd_bk ho (by omega : i < 15)) gX3_gild_X0_gildAnEdge rfl rfl rfl (by decide +kernel) ⟨by decide, by decide⟩ rfl rfl (Nat.le_of_ble_eq_true rfl) dX3_gild_58 ⟨by decide, by decide⟩ ?_
            exact y_vret C0 dX3_gild_61 rfl (by rw [wGild_some (wFst_at hfi c_26 hlt), wGildAt, if_neg c_42]; rfl)
  refine y_sub [0, 1, 2, 3] [(3, _), (2, _), (1, _), (0, _)] rfl ?_
  exact hl_10 _ 0 rfl (Nat.zero_le _) rfl
abbrev rX3_giveBoards : Room := { frames := 1, cells := 0, slots := 0, locals := 20 }
set_option maxRecDepth 100000 in
set_option maxHeartbeats 4000000 in
theorem mX3_giveBoards (l : Launch) (D : va_G) (cy : Nat → ClassId) (adr : Nat → Nat) (M : yM) (o : Nat) (ho : o = 0 ∨ o = 27)   : Ct l yX3_giveBoards wsX3_giveBoards rX3_giveBoards D cy adr [.ref (adr o)] M (none) (wBoard M o 15) 0 0 := by
  refine Ct.mk cX3_giveBoards 5 none RX3 (by decide) rfl rfl (Nat.le_of_ble_eq_true rfl) ?_
  intro K C0
  refine y_eq rfl (show ([(0, .ref (adr o))] : List (Nat × Value)) = lv_args 0 [.ref (adr o)] from rfl) rfl ?_
  have hin0 : ∀ w ∈ u_ws RX0 TX0 13, w ∈ wsX3_giveBoards := by decide +kernel
  have hin3 : ∀ w ∈ u_ws RX3 TX3 12, w ∈ wsX3_giveBoards := by decide +kernel
  refine y_aload_n C0 0 dX3_giveBoards_0 rfl rfl ?_
  refine y_get C0 3 rfl rfl (by decide) hin3 0 (ykd_w ho) (by decide) (by decide +kernel) (yv3_books (ykd_w ho)) dX3_giveBoards_1 ?_
  refine y_astore_n C0 [(1, _), (0, _)] dX3_giveBoards_4 rfl (by decide) rfl ?_
  refine y_aload_n C0 0 dX3_giveBoards_5 rfl rfl ?_
  refine y_alen C0 7 (ykd_w1 ho) (by decide) (by decide) dX3_giveBoards_6 ?_
  refine y_istore_n C0 [(2, _), (1, _), (0, _)] dX3_giveBoards_7 rfl (by decide) rfl ?_
  refine y_iconst (v := 0) C0 dX3_giveBoards_8 (by decide) ?_
  refine y_istore_n C0 [(3, _), (2, _), (1, _), (0, _)] dX3_giveBoards_9 rfl (by decide) rfl ?_
  have hl_10 : ∀ (n : Nat) (i : Nat), 15 - i = n → i ≤ 15 → Y K l rX3_giveBoards D cy adr 5 0 0 (QT K D cy adr (none) (wBoard M o 15) 0 0) (wBoard M o i) [] [(3, .int (nI i)), (2, .int (nI 15)), (1, .ref (adr (o + 1))), (0, .ref (adr o))] 10 [] := by
    intro n
    induction n using Nat.strongRecOn with
    | _ n ih_10 =>
      intro i hn_10 hi
      refine y_iload_n C0 0 dX3_giveBoards_10 rfl rfl ?_
      refine y_iload_n C0 1 dX3_giveBoards_11 rfl rfl ?_
      refine y_icmp_ge C0 58 dX3_giveBoards_12 (by decide) (fun c_12 => ?_) (fun c_12 => ?_)
      · have he := ct_end (N := 15) (by decide) hi c_12
        subst he
        exact y_vret C0 dX3_giveBoards_58 rfl rfl
      · have hlt := ct_lt (N := 15) (by decide) hi c_12
        refine y_aload_n C0 2 dX3_giveBoards_15 rfl rfl ?_
        refine y_iload_n C0 0 dX3_giveBoards_16 rfl rfl ?_
        refine y_aald C0 (i) 7 (ykd_w1 ho) (by decide) (by decide) rfl (by omega : i < 15) (yel_bk ho) dX3_giveBoards_17 ?_
        refine y_astore C0 [(4, _), (3, _), (2, _), (1, _), (0, _)] dX3_giveBoards_18 (by decide) rfl ?_
        refine y_aload C0 0 dX3_giveBoards_20 rfl ?_
        refine y_get C0 0 rfl rfl (by decide) hin0 4 (ykd_bk ho (by omega : i < 15)) (by decide) (by decide +kernel) (yvi0 (ykd_bk ho (by omega : i < 15))) dX3_giveBoards_22 ?_
        refine y_iconst (v := 3) C0 dX3_giveBoards_25 (by decide) ?_
        refine y_icmp_ne C0 52 dX3_giveBoards_26 (by decide) (fun c_26 => ?_) (fun c_26 => ?_)
        · refine y_iinc (v := nI (i + 1)) C0 1 [(3, _), (4, _), (2, _), (1, _), (0, _)] dX3_giveBoards_52 rfl (yinc_ok rfl rfl) (by decide) rfl ?_
          refine y_goto C0 10 dX3_giveBoards_55 (by decide) ?_
          refine y_sub [0, 2, 3, 4] [(3, _), (2, _), (1, _), (0, _)] rfl ?_
          exact y_eq (by simp only [wBoard, c_12, c_26, if_true, if_false]; try rfl) (by first | rfl | simp [wBoard, c_12, c_26]) rfl (ih_10 _ (by omega) (i + 1) rfl hlt)
        · refine y_aload_n C0 4 dX3_giveBoards_29 rfl rfl ?_
          refine y_get C0 3 rfl rfl (by decide) hin3 8 (ykd_w ho) (by decide) (by decide +kernel) (yvi3 (ykd_w ho) (by decide)) dX3_giveBoards_30 ?_
          refine y_iconst (v := 2) C0 dX3_giveBoards_33 (by decide) ?_
          refine y_icmp_lt C0 52 dX3_giveBoards_34 (by decide) (fun c_34 => ?_) (fun c_34 => ?_)
          · refine y_iinc (v := nI (i + 1)) C0 1 [(3, _), (4, _), (2, _), (1, _), (0, _)] dX3_giveBoards_52 rfl (yinc_ok rfl rfl) (by decide) rfl ?_
            refine y_goto C0 10 dX3_giveBoards_55 (by decide) ?_
            refine y_sub [0, 2, 3, 4] [(3, _), (2, _), (1, _), (0, _)] rfl ?_
            exact y_eq (by simp only [wBoard, c_12, c_26, c_34, if_true, if_false]; try rfl) (by first | rfl | simp [wBoard, c_12, c_26, c_34]) rfl (ih_10 _ (by omega) (i + 1) rfl hlt)
          · refine y_aload_n C0 4 dX3_giveBoards_37 rfl rfl ?_
            refine y_dup C0 dX3_giveBoards_38 rfl ?_
            refine y_get C0 3 rfl rfl (by decide) hin3 8 (ykd_w ho) (by decide) (by decide +kernel) (yvi3 (ykd_w ho) (by decide)) dX3_giveBoards_39 ?_
            refine y_iconst (v := 2) C0 dX3_giveBoards_42 (by decide) ?_
            refine y_isub C0 dX3_giveBoards_43 ?_
            refine y_put C0 3 rfl rfl (by decide) hin3 tyX3 tyX3_ok nmX3 8 (ykd_w ho) (by decide) (by decide +kernel) (yrn3 (ykd_w ho) (by decide)) rfl (by decide +kernel) dX3_giveBoards_44 ?_
            refine y_aload C0 0 dX3_giveBoards_47 rfl ?_
            refine y_callV (As := []) (rest := _) (n := 0) C0 (mX0_bind l D cy adr _ _ (ykd_bk ho (by omega : i < 15))) 0 rfl (by decide) (ykd_bk ho (by omega : i < 15)) gX3_giveBoards_X0_bind rfl rfl rfl (by decide +kernel) ⟨by decide, by decide⟩ rfl rfl (Nat.le_of_ble_eq_true rfl) dX3_giveBoards_49 ⟨by decide, by decide⟩ ?_
            refine y_iinc (v := nI (i + 1)) C0 1 [(3, _), (4, _), (2, _), (1, _), (0, _)] dX3_giveBoards_52 rfl (yinc_ok rfl rfl) (by decide) rfl ?_
            refine y_goto C0 10 dX3_giveBoards_55 (by decide) ?_
            refine y_sub [0, 2, 3, 4] [(3, _), (2, _), (1, _), (0, _)] rfl ?_
            exact y_eq (by simp only [wBoard, c_12, c_26, c_34, if_true, if_false]; try rfl) (by first | rfl | simp [wBoard, c_12, c_26, c_34]) rfl (ih_10 _ (by omega) (i + 1) rfl hlt)
  refine y_sub [0, 1, 2, 3] [(3, _), (2, _), (1, _), (0, _)] rfl ?_
  exact hl_10 _ 0 rfl (Nat.zero_le _)
abbrev rX3_dry : Room := { frames := 1, cells := 0, slots := 0, locals := 20 }
set_option maxRecDepth 100000 in
set_option maxHeartbeats 4000000 in
theorem mX3_dry (l : Launch) (D : va_G) (cy : Nat → ClassId) (adr : Nat → Nat) (M : yM) (o : Nat) (ho : o = 0 ∨ o = 27)   : Ct l yX3_dry wsX3_dry rX3_dry D cy adr [.ref (adr o)] M (none) (wDry M o 15) 0 0 := by
  refine Ct.mk cX3_dry 5 none RX3 (by decide) rfl rfl (Nat.le_of_ble_eq_true rfl) ?_
  intro K C0
  refine y_eq rfl (show ([(0, .ref (adr o))] : List (Nat × Value)) = lv_args 0 [.ref (adr o)] from rfl) rfl ?_
  have hin0 : ∀ w ∈ u_ws RX0 TX0 13, w ∈ wsX3_dry := by decide +kernel
  have hin3 : ∀ w ∈ u_ws RX3 TX3 12, w ∈ wsX3_dry := by decide +kernel
  refine y_aload_n C0 0 dX3_dry_0 rfl rfl ?_
  refine y_get C0 3 rfl rfl (by decide) hin3 0 (ykd_w ho) (by decide) (by decide +kernel) (yv3_books (ykd_w ho)) dX3_dry_1 ?_
  refine y_astore_n C0 [(1, _), (0, _)] dX3_dry_4 rfl (by decide) rfl ?_
  refine y_aload_n C0 0 dX3_dry_5 rfl rfl ?_
  refine y_alen C0 7 (ykd_w1 ho) (by decide) (by decide) dX3_dry_6 ?_
  refine y_istore_n C0 [(2, _), (1, _), (0, _)] dX3_dry_7 rfl (by decide) rfl ?_
  refine y_iconst (v := 0) C0 dX3_dry_8 (by decide) ?_
  refine y_istore_n C0 [(3, _), (2, _), (1, _), (0, _)] dX3_dry_9 rfl (by decide) rfl ?_
  have hl_10 : ∀ (n : Nat) (i : Nat), 15 - i = n → i ≤ 15 → Y K l rX3_dry D cy adr 5 0 0 (QT K D cy adr (none) (wDry M o 15) 0 0) (wDry M o i) [] [(3, .int (nI i)), (2, .int (nI 15)), (1, .ref (adr (o + 1))), (0, .ref (adr o))] 10 [] := by
    intro n
    induction n using Nat.strongRecOn with
    | _ n ih_10 =>
      intro i hn_10 hi
      refine y_iload_n C0 0 dX3_dry_10 rfl rfl ?_
      refine y_iload_n C0 1 dX3_dry_11 rfl rfl ?_
      refine y_icmp_ge C0 40 dX3_dry_12 (by decide) (fun c_12 => ?_) (fun c_12 => ?_)
      · have he := ct_end (N := 15) (by decide) hi c_12
        subst he
        exact y_vret C0 dX3_dry_40 rfl rfl
      · have hlt := ct_lt (N := 15) (by decide) hi c_12
        refine y_aload_n C0 2 dX3_dry_15 rfl rfl ?_
        refine y_iload_n C0 0 dX3_dry_16 rfl rfl ?_
        refine y_aald C0 (i) 7 (ykd_w1 ho) (by decide) (by decide) rfl (by omega : i < 15) (yel_bk ho) dX3_dry_17 ?_
        refine y_astore C0 [(4, _), (3, _), (2, _), (1, _), (0, _)] dX3_dry_18 (by decide) rfl ?_
        refine y_aload C0 0 dX3_dry_20 rfl ?_
        refine y_get C0 0 rfl rfl (by decide) hin0 4 (ykd_bk ho (by omega : i < 15)) (by decide) (by decide +kernel) (yvi0 (ykd_bk ho (by omega : i < 15))) dX3_dry_22 ?_
        refine y_iconst (v := 2) C0 dX3_dry_25 (by decide) ?_
        refine y_icmp_ne C0 34 dX3_dry_26 (by decide) (fun c_26 => ?_) (fun c_26 => ?_)
        · refine y_iinc (v := nI (i + 1)) C0 1 [(3, _), (4, _), (2, _), (1, _), (0, _)] dX3_dry_34 rfl (yinc_ok rfl rfl) (by decide) rfl ?_
          refine y_goto C0 10 dX3_dry_37 (by decide) ?_
          refine y_sub [0, 2, 3, 4] [(3, _), (2, _), (1, _), (0, _)] rfl ?_
          exact y_eq (by simp only [wDry, c_12, c_26, if_true, if_false]; try rfl) (by first | rfl | simp [wDry, c_12, c_26]) rfl (ih_10 _ (by omega) (i + 1) rfl hlt)
        · refine y_aload C0 0 dX3_dry_29 rfl ?_
          refine y_callV (As := []) (rest := _) (n := 0) C0 (mX0_dryForAnHour l D cy adr _ _ (ykd_bk ho (by omega : i < 15))) 0 rfl (by decide) (ykd_bk ho (by omega : i < 15)) gX3_dry_X0_dryForAnHour rfl rfl rfl (by decide +kernel) ⟨by decide, by decide⟩ rfl rfl (Nat.le_of_ble_eq_true rfl) dX3_dry_31 ⟨by decide, by decide⟩ ?_
          refine y_iinc (v := nI (i + 1)) C0 1 [(3, _), (4, _), (2, _), (1, _), (0, _)] dX3_dry_34 rfl (yinc_ok rfl rfl) (by decide) rfl ?_
          refine y_goto C0 10 dX3_dry_37 (by decide) ?_
          refine y_sub [0, 2, 3, 4] [(3, _), (2, _), (1, _), (0, _)] rfl ?_
          exact y_eq (by simp only [wDry, c_12, c_26, if_true, if_false]; try rfl) (by first | rfl | simp [wDry, c_12, c_26]) rfl (ih_10 _ (by omega) (i + 1) rfl hlt)
  refine y_sub [0, 1, 2, 3] [(3, _), (2, _), (1, _), (0, _)] rfl ?_
  exact hl_10 _ 0 rfl (Nat.zero_le _)
abbrev rX3_mountOn : Room := { frames := 1, cells := 0, slots := 0, locals := 22 }
set_option maxRecDepth 100000 in
set_option maxHeartbeats 4000000 in
theorem mX3_mountOn (l : Launch) (D : va_G) (cy : Nat → ClassId) (adr : Nat → Nat) (M : yM) (o : Nat) (ho : o = 0 ∨ o = 27) (f : Nat) (hf : f < 3)  : Ct l yX3_mountOn wsX3_mountOn rX3_mountOn D cy adr [.ref (adr o), .ref (adr (o + 24 + f))] M (none) (wMount M o f) 0 0 := by
  refine Ct.mk cX3_mountOn 6 none RX3 (by decide) rfl rfl (Nat.le_of_ble_eq_true rfl) ?_
  intro K C0
  refine y_eq rfl (show ([(0, .ref (adr o)), (1, .ref (adr (o + 24 + f)))] : List (Nat × Value)) = lv_args 0 [.ref (adr o), .ref (adr (o + 24 + f))] from rfl) rfl ?_
  have hin0 : ∀ w ∈ u_ws RX0 TX0 13, w ∈ wsX3_mountOn := by decide +kernel
  have hin1 : ∀ w ∈ u_ws RX1 TX1 4, w ∈ wsX3_mountOn := by decide +kernel
  have hin3 : ∀ w ∈ u_ws RX3 TX3 12, w ∈ wsX3_mountOn := by decide +kernel
  refine y_aload_n C0 0 dX3_mountOn_0 rfl rfl ?_
  refine y_get C0 3 rfl rfl (by decide) hin3 0 (ykd_w ho) (by decide) (by decide +kernel) (yv3_books (ykd_w ho)) dX3_mountOn_1 ?_
  refine y_astore_n C0 [(2, _), (0, _), (1, _)] dX3_mountOn_4 rfl (by decide) rfl ?_
  refine y_aload_n C0 0 dX3_mountOn_5 rfl rfl ?_
  refine y_alen C0 7 (ykd_w1 ho) (by decide) (by decide) dX3_mountOn_6 ?_
  refine y_istore_n C0 [(3, _), (2, _), (0, _), (1, _)] dX3_mountOn_7 rfl (by decide) rfl ?_
  refine y_iconst (v := 0) C0 dX3_mountOn_8 (by decide) ?_
  refine y_istore C0 [(4, _), (3, _), (2, _), (0, _), (1, _)] dX3_mountOn_9 (by decide) rfl ?_
  have hl_11 : ∀ (n : Nat) (i : Nat), 15 - i = n → i ≤ 15 → wFst M o 0 i = none → Y K l rX3_mountOn D cy adr 6 0 0 (QT K D cy adr (none) (wMount M o f) 0 0) M [] [(4, .int (nI i)), (3, .int (nI 15)), (2, .ref (adr (o + 1))), (1, .ref (adr (o + 24 + f))), (0, .ref (adr o))] 11 [] := by
    intro n
    induction n using Nat.strongRecOn with
    | _ n ih_11 =>
      intro i hn_11 hi hfi
      refine y_iload C0 0 dX3_mountOn_11 rfl ?_
      refine y_iload_n C0 1 dX3_mountOn_13 rfl rfl ?_
      refine y_icmp_ge C0 60 dX3_mountOn_14 (by decide) (fun c_14 => ?_) (fun c_14 => ?_)
      · have he := ct_end (N := 15) (by decide) hi c_14
        subst he
        exact y_vret C0 dX3_mountOn_60 rfl (wMount_none hfi)
      · have hlt := ct_lt (N := 15) (by decide) hi c_14
        refine y_aload_n C0 2 dX3_mountOn_17 rfl rfl ?_
        refine y_iload C0 0 dX3_mountOn_18 rfl ?_
        refine y_aald C0 (i) 7 (ykd_w1 ho) (by decide) (by decide) rfl (by omega : i < 15) (yel_bk ho) dX3_mountOn_20 ?_
        refine y_astore C0 [(5, _), (4, _), (3, _), (2, _), (1, _), (0, _)] dX3_mountOn_21 (by decide) rfl ?_
        refine y_aload C0 0 dX3_mountOn_23 rfl ?_
        refine y_get C0 0 rfl rfl (by decide) hin0 4 (ykd_bk ho (by omega : i < 15)) (by decide) (by decide +kernel) (yvi0 (ykd_bk ho (by omega : i < 15))) dX3_mountOn_25 ?_
        refine y_if_ne C0 54 dX3_mountOn_28 (by decide) (fun c_28 => ?_) (fun c_28 => ?_)
        · refine y_iinc (v := nI (i + 1)) C0 1 [(4, _), (5, _), (3, _), (2, _), (1, _), (0, _)] dX3_mountOn_54 rfl (yinc_ok rfl rfl) (by decide) rfl ?_
          refine y_goto C0 11 dX3_mountOn_57 (by decide) ?_
          refine y_sub [0, 2, 3, 4, 5] [(4, _), (3, _), (2, _), (1, _), (0, _)] rfl ?_
          exact y_eq (by first | rfl | simp [c_14, c_28]) (by first | rfl | simp [c_14, c_28]) rfl (ih_11 _ (by omega) (i + 1) rfl hlt (by simp [wFst, hfi, c_28]))
        · refine y_aload C0 0 dX3_mountOn_31 rfl ?_
          refine y_aload_n C0 4 dX3_mountOn_33 rfl rfl ?_
          refine y_get C0 1 rfl rfl (by decide) hin1 0 (ykd_fr ho hf) (by decide) (by decide +kernel) (yvi1 (ykd_fr ho hf)) dX3_mountOn_34 ?_
          refine y_aload_n C0 4 dX3_mountOn_37 rfl rfl ?_
          refine y_get C0 1 rfl rfl (by decide) hin1 1 (ykd_fr ho hf) (by decide) (by decide +kernel) (yvi1 (ykd_fr ho hf)) dX3_mountOn_38 ?_
          refine y_callV (As := [_, _]) (rest := _) (n := 2) C0 (mX0_mount l D cy adr _ _ (ykd_bk ho (by omega : i < 15)) _ _) 0 rfl (by decide) (ykd_bk ho (by omega : i < 15)) gX3_mountOn_X0_mount rfl rfl rfl (by decide +kernel) ⟨by decide, by decide⟩ rfl rfl (Nat.le_of_ble_eq_true rfl) dX3_mountOn_41 ⟨by decide, by decide⟩ ?_
          refine y_aload_n C0 4 dX3_mountOn_44 rfl rfl ?_
          refine y_aload C0 0 dX3_mountOn_45 rfl ?_
          refine y_get C0 0 rfl rfl (by decide) hin0 0 (ykd_bk ho (by omega : i < 15)) (by decide) (by decide +kernel) (yvi0 (ykd_bk ho (by omega : i < 15))) dX3_mountOn_47 ?_
          refine y_put C0 1 rfl rfl (by decide) hin1 tyX1 tyX1_ok nmX1 2 (ykd_fr ho hf) (by decide) (by decide +kernel) (yrn1 (ykd_fr ho hf)) rfl (by decide +kernel) dX3_mountOn_50 ?_
          exact y_vret C0 dX3_mountOn_53 rfl (by rw [wMount_some (wFst_at hfi c_28 hlt)]; rfl)
  refine y_sub [0, 1, 2, 4, 3] [(4, _), (3, _), (2, _), (1, _), (0, _)] rfl ?_
  exact hl_11 _ 0 rfl (Nat.zero_le _) rfl
abbrev rX3_sewAt : Room := { frames := 2, cells := 0, slots := 0, locals := 43 }
set_option maxRecDepth 100000 in
set_option maxHeartbeats 4000000 in
theorem mX3_sewAt (l : Launch) (D : va_G) (cy : Nat → ClassId) (adr : Nat → Nat) (M : yM) (o : Nat) (ho : o = 0 ∨ o = 27) (f : Nat) (hf : f < 3) (hsp : wSpOK M o) : Ct l yX3_sewAt wsX3_sewAt rX3_sewAt D cy adr [.ref (adr o), .ref (adr (o + 24 + f))] M (none) (wSew M o f) 0 0 := by
  refine Ct.mk cX3_sewAt 6 none RX3 (by decide) rfl rfl (Nat.le_of_ble_eq_true rfl) ?_
  intro K C0
  refine y_eq rfl (show ([(0, .ref (adr o)), (1, .ref (adr (o + 24 + f)))] : List (Nat × Value)) = lv_args 0 [.ref (adr o), .ref (adr (o + 24 + f))] from rfl) rfl ?_
  have hin0 : ∀ w ∈ u_ws RX0 TX0 13, w ∈ wsX3_sewAt := by decide +kernel
  have hin1 : ∀ w ∈ u_ws RX1 TX1 4, w ∈ wsX3_sewAt := by decide +kernel
  have hin3 : ∀ w ∈ u_ws RX3 TX3 12, w ∈ wsX3_sewAt := by decide +kernel
  refine y_aload_n C0 0 dX3_sewAt_0 rfl rfl ?_
  refine y_aload_n C0 1 dX3_sewAt_1 rfl rfl ?_
  refine y_get C0 1 rfl rfl (by decide) hin1 2 (ykd_fr ho hf) (by decide) (by decide +kernel) (yvi1 (ykd_fr ho hf)) dX3_sewAt_2 ?_
  by_cases hn : wNo M o (M (o + 24 + f) 2)
  · refine y_callV (As := [_]) (rest := _) (n := 1) C0 (mX3_bookNumbered_n l D cy adr _ _ ho _ hn) 3 rfl (by decide) (ykd_w ho) gX3_sewAt_X3_bookNumbered rfl rfl rfl (by decide +kernel) ⟨by decide, by decide⟩ rfl rfl (Nat.le_of_ble_eq_true rfl) dX3_sewAt_5 ⟨by decide, by decide⟩ ?_
    refine y_astore_nN C0 [(2, _), (0, _), (1, _)] dX3_sewAt_8 rfl (by decide) rfl ?_
    refine y_aload_nN C0 0 dX3_sewAt_9 rfl rfl ?_
    refine y_ifnonnullN C0 dX3_sewAt_10 ?_
    exact y_vret C0 dX3_sewAt_13 rfl (wSew_no hn).symm
  obtain ⟨b, hb, eb, hcb⟩ := wNo_not hn
  refine y_top eb ?_
  refine y_callV (As := [_]) (rest := _) (n := 1) C0 (mX3_bookNumbered l D cy adr _ _ ho b hb hcb) 3 rfl (by decide) (ykd_w ho) gX3_sewAt_X3_bookNumbered rfl rfl rfl (by decide +kernel) ⟨by decide, by decide⟩ rfl rfl (Nat.le_of_ble_eq_true rfl) dX3_sewAt_5 ⟨by decide, by decide⟩ ?_
  refine y_astore_n C0 [(2, _), (0, _), (1, _)] dX3_sewAt_8 rfl (by decide) rfl ?_
  refine y_aload_n C0 0 dX3_sewAt_9 rfl rfl ?_
  refine y_ifnonnull C0 14 dX3_sewAt_10 (by decide) ?_
  refine y_aload_n C0 1 dX3_sewAt_14 rfl rfl ?_
  refine y_aload_n C0 2 dX3_sewAt_15 rfl rfl ?_
  refine y_get C0 1 rfl rfl (by decide) hin1 0 (ykd_fr ho hf) (by decide) (by decide +kernel) (yvi1 (ykd_fr ho hf)) dX3_sewAt_16 ?_
  refine y_callV (As := [_]) (rest := _) (n := 1) C0 (mX3_stitchesAnHour l D cy adr _ _ ho _) 3 rfl (by decide) (ykd_w ho) gX3_sewAt_X3_stitchesAnHour rfl rfl rfl (by decide +kernel) ⟨by decide, by decide⟩ rfl rfl (Nat.le_of_ble_eq_true rfl) dX3_sewAt_19 ⟨by decide, by decide⟩ ?_
  refine y_aload_n C0 1 dX3_sewAt_22 rfl rfl ?_
  refine y_get C0 3 rfl rfl (by decide) hin3 7 (ykd_w ho) (by decide) (by decide +kernel) (yvi3 (ykd_w ho) (by decide)) dX3_sewAt_23 ?_
  refine y_mmin C0 (by decide +kernel) (by decide +kernel) (by decide +kernel) (by decide +kernel) (by decide) (Nat.le_of_ble_eq_true rfl) (by decide) (by decide) dX3_sewAt_26 ?_
  refine y_istore_n C0 [(3, _), (2, _), (0, _), (1, _)] dX3_sewAt_29 rfl (by decide) rfl ?_
  refine y_iconst (v := 1) C0 dX3_sewAt_30 (by decide) ?_
  refine y_istore C0 [(4, _), (3, _), (2, _), (0, _), (1, _)] dX3_sewAt_31 (by decide) rfl ?_
  have hl_33 : ∀ (n : Nat) (i : Nat), (wMost M o f).toNatClampNeg - i = n → i ≤ (wMost M o f).toNatClampNeg → Y K l rX3_sewAt D cy adr 6 0 0 (QT K D cy adr (none) (wSew M o f) 0 0) (wSewL M o f b i) [] [(4, .int (nI (i + 1))), (3, .int (wMost M o f)), (2, .ref (adr (o + 4 + b))), (1, .ref (adr (o + 24 + f))), (0, .ref (adr o))] 33 [] := by
    intro n
    induction n using Nat.strongRecOn with
    | _ n ih_33 =>
      intro i hn_33 hi
      refine y_iload C0 0 dX3_sewAt_33 rfl ?_
      refine y_iload_n C0 1 dX3_sewAt_35 rfl rfl ?_
      refine y_icmp_gt C0 120 dX3_sewAt_36 (by decide) (fun c_36 => ?_) (fun c_36 => ?_)
      · have he := cg_end (wMost_le hsp) hi c_36
        refine y_mem (congrArg (wSewL M o f b) he) ?_
        refine y_aload_n C0 2 dX3_sewAt_120 rfl rfl ?_
        refine y_callV (As := []) (rest := _) (n := 0) C0 (mX0_isSewn l D cy adr _ _ (ykd_bk ho hb)) 0 rfl (by decide) (ykd_bk ho hb) gX3_sewAt_X0_isSewn rfl rfl rfl (by decide +kernel) ⟨by decide, by decide⟩ rfl rfl (Nat.le_of_ble_eq_true rfl) dX3_sewAt_121 ⟨by decide, by decide⟩ ?_
        refine y_if_eq C0 136 dX3_sewAt_124 (by decide) (fun c_124 => ?_) (fun c_124 => ?_)
        · exact y_vret C0 dX3_sewAt_136 rfl (by rw [wSew_b hn hb eb, wSewB, wSewE, if_pos c_124])
        · refine y_aload_n C0 3 dX3_sewAt_127 rfl rfl ?_
          refine y_iconst (v := (-1)) C0 dX3_sewAt_128 (by decide) ?_
          refine y_put C0 1 rfl rfl (by decide) hin1 tyX1 tyX1_ok nmX1 2 (ykd_fr ho hf) (by decide) (by decide +kernel) (yrn1 (ykd_fr ho hf)) rfl (by decide +kernel) dX3_sewAt_129 ?_
          refine y_aload_n C0 2 dX3_sewAt_132 rfl rfl ?_
          refine y_callV (As := []) (rest := _) (n := 0) C0 (mX0_beginToDry l D cy adr _ _ (ykd_bk ho hb)) 0 rfl (by decide) (ykd_bk ho hb) gX3_sewAt_X0_beginToDry rfl rfl rfl (by decide +kernel) ⟨by decide, by decide⟩ rfl rfl (Nat.le_of_ble_eq_true rfl) dX3_sewAt_133 ⟨by decide, by decide⟩ ?_
          exact y_vret C0 dX3_sewAt_136 rfl (by rw [wSew_b hn hb eb, wSewB, wSewE, if_neg c_124]; rfl)
      · have hlt := cg_lt (wMost_le hsp) hi c_36
        refine y_aload_n C0 2 dX3_sewAt_39 rfl rfl ?_
        refine y_callV (As := []) (rest := _) (n := 0) C0 (mX0_isSewn l D cy adr _ _ (ykd_bk ho hb)) 0 rfl (by decide) (ykd_bk ho hb) gX3_sewAt_X0_isSewn rfl rfl rfl (by decide +kernel) ⟨by decide, by decide⟩ rfl rfl (Nat.le_of_ble_eq_true rfl) dX3_sewAt_40 ⟨by decide, by decide⟩ ?_
        refine y_if_ne C0 120 dX3_sewAt_43 (by decide) (fun c_43 => ?_) (fun c_43 => ?_)
        · have hM : wSewL M o f b i = wSewL M o f b (wMost M o f).toNatClampNeg := by
            have h9 := wSewL_stop c_43 ((wMost M o f).toNatClampNeg - i)
            rw [show i + ((wMost M o f).toNatClampNeg - i) = (wMost M o f).toNatClampNeg by omega] at h9
            exact h9.symm
          refine y_mem hM ?_
          refine y_aload_n C0 2 dX3_sewAt_120 rfl rfl ?_
          refine y_callV (As := []) (rest := _) (n := 0) C0 (mX0_isSewn l D cy adr _ _ (ykd_bk ho hb)) 0 rfl (by decide) (ykd_bk ho hb) gX3_sewAt_X0_isSewn rfl rfl rfl (by decide +kernel) ⟨by decide, by decide⟩ rfl rfl (Nat.le_of_ble_eq_true rfl) dX3_sewAt_121 ⟨by decide, by decide⟩ ?_
          refine y_if_eq C0 136 dX3_sewAt_124 (by decide) (fun c_124 => ?_) (fun c_124 => ?_)
          · exact y_vret C0 dX3_sewAt_136 rfl (by rw [wSew_b hn hb eb, wSewB, wSewE, if_pos c_124])
          · refine y_aload_n C0 3 dX3_sewAt_127 rfl rfl ?_
            refine y_iconst (v := (-1)) C0 dX3_sewAt_128 (by decide) ?_
            refine y_put C0 1 rfl rfl (by decide) hin1 tyX1 tyX1_ok nmX1 2 (ykd_fr ho hf) (by decide) (by decide +kernel) (yrn1 (ykd_fr ho hf)) rfl (by decide +kernel) dX3_sewAt_129 ?_
            refine y_aload_n C0 2 dX3_sewAt_132 rfl rfl ?_
            refine y_callV (As := []) (rest := _) (n := 0) C0 (mX0_beginToDry l D cy adr _ _ (ykd_bk ho hb)) 0 rfl (by decide) (ykd_bk ho hb) gX3_sewAt_X0_beginToDry rfl rfl rfl (by decide +kernel) ⟨by decide, by decide⟩ rfl rfl (Nat.le_of_ble_eq_true rfl) dX3_sewAt_133 ⟨by decide, by decide⟩ ?_
            exact y_vret C0 dX3_sewAt_136 rfl (by rw [wSew_b hn hb eb, wSewB, wSewE, if_neg c_124]; rfl)
        · refine y_aload_n C0 4 dX3_sewAt_46 rfl rfl ?_
          refine y_dup C0 dX3_sewAt_47 rfl ?_
          refine y_get C0 3 rfl rfl (by decide) hin3 7 (ykd_w ho) (by decide) (by decide +kernel) (yvi3 (ykd_w ho) (by decide)) dX3_sewAt_48 ?_
          refine y_iconst (v := 1) C0 dX3_sewAt_51 (by decide) ?_
          refine y_isub C0 dX3_sewAt_52 ?_
          refine y_put C0 3 rfl rfl (by decide) hin3 tyX3 tyX3_ok nmX3 7 (ykd_w ho) (by decide) (by decide +kernel) (yrn3 (ykd_w ho) (by decide)) rfl (by decide +kernel) dX3_sewAt_53 ?_
          refine y_aload_n C0 4 dX3_sewAt_56 rfl rfl ?_
          refine y_dup C0 dX3_sewAt_57 rfl ?_
          refine y_get C0 3 rfl rfl (by decide) hin3 10 (ykd_w ho) (by decide) (by decide +kernel) (yvi3 (ykd_w ho) (by decide)) dX3_sewAt_58 ?_
          refine y_iconst (v := 1) C0 dX3_sewAt_61 (by decide) ?_
          refine y_iadd C0 dX3_sewAt_62 ?_
          refine y_put C0 3 rfl rfl (by decide) hin3 tyX3 tyX3_ok nmX3 10 (ykd_w ho) (by decide) (by decide +kernel) (yrn3 (ykd_w ho) (by decide)) rfl (by decide +kernel) dX3_sewAt_63 ?_
          refine y_aload_n C0 3 dX3_sewAt_66 rfl rfl ?_
          refine y_dup C0 dX3_sewAt_67 rfl ?_
          refine y_get C0 1 rfl rfl (by decide) hin1 3 (ykd_fr ho hf) (by decide) (by decide +kernel) (yvi1 (ykd_fr ho hf)) dX3_sewAt_68 ?_
          refine y_iconst (v := 1) C0 dX3_sewAt_71 (by decide) ?_
          refine y_iadd C0 dX3_sewAt_72 ?_
          refine y_put C0 1 rfl rfl (by decide) hin1 tyX1 tyX1_ok nmX1 3 (ykd_fr ho hf) (by decide) (by decide +kernel) (yrn1 (ykd_fr ho hf)) rfl (by decide +kernel) dX3_sewAt_73 ?_
          refine y_aload_n C0 2 dX3_sewAt_76 rfl rfl ?_
          refine y_callV (As := []) (rest := _) (n := 0) C0 (mX0_addStitch l D cy adr _ _ (ykd_bk ho hb)) 0 rfl (by decide) (ykd_bk ho hb) gX3_sewAt_X0_addStitch rfl rfl rfl (by decide +kernel) ⟨by decide, by decide⟩ rfl rfl (Nat.le_of_ble_eq_true rfl) dX3_sewAt_77 ⟨by decide, by decide⟩ ?_
          refine y_istore C0 [(5, _), (4, _), (3, _), (2, _), (1, _), (0, _)] dX3_sewAt_80 (by decide) rfl ?_
          refine y_iload C0 0 dX3_sewAt_82 rfl ?_
          refine y_if_eq C0 114 dX3_sewAt_84 (by decide) (fun c_84 => ?_) (fun c_84 => ?_)
          · refine y_iinc (v := nI (i + 1 + 1)) C0 1 [(4, _), (5, _), (3, _), (2, _), (1, _), (0, _)] dX3_sewAt_114 rfl (yinc_ok rfl rfl) (by decide) rfl ?_
            refine y_goto C0 33 dX3_sewAt_117 (by decide) ?_
            refine y_sub [0, 2, 3, 4, 5] [(4, _), (3, _), (2, _), (1, _), (0, _)] rfl ?_
            exact y_eq ((wSewL_go c_43).trans (wStitch_a c_84)) (by first | rfl | simp [c_36, c_43, c_84]) rfl (ih_33 _ (by omega) (i + 1) rfl hlt)
          · refine y_iload C0 1 dX3_sewAt_87 rfl ?_
            refine y_bipush (v := 10) C0 dX3_sewAt_89 (by decide) ?_
            refine y_icmp_lt C0 114 dX3_sewAt_91 (by decide) (fun c_91 => ?_) (fun c_91 => ?_)
            · refine y_iinc (v := nI (i + 1 + 1)) C0 1 [(4, _), (5, _), (3, _), (2, _), (1, _), (0, _)] dX3_sewAt_114 rfl (yinc_ok rfl rfl) (by decide) rfl ?_
              refine y_goto C0 33 dX3_sewAt_117 (by decide) ?_
              refine y_sub [0, 2, 3, 4, 5] [(4, _), (3, _), (2, _), (1, _), (0, _)] rfl ?_
              exact y_eq ((wSewL_go c_43).trans (wStitch_b c_84 c_91)) (by first | rfl | simp [c_36, c_43, c_84, c_91]) rfl (ih_33 _ (by omega) (i + 1) rfl hlt)
            · refine y_aload_n C0 3 dX3_sewAt_94 rfl rfl ?_
              refine y_dup C0 dX3_sewAt_95 rfl ?_
              refine y_get C0 0 rfl rfl (by decide) hin0 10 (ykd_bk ho hb) (by decide) (by decide +kernel) (yvi0 (ykd_bk ho hb)) dX3_sewAt_96 ?_
              refine y_iconst (v := 1) C0 dX3_sewAt_99 (by decide) ?_
              refine y_iadd C0 dX3_sewAt_100 ?_
              refine y_put C0 0 rfl rfl (by decide) hin0 tyX0 tyX0_ok nmX0 10 (ykd_bk ho hb) (by decide) (by decide +kernel) (yrn0 (ykd_bk ho hb)) rfl (by decide +kernel) dX3_sewAt_101 ?_
              refine y_aload_n C0 5 dX3_sewAt_104 rfl rfl ?_
              refine y_dup C0 dX3_sewAt_105 rfl ?_
              refine y_get C0 3 rfl rfl (by decide) hin3 11 (ykd_w ho) (by decide) (by decide +kernel) (yvi3 (ykd_w ho) (by decide)) dX3_sewAt_106 ?_
              refine y_iconst (v := 1) C0 dX3_sewAt_109 (by decide) ?_
              refine y_iadd C0 dX3_sewAt_110 ?_
              refine y_put C0 3 rfl rfl (by decide) hin3 tyX3 tyX3_ok nmX3 11 (ykd_w ho) (by decide) (by decide +kernel) (yrn3 (ykd_w ho) (by decide)) rfl (by decide +kernel) dX3_sewAt_111 ?_
              refine y_iinc (v := nI (i + 1 + 1)) C0 1 [(4, _), (5, _), (3, _), (2, _), (1, _), (0, _)] dX3_sewAt_114 rfl (yinc_ok rfl rfl) (by decide) rfl ?_
              refine y_goto C0 33 dX3_sewAt_117 (by decide) ?_
              refine y_sub [0, 2, 3, 4, 5] [(4, _), (3, _), (2, _), (1, _), (0, _)] rfl ?_
              exact y_eq ((wSewL_go c_43).trans (wStitch_c c_84 c_91)) (by first | rfl | simp [c_36, c_43, c_84, c_91]) rfl (ih_33 _ (by omega) (i + 1) rfl hlt)
  refine y_sub [0, 1, 2, 4, 3] [(4, _), (3, _), (2, _), (1, _), (0, _)] rfl ?_
  exact hl_33 _ 0 rfl (Nat.zero_le _)
end YZ
end
section
section YO
/-- from M to M' a workshop's hour changes its own row, its books and its frames alone -/
def wOut (M M' : yM) (o : Nat) : Prop := ∀ j, j ≠ o → ¬ (o + 4 ≤ j ∧ j < o + 19) → ¬ (o + 24 ≤ j ∧ j < o + 27) → M' j = M j
theorem wOut.rf {M : yM} {o : Nat} : wOut M M o := fun _ _ _ _ => rfl
theorem wOut.tr {M M' M'' : yM} {o : Nat} (h : wOut M M' o) (k : wOut M' M'' o) : wOut M M'' o := fun j a b c => (k j a b c).trans (h j a b c)
theorem wOut_o {M : yM} {o k : Nat} {v : Int32} : wOut M (yst M o k v) o := fun j a _ _ => yst_row a
theorem wOut_f {M : yM} {o f k : Nat} {v : Int32} (hf : f < 3) : wOut M (yst M (o + 24 + f) k v) o := fun j _ _ c => yst_row (by omega)
theorem wOut_b {M : yM} {o b : Nat} {r : Rw} (hb : b < 15) : wOut M (va_up M (o + 4 + b) r) o := fun j _ c _ => up_n (by omega)
theorem wOut_bk {M : yM} {o b k : Nat} {v : Int32} (hb : b < 15) : wOut M (yst M (o + 4 + b) k v) o := fun j _ c _ => yst_row (by omega)
theorem wFst_lt {M : yM} {o : Nat} {s : Int32} : ∀ {n i : Nat}, wFst M o s n = some i → i < n := by
  intro n
  induction n with
  | zero => intro i h; simp [wFst] at h
  | succ n ih =>
    intro i h
    cases hq : wFst M o s n with
    | some k => simp [wFst, hq] at h; have := ih hq; omega
    | none =>
      simp only [wFst, hq] at h
      split at h
      · cases h; omega
      · cases h
theorem wOut_gild {M : yM} {o : Nat} : wOut M (wGild M o) o := by
  cases h : wFst M o 4 15 with
  | none => rw [← wGild_none h]; exact wOut.rf
  | some i =>
    rw [wGild_some h, wGildAt]
    split
    · exact wOut.rf
    · exact wOut.tr wOut_o (wOut_b (wFst_lt h))
theorem wOut_board {M : yM} {o : Nat} : ∀ n, n ≤ 15 → wOut M (wBoard M o n) o := by
  intro n
  induction n with
  | zero => intro _; exact wOut.rf
  | succ n ih =>
    intro hn
    have h := ih (by omega)
    rw [wBoard]
    split
    · split
      · exact h
      · exact h.tr (wOut.tr wOut_o (wOut_b (by omega)))
    · exact h
theorem wOut_dry {M : yM} {o : Nat} : ∀ n, n ≤ 15 → wOut M (wDry M o n) o := by
  intro n
  induction n with
  | zero => intro _; exact wOut.rf
  | succ n ih =>
    intro hn
    have h := ih (by omega)
    rw [wDry]
    split
    · exact h.tr (wOut_b (by omega))
    · exact h
theorem wOut_mount {M : yM} {o f : Nat} (hf : f < 3) : wOut M (wMount M o f) o := by
  cases h : wFst M o 0 15 with
  | none => rw [← wMount_none h]; exact wOut.rf
  | some i =>
    rw [wMount_some h]
    exact wOut.tr (wOut_b (wFst_lt h)) (wOut_f hf)
theorem wOut_stB {M : yM} {o f b : Nat} (hf : f < 3) (hb : b < 15) : wOut M (wStB M o f b) o := by
  unfold wStB wAddB wStA yinc ydec
  exact ((wOut_o.tr wOut_o).tr (wOut_f hf)).tr (wOut_b hb)
theorem wOut_stitch {M : yM} {o f b k : Nat} (hf : f < 3) (hb : b < 15) : wOut M (wStitch M o f b k) o := by
  unfold wStitch
  split
  · exact wOut_stB hf hb
  · split
    · exact wOut_stB hf hb
    · unfold wStC yinc
      exact (wOut_stB hf hb).tr ((wOut_bk hb).tr wOut_o)
theorem wOut_sewL {M : yM} {o f b : Nat} (hf : f < 3) (hb : b < 15) : ∀ n, wOut M (wSewL M o f b n) o := by
  intro n
  induction n with
  | zero => exact wOut.rf
  | succ n ih =>
    rw [wSewL]
    split
    · exact ih.tr (wOut_stitch hf hb)
    · exact ih
theorem wOut_sew {M : yM} {o f : Nat} (hf : f < 3) : wOut M (wSew M o f) o := by
  by_cases hn : wNo M o (M (o + 24 + f) 2)
  · rw [wSew_no hn]; exact wOut.rf
  · obtain ⟨b, hb, eb, -⟩ := wNo_not hn
    rw [wSew_b hn hb eb, wSewB, wSewE]
    split
    · exact wOut_sewL hf hb _
    · exact (wOut_sewL hf hb _).tr ((wOut_f hf).tr (wOut_b hb))
theorem wOut_sews {M : yM} {o : Nat} : ∀ n, n ≤ 3 → wOut M (wSews M o n) o := by
  intro n
  induction n with
  | zero => intro _; exact wOut.rf
  | succ n ih => intro hn; exact (ih (by omega)).tr (wOut_sew (by omega))
theorem wOut_mounts {M : yM} {o : Nat} : ∀ n, n ≤ 3 → wOut M (wMounts M o n) o := by
  intro n
  induction n with
  | zero => intro _; exact wOut.rf
  | succ n ih =>
    intro hn
    rw [wMounts]
    split
    · exact (ih (by omega)).tr (wOut_mount (by omega))
    · exact ih (by omega)
theorem wOut_D {M : yM} {o : Nat} : wOut M (wDry (wBoard (wGild M o) o 15) o 15) o := (wOut_gild.tr (wOut_board 15 (Nat.le_refl _))).tr (wOut_dry 15 (Nat.le_refl _))
theorem wOut_hour {M : yM} {o : Nat} : wOut M (wHour M o) o := by
  unfold wHour wHourA
  exact ((wOut_D.tr (wOut_sews 3 (Nat.le_refl _))).tr (wOut_mounts 3 (Nat.le_refl _))).tr wOut_o
theorem wOut_hours {M : yM} {o : Nat} : ∀ n, wOut M (wHours M o n) o := by
  intro n
  induction n with
  | zero => exact wOut.rf
  | succ n ih => exact ih.tr wOut_hour
theorem wSpOK.out {M M' : yM} {o : Nat} (h : wSpOK M o) (k : wOut M M' o) : wSpOK M' o := by
  intro i hi
  obtain ⟨v, hv, e⟩ := h i hi
  exact ⟨v, hv, by rw [k (o + 19 + i) (by omega) (by omega) (by omega)]; exact e⟩
theorem wRow_e (f g : Rw) : ru (ru (ru (ru (ru (ru (ru (ru (ru f 3 (g 3)) 4 (g 4)) 5 (g 5)) 6 (g 6)) 7 (g 7)) 8 (g 8)) 9 (g 9)) 10 (g 10)) 11 (g 11) = wRow f g := by
  funext k
  unfold wRow
  simp only [ru_i]
  by_cases h : k = 3 ∨ k = 4 ∨ k = 5 ∨ k = 6 ∨ k = 7 ∨ k = 8 ∨ k = 9 ∨ k = 10 ∨ k = 11
  · rcases h with rfl | rfl | rfl | rfl | rfl | rfl | rfl | rfl | rfl <;> simp
  · simp only [not_or] at h
    simp [h]
    intros
    omega
end YO
end
section
section YZ
theorem wClr_bk {M : yM} {o b : Nat} {x : Int32} (hb : b < 15) : ∀ i, i ≤ 3 → wClr M o x i (o + 4 + b) = M (o + 4 + b) := by
  intro i
  induction i with
  | zero => intro _; rfl
  | succ i ih =>
    intro hi
    rw [wClr]
    split
    · rw [yst_row (by omega)]; exact ih (by omega)
    · exact ih (by omega)
theorem wTellF_4n {M : yM} {o f : Nat} {x : Int32} (h : wNo M o (M (o + 24 + f) 2)) (e : x = 4) : wTellF M o f x = 0 := by
  subst e
  unfold wTellF
  rw [if_neg (by decide), if_neg (by decide), if_neg (by decide), if_neg (by decide), if_pos rfl, if_pos h]
theorem wTellF_4b {M : yM} {o f b : Nat} {x : Int32} (h : ¬ wNo M o (M (o + 24 + f) 2)) (hb : b < 15) (eb : M (o + 24 + f) 2 = nI b) (e : x = 4) : wTellF M o f x = bToSew (M (o + 4 + b)) := by
  subst e
  unfold wTellF
  rw [if_neg (by decide), if_neg (by decide), if_neg (by decide), if_neg (by decide), if_pos rfl, if_neg h, eb, nI_clamp (by omega)]
abbrev rX3_tellOfFrame : Room := { frames := 3, cells := 0, slots := 0, locals := 75 }
set_option maxRecDepth 100000 in
set_option maxHeartbeats 4000000 in
theorem mX3_tellOfFrame (l : Launch) (D : va_G) (cy : Nat → ClassId) (adr : Nat → Nat) (M : yM) (o : Nat) (ho : o = 0 ∨ o = 27) (f : Nat) (hf : f < 3) (x : Int32)  : Ct l yX3_tellOfFrame wsX3_tellOfFrame rX3_tellOfFrame D cy adr [.ref (adr o), .ref (adr (o + 24 + f)), .int x] M (some (.int (wTellF M o f x))) (M) 0 0 := by
  refine Ct.mk cX3_tellOfFrame 4 (some .int) RX3 (by decide) rfl rfl (Nat.le_of_ble_eq_true rfl) ?_
  intro K C0
  refine y_eq rfl (show ([(0, .ref (adr o)), (1, .ref (adr (o + 24 + f))), (2, .int x)] : List (Nat × Value)) = lv_args 0 [.ref (adr o), .ref (adr (o + 24 + f)), .int x] from rfl) rfl ?_
  have hin1 : ∀ w ∈ u_ws RX1 TX1 4, w ∈ wsX3_tellOfFrame := by decide +kernel
  refine y_aload_n C0 0 dX3_tellOfFrame_0 rfl rfl ?_
  refine y_aload_n C0 1 dX3_tellOfFrame_1 rfl rfl ?_
  refine y_get C0 1 rfl rfl (by decide) hin1 2 (ykd_fr ho hf) (by decide) (by decide +kernel) (yvi1 (ykd_fr ho hf)) dX3_tellOfFrame_2 ?_
  by_cases hn : wNo M o (M (o + 24 + f) 2)
  · refine y_callV (As := [_]) (rest := _) (n := 1) C0 (mX3_bookNumbered_n l D cy adr _ _ ho _ hn) 3 rfl (by decide) (ykd_w ho) gX3_tellOfFrame_X3_bookNumbered rfl rfl rfl (by decide +kernel) ⟨by decide, by decide⟩ rfl rfl (Nat.le_of_ble_eq_true rfl) dX3_tellOfFrame_5 ⟨by decide, by decide⟩ ?_
    refine y_astore_nN C0 [(3, _), (0, _), (1, _), (2, _)] dX3_tellOfFrame_8 rfl (by decide) rfl ?_
    refine y_iload_n C0 3 dX3_tellOfFrame_9 rfl rfl ?_
    by_cases s_10_0 : x = 0
    · refine y_tswI (v := 0) C0 dX3_tellOfFrame_10 (by rw [s_10_0]; rfl) (by decide) (by decide) rfl (tgt := 44) (by decide) ?_
      refine y_aload_n C0 2 dX3_tellOfFrame_44 rfl rfl ?_
      refine y_get C0 1 rfl rfl (by decide) hin1 1 (ykd_fr ho hf) (by decide) (by decide +kernel) (yvi1 (ykd_fr ho hf)) dX3_tellOfFrame_45 ?_
      exact y_iret C0 dX3_tellOfFrame_48 (by simp [wTellF, s_10_0]) rfl
    by_cases s_10_1 : x = 1
    · refine y_tswI (v := 1) C0 dX3_tellOfFrame_10 (by rw [s_10_1]; rfl) (by decide) (by decide) rfl (tgt := 49) (by decide) ?_
      refine y_aload_n C0 2 dX3_tellOfFrame_49 rfl rfl ?_
      refine y_get C0 1 rfl rfl (by decide) hin1 2 (ykd_fr ho hf) (by decide) (by decide +kernel) (yvi1 (ykd_fr ho hf)) dX3_tellOfFrame_50 ?_
      exact y_iret C0 dX3_tellOfFrame_53 (by simp [wTellF, s_10_1]) rfl
    by_cases s_10_2 : x = 2
    · refine y_tswI (v := 2) C0 dX3_tellOfFrame_10 (by rw [s_10_2]; rfl) (by decide) (by decide) rfl (tgt := 54) (by decide) ?_
      refine y_aload_n C0 1 dX3_tellOfFrame_54 rfl rfl ?_
      refine y_aload_n C0 2 dX3_tellOfFrame_55 rfl rfl ?_
      refine y_get C0 1 rfl rfl (by decide) hin1 0 (ykd_fr ho hf) (by decide) (by decide +kernel) (yvi1 (ykd_fr ho hf)) dX3_tellOfFrame_56 ?_
      refine y_callV (As := [_]) (rest := _) (n := 1) C0 (mX3_sittersAt l D cy adr _ _ ho _) 3 rfl (by decide) (ykd_w ho) gX3_tellOfFrame_X3_sittersAt rfl rfl rfl (by decide +kernel) ⟨by decide, by decide⟩ rfl rfl (Nat.le_of_ble_eq_true rfl) dX3_tellOfFrame_59 ⟨by decide, by decide⟩ ?_
      exact y_iret C0 dX3_tellOfFrame_62 (by simp [wTellF, s_10_2]) rfl
    by_cases s_10_3 : x = 3
    · refine y_tswI (v := 3) C0 dX3_tellOfFrame_10 (by rw [s_10_3]; rfl) (by decide) (by decide) rfl (tgt := 63) (by decide) ?_
      refine y_aload_n C0 1 dX3_tellOfFrame_63 rfl rfl ?_
      refine y_aload_n C0 2 dX3_tellOfFrame_64 rfl rfl ?_
      refine y_get C0 1 rfl rfl (by decide) hin1 0 (ykd_fr ho hf) (by decide) (by decide +kernel) (yvi1 (ykd_fr ho hf)) dX3_tellOfFrame_65 ?_
      refine y_callV (As := [_]) (rest := _) (n := 1) C0 (mX3_stitchesAnHour l D cy adr _ _ ho _) 3 rfl (by decide) (ykd_w ho) gX3_tellOfFrame_X3_stitchesAnHour rfl rfl rfl (by decide +kernel) ⟨by decide, by decide⟩ rfl rfl (Nat.le_of_ble_eq_true rfl) dX3_tellOfFrame_68 ⟨by decide, by decide⟩ ?_
      exact y_iret C0 dX3_tellOfFrame_71 (by simp [wTellF, s_10_3]) rfl
    by_cases s_10_4 : x = 4
    · refine y_tswI (v := 4) C0 dX3_tellOfFrame_10 (by rw [s_10_4]; rfl) (by decide) (by decide) rfl (tgt := 72) (by decide) ?_
      refine y_aload_nN C0 0 dX3_tellOfFrame_72 rfl rfl ?_
      refine y_ifnonnullN C0 dX3_tellOfFrame_73 ?_
      refine y_iconst (v := 0) C0 dX3_tellOfFrame_76 (by decide) ?_
      refine y_goto C0 84 dX3_tellOfFrame_77 (by decide) ?_
      exact y_iret C0 dX3_tellOfFrame_84 (by rw [wTellF_4n hn s_10_4]) rfl
    refine y_tswO C0 dX3_tellOfFrame_10 (by have z0 := lv_neT s_10_0 (a := 0) rfl; have z1 := lv_neT s_10_1 (a := 1) rfl; have z2 := lv_neT s_10_2 (a := 2) rfl; have z3 := lv_neT s_10_3 (a := 3) rfl; have z4 := lv_neT s_10_4 (a := 4) rfl; omega) (tgt := 85) (by decide) ?_
    refine y_aload_n C0 2 dX3_tellOfFrame_85 rfl rfl ?_
    refine y_get C0 1 rfl rfl (by decide) hin1 3 (ykd_fr ho hf) (by decide) (by decide +kernel) (yvi1 (ykd_fr ho hf)) dX3_tellOfFrame_86 ?_
    exact y_iret C0 dX3_tellOfFrame_89 (by simp [wTellF, s_10_0, s_10_1, s_10_2, s_10_3, s_10_4]) rfl
  obtain ⟨b, hb, eb, hcb⟩ := wNo_not hn
  refine y_top eb ?_
  refine y_callV (As := [_]) (rest := _) (n := 1) C0 (mX3_bookNumbered l D cy adr _ _ ho b hb hcb) 3 rfl (by decide) (ykd_w ho) gX3_tellOfFrame_X3_bookNumbered rfl rfl rfl (by decide +kernel) ⟨by decide, by decide⟩ rfl rfl (Nat.le_of_ble_eq_true rfl) dX3_tellOfFrame_5 ⟨by decide, by decide⟩ ?_
  refine y_astore_n C0 [(3, _), (0, _), (1, _), (2, _)] dX3_tellOfFrame_8 rfl (by decide) rfl ?_
  refine y_iload_n C0 3 dX3_tellOfFrame_9 rfl rfl ?_
  by_cases s_10_0 : x = 0
  · refine y_tswI (v := 0) C0 dX3_tellOfFrame_10 (by rw [s_10_0]; rfl) (by decide) (by decide) rfl (tgt := 44) (by decide) ?_
    refine y_aload_n C0 2 dX3_tellOfFrame_44 rfl rfl ?_
    refine y_get C0 1 rfl rfl (by decide) hin1 1 (ykd_fr ho hf) (by decide) (by decide +kernel) (yvi1 (ykd_fr ho hf)) dX3_tellOfFrame_45 ?_
    exact y_iret C0 dX3_tellOfFrame_48 (by simp [wTellF, s_10_0]) rfl
  by_cases s_10_1 : x = 1
  · refine y_tswI (v := 1) C0 dX3_tellOfFrame_10 (by rw [s_10_1]; rfl) (by decide) (by decide) rfl (tgt := 49) (by decide) ?_
    refine y_aload_n C0 2 dX3_tellOfFrame_49 rfl rfl ?_
    refine y_get C0 1 rfl rfl (by decide) hin1 2 (ykd_fr ho hf) (by decide) (by decide +kernel) (yvi1 (ykd_fr ho hf)) dX3_tellOfFrame_50 ?_
    exact y_iret C0 dX3_tellOfFrame_53 (by simp [wTellF, s_10_1]) rfl
  by_cases s_10_2 : x = 2
  · refine y_tswI (v := 2) C0 dX3_tellOfFrame_10 (by rw [s_10_2]; rfl) (by decide) (by decide) rfl (tgt := 54) (by decide) ?_
    refine y_aload_n C0 1 dX3_tellOfFrame_54 rfl rfl ?_
    refine y_aload_n C0 2 dX3_tellOfFrame_55 rfl rfl ?_
    refine y_get C0 1 rfl rfl (by decide) hin1 0 (ykd_fr ho hf) (by decide) (by decide +kernel) (yvi1 (ykd_fr ho hf)) dX3_tellOfFrame_56 ?_
    refine y_callV (As := [_]) (rest := _) (n := 1) C0 (mX3_sittersAt l D cy adr _ _ ho _) 3 rfl (by decide) (ykd_w ho) gX3_tellOfFrame_X3_sittersAt rfl rfl rfl (by decide +kernel) ⟨by decide, by decide⟩ rfl rfl (Nat.le_of_ble_eq_true rfl) dX3_tellOfFrame_59 ⟨by decide, by decide⟩ ?_
    exact y_iret C0 dX3_tellOfFrame_62 (by simp [wTellF, s_10_2]) rfl
  by_cases s_10_3 : x = 3
  · refine y_tswI (v := 3) C0 dX3_tellOfFrame_10 (by rw [s_10_3]; rfl) (by decide) (by decide) rfl (tgt := 63) (by decide) ?_
    refine y_aload_n C0 1 dX3_tellOfFrame_63 rfl rfl ?_
    refine y_aload_n C0 2 dX3_tellOfFrame_64 rfl rfl ?_
    refine y_get C0 1 rfl rfl (by decide) hin1 0 (ykd_fr ho hf) (by decide) (by decide +kernel) (yvi1 (ykd_fr ho hf)) dX3_tellOfFrame_65 ?_
    refine y_callV (As := [_]) (rest := _) (n := 1) C0 (mX3_stitchesAnHour l D cy adr _ _ ho _) 3 rfl (by decide) (ykd_w ho) gX3_tellOfFrame_X3_stitchesAnHour rfl rfl rfl (by decide +kernel) ⟨by decide, by decide⟩ rfl rfl (Nat.le_of_ble_eq_true rfl) dX3_tellOfFrame_68 ⟨by decide, by decide⟩ ?_
    exact y_iret C0 dX3_tellOfFrame_71 (by simp [wTellF, s_10_3]) rfl
  by_cases s_10_4 : x = 4
  · refine y_tswI (v := 4) C0 dX3_tellOfFrame_10 (by rw [s_10_4]; rfl) (by decide) (by decide) rfl (tgt := 72) (by decide) ?_
    refine y_aload_n C0 0 dX3_tellOfFrame_72 rfl rfl ?_
    refine y_ifnonnull C0 80 dX3_tellOfFrame_73 (by decide) ?_
    refine y_aload_n C0 0 dX3_tellOfFrame_80 rfl rfl ?_
    refine y_callV (As := []) (rest := _) (n := 0) C0 (mX0_stitchesToSew l D cy adr _ _ (ykd_bk ho hb)) 0 rfl (by decide) (ykd_bk ho hb) gX3_tellOfFrame_X0_stitchesToSew rfl rfl rfl (by decide +kernel) ⟨by decide, by decide⟩ rfl rfl (Nat.le_of_ble_eq_true rfl) dX3_tellOfFrame_81 ⟨by decide, by decide⟩ ?_
    exact y_iret C0 dX3_tellOfFrame_84 (by rw [wTellF_4b hn hb eb s_10_4]) rfl
  refine y_tswO C0 dX3_tellOfFrame_10 (by have z0 := lv_neT s_10_0 (a := 0) rfl; have z1 := lv_neT s_10_1 (a := 1) rfl; have z2 := lv_neT s_10_2 (a := 2) rfl; have z3 := lv_neT s_10_3 (a := 3) rfl; have z4 := lv_neT s_10_4 (a := 4) rfl; omega) (tgt := 85) (by decide) ?_
  refine y_aload_n C0 2 dX3_tellOfFrame_85 rfl rfl ?_
  refine y_get C0 1 rfl rfl (by decide) hin1 3 (ykd_fr ho hf) (by decide) (by decide +kernel) (yvi1 (ykd_fr ho hf)) dX3_tellOfFrame_86 ?_
  exact y_iret C0 dX3_tellOfFrame_89 (by simp [wTellF, s_10_0, s_10_1, s_10_2, s_10_3, s_10_4]) rfl
abbrev rX3_letAnHourGo : Room := { frames := 4, cells := 0, slots := 0, locals := 100 }
set_option maxRecDepth 100000 in
set_option maxHeartbeats 4000000 in
theorem mX3_letAnHourGo (l : Launch) (D : va_G) (cy : Nat → ClassId) (adr : Nat → Nat) (M : yM) (o : Nat) (ho : o = 0 ∨ o = 27)  (hsp : wSpOK M o) : Ct l yX3_letAnHourGo wsX3_letAnHourGo rX3_letAnHourGo D cy adr [.ref (adr o)] M (some (.int (wHourR M o))) (wHour M o) 0 0 := by
  refine Ct.mk cX3_letAnHourGo 6 (some .int) RX3 (by decide) rfl rfl (Nat.le_of_ble_eq_true rfl) ?_
  intro K C0
  refine y_eq rfl (show ([(0, .ref (adr o))] : List (Nat × Value)) = lv_args 0 [.ref (adr o)] from rfl) rfl ?_
  have hin1 : ∀ w ∈ u_ws RX1 TX1 4, w ∈ wsX3_letAnHourGo := by decide +kernel
  have hin3 : ∀ w ∈ u_ws RX3 TX3 12, w ∈ wsX3_letAnHourGo := by decide +kernel
  refine y_aload_n C0 0 dX3_letAnHourGo_0 rfl rfl ?_
  refine y_iconst (v := 5) C0 dX3_letAnHourGo_1 (by decide) ?_
  refine y_callV (As := [_]) (rest := _) (n := 1) C0 (mX3_booksAt l D cy adr _ _ ho _) 3 rfl (by decide) (ykd_w ho) gX3_letAnHourGo_X3_booksAt rfl rfl rfl (by decide +kernel) ⟨by decide, by decide⟩ rfl rfl (Nat.le_of_ble_eq_true rfl) dX3_letAnHourGo_2 ⟨by decide, by decide⟩ ?_
  refine y_istore_n C0 [(1, _), (0, _)] dX3_letAnHourGo_5 rfl (by decide) rfl ?_
  refine y_aload_n C0 1 dX3_letAnHourGo_6 rfl rfl ?_
  refine y_callV (As := []) (rest := _) (n := 0) C0 (mX3_gild l D cy adr _ _ ho) 3 rfl (by decide) (ykd_w ho) gX3_letAnHourGo_X3_gild rfl rfl rfl (by decide +kernel) ⟨by decide, by decide⟩ rfl rfl (Nat.le_of_ble_eq_true rfl) dX3_letAnHourGo_7 ⟨by decide, by decide⟩ ?_
  refine y_aload_n C0 1 dX3_letAnHourGo_10 rfl rfl ?_
  refine y_callV (As := []) (rest := _) (n := 0) C0 (mX3_giveBoards l D cy adr _ _ ho) 3 rfl (by decide) (ykd_w ho) gX3_letAnHourGo_X3_giveBoards rfl rfl rfl (by decide +kernel) ⟨by decide, by decide⟩ rfl rfl (Nat.le_of_ble_eq_true rfl) dX3_letAnHourGo_11 ⟨by decide, by decide⟩ ?_
  refine y_aload_n C0 1 dX3_letAnHourGo_14 rfl rfl ?_
  refine y_callV (As := []) (rest := _) (n := 0) C0 (mX3_dry l D cy adr _ _ ho) 3 rfl (by decide) (ykd_w ho) gX3_letAnHourGo_X3_dry rfl rfl rfl (by decide +kernel) ⟨by decide, by decide⟩ rfl rfl (Nat.le_of_ble_eq_true rfl) dX3_letAnHourGo_15 ⟨by decide, by decide⟩ ?_
  refine y_aload_n C0 1 dX3_letAnHourGo_18 rfl rfl ?_
  refine y_get C0 3 rfl rfl (by decide) hin3 2 (ykd_w ho) (by decide) (by decide +kernel) (yv3_frames (ykd_w ho)) dX3_letAnHourGo_19 ?_
  refine y_astore_n C0 [(2, _), (1, _), (0, _)] dX3_letAnHourGo_22 rfl (by decide) rfl ?_
  refine y_aload_n C0 0 dX3_letAnHourGo_23 rfl rfl ?_
  refine y_alen C0 9 (ykd_w3 ho) (by decide) (by decide) dX3_letAnHourGo_24 ?_
  refine y_istore_n C0 [(3, _), (2, _), (1, _), (0, _)] dX3_letAnHourGo_25 rfl (by decide) rfl ?_
  refine y_iconst (v := 0) C0 dX3_letAnHourGo_26 (by decide) ?_
  refine y_istore C0 [(4, _), (3, _), (2, _), (1, _), (0, _)] dX3_letAnHourGo_27 (by decide) rfl ?_
  have hl_29 : ∀ (n : Nat) (i : Nat), 3 - i = n → i ≤ 3 → Y K l rX3_letAnHourGo D cy adr 6 0 0 (QT K D cy adr (some (.int (wHourR M o))) (wHour M o) 0 0) (wSews (wDry (wBoard (wGild M o) o 15) o 15) o i) [] [(4, .int (nI i)), (3, .int (nI 3)), (2, .ref (adr (o + 3))), (1, .int (wCnt M o 5 15)), (0, .ref (adr o))] 29 [] := by
    intro n
    induction n using Nat.strongRecOn with
    | _ n ih_29 =>
      intro i hn_29 hi
      refine y_iload C0 0 dX3_letAnHourGo_29 rfl ?_
      refine y_iload_n C0 1 dX3_letAnHourGo_31 rfl rfl ?_
      refine y_icmp_ge C0 53 dX3_letAnHourGo_32 (by decide) (fun c_32 => ?_) (fun c_32 => ?_)
      · have he := ct_end (N := 3) (by decide) hi c_32
        subst he
        refine y_aload_n C0 4 dX3_letAnHourGo_53 rfl rfl ?_
        refine y_get C0 3 rfl rfl (by decide) hin3 2 (ykd_w ho) (by decide) (by decide +kernel) (yv3_frames (ykd_w ho)) dX3_letAnHourGo_54 ?_
        refine y_astore_n C0 [(2, _), (4, _), (3, _), (1, _), (0, _)] dX3_letAnHourGo_57 rfl (by decide) rfl ?_
        refine y_aload_n C0 0 dX3_letAnHourGo_58 rfl rfl ?_
        refine y_alen C0 9 (ykd_w3 ho) (by decide) (by decide) dX3_letAnHourGo_59 ?_
        refine y_istore_n C0 [(3, _), (2, _), (4, _), (1, _), (0, _)] dX3_letAnHourGo_60 rfl (by decide) rfl ?_
        refine y_iconst (v := 0) C0 dX3_letAnHourGo_61 (by decide) ?_
        refine y_istore C0 [(4, _), (3, _), (2, _), (1, _), (0, _)] dX3_letAnHourGo_62 (by decide) rfl ?_
        have hl_64 : ∀ (n : Nat) (i : Nat), 3 - i = n → i ≤ 3 → Y K l rX3_letAnHourGo D cy adr 6 0 0 (QT K D cy adr (some (.int (wHourR M o))) (wHour M o) 0 0) (wMounts (wSews (wDry (wBoard (wGild M o) o 15) o 15) o 3) o i) [] [(4, .int (nI i)), (3, .int (nI 3)), (2, .ref (adr (o + 3))), (1, .int (wCnt M o 5 15)), (0, .ref (adr o))] 64 [] := by
          intro n
          induction n using Nat.strongRecOn with
          | _ n ih_64 =>
            intro i hn_64 hi
            refine y_iload C0 0 dX3_letAnHourGo_64 rfl ?_
            refine y_iload_n C0 1 dX3_letAnHourGo_66 rfl rfl ?_
            refine y_icmp_ge C0 97 dX3_letAnHourGo_67 (by decide) (fun c_67 => ?_) (fun c_67 => ?_)
            · have he := ct_end (N := 3) (by decide) hi c_67
              subst he
              refine y_aload_n C0 4 dX3_letAnHourGo_97 rfl rfl ?_
              refine y_dup C0 dX3_letAnHourGo_98 rfl ?_
              refine y_get C0 3 rfl rfl (by decide) hin3 5 (ykd_w ho) (by decide) (by decide +kernel) (yvi3 (ykd_w ho) (by decide)) dX3_letAnHourGo_99 ?_
              refine y_iconst (v := 1) C0 dX3_letAnHourGo_102 (by decide) ?_
              refine y_iadd C0 dX3_letAnHourGo_103 ?_
              refine y_put C0 3 rfl rfl (by decide) hin3 tyX3 tyX3_ok nmX3 5 (ykd_w ho) (by decide) (by decide +kernel) (yrn3 (ykd_w ho) (by decide)) rfl (by decide +kernel) dX3_letAnHourGo_104 ?_
              refine y_aload_n C0 4 dX3_letAnHourGo_107 rfl rfl ?_
              refine y_iconst (v := 5) C0 dX3_letAnHourGo_108 (by decide) ?_
              refine y_callV (As := [_]) (rest := _) (n := 1) C0 (mX3_booksAt l D cy adr _ _ ho _) 3 rfl (by decide) (ykd_w ho) gX3_letAnHourGo_X3_booksAt rfl rfl rfl (by decide +kernel) ⟨by decide, by decide⟩ rfl rfl (Nat.le_of_ble_eq_true rfl) dX3_letAnHourGo_109 ⟨by decide, by decide⟩ ?_
              refine y_iload_n C0 3 dX3_letAnHourGo_112 rfl rfl ?_
              refine y_isub C0 dX3_letAnHourGo_113 ?_
              exact y_iret C0 dX3_letAnHourGo_114 rfl rfl
            · have hlt := ct_lt (N := 3) (by decide) hi c_67
              refine y_aload_n C0 2 dX3_letAnHourGo_70 rfl rfl ?_
              refine y_iload C0 0 dX3_letAnHourGo_71 rfl ?_
              refine y_aald C0 (i) 9 (ykd_w3 ho) (by decide) (by decide) rfl (by omega : i < 3) (yel_fr ho) dX3_letAnHourGo_73 ?_
              refine y_astore C0 [(5, _), (4, _), (3, _), (2, _), (1, _), (0, _)] dX3_letAnHourGo_74 (by decide) rfl ?_
              refine y_aload C0 0 dX3_letAnHourGo_76 rfl ?_
              refine y_get C0 1 rfl rfl (by decide) hin1 2 (ykd_fr ho (by omega : i < 3)) (by decide) (by decide +kernel) (yvi1 (ykd_fr ho (by omega : i < 3))) dX3_letAnHourGo_78 ?_
              refine y_iconst (v := (-1)) C0 dX3_letAnHourGo_81 (by decide) ?_
              refine y_icmp_ne C0 91 dX3_letAnHourGo_82 (by decide) (fun c_82 => ?_) (fun c_82 => ?_)
              · refine y_iinc (v := nI (i + 1)) C0 1 [(4, _), (5, _), (3, _), (2, _), (1, _), (0, _)] dX3_letAnHourGo_91 rfl (yinc_ok rfl rfl) (by decide) rfl ?_
                refine y_goto C0 64 dX3_letAnHourGo_94 (by decide) ?_
                refine y_sub [0, 2, 3, 4, 5] [(4, _), (3, _), (2, _), (1, _), (0, _)] rfl ?_
                exact y_eq (by simp only [wMounts, c_32, c_67, c_82, if_true, if_false]; try rfl) (by first | rfl | simp [c_32, c_67, c_82]) rfl (ih_64 _ (by omega) (i + 1) rfl hlt)
              · refine y_aload_n C0 5 dX3_letAnHourGo_85 rfl rfl ?_
                refine y_aload C0 0 dX3_letAnHourGo_86 rfl ?_
                refine y_callV (As := [_]) (rest := _) (n := 1) C0 (mX3_mountOn l D cy adr _ _ ho _ (by omega)) 3 rfl (by decide) (ykd_w ho) gX3_letAnHourGo_X3_mountOn rfl rfl rfl (by decide +kernel) ⟨by decide, by decide⟩ rfl rfl (Nat.le_of_ble_eq_true rfl) dX3_letAnHourGo_88 ⟨by decide, by decide⟩ ?_
                refine y_iinc (v := nI (i + 1)) C0 1 [(4, _), (5, _), (3, _), (2, _), (1, _), (0, _)] dX3_letAnHourGo_91 rfl (yinc_ok rfl rfl) (by decide) rfl ?_
                refine y_goto C0 64 dX3_letAnHourGo_94 (by decide) ?_
                refine y_sub [0, 2, 3, 4, 5] [(4, _), (3, _), (2, _), (1, _), (0, _)] rfl ?_
                exact y_eq (by simp only [wMounts, c_32, c_67, c_82, if_true, if_false]; try rfl) (by first | rfl | simp [c_32, c_67, c_82]) rfl (ih_64 _ (by omega) (i + 1) rfl hlt)
        refine y_sub [0, 1, 2, 3, 4] [(4, _), (3, _), (2, _), (1, _), (0, _)] rfl ?_
        exact hl_64 _ 0 rfl (Nat.zero_le _)
      · have hlt := ct_lt (N := 3) (by decide) hi c_32
        have hsp9 := hsp.out (wOut_D.tr (wOut_sews (M := (wDry (wBoard (wGild M o) o 15) o 15)) (o := o) i hi))
        refine y_aload_n C0 2 dX3_letAnHourGo_35 rfl rfl ?_
        refine y_iload C0 0 dX3_letAnHourGo_36 rfl ?_
        refine y_aald C0 (i) 9 (ykd_w3 ho) (by decide) (by decide) rfl (by omega : i < 3) (yel_fr ho) dX3_letAnHourGo_38 ?_
        refine y_astore C0 [(5, _), (4, _), (3, _), (2, _), (1, _), (0, _)] dX3_letAnHourGo_39 (by decide) rfl ?_
        refine y_aload_n C0 5 dX3_letAnHourGo_41 rfl rfl ?_
        refine y_aload C0 0 dX3_letAnHourGo_42 rfl ?_
        refine y_callV (As := [_]) (rest := _) (n := 1) C0 (mX3_sewAt l D cy adr _ _ ho _ (by omega) hsp9) 3 rfl (by decide) (ykd_w ho) gX3_letAnHourGo_X3_sewAt rfl rfl rfl (by decide +kernel) ⟨by decide, by decide⟩ rfl rfl (Nat.le_of_ble_eq_true rfl) dX3_letAnHourGo_44 ⟨by decide, by decide⟩ ?_
        refine y_iinc (v := nI (i + 1)) C0 1 [(4, _), (5, _), (3, _), (2, _), (1, _), (0, _)] dX3_letAnHourGo_47 rfl (yinc_ok rfl rfl) (by decide) rfl ?_
        refine y_goto C0 29 dX3_letAnHourGo_50 (by decide) ?_
        refine y_sub [0, 2, 3, 4, 5] [(4, _), (3, _), (2, _), (1, _), (0, _)] rfl ?_
        exact y_eq rfl (by first | rfl | simp [c_32]) rfl (ih_29 _ (by omega) (i + 1) rfl hlt)
  refine y_sub [0, 1, 2, 3, 4] [(4, _), (3, _), (2, _), (1, _), (0, _)] rfl ?_
  exact hl_29 _ 0 rfl (Nat.zero_le _)
abbrev rX3_letHoursGo : Room := { frames := 5, cells := 0, slots := 0, locals := 125 }
set_option maxRecDepth 100000 in
set_option maxHeartbeats 4000000 in
theorem mX3_letHoursGo (l : Launch) (D : va_G) (cy : Nat → ClassId) (adr : Nat → Nat) (M : yM) (o : Nat) (ho : o = 0 ∨ o = 27) (x : Int32) (hsp : wSpOK M o) : Ct l yX3_letHoursGo wsX3_letHoursGo rX3_letHoursGo D cy adr [.ref (adr o), .int x] M (some (.int (wHoursR M o x.toNatClampNeg))) (wHours M o x.toNatClampNeg) 0 0 := by
  refine Ct.mk cX3_letHoursGo 4 (some .int) RX3 (by decide) rfl rfl (Nat.le_of_ble_eq_true rfl) ?_
  intro K C0
  refine y_eq rfl (show ([(0, .ref (adr o)), (1, .int x)] : List (Nat × Value)) = lv_args 0 [.ref (adr o), .int x] from rfl) rfl ?_
  refine y_iconst (v := 0) C0 dX3_letHoursGo_0 (by decide) ?_
  refine y_istore_n C0 [(2, _), (0, _), (1, _)] dX3_letHoursGo_1 rfl (by decide) rfl ?_
  refine y_iconst (v := 0) C0 dX3_letHoursGo_2 (by decide) ?_
  refine y_istore_n C0 [(3, _), (2, _), (0, _), (1, _)] dX3_letHoursGo_3 rfl (by decide) rfl ?_
  have hl_4 : ∀ (n : Nat) (i : Nat), x.toNatClampNeg - i = n → i ≤ x.toNatClampNeg → Y K l rX3_letHoursGo D cy adr 4 0 0 (QT K D cy adr (some (.int (wHoursR M o x.toNatClampNeg))) (wHours M o x.toNatClampNeg) 0 0) (wHours M o i) [] [(3, .int (nI i)), (2, .int (wHoursR M o i)), (1, .int x), (0, .ref (adr o))] 4 [] := by
    intro n
    induction n using Nat.strongRecOn with
    | _ n ih_4 =>
      intro i hn_4 hi
      refine y_iload_n C0 0 dX3_letHoursGo_4 rfl rfl ?_
      refine y_iload_n C0 2 dX3_letHoursGo_5 rfl rfl ?_
      refine y_icmp_ge C0 22 dX3_letHoursGo_6 (by decide) (fun c_6 => ?_) (fun c_6 => ?_)
      · have he := cl_end hi c_6
        subst he
        refine y_iload_n C0 1 dX3_letHoursGo_22 rfl rfl ?_
        exact y_iret C0 dX3_letHoursGo_23 rfl rfl
      · have hlt := cl_lt hi c_6
        have hsp9 := hsp.out (wOut_hours (M := M) (o := o) i)
        refine y_iload_n C0 1 dX3_letHoursGo_9 rfl rfl ?_
        refine y_aload_n C0 3 dX3_letHoursGo_10 rfl rfl ?_
        refine y_callV (As := []) (rest := _) (n := 0) C0 (mX3_letAnHourGo l D cy adr _ _ ho hsp9) 3 rfl (by decide) (ykd_w ho) gX3_letHoursGo_X3_letAnHourGo rfl rfl rfl (by decide +kernel) ⟨by decide, by decide⟩ rfl rfl (Nat.le_of_ble_eq_true rfl) dX3_letHoursGo_11 ⟨by decide, by decide⟩ ?_
        refine y_iadd C0 dX3_letHoursGo_14 ?_
        refine y_istore_n C0 [(2, _), (3, _), (1, _), (0, _)] dX3_letHoursGo_15 rfl (by decide) rfl ?_
        refine y_iinc (v := nI (i + 1)) C0 1 [(3, _), (2, _), (1, _), (0, _)] dX3_letHoursGo_16 rfl (yinc_ok rfl rfl) (by decide) rfl ?_
        refine y_goto C0 4 dX3_letHoursGo_19 (by decide) ?_
        refine y_sub [0, 1, 2, 3] [(3, _), (2, _), (1, _), (0, _)] rfl ?_
        exact y_eq rfl rfl rfl (ih_4 _ (by omega) (i + 1) rfl hlt)
  refine y_sub [0, 1, 3, 2] [(3, _), (2, _), (1, _), (0, _)] rfl ?_
  exact hl_4 _ 0 rfl (Nat.zero_le _)
abbrev rX3_clearFrameOf : Room := { frames := 0, cells := 0, slots := 0, locals := 0 }
set_option maxRecDepth 100000 in
set_option maxHeartbeats 4000000 in
theorem mX3_clearFrameOf (l : Launch) (D : va_G) (cy : Nat → ClassId) (adr : Nat → Nat) (M : yM) (o : Nat) (ho : o = 0 ∨ o = 27) (b : Nat) (hb : b < 15)  : Ct l yX3_clearFrameOf wsX3_clearFrameOf rX3_clearFrameOf D cy adr [.ref (adr o), .ref (adr (o + 4 + b))] M (none) (wClr M o (M (o + 4 + b) 0) 3) 0 0 := by
  refine Ct.mk cX3_clearFrameOf 6 none RX3 (by decide) rfl rfl (Nat.le_of_ble_eq_true rfl) ?_
  intro K C0
  refine y_eq rfl (show ([(0, .ref (adr o)), (1, .ref (adr (o + 4 + b)))] : List (Nat × Value)) = lv_args 0 [.ref (adr o), .ref (adr (o + 4 + b))] from rfl) rfl ?_
  have hin0 : ∀ w ∈ u_ws RX0 TX0 13, w ∈ wsX3_clearFrameOf := by decide +kernel
  have hin1 : ∀ w ∈ u_ws RX1 TX1 4, w ∈ wsX3_clearFrameOf := by decide +kernel
  have hin3 : ∀ w ∈ u_ws RX3 TX3 12, w ∈ wsX3_clearFrameOf := by decide +kernel
  refine y_aload_n C0 0 dX3_clearFrameOf_0 rfl rfl ?_
  refine y_get C0 3 rfl rfl (by decide) hin3 2 (ykd_w ho) (by decide) (by decide +kernel) (yv3_frames (ykd_w ho)) dX3_clearFrameOf_1 ?_
  refine y_astore_n C0 [(2, _), (0, _), (1, _)] dX3_clearFrameOf_4 rfl (by decide) rfl ?_
  refine y_aload_n C0 0 dX3_clearFrameOf_5 rfl rfl ?_
  refine y_alen C0 9 (ykd_w3 ho) (by decide) (by decide) dX3_clearFrameOf_6 ?_
  refine y_istore_n C0 [(3, _), (2, _), (0, _), (1, _)] dX3_clearFrameOf_7 rfl (by decide) rfl ?_
  refine y_iconst (v := 0) C0 dX3_clearFrameOf_8 (by decide) ?_
  refine y_istore C0 [(4, _), (3, _), (2, _), (0, _), (1, _)] dX3_clearFrameOf_9 (by decide) rfl ?_
  have hl_11 : ∀ (n : Nat) (i : Nat), 3 - i = n → i ≤ 3 → Y K l rX3_clearFrameOf D cy adr 6 0 0 (QT K D cy adr (none) (wClr M o (M (o + 4 + b) 0) 3) 0 0) (wClr M o (M (o + 4 + b) 0) i) [] [(4, .int (nI i)), (3, .int (nI 3)), (2, .ref (adr (o + 3))), (1, .ref (adr (o + 4 + b))), (0, .ref (adr o))] 11 [] := by
    intro n
    induction n using Nat.strongRecOn with
    | _ n ih_11 =>
      intro i hn_11 hi
      refine y_iload C0 0 dX3_clearFrameOf_11 rfl ?_
      refine y_iload_n C0 1 dX3_clearFrameOf_13 rfl rfl ?_
      refine y_icmp_ge C0 47 dX3_clearFrameOf_14 (by decide) (fun c_14 => ?_) (fun c_14 => ?_)
      · have he := ct_end (N := 3) (by decide) hi c_14
        subst he
        exact y_vret C0 dX3_clearFrameOf_47 rfl rfl
      · have hlt := ct_lt (N := 3) (by decide) hi c_14
        refine y_aload_n C0 2 dX3_clearFrameOf_17 rfl rfl ?_
        refine y_iload C0 0 dX3_clearFrameOf_18 rfl ?_
        refine y_aald C0 (i) 9 (ykd_w3 ho) (by decide) (by decide) rfl (by omega : i < 3) (yel_fr ho) dX3_clearFrameOf_20 ?_
        refine y_astore C0 [(5, _), (4, _), (3, _), (2, _), (1, _), (0, _)] dX3_clearFrameOf_21 (by decide) rfl ?_
        refine y_aload C0 0 dX3_clearFrameOf_23 rfl ?_
        refine y_get C0 1 rfl rfl (by decide) hin1 2 (ykd_fr ho (by omega : i < 3)) (by decide) (by decide +kernel) (yvi1 (ykd_fr ho (by omega : i < 3))) dX3_clearFrameOf_25 ?_
        refine y_aload_n C0 4 dX3_clearFrameOf_28 rfl rfl ?_
        refine y_get C0 0 rfl rfl (by decide) hin0 0 (ykd_bk ho hb) (by decide) (by decide +kernel) (yvi0 (ykd_bk ho hb)) dX3_clearFrameOf_29 ?_
        refine y_icmp_ne C0 41 dX3_clearFrameOf_32 (by decide) (fun c_32 => ?_) (fun c_32 => ?_)
        · refine y_iinc (v := nI (i + 1)) C0 1 [(4, _), (5, _), (3, _), (2, _), (1, _), (0, _)] dX3_clearFrameOf_41 rfl (yinc_ok rfl rfl) (by decide) rfl ?_
          refine y_goto C0 11 dX3_clearFrameOf_44 (by decide) ?_
          refine y_sub [0, 2, 3, 4, 5] [(4, _), (3, _), (2, _), (1, _), (0, _)] rfl ?_
          exact y_eq (by rw [wClr_bk hb i hi] at c_32; simp only [wClr, c_14, c_32, if_true, if_false]; try rfl) (by first | rfl | simp [c_14, c_32]) rfl (ih_11 _ (by omega) (i + 1) rfl hlt)
        · refine y_aload C0 0 dX3_clearFrameOf_35 rfl ?_
          refine y_iconst (v := (-1)) C0 dX3_clearFrameOf_37 (by decide) ?_
          refine y_put C0 1 rfl rfl (by decide) hin1 tyX1 tyX1_ok nmX1 2 (ykd_fr ho (by omega : i < 3)) (by decide) (by decide +kernel) (yrn1 (ykd_fr ho (by omega : i < 3))) rfl (by decide +kernel) dX3_clearFrameOf_38 ?_
          refine y_iinc (v := nI (i + 1)) C0 1 [(4, _), (5, _), (3, _), (2, _), (1, _), (0, _)] dX3_clearFrameOf_41 rfl (yinc_ok rfl rfl) (by decide) rfl ?_
          refine y_goto C0 11 dX3_clearFrameOf_44 (by decide) ?_
          refine y_sub [0, 2, 3, 4, 5] [(4, _), (3, _), (2, _), (1, _), (0, _)] rfl ?_
          exact y_eq (by rw [wClr_bk hb i hi] at c_32; simp only [wClr, c_14, c_32, if_true, if_false]; try rfl) (by first | rfl | simp [c_14, c_32]) rfl (ih_11 _ (by omega) (i + 1) rfl hlt)
  refine y_sub [0, 1, 2, 4, 3] [(4, _), (3, _), (2, _), (1, _), (0, _)] rfl ?_
  exact hl_11 _ 0 rfl (Nat.zero_le _)
abbrev rX3_setTo : Room := { frames := 1, cells := 0, slots := 0, locals := 21 }
set_option maxRecDepth 100000 in
set_option maxHeartbeats 4000000 in
theorem mX3_setTo (l : Launch) (D : va_G) (cy : Nat → ClassId) (adr : Nat → Nat) (M : yM) (o : Nat) (ho : o = 0 ∨ o = 27) (a : Nat) (ha : a = 0 ∨ a = 27) (hne : a ≠ o) : Ct l yX3_setTo wsX3_setTo rX3_setTo D cy adr [.ref (adr o), .ref (adr a)] M (none) (wSet M o a) 0 0 := by
  refine Ct.mk cX3_setTo 3 none RX3 (by decide) rfl rfl (Nat.le_of_ble_eq_true rfl) ?_
  intro K C0
  refine y_eq rfl (show ([(0, .ref (adr o)), (1, .ref (adr a))] : List (Nat × Value)) = lv_args 0 [.ref (adr o), .ref (adr a)] from rfl) rfl ?_
  have hin3 : ∀ w ∈ u_ws RX3 TX3 12, w ∈ wsX3_setTo := by decide +kernel
  refine y_iconst (v := 0) C0 dX3_setTo_0 (by decide) ?_
  refine y_istore_n C0 [(2, _), (0, _), (1, _)] dX3_setTo_1 rfl (by decide) rfl ?_
  have hl_2 : ∀ (n : Nat) (i : Nat), 15 - i = n → i ≤ 15 → Y K l rX3_setTo D cy adr 3 0 0 (QT K D cy adr (none) (wSet M o a) 0 0) (wSetB M o a i) [] [(2, .int (nI i)), (1, .ref (adr a)), (0, .ref (adr o))] 2 [] := by
    intro n
    induction n using Nat.strongRecOn with
    | _ n ih_2 =>
      intro i hn_2 hi
      refine y_iload_n C0 0 dX3_setTo_2 rfl rfl ?_
      refine y_aload_n C0 2 dX3_setTo_3 rfl rfl ?_
      refine y_get C0 3 rfl rfl (by decide) hin3 0 (ykd_w ho) (by decide) (by decide +kernel) (yv3_books (ykd_w ho)) dX3_setTo_4 ?_
      refine y_alen C0 7 (ykd_w1 ho) (by decide) (by decide) dX3_setTo_7 ?_
      refine y_icmp_ge C0 41 dX3_setTo_8 (by decide) (fun c_8 => ?_) (fun c_8 => ?_)
      · have he := ct_end (N := 15) (by decide) hi c_8
        subst he
        refine y_iconst (v := 0) C0 dX3_setTo_41 (by decide) ?_
        refine y_istore_n C0 [(2, _), (1, _), (0, _)] dX3_setTo_42 rfl (by decide) rfl ?_
        have hl_43 : ∀ (n : Nat) (i : Nat), 5 - i = n → i ≤ 5 → Y K l rX3_setTo D cy adr 3 0 0 (QT K D cy adr (none) (wSet M o a) 0 0) (wSetS (wSetB M o a 15) o a i) [] [(2, .int (nI i)), (1, .ref (adr a)), (0, .ref (adr o))] 43 [] := by
          intro n
          induction n using Nat.strongRecOn with
          | _ n ih_43 =>
            intro i hn_43 hi
            refine y_iload_n C0 0 dX3_setTo_43 rfl rfl ?_
            refine y_aload_n C0 2 dX3_setTo_44 rfl rfl ?_
            refine y_get C0 3 rfl rfl (by decide) hin3 1 (ykd_w ho) (by decide) (by decide +kernel) (yv3_sewers (ykd_w ho)) dX3_setTo_45 ?_
            refine y_alen C0 8 (ykd_w2 ho) (by decide) (by decide) dX3_setTo_48 ?_
            refine y_icmp_ge C0 82 dX3_setTo_49 (by decide) (fun c_49 => ?_) (fun c_49 => ?_)
            · have he := ct_end (N := 5) (by decide) hi c_49
              subst he
              refine y_iconst (v := 0) C0 dX3_setTo_82 (by decide) ?_
              refine y_istore_n C0 [(2, _), (1, _), (0, _)] dX3_setTo_83 rfl (by decide) rfl ?_
              have hl_84 : ∀ (n : Nat) (i : Nat), 3 - i = n → i ≤ 3 → Y K l rX3_setTo D cy adr 3 0 0 (QT K D cy adr (none) (wSet M o a) 0 0) (wSetF (wSetS (wSetB M o a 15) o a 5) o a i) [] [(2, .int (nI i)), (1, .ref (adr a)), (0, .ref (adr o))] 84 [] := by
                intro n
                induction n using Nat.strongRecOn with
                | _ n ih_84 =>
                  intro i hn_84 hi
                  refine y_iload_n C0 0 dX3_setTo_84 rfl rfl ?_
                  refine y_aload_n C0 2 dX3_setTo_85 rfl rfl ?_
                  refine y_get C0 3 rfl rfl (by decide) hin3 2 (ykd_w ho) (by decide) (by decide +kernel) (yv3_frames (ykd_w ho)) dX3_setTo_86 ?_
                  refine y_alen C0 9 (ykd_w3 ho) (by decide) (by decide) dX3_setTo_89 ?_
                  refine y_icmp_ge C0 123 dX3_setTo_90 (by decide) (fun c_90 => ?_) (fun c_90 => ?_)
                  · have he := ct_end (N := 3) (by decide) hi c_90
                    subst he
                    refine y_aload_n C0 2 dX3_setTo_123 rfl rfl ?_
                    refine y_aload_n C0 1 dX3_setTo_124 rfl rfl ?_
                    refine y_get C0 3 rfl rfl (by decide) hin3 3 (ykd_w ha) (by decide) (by decide +kernel) (yvi3 (ykd_w ha) (by decide)) dX3_setTo_125 ?_
                    refine y_put C0 3 rfl rfl (by decide) hin3 tyX3 tyX3_ok nmX3 3 (ykd_w ho) (by decide) (by decide +kernel) (yrn3 (ykd_w ho) (by decide)) rfl (by decide +kernel) dX3_setTo_128 ?_
                    refine y_aload_n C0 2 dX3_setTo_131 rfl rfl ?_
                    refine y_aload_n C0 1 dX3_setTo_132 rfl rfl ?_
                    refine y_get C0 3 rfl rfl (by decide) hin3 4 (ykd_w ha) (by decide) (by decide +kernel) (yvi3 (ykd_w ha) (by decide)) dX3_setTo_133 ?_
                    refine y_put C0 3 rfl rfl (by decide) hin3 tyX3 tyX3_ok nmX3 4 (ykd_w ho) (by decide) (by decide +kernel) (yrn3 (ykd_w ho) (by decide)) rfl (by decide +kernel) dX3_setTo_136 ?_
                    refine y_aload_n C0 2 dX3_setTo_139 rfl rfl ?_
                    refine y_aload_n C0 1 dX3_setTo_140 rfl rfl ?_
                    refine y_get C0 3 rfl rfl (by decide) hin3 5 (ykd_w ha) (by decide) (by decide +kernel) (yvi3 (ykd_w ha) (by decide)) dX3_setTo_141 ?_
                    refine y_put C0 3 rfl rfl (by decide) hin3 tyX3 tyX3_ok nmX3 5 (ykd_w ho) (by decide) (by decide +kernel) (yrn3 (ykd_w ho) (by decide)) rfl (by decide +kernel) dX3_setTo_144 ?_
                    refine y_aload_n C0 2 dX3_setTo_147 rfl rfl ?_
                    refine y_aload_n C0 1 dX3_setTo_148 rfl rfl ?_
                    refine y_get C0 3 rfl rfl (by decide) hin3 6 (ykd_w ha) (by decide) (by decide +kernel) (yvi3 (ykd_w ha) (by decide)) dX3_setTo_149 ?_
                    refine y_put C0 3 rfl rfl (by decide) hin3 tyX3 tyX3_ok nmX3 6 (ykd_w ho) (by decide) (by decide +kernel) (yrn3 (ykd_w ho) (by decide)) rfl (by decide +kernel) dX3_setTo_152 ?_
                    refine y_aload_n C0 2 dX3_setTo_155 rfl rfl ?_
                    refine y_aload_n C0 1 dX3_setTo_156 rfl rfl ?_
                    refine y_get C0 3 rfl rfl (by decide) hin3 7 (ykd_w ha) (by decide) (by decide +kernel) (yvi3 (ykd_w ha) (by decide)) dX3_setTo_157 ?_
                    refine y_put C0 3 rfl rfl (by decide) hin3 tyX3 tyX3_ok nmX3 7 (ykd_w ho) (by decide) (by decide +kernel) (yrn3 (ykd_w ho) (by decide)) rfl (by decide +kernel) dX3_setTo_160 ?_
                    refine y_aload_n C0 2 dX3_setTo_163 rfl rfl ?_
                    refine y_aload_n C0 1 dX3_setTo_164 rfl rfl ?_
                    refine y_get C0 3 rfl rfl (by decide) hin3 8 (ykd_w ha) (by decide) (by decide +kernel) (yvi3 (ykd_w ha) (by decide)) dX3_setTo_165 ?_
                    refine y_put C0 3 rfl rfl (by decide) hin3 tyX3 tyX3_ok nmX3 8 (ykd_w ho) (by decide) (by decide +kernel) (yrn3 (ykd_w ho) (by decide)) rfl (by decide +kernel) dX3_setTo_168 ?_
                    refine y_aload_n C0 2 dX3_setTo_171 rfl rfl ?_
                    refine y_aload_n C0 1 dX3_setTo_172 rfl rfl ?_
                    refine y_get C0 3 rfl rfl (by decide) hin3 9 (ykd_w ha) (by decide) (by decide +kernel) (yvi3 (ykd_w ha) (by decide)) dX3_setTo_173 ?_
                    refine y_put C0 3 rfl rfl (by decide) hin3 tyX3 tyX3_ok nmX3 9 (ykd_w ho) (by decide) (by decide +kernel) (yrn3 (ykd_w ho) (by decide)) rfl (by decide +kernel) dX3_setTo_176 ?_
                    refine y_aload_n C0 2 dX3_setTo_179 rfl rfl ?_
                    refine y_aload_n C0 1 dX3_setTo_180 rfl rfl ?_
                    refine y_get C0 3 rfl rfl (by decide) hin3 10 (ykd_w ha) (by decide) (by decide +kernel) (yvi3 (ykd_w ha) (by decide)) dX3_setTo_181 ?_
                    refine y_put C0 3 rfl rfl (by decide) hin3 tyX3 tyX3_ok nmX3 10 (ykd_w ho) (by decide) (by decide +kernel) (yrn3 (ykd_w ho) (by decide)) rfl (by decide +kernel) dX3_setTo_184 ?_
                    refine y_aload_n C0 2 dX3_setTo_187 rfl rfl ?_
                    refine y_aload_n C0 1 dX3_setTo_188 rfl rfl ?_
                    refine y_get C0 3 rfl rfl (by decide) hin3 11 (ykd_w ha) (by decide) (by decide +kernel) (yvi3 (ykd_w ha) (by decide)) dX3_setTo_189 ?_
                    refine y_put C0 3 rfl rfl (by decide) hin3 tyX3 tyX3_ok nmX3 11 (ykd_w ho) (by decide) (by decide +kernel) (yrn3 (ykd_w ho) (by decide)) rfl (by decide +kernel) dX3_setTo_192 ?_
                    exact y_vret C0 dX3_setTo_195 rfl (by simp only [yst_ru, up_up, up_s, up_n hne]; exact congrArg (va_up (wSetA M o a) o) (wRow_e (wSetA M o a o) (wSetA M o a a)))
                  · have hlt := ct_lt (N := 3) (by decide) hi c_90
                    refine y_iload_n C0 0 dX3_setTo_93 rfl rfl ?_
                    refine y_aload_n C0 1 dX3_setTo_94 rfl rfl ?_
                    refine y_get C0 3 rfl rfl (by decide) hin3 2 (ykd_w ha) (by decide) (by decide +kernel) (yv3_frames (ykd_w ha)) dX3_setTo_95 ?_
                    refine y_alen C0 9 (ykd_w3 ha) (by decide) (by decide) dX3_setTo_98 ?_
                    refine y_icmp_ge C0 123 dX3_setTo_99 (by decide) (fun c_99 => ?_) (fun c_99 => ?_)
                    · exact absurd c_99 (nI_ge (show i < 3 from hlt) (by decide))
                    · refine y_aload_n C0 2 dX3_setTo_102 rfl rfl ?_
                      refine y_get C0 3 rfl rfl (by decide) hin3 2 (ykd_w ho) (by decide) (by decide +kernel) (yv3_frames (ykd_w ho)) dX3_setTo_103 ?_
                      refine y_iload_n C0 0 dX3_setTo_106 rfl rfl ?_
                      refine y_aald C0 (i) 9 (ykd_w3 ho) (by decide) (by decide) rfl (by omega : i < 3) (yel_fr ho) dX3_setTo_107 ?_
                      refine y_aload_n C0 1 dX3_setTo_108 rfl rfl ?_
                      refine y_get C0 3 rfl rfl (by decide) hin3 2 (ykd_w ha) (by decide) (by decide +kernel) (yv3_frames (ykd_w ha)) dX3_setTo_109 ?_
                      refine y_iload_n C0 0 dX3_setTo_112 rfl rfl ?_
                      refine y_aald C0 (i) 9 (ykd_w3 ha) (by decide) (by decide) rfl (by omega : i < 3) (yel_fr ha) dX3_setTo_113 ?_
                      refine y_callV (As := [_]) (rest := _) (n := 1) C0 (mX1_setTo l D cy adr _ _ _ (ykd_fr ho (by omega : i < 3)) (ykd_fr ha (by omega : i < 3)) (by omega)) 1 rfl (by decide) (ykd_fr ho (by omega : i < 3)) gX3_setTo_X1_setTo rfl rfl rfl (by decide +kernel) ⟨by decide, by decide⟩ rfl rfl (Nat.le_of_ble_eq_true rfl) dX3_setTo_114 ⟨by decide, by decide⟩ ?_
                      refine y_iinc (v := nI (i + 1)) C0 0 [(2, _), (1, _), (0, _)] dX3_setTo_117 rfl (yinc_ok rfl rfl) (by decide) rfl ?_
                      refine y_goto C0 84 dX3_setTo_120 (by decide) ?_
                      refine y_sub [0, 1, 2] [(2, _), (1, _), (0, _)] rfl ?_
                      exact y_eq rfl (by first | rfl | simp [c_8, c_49, c_90, c_99]) rfl (ih_84 _ (by omega) (i + 1) rfl hlt)
              refine y_sub [0, 1, 2] [(2, _), (1, _), (0, _)] rfl ?_
              exact hl_84 _ 0 rfl (Nat.zero_le _)
            · have hlt := ct_lt (N := 5) (by decide) hi c_49
              refine y_iload_n C0 0 dX3_setTo_52 rfl rfl ?_
              refine y_aload_n C0 1 dX3_setTo_53 rfl rfl ?_
              refine y_get C0 3 rfl rfl (by decide) hin3 1 (ykd_w ha) (by decide) (by decide +kernel) (yv3_sewers (ykd_w ha)) dX3_setTo_54 ?_
              refine y_alen C0 8 (ykd_w2 ha) (by decide) (by decide) dX3_setTo_57 ?_
              refine y_icmp_ge C0 82 dX3_setTo_58 (by decide) (fun c_58 => ?_) (fun c_58 => ?_)
              · exact absurd c_58 (nI_ge (show i < 5 from hlt) (by decide))
              · refine y_aload_n C0 2 dX3_setTo_61 rfl rfl ?_
                refine y_get C0 3 rfl rfl (by decide) hin3 1 (ykd_w ho) (by decide) (by decide +kernel) (yv3_sewers (ykd_w ho)) dX3_setTo_62 ?_
                refine y_iload_n C0 0 dX3_setTo_65 rfl rfl ?_
                refine y_aald C0 (i) 8 (ykd_w2 ho) (by decide) (by decide) rfl (by omega : i < 5) (yel_sw ho) dX3_setTo_66 ?_
                refine y_aload_n C0 1 dX3_setTo_67 rfl rfl ?_
                refine y_get C0 3 rfl rfl (by decide) hin3 1 (ykd_w ha) (by decide) (by decide +kernel) (yv3_sewers (ykd_w ha)) dX3_setTo_68 ?_
                refine y_iload_n C0 0 dX3_setTo_71 rfl rfl ?_
                refine y_aald C0 (i) 8 (ykd_w2 ha) (by decide) (by decide) rfl (by omega : i < 5) (yel_sw ha) dX3_setTo_72 ?_
                refine y_callV (As := [_]) (rest := _) (n := 1) C0 (mX2_setTo l D cy adr _ _ _ (ykd_sw ho (by omega : i < 5)) (ykd_sw ha (by omega : i < 5)) (by omega)) 2 rfl (by decide) (ykd_sw ho (by omega : i < 5)) gX3_setTo_X2_setTo rfl rfl rfl (by decide +kernel) ⟨by decide, by decide⟩ rfl rfl (Nat.le_of_ble_eq_true rfl) dX3_setTo_73 ⟨by decide, by decide⟩ ?_
                refine y_iinc (v := nI (i + 1)) C0 0 [(2, _), (1, _), (0, _)] dX3_setTo_76 rfl (yinc_ok rfl rfl) (by decide) rfl ?_
                refine y_goto C0 43 dX3_setTo_79 (by decide) ?_
                refine y_sub [0, 1, 2] [(2, _), (1, _), (0, _)] rfl ?_
                exact y_eq rfl (by first | rfl | simp [c_8, c_49, c_58]) rfl (ih_43 _ (by omega) (i + 1) rfl hlt)
        refine y_sub [0, 1, 2] [(2, _), (1, _), (0, _)] rfl ?_
        exact hl_43 _ 0 rfl (Nat.zero_le _)
      · have hlt := ct_lt (N := 15) (by decide) hi c_8
        refine y_iload_n C0 0 dX3_setTo_11 rfl rfl ?_
        refine y_aload_n C0 1 dX3_setTo_12 rfl rfl ?_
        refine y_get C0 3 rfl rfl (by decide) hin3 0 (ykd_w ha) (by decide) (by decide +kernel) (yv3_books (ykd_w ha)) dX3_setTo_13 ?_
        refine y_alen C0 7 (ykd_w1 ha) (by decide) (by decide) dX3_setTo_16 ?_
        refine y_icmp_ge C0 41 dX3_setTo_17 (by decide) (fun c_17 => ?_) (fun c_17 => ?_)
        · exact absurd c_17 (nI_ge (show i < 15 from hlt) (by decide))
        · refine y_aload_n C0 2 dX3_setTo_20 rfl rfl ?_
          refine y_get C0 3 rfl rfl (by decide) hin3 0 (ykd_w ho) (by decide) (by decide +kernel) (yv3_books (ykd_w ho)) dX3_setTo_21 ?_
          refine y_iload_n C0 0 dX3_setTo_24 rfl rfl ?_
          refine y_aald C0 (i) 7 (ykd_w1 ho) (by decide) (by decide) rfl (by omega : i < 15) (yel_bk ho) dX3_setTo_25 ?_
          refine y_aload_n C0 1 dX3_setTo_26 rfl rfl ?_
          refine y_get C0 3 rfl rfl (by decide) hin3 0 (ykd_w ha) (by decide) (by decide +kernel) (yv3_books (ykd_w ha)) dX3_setTo_27 ?_
          refine y_iload_n C0 0 dX3_setTo_30 rfl rfl ?_
          refine y_aald C0 (i) 7 (ykd_w1 ha) (by decide) (by decide) rfl (by omega : i < 15) (yel_bk ha) dX3_setTo_31 ?_
          refine y_callV (As := [_]) (rest := _) (n := 1) C0 (mX0_setTo l D cy adr _ _ _ (ykd_bk ho (by omega : i < 15)) (ykd_bk ha (by omega : i < 15)) (by omega)) 0 rfl (by decide) (ykd_bk ho (by omega : i < 15)) gX3_setTo_X0_setTo rfl rfl rfl (by decide +kernel) ⟨by decide, by decide⟩ rfl rfl (Nat.le_of_ble_eq_true rfl) dX3_setTo_32 ⟨by decide, by decide⟩ ?_
          refine y_iinc (v := nI (i + 1)) C0 0 [(2, _), (1, _), (0, _)] dX3_setTo_35 rfl (yinc_ok rfl rfl) (by decide) rfl ?_
          refine y_goto C0 2 dX3_setTo_38 (by decide) ?_
          refine y_sub [0, 1, 2] [(2, _), (1, _), (0, _)] rfl ?_
          exact y_eq rfl (by first | rfl | simp [c_8, c_17]) rfl (ih_2 _ (by omega) (i + 1) rfl hlt)
  refine y_sub [0, 2, 1] [(2, _), (1, _), (0, _)] rfl ?_
  exact hl_2 _ 0 rfl (Nat.zero_le _)
end YZ
end
section
section YX
/-! what leaves a method as an exception -/
abbrev yNs : List String := ["java/lang/RuntimeException", "java/lang/Exception"]
abbrev yIAE : String := "java/lang/IllegalArgumentException"
abbrev yISE : String := "java/lang/IllegalStateException"
abbrev yIOE : String := "java/lang/IndexOutOfBoundsException"
abbrev yExs : List String := [yIAE, yISE, yIOE]
abbrev yStrs : List (Nat × String) := [(21, "signatures are 1 to 24"), (26, "sheets are 1 to 8"), (28, "edges are 0 to 3"), (36, "no more books can be ordered"), (200, "there is no such book"), (59, "the book is not on a frame"), (71, "the book is not done, or sold"), (207, "nothing is told under this number"), (88, "speed is 1 to 9"), (94, "no more sewers can be hired"), (205, "there is no such sewer"), (111, "there is no such frame"), (118, "two others sit at the frame"), (128, "cords are 2 to 6"), (135, "there is a book on the frame"), (144, "what is 0 to 2"), (146, "many is 1 to 200"), (151, "there are not so many coins"), (209, "hours are 1 to 120"), (166, "what is 2 to 7, or 10 to 14")]
abbrev yBad : List Cond := [.castable yIAE yIAE, .castable yISE yISE, .castable yIOE yIOE, .declares (Bundle.initS "java/lang/RuntimeException"), .declares (Bundle.initS "java/lang/Exception"), .declares (Bundle.initS Bundle.tN)]
theorem yBad_tabs : ∀ w ∈ yBad, w.onTables = true := by decide +kernel
theorem yBad_warm {s U : State} (hW : s.WarmedH U.vm) : ∀ w ∈ yBad, va_Nw w s → va_Nw w U := by
  intro w hw h
  simp only [yBad, List.mem_cons, List.not_mem_nil, or_false] at hw
  rcases hw with rfl | rfl | rfl | rfl | rfl | rfl
  · exact va_Nw.warmC hW h
  · exact va_Nw.warmC hW h
  · exact va_Nw.warmC hW h
  · exact va_Nw.warmD hW h
  · exact va_Nw.warmD hW h
  · exact va_Nw.warmD hW h
/-- what a throw takes as given: the two statics of Throwable, the texts, the classes -/
def yXP (A : Nat → Prop) (U : State) (H : Heap) : Prop := vx_Zq Bundle.tN "UNASSIGNED_STACK" Bundle.steD A U H ∧ vx_Zq Bundle.tN "SUPPRESSED_SENTINEL" Bundle.listD A U H ∧ (∀ q ∈ yStrs, ∃ sa, vk_R RX4 q.1 q.2 sa U) ∧ (∀ w ∈ yBad, va_Nw w U)
theorem yXP.to {A B : Nat → Prop} {s U : State} {H : Heap} {locs : List Loc} (h : yXP A s s.heap) (hU : U.heap = H) (hW : s.WarmedH U.vm) (hS : va_S A s.heap H locs) (hBA : ∀ q, B q → A q) : yXP B U U.heap := by
  rw [hU]
  refine ⟨?_, ?_, fun q hq => ?_, fun w hw => yBad_warm hW w hw (h.2.2.2 w hw)⟩
  · exact vx_Zq.narrow (vx_Zq.kept (vx_Zq.moved hW.alike h.1) hS.2.1) hBA
  · exact vx_Zq.narrow (vx_Zq.kept (vx_Zq.moved hW.alike h.2.1) hS.2.1) hBA
  · obtain ⟨sa, h1⟩ := h.2.2.1 q hq
    exact ⟨sa, vk_R.warm hW h1⟩
theorem yXP.calling {A : Nat → Prop} {U : State} (g : JFrame) (mk : MethodId) (a : Array Value) (h : yXP A U U.heap) : yXP A (U.calling g mk a) (U.calling g mk a).heap := by
  refine ⟨vx_Zq.moved (u := U) (U := U.calling g mk a) (Vm.Alike.refl U.vm) h.1, vx_Zq.moved (u := U) (U := U.calling g mk a) (Vm.Alike.refl U.vm) h.2.1, fun q hq => ?_, fun w hw => va_Nw.same (u := U) (U := U.calling g mk a) (yBad_tabs w hw) rfl (h.2.2.2 w hw)⟩
  obtain ⟨sa, h1⟩ := h.2.2.1 q hq
  exact ⟨sa, vk_R.same (u := U) (U := U.calling g mk a) rfl h1⟩
def Pxy (D : va_G) (cy : Nat → ClassId) (adr : Nat → Nat) (sz : Nat) (As : List Value) (M : yM) : Array Value → State → Prop := fun v U => Py D cy adr sz As M v U ∧ yXP (yAA adr sz) U U.heap
theorem Pxy_blind {D : va_G} {cy : Nat → ClassId} {adr : Nat → Nat} {sz : Nat} {As : List Value} {M : yM} : FrameBlind (Pxy D cy adr sz As M) := fun a U g mk q => ⟨Py_blind a U g mk q.1, q.2.calling g mk a⟩
/-- THE CONTRACT of a method that may throw: o none: it answers r; o some E: it throws an E -/
def Qox (o : Option String) (D : va_G) (cy : Nat → ClassId) (adr : Nat → Nat) (A : Nat → Prop) (r : Option Value) (M' : yM) : Array Value → State → Outcome → State → Prop := fun a st oc t => o = none ∧ Qy D cy adr A r M' a st oc t
def Xox (o : Option String) (D : va_G) (cy : Nat → ClassId) (adr : Nat → Nat) (A : Nat → Prop) (M' : yM) : String → State → State → Prop := fun E st t => o = some E ∧ va_P D vwCl (ypl adr cy M') t.heap ∧ va_F A st t
def Cv (l : Launch) (y : MethodName) (ws : List Cond) (rm : Room) (D : va_G) (cy : Nat → ClassId) (adr : Nat → Nat) (As : List Value) (M : yM) (o : Option String) (r : Option Value) (M' : yM) (mc ms : Nat) : Prop := ∀ sz, vx_Met l y ws rm (Pxy D cy adr sz As M) (Qox o D cy adr (yAA adr sz) r M') (Xox o D cy adr (yAA adr sz) M') mc ms (yAA adr sz)
def QX (K : yK) (D : va_G) (cy : Nat → ClassId) (adr : Nat → Nat) (o : Option String) (r : Option Value) (M' : yM) (mc ms : Nat) : State → Prop := match K with
  | (_, _, s, _, args, below, _, _, A) => vx_MQ below (Qox o D cy adr A r M') (Xox o D cy adr A M') args s mc ms A
def CX (K : yK) : Prop := match K with
  | (_, _, s, _, _, _, _, _, A) => yXP A s s.heap
def CT (K : yK) : Prop := match K with
  | (_, _, _, _, _, _, _, c, _) => ∀ x ∈ c.exceptionTable.toList, False
theorem Cv.mk {l : Launch} {y : MethodName} {ws ws' : List Cond} {rm : Room} {D : va_G} {cy : Nat → ClassId} {adr : Nat → Nat} {As : List Value} {M : yM} {o : Option String} {r : Option Value} {M' : yM} {mc ms : Nat} (cc : ByteArray) (maxL : Nat) (ret : Option FieldType) (own : String)
    (hy : plainName y.cls = true) (hw : ws = Cond.code y cc maxL ret :: ws') (ho : y.cls = own) (hn : (lg_sl As).length ≤ maxL)
    (body : ∀ K : yK, Cx K cc own ws maxL ret D cy → CX K → CT K → Y K l rm D cy adr maxL 0 0 (QX K D cy adr o r M' mc ms) M [] (lv_args 0 As) 0 []) : Cv l y ws rm D cy adr As M o r M' mc ms := by
  intro sz
  refine vx_ofW (cc := cc) (maxL := maxL) (ret := ret) hy hw ?_
  intro p e s m args below meth c s₁ B hml hct hv
  obtain ⟨⟨rfl, hsz, hP, hK, hD0⟩, hX⟩ := hv
  have hts := atoms_spec (ws := ws) B.pre
  have hown : s.vm.findClass own = some m.cls := by rw [← ho]; exact findClass_of_methodNamed B.named
  subst hsz
  have hl := lv_entry As (n := maxL) hn
  rw [lg_entry_eq]
  refine body (p, e, s, m, As.toArray, below, meth, c, yAA adr s.heap.size) ⟨B.exec, B.bytes, hml, hown, hts, hK, fun q h => Or.inr h, B.returns, B.notSynchronized⟩ hX hct s.heap [] _ (by rw [List.append_nil]; exact hP) ?_ va_S.rf hl
  rw [List.append_nil]
  refine ⟨hD0.1, fun k q hq => ?_⟩
  have hk : k < 55 := by
    have := (List.getElem?_eq_some_iff.mp hq).1
    rwa [ypl_len] at this
  have hq' := ypl_get (adr := adr) (cy := cy) (M := M) (E := []) hk
  rw [List.append_nil, hq] at hq'
  cases hq'
  exact Or.inl ⟨k, hk, rfl⟩
section
variable {K : yK} {l : Launch} {R : Room} {D : va_G} {cy : Nat → ClassId} {adr : Nat → Nat} {nL cells slots mc ms mc2 ms2 : Nat} {Q : State → Prop} {M M' M'' : yM} {E : va_W} {lv : List (Nat × Value)} {pc : Nat} {st : List Value} {cc : ByteArray} {own : String} {Ts : List Cond} {ret : Option FieldType} {r r2 : Option Value} {o o2 : Option String}
/-- it answers -/
theorem y_ok (ho : o = none) (k : Y K l R D cy adr nL cells slots (QT K D cy adr r M' mc ms) M E lv pc st) : Y K l R D cy adr nL cells slots (QX K D cy adr o r M' mc ms) M E lv pc st := by
  obtain ⟨p, e, s, m, args, below, meth, c, A⟩ := K
  intro H locs ls hP hD hS hl T hT X
  obtain ⟨t, a1, oc, b1, b2, b3, b4⟩ := k H locs ls hP hD hS hl T hT X
  exact ⟨t, a1, oc, b1, b2, Or.inl ⟨⟨ho, b3⟩, b4⟩⟩
theorem y_thr (C0 : Cx K cc own Ts nL ret D cy) (hX : CX K) (hT : CT K) (hlf : l.stackTraces = false) (hown4 : own = RX4) {ik is ic : Nat} {cls text : String} (hcls : cls ∈ yExs) (hq : (is, text) ∈ yStrs) (hk : Cond.classLink own ik cls ∈ Ts) (hini : Cond.initialized cls ∈ Ts) (hgw : ∀ w ∈ (vx_atS own ic cls yNs).filter goodWord, w ∈ Ts) (hng : ∀ w ∈ (vx_atS own ic cls yNs).filter (fun w => !goodWord w), w ∈ yBad) (hgood : ∀ w ∈ Cond.classLink own ik cls :: Cond.initialized cls :: vx_atS own ic cls yNs, vx_ot w = true)
    (d0 : decode cc pc = .ok (.new ik, 3)) (d3 : decode cc (pc + 3) = .ok (.dup, 1)) (d4 : decode cc (pc + 4) = .ok (.ldc is, 2)) (d6 : decode cc (pc + 6) = .ok (.invokespecial ic, 3)) (d9 : decode cc (pc + 9) = .ok (.athrow, 1))
    (hRf : 6 ≤ R.frames) (hRl : (st.map fun v => v.category).sum + 82 ≤ R.locals) (hRc : cells + 1 ≤ R.cells) (hRs : slots + 6 ≤ R.slots) (hc : cells + 1 ≤ mc) (hs : slots + 6 ≤ ms) (ho : o = some cls) (hM : M = M') : Y K l R D cy adr nL cells slots (QX K D cy adr o r M' mc ms) M E lv pc st := by
  subst hM
  obtain ⟨p, e, s, m, args, below, meth, c, A⟩ := K
  obtain ⟨hx, hb, hml, hown, hts, hK, hA, hr, hlk⟩ := C0
  obtain ⟨hU, hN, hst, hca⟩ := hX
  intro H locs ls hP hD hS hl
  obtain ⟨sa, hsa⟩ := hst _ hq
  refine vx_throwS (names := yNs) (text := text) (sa := sa) hx hb hlf hown ?_ (by decide +kernel) (hts _ hk) (hts _ hini) (by rw [hown4]; exact hsa) ?_ hgood hU hN hS (hl.1.trans hml.symm) d0 d3 d4 d6 d9 (fun x hx => (hT x hx).elim) hRf hRl hRc hRs hlk ?_ hS.2.2 hc hs
  · revert hcls; clear hng hgood; intro hcls
    simp only [yExs, List.mem_cons, List.not_mem_nil, or_false] at hcls
    rcases hcls with rfl | rfl | rfl <;> decide +kernel
  · exact vx_hat (B := yBad) (fun w hw => hts w (hgw w hw)) hng (fun w hw => va_Nw.use (yBad_tabs w hw) (hca w hw))
  · intro t hvm hz hk9
    refine ⟨ho, ?_, ?_⟩
    · exact (ypl_P hP).kept (fun k q hq => hk9 q.1 ((ypl_P hP) k q hq).lt)
    · refine ⟨Nat.le_trans hS.1 hz, fun q h1 h2 => ?_⟩
      rw [hk9 q (Nat.lt_of_lt_of_le h1 hS.1)]
      exact hS.2.1 q h1 h2
theorem y_whole {A : Nat → Prop} (hD : va_D A (ypl adr cy M ++ E)) : va_D (fun _ => True) (ypl adr cy M) := by
  have h9 := hD.sub (A := A) (ws' := ypl adr cy M) (List.range 55) (by decide +kernel) (by
    apply List.ext_getElem?
    intro i
    by_cases hi : i < 55
    · have := ypl_get (adr := adr) (cy := cy) (M := M) (E := []) hi
      rw [List.append_nil] at this
      simp [hi, ypl_get, this]
    · have h2 : (ypl adr cy M)[i]? = none := by rw [List.getElem?_eq_none_iff, ypl_len]; omega
      simp [hi, h2])
  exact h9.weaken (fun _ _ _ _ => trivial)
/-- behind a call that answered or threw -/
theorem y_joinX {p : Program} {e : Env} {s : State} {m : MethodId} {args : Array Value} {below : List Frame} {meth : Method} {c : Code} {A : Nat → Prop} {H : Heap} {locs : List Loc} {ls : Array Slot} {st0 rest : List Value} {a : Array Value}
    (hA : ∀ q, s.heap.size ≤ q → A q) (hP : va_P D vwCl (ypl adr cy M ++ E) H) (hD : va_D A (ypl adr cy M ++ E)) (hS : va_S A s.heap H locs) (hl : lv_has ls nL lv)
    (hr : vx_Run p l e R s m args below meth c H locs cells slots mc ms (F0 m pc ls st0) rest (Qox o D cy adr (yAA adr H.size) r M' a) (Xox o D cy adr (yAA adr H.size) M') (yAA adr H.size))
    (kk : o = none → Y (p, e, s, m, args, below, meth, c, A) l R D cy adr nL (cells + mc) (slots + ms) Q M' E lv (pc + 3) (r.toList ++ rest))
    (kx : ∀ (Ex : String) (H1 : Heap) (locs1 : List Loc) (q : Addr) (ce : Cell), o = some Ex → va_P D vwCl (ypl adr cy M' ++ E) H1 → va_D A (ypl adr cy M' ++ E) → va_S A s.heap H1 locs1 → H1[q]? = some ce → ce.vm = .none → s.vm.findClass Ex = some ce.cls → vx_W p l e R s m args below meth c H1 locs1 (cells + mc) (slots + ms) Q (F0 m pc ls rest) q) : W p l e R s m args below meth c H locs cells slots Q (F0 m pc ls st0) := by
  have hF : ∀ q, yAA adr H.size q → A q := by
    intro q h
    rcases h with ⟨j, hj, rfl⟩ | h
    · exact hD.2 j _ (ypl_get hj)
    · exact hA q (Nat.le_trans hS.1 h)
  have hE : ∀ (k : Nat) (q : Nat × va_E), E[k]? = some q → va_at D vwCl q H ∧ q.1 < H.size ∧ ¬ yAA adr H.size q.1 := by
    intro k q hq
    have hq' : (ypl adr cy M ++ E)[55 + k]? = some q := by rw [ypl_E]; exact hq
    refine ⟨hP _ _ hq', (hP _ _ hq').lt, fun h => ?_⟩
    rcases h with ⟨j, hj, h⟩ | h
    · have := hD.1 _ _ _ _ hq' (ypl_get (M := M) (cy := cy) (adr := adr) hj) h
      omega
    · have := (hP _ _ hq').lt
      omega
  intro T hT X
  have key : ∀ (st₀ t T' : State) (L : List Loc), st₀.heap = H → T'.heap = t.heap → (∀ q ∈ L, yAA adr H.size q.base) → va_P D vwCl (ypl adr cy M') t.heap → va_F (yAA adr H.size) st₀ t → va_P D vwCl (ypl adr cy M' ++ E) T'.heap ∧ va_S A s.heap T'.heap (locs ++ L) := by
    intro st₀ t T' L h0 e1 hL hp ⟨hz, hk⟩
    rw [h0] at hz hk
    refine ⟨?_, ?_⟩
    · rw [e1]
      exact va_P.app hp (fun k q hq => (hE k q hq).1.kept (hk q.1 (hE k q hq).2.1 (hE k q hq).2.2))
    · refine ⟨Nat.le_trans hS.1 (by rw [e1]; exact hz), fun q h1 h2 => ?_, fun q hq => ?_⟩
      · rw [e1, hk q (Nat.lt_of_lt_of_le h1 hS.1) (fun z => h2 (hF q z))]
        exact hS.2.1 q h1 h2
      · rcases List.mem_append.mp hq with h | h
        · exact hS.2.2 q h
        · exact hF _ (hL q h)
  rcases hr T hT X with ⟨v, st₀, t, T', L, h0, X', hL, e1, e2, ⟨ho, hv, hp, hF9⟩, sg⟩ | ⟨q, st₀, t, T', L, Ex, ce, h0, X', hL, e1, e2, ⟨ho, hp, hF9⟩, hce, hcv, hcl, sg⟩
  · cases hv
    obtain ⟨hP1, hS1⟩ := key st₀ t T' L h0 e1 hL hp hF9
    obtain ⟨t2, a1, b1⟩ := kk ho T'.heap (locs ++ L) ls hP1 (ypl_D hD) hS1 hl T' rfl X'
    exact ⟨t2, sg t2 a1, b1⟩
  · obtain ⟨hP1, hS1⟩ := key st₀ t T' L h0 e1 hL hp hF9
    obtain ⟨t2, a1, b1⟩ := kx Ex T'.heap (locs ++ L) q ce ho hP1 (ypl_D hD) hS1 (by rw [e1]; exact hce) hcv hcl T' rfl X'
    exact ⟨t2, sg.trans a1, b1⟩
/-- it goes on to the caller -/
theorem y_out {p : Program} {e : Env} {s : State} {m : MethodId} {args : Array Value} {below : List Frame} {meth : Method} {c : Code} {A : Nat → Prop} (hct : ∀ x ∈ c.exceptionTable.toList, False) (hlk : meth.locks = false) {ls : Array Slot} {rest : List Value} (hc : cells + mc ≤ mc2) (hs : slots + ms ≤ ms2)
    (Ex : String) (H1 : Heap) (locs1 : List Loc) (q : Addr) (ce : Cell) (ho : o2 = some Ex) (hP : va_P D vwCl (ypl adr cy M' ++ E) H1) (hS : va_S A s.heap H1 locs1) (hce : H1[q]? = some ce) (hcv : ce.vm = .none) (hcl : s.vm.findClass Ex = some ce.cls) :
    vx_W p l e R s m args below meth c H1 locs1 (cells + mc) (slots + ms) (QX (p, e, s, m, args, below, meth, c, A) D cy adr o2 r2 M' mc2 ms2) (F0 m pc ls rest) q :=
  vx_out (fun x hx => (hct x hx).elim) hlk hce hcv hcl (fun t ht hvm => ⟨ho, by rw [ht]; exact ypl_P hP, hS.F ht⟩) hS.2.2 hc hs
theorem y_callVX (C0 : Cx K cc own Ts nL ret D cy) (hX : CX K) (hT : CT K) {y : MethodName} {bytes : ByteArray} {maxL index : Nat} {rety : Option FieldType} {ws ws' : List Cond} {rm : Room} {C : String} {T : u_T} {N jb n : Nat} {As rest st0 : List Value}
    (hM : Cv l y ws rm D cy adr (.ref (adr jb) :: As) M o r M' mc ms) (ci : Nat) (hc : vwCl[ci]? = some (C, T, N)) (hci : ci < 6) (hkd : ykd jb = ci)
    (hG : GoodIn Ts (wsV own index C y ws)) (hw : ws = Cond.code y bytes maxL rety :: ws') (hrc : rm.cells = mc) (hrs : rm.slots = ms)
    (hd : y.cls = C ∧ y.cls ≠ "java/lang/invoke/MethodHandle" ∧ y.cls ≠ "java/lang/invoke/VarHandle" ∧ (parseMethodDescriptor y.desc).map (fun d => d.parameters.length) = some n) (hR : rm.frames + 1 ≤ R.frames ∧ 8 + (maxL + 11) + rm.locals ≤ R.locals)
    (hn : As.length = n) (hst : st0 = As.reverse ++ .ref (adr jb) :: rest) (hcat : (rest.map fun v => v.category).sum ≤ 8) (d : decode cc pc = .ok (.invokevirtual index, 3)) (hf : cells + mc ≤ R.cells ∧ slots + ms ≤ R.slots)
    (hox : ∀ Ex, o = some Ex → o2 = some Ex ∧ M' = M'') (hmc : cells + mc ≤ mc2) (hms : slots + ms ≤ ms2)
    (kk : o = none → Y K l R D cy adr nL (cells + mc) (slots + ms) (QX K D cy adr o2 r2 M'' mc2 ms2) M' E lv (pc + 3) (r.toList ++ rest)) : Y K l R D cy adr nL cells slots (QX K D cy adr o2 r2 M'' mc2 ms2) M E lv pc st0 := by
  obtain ⟨p, e, s, m, args, below, meth, c, A⟩ := K
  obtain ⟨hx, hb, hml, hown, hts, hK, hA, hr, hlk⟩ := C0
  intro H locs ls hP hD hS hl
  have he : (ypl adr cy M ++ E)[jb]? = some (adr jb, .inr (ci, yfs adr M jb (ynf ci))) := by
    rw [ypl_get (ykd_lt (by omega))]
    unfold ycl
    rw [if_pos (by omega), hkd]
  have hF : ∀ q, yAA adr H.size q → A q := by
    intro q h
    rcases h with ⟨j, hj, rfl⟩ | h
    · exact hD.2 j _ (ypl_get hj)
    · exact hA q (Nat.le_trans hS.1 h)
  refine y_joinX hA hP hD hS hl (vx_runV (As := As) (rest := rest) ⟨hx, hb, hml, hown, hts⟩ (hM H.size) (cwV n hts hG hw hrc hrs hd hR) ⟨Pxy_blind, va_recv hK hP hc he, fun U hU hW => ⟨⟨rfl, by rw [hU], by rw [hU]; exact ypl_P hP, va_K.moved hW.alike hK, y_whole hD⟩, yXP.to hX hU hW hS hF⟩⟩ rfl hn hl.1 hst (lv_room (Nat.le_trans hcat (Nat.le_refl 8))) d hf) kk ?_
  intro Ex H1 locs1 q ce ho hP1 hD1 hS1 hce hcv hcl
  obtain ⟨h1, h2⟩ := hox Ex ho
  subst h2
  exact y_out hT hlk hmc hms Ex H1 locs1 q ce h1 hP1 hS1 hce hcv hcl
theorem y_callSX (C0 : Cx K cc own Ts nL ret D cy) (hX : CX K) (hT : CT K) {y : MethodName} {bytes : ByteArray} {maxL index : Nat} {rety : Option FieldType} {ws ws' : List Cond} {rm : Room} {n : Nat} {As rest st0 : List Value}
    (hM : Cv l y ws rm D cy adr As M o r M' mc ms)
    (hG : GoodIn Ts (va_wsS own index y ws)) (hw : ws = Cond.code y bytes maxL rety :: ws') (hrc : rm.cells = mc) (hrs : rm.slots = ms)
    (hd : y.cls ≠ "java/lang/invoke/MethodHandle" ∧ y.cls ≠ "java/lang/invoke/VarHandle" ∧ (parseMethodDescriptor y.desc).map (fun d => d.parameters.length) = some n) (hR : rm.frames + 1 ≤ R.frames ∧ 8 + (maxL + 11) + rm.locals ≤ R.locals)
    (hn : As.length = n) (hst : st0 = As.reverse ++ rest) (hcat : (rest.map fun v => v.category).sum ≤ 8) (d : decode cc pc = .ok (.invokestatic index, 3)) (hf : cells + mc ≤ R.cells ∧ slots + ms ≤ R.slots)
    (hox : ∀ Ex, o = some Ex → o2 = some Ex ∧ M' = M'') (hmc : cells + mc ≤ mc2) (hms : slots + ms ≤ ms2)
    (kk : o = none → Y K l R D cy adr nL (cells + mc) (slots + ms) (QX K D cy adr o2 r2 M'' mc2 ms2) M' E lv (pc + 3) (r.toList ++ rest)) : Y K l R D cy adr nL cells slots (QX K D cy adr o2 r2 M'' mc2 ms2) M E lv pc st0 := by
  obtain ⟨p, e, s, m, args, below, meth, c, A⟩ := K
  obtain ⟨hx, hb, hml, hown, hts, hK, hA, hr, hlk⟩ := C0
  intro H locs ls hP hD hS hl
  have hF : ∀ q, yAA adr H.size q → A q := by
    intro q h
    rcases h with ⟨j, hj, rfl⟩ | h
    · exact hD.2 j _ (ypl_get hj)
    · exact hA q (Nat.le_trans hS.1 h)
  refine y_joinX hA hP hD hS hl (vx_runS (As := As) (rest := rest) ⟨hx, hb, hml, hown, hts⟩ (hM H.size) (va_cwS n hts hG hw hrc hrs hd hR) ⟨Pxy_blind, fun U hU hW => ⟨⟨rfl, by rw [hU], by rw [hU]; exact ypl_P hP, va_K.moved hW.alike hK, y_whole hD⟩, yXP.to hX hU hW hS hF⟩⟩ rfl hn hl.1 hst (lv_room (Nat.le_trans hcat (Nat.le_refl 8))) d hf) kk ?_
  intro Ex H1 locs1 q ce ho hP1 hD1 hS1 hce hcv hcl
  obtain ⟨h1, h2⟩ := hox Ex ho
  subst h2
  exact y_out hT hlk hmc hms Ex H1 locs1 q ce h1 hP1 hS1 hce hcv hcl
end
end YX
end
section
section YFS
theorem ngIAE : ∀ w ∈ (vx_atS RX4 23 yIAE yNs).filter (fun w => !goodWord w), w ∈ yBad := by decide +kernel
theorem ngISE : ∀ w ∈ (vx_atS RX4 38 yISE yNs).filter (fun w => !goodWord w), w ∈ yBad := by decide +kernel
theorem ngIOE : ∀ w ∈ (vx_atS RX4 113 yIOE yNs).filter (fun w => !goodWord w), w ∈ yBad := by decide +kernel
theorem gdIAE : ∀ w ∈ Cond.classLink RX4 19 yIAE :: Cond.initialized yIAE :: vx_atS RX4 23 yIAE yNs, vx_ot w = true := by decide +kernel
theorem gdISE : ∀ w ∈ Cond.classLink RX4 34 yISE :: Cond.initialized yISE :: vx_atS RX4 38 yISE yNs, vx_ot w = true := by decide +kernel
theorem gdIOE : ∀ w ∈ Cond.classLink RX4 109 yIOE :: Cond.initialized yIOE :: vx_atS RX4 113 yIOE yNs, vx_ot w = true := by decide +kernel
/-! THE FACE: o: what it throws, if so; the answer; the memory behind it -/
def thn (a b : Option String) : Option String := match a with | some e => some e | none => b
def mo (o : Option String) (a b : yM) : yM := match o with | none => a | some _ => b
theorem mo_n {o : Option String} {a b x : yM} (h : o = none) (e : x = a) : x = mo o a b := by subst h; exact e
theorem mo_t {o : Option String} {a b : yM} {e : String} (h : o = some e) : b = mo o a b := by subst h; rfl
noncomputable def okB (M : yM) (x : Int32) : Option String := by classical exact if wNo M 0 x then some yIOE else none
noncomputable def okS (M : yM) (x : Int32) : Option String := by classical exact if wNoS M 0 x then some yIOE else none
def okF (x : Int32) : Option String := if x < 0 then some yIOE else if x < 3 then none else some yIOE
def okK (w n : Int32) : Option String := if w < 0 then some yIOE else if w < n then none else some yIOE
def okH (h : Int32) : Option String := if h < 1 then some yIAE else if h ≤ 120 then none else some yIAE
theorem okB_n {M : yM} {x : Int32} (h : okB M x = none) : ∃ b : Nat, b < 15 ∧ x = nI b ∧ ¬ M 0 3 ≤ nI b := by
  unfold okB at h
  split at h
  · cases h
  · rename_i hn; exact wNo_not hn
theorem okS_n {M : yM} {x : Int32} (h : okS M x = none) : ∃ b : Nat, b < 5 ∧ x = nI b ∧ ¬ M 0 4 ≤ nI b := by
  unfold okS at h
  split at h
  · cases h
  · rename_i hn; exact wNoS_not hn
theorem okF_n {x : Int32} (h : okF x = none) : ∃ f : Nat, f < 3 ∧ x = nI f := by
  unfold okF at h
  split at h
  · cases h
  · split at h
    · rename_i h1 h2
      obtain ⟨f, hf, rfl⟩ := nI_of h1
      refine ⟨f, ?_, rfl⟩
      exact (nI_ltI (b := 3) hf (by decide)).mp h2
    · cases h
theorem okB_t {M : yM} {x : Int32} (h : wNo M 0 x) : okB M x = some yIOE := by unfold okB; rw [if_pos h]
theorem okB_f {M : yM} {x : Int32} (h : ¬ wNo M 0 x) : okB M x = none := by unfold okB; rw [if_neg h]
theorem okS_t {M : yM} {x : Int32} (h : wNoS M 0 x) : okS M x = some yIOE := by unfold okS; rw [if_pos h]
theorem okS_f {M : yM} {x : Int32} (h : ¬ wNoS M 0 x) : okS M x = none := by unfold okS; rw [if_neg h]
def cN (x : Int32) : Nat := x.toNatClampNeg
theorem cN_n {n : Nat} (h : n < 2 ^ 31) : cN (nI n) = n := nI_clamp h
def bkI (x : Int32) : Nat := 0 + 4 + cN x
def swI (x : Int32) : Nat := 0 + 19 + cN x
def frI (x : Int32) : Nat := 0 + 24 + cN x
theorem bkI_n {n : Nat} (h : n < 15) : bkI (nI n) = 0 + 4 + n := by unfold bkI; rw [cN_n (by omega)]
theorem swI_n {n : Nat} (h : n < 5) : swI (nI n) = 0 + 19 + n := by unfold swI; rw [cN_n (by omega)]
theorem frI_n {n : Nat} (h : n < 3) : frI (nI n) = 0 + 24 + n := by unfold frI; rw [cN_n (by omega)]
def ordO (B : Nat) (s h e : Int32) : Option String := if s < 1 then some yIAE else if s ≤ 24 then (if h < 1 then some yIAE else if h ≤ 8 then (if e < 0 then some yIAE else if e ≤ 3 then (if B < 15 then none else some yISE) else some yIAE) else some yIAE) else some yIAE
def ordM (M : yM) (B : Nat) (s h e : Int32) : yM := yinc (va_up M (0 + 4 + B) (bBegin (M (0 + 4 + B)) s h e)) 0 3 1
noncomputable def unpO (M : yM) (x : Int32) : Option String := thn (okB M x) (if M (bkI x) 4 = 1 then none else some yISE)
def unpM (M : yM) (b : Nat) : yM := va_up (wClr M 0 (M b 0) 3) b (bUndo (wClr M 0 (M b 0) 3 b))
noncomputable def selO (M : yM) (x : Int32) : Option String := thn (okB M x) (if M (bkI x) 4 = 5 then none else some yISE)
def selM (M : yM) (b : Nat) : yM := yinc (yst M b 4 6) 0 6 (bVal (yst M b 4 6 b))
def hirO (B : Nat) (s : Int32) : Option String := if s < 1 then some yIAE else if s ≤ 9 then (if B < 5 then none else some yISE) else some yIAE
def hirM (M : yM) (B : Nat) (s : Int32) : yM := yinc (yst M (0 + 19 + B) 1 s) 0 4 1
noncomputable def seaO (M : yM) (x f : Int32) : Option String := thn (okS M x) (if f = -1 then none else if f < 0 then some yIOE else if f < 3 then (if wOth M 0 f x 5 < 2 then none else some yISE) else some yIOE)
def strO (M : yM) (f c : Int32) : Option String := thn (okF f) (if c < 2 then some yIAE else if c ≤ 6 then (if M (frI f) 2 = -1 then none else some yISE) else some yIAE)
def prc (w x : Int32) : Int32 := if w = 0 then (x + 4) / 5 else if w = 1 then 3 * x else 2 * x
def buyO (M : yM) (w x : Int32) : Option String := if w < 0 then some yIOE else if w ≤ 2 then (if x < 1 then some yIAE else if x ≤ 200 then (if prc w x ≤ M 0 6 then none else some yISE) else some yIAE) else some yIOE
def buyA (M : yM) (w x : Int32) : yM := ydec M 0 6 (prc w x)
def forO (h w : Int32) : Option String := thn (okH h) (if w < 2 then some yIOE else if 14 < w then some yIOE else if w = 8 then some yIOE else if w = 9 then some yIOE else none)
end YFS
end
section
section YFT
theorem wSetB_at {M : yM} {o a : Nat} (hd : a + 19 ≤ o ∨ o + 19 ≤ a) : ∀ n, n ≤ 15 → ∀ j, wSetB M o a n j = if o + 4 ≤ j ∧ j < o + 4 + n then bSet (M j) (M (a + 4 + (j - (o + 4)))) else M j := by
  intro n
  induction n with
  | zero => intro _ j; rw [if_neg (by omega)]; rfl
  | succ n ih =>
    intro hn j
    have h := ih (by omega)
    rw [wSetB]
    by_cases hj : j = o + 4 + n
    · subst hj
      rw [up_s, h, if_neg (by omega), h, if_neg (by omega), if_pos (by omega)]
      congr 2
      omega
    · rw [up_n hj, h]
      by_cases hc : o + 4 ≤ j ∧ j < o + 4 + n
      · rw [if_pos hc, if_pos (by omega)]
      · rw [if_neg hc, if_neg (by omega)]
theorem wSetS_at {M : yM} {o a : Nat} (hd : a + 24 ≤ o ∨ o + 24 ≤ a) : ∀ n, n ≤ 5 → ∀ j, wSetS M o a n j = if o + 19 ≤ j ∧ j < o + 19 + n then sSet (M j) (M (a + 19 + (j - (o + 19)))) else M j := by
  intro n
  induction n with
  | zero => intro _ j; rw [if_neg (by omega)]; rfl
  | succ n ih =>
    intro hn j
    have h := ih (by omega)
    rw [wSetS]
    by_cases hj : j = o + 19 + n
    · subst hj
      rw [up_s, h, if_neg (by omega), h, if_neg (by omega), if_pos (by omega)]
      congr 2
      omega
    · rw [up_n hj, h]
      by_cases hc : o + 19 ≤ j ∧ j < o + 19 + n
      · rw [if_pos hc, if_pos (by omega)]
      · rw [if_neg hc, if_neg (by omega)]
theorem wSetF_at {M : yM} {o a : Nat} (hd : a + 27 ≤ o ∨ o + 27 ≤ a) : ∀ n, n ≤ 3 → ∀ j, wSetF M o a n j = if o + 24 ≤ j ∧ j < o + 24 + n then fSet (M j) (M (a + 24 + (j - (o + 24)))) else M j := by
  intro n
  induction n with
  | zero => intro _ j; rw [if_neg (by omega)]; rfl
  | succ n ih =>
    intro hn j
    have h := ih (by omega)
    rw [wSetF]
    by_cases hj : j = o + 24 + n
    · subst hj
      rw [up_s, h, if_neg (by omega), h, if_neg (by omega), if_pos (by omega)]
      congr 2
      omega
    · rw [up_n hj, h]
      by_cases hc : o + 24 ≤ j ∧ j < o + 24 + n
      · rw [if_pos hc, if_pos (by omega)]
      · rw [if_neg hc, if_neg (by omega)]
/-- ahead is set to now -/
def wCopy (M : yM) : yM := wSet M 27 0
theorem wCopy_A {M : yM} (j : Nat) : wSetA M 27 0 j = if 27 + 24 ≤ j ∧ j < 27 + 27 then fSet (M j) (M (24 + (j - 51))) else if 27 + 19 ≤ j ∧ j < 27 + 24 then sSet (M j) (M (19 + (j - 46))) else if 27 + 4 ≤ j ∧ j < 27 + 19 then bSet (M j) (M (4 + (j - 31))) else M j := by
  unfold wSetA
  rw [wSetF_at (Or.inl (by decide)) 3 (Nat.le_refl _)]
  by_cases h1 : 27 + 24 ≤ j ∧ j < 27 + 27
  · rw [if_pos (by omega), if_pos h1, wSetS_at (Or.inl (by decide)) 5 (Nat.le_refl _), if_neg (by omega), wSetB_at (Or.inl (by decide)) 15 (Nat.le_refl _), if_neg (by omega), wSetS_at (Or.inl (by decide)) 5 (Nat.le_refl _), if_neg (by omega), wSetB_at (Or.inl (by decide)) 15 (Nat.le_refl _), if_neg (by omega)]
  · rw [if_neg (by omega), if_neg h1, wSetS_at (Or.inl (by decide)) 5 (Nat.le_refl _)]
    by_cases h2 : 27 + 19 ≤ j ∧ j < 27 + 24
    · rw [if_pos (by omega), if_pos h2, wSetB_at (Or.inl (by decide)) 15 (Nat.le_refl _), if_neg (by omega), wSetB_at (Or.inl (by decide)) 15 (Nat.le_refl _), if_neg (by omega)]
    · rw [if_neg (by omega), if_neg h2, wSetB_at (Or.inl (by decide)) 15 (Nat.le_refl _)]
theorem wCopy_bk {M : yM} {i : Nat} (hi : i < 15) : wCopy M (27 + 4 + i) = bSet (M (27 + 4 + i)) (M (0 + 4 + i)) := by
  show wSet M 27 0 _ = _
  unfold wSet
  rw [up_n (by omega), wCopy_A, if_neg (by omega), if_neg (by omega), if_pos (by omega)]
  congr 2
  omega
theorem wCopy_sw {M : yM} {i : Nat} (hi : i < 5) : wCopy M (27 + 19 + i) = sSet (M (27 + 19 + i)) (M (0 + 19 + i)) := by
  show wSet M 27 0 _ = _
  unfold wSet
  rw [up_n (by omega), wCopy_A, if_neg (by omega), if_pos (by omega)]
  congr 2
  omega
theorem wCopy_fr {M : yM} {i : Nat} (hi : i < 3) : wCopy M (27 + 24 + i) = fSet (M (27 + 24 + i)) (M (0 + 24 + i)) := by
  show wSet M 27 0 _ = _
  unfold wSet
  rw [up_n (by omega), wCopy_A, if_pos (by omega)]
  congr 2
  omega
theorem wCopy_row {M : yM} : wCopy M 27 = wRow (M 27) (M 0) := by
  show wSet M 27 0 _ = _
  unfold wSet
  rw [up_s, wCopy_A, wCopy_A, if_neg (by decide), if_neg (by decide), if_neg (by decide), if_neg (by decide), if_neg (by decide), if_neg (by decide)]
theorem wCopy_out {M : yM} {j : Nat} (h : ¬ (27 ≤ j ∧ j < 54)) : wCopy M j = M j := by
  show wSet M 27 0 _ = _
  unfold wSet
  rw [up_n (by omega), wCopy_A, if_neg (by omega), if_neg (by omega), if_neg (by omega)]
theorem wSpOK_copy {M : yM} (h : wSpOK M 0) : wSpOK (wCopy M) 27 := by
  intro i hi
  obtain ⟨v, hv, e⟩ := h i hi
  refine ⟨v, hv, ?_⟩
  rw [wCopy_sw hi]
  unfold sSet
  rw [if_pos (by decide)]
  exact e
theorem wSpOK_cp {M : yM} (h : wSpOK M 0) : wSpOK (wSet M 27 0) 27 := wSpOK_copy h
/-- the first of 1 .. n at which p holds -/
def hF (p : Nat → Bool) : Nat → Option Nat | 0 => none | n + 1 => match hF p n with | some k => some k | none => if p (n + 1) = true then some (n + 1) else none
theorem hF_up {p : Nat → Bool} {n k : Nat} (h : hF p n = some k) : ∀ d, hF p (n + d) = some k := by
  intro d
  induction d with
  | zero => exact h
  | succ d ih => rw [← Nat.add_assoc, hF, ih]
theorem hF_s {p : Nat → Bool} {i N : Nat} (h : hF p i = none) (hp : p (i + 1) = true) (hi : i < N) : hF p N = some (i + 1) := by
  have h1 : hF p (i + 1) = some (i + 1) := by rw [hF, h]; simp [hp]
  have := hF_up h1 (N - (i + 1))
  rwa [show i + 1 + (N - (i + 1)) = N by omega] at this
theorem hF_n {p : Nat → Bool} {i : Nat} (h : hF p i = none) (hp : p (i + 1) = false) : hF p (i + 1) = none := by rw [hF, h]; simp [hp]
noncomputable def utP (M : yM) (j : Nat) : Nat → Bool := fun h => decide (wHours (wSet M 27 0) 27 h j 4 = 5)
noncomputable def utH (M : yM) (b : Nat) : Option Nat := hF (utP M (27 + 4 + b)) 250
def hR (o : Option Nat) : Int32 := match o with | some h => nI h | none => -1
def hX (o : Option Nat) : Nat := match o with | some h => h | none => 250
noncomputable def utR (M : yM) (b : Nat) : Int32 := if M (0 + 4 + b) 4 < 5 then hR (utH M b) else 0
noncomputable def utM (M : yM) (b : Nat) : yM := if M (0 + 4 + b) 4 < 5 then wHours (wSet M 27 0) 27 (hX (utH M b)) else M
noncomputable def nxP (M : yM) : Nat → Bool := fun h => !decide (wHourR (wHours (wSet M 27 0) 27 (h - 1)) 27 ≤ 0)
noncomputable def nxH (M : yM) : Option Nat := hF (nxP M) 250
/-- the first book that isn't done now, and is ahead -/
def fdA (M : yM) : Nat → Option Nat | 0 => none | n + 1 => match fdA M n with | some i => some i | none => if M (0 + 4 + n) 4 < 5 then (if M (27 + 4 + n) 4 = 5 then some n else none) else none
def fdR (M : yM) : Int32 := match fdA M 15 with | some i => nI i | none => -1
noncomputable def nxM (M : yM) : yM := wHours (wSet M 27 0) 27 (hX (nxH M))
noncomputable def nxR (M : yM) : Int32 := match nxH M with | some h => fdR (wHours (wSet M 27 0) 27 h) | none => -1
theorem fdA_up {M : yM} {n k : Nat} (h : fdA M n = some k) : ∀ d, fdA M (n + d) = some k := by
  intro d
  induction d with
  | zero => exact h
  | succ d ih => rw [← Nat.add_assoc, fdA, ih]
theorem fdA_s {M : yM} {i : Nat} (h : fdA M i = none) (h1 : M (0 + 4 + i) 4 < 5) (h2 : M (27 + 4 + i) 4 = 5) (hi : i < 15) : fdR M = nI i := by
  have h3 : fdA M (i + 1) = some i := by rw [fdA, h]; simp [h1, h2]
  have := fdA_up h3 (15 - (i + 1))
  rw [show i + 1 + (15 - (i + 1)) = 15 by omega] at this
  unfold fdR
  rw [this]
theorem fdA_a {M : yM} {i : Nat} (h : fdA M i = none) (h1 : ¬ M (0 + 4 + i) 4 < 5) : fdA M (i + 1) = none := by rw [fdA, h]; simp only [if_neg h1]
theorem fdA_b {M : yM} {i : Nat} (h : fdA M i = none) (h2 : ¬ M (27 + 4 + i) 4 = 5) : fdA M (i + 1) = none := by
  rw [fdA, h]
  simp only [if_neg h2]
  split <;> rfl
theorem fdR_n {M : yM} (h : fdA M 15 = none) : fdR M = -1 := by unfold fdR; rw [h]
/-- what would be sewn in 12 hours -/
def saA (M : yM) (b : Nat) (f : Int32) : yM := yst (wSet M 27 0) (27 + 19 + b) 2 f
noncomputable def saM (M : yM) (b : Nat) (f : Int32) : yM := wHours (saA M b f) 27 12
noncomputable def saR (M : yM) (b : Nat) (f : Int32) : Int32 := saM M b f 27 10
theorem wSpOK_sa {M : yM} {b : Nat} {f : Int32} (h : wSpOK M 0) : wSpOK (saA M b f) 27 := by
  intro i hi
  obtain ⟨v, hv, e⟩ := wSpOK_cp h i hi
  refine ⟨v, hv, ?_⟩
  unfold saA
  by_cases hb : i = b
  · subst hb; rw [yst_at, if_neg (by decide)]; exact e
  · rw [yst_row (by omega)]; exact e
/-- advise's loop: the best, the most, the memory -/
noncomputable def adM (M : yM) (x : Int32) : Nat → yM | 0 => M | n + 1 => if 2 ≤ wOth (adM M x n) 0 (nI n) x 5 then adM M x n else saM (adM M x n) (cN x) (nI n)
noncomputable def adT (M : yM) (x : Int32) : Nat → Int32 | 0 => -1 | n + 1 => if 2 ≤ wOth (adM M x n) 0 (nI n) x 5 then adT M x n else if saR (adM M x n) (cN x) (nI n) ≤ adT M x n then adT M x n else saR (adM M x n) (cN x) (nI n)
noncomputable def adB (M : yM) (x : Int32) : Nat → Int32 | 0 => -1 | n + 1 => if 2 ≤ wOth (adM M x n) 0 (nI n) x 5 then adB M x n else if saR (adM M x n) (cN x) (nI n) ≤ adT M x n then adB M x n else nI n
/-- out of the class's ahead nothing changes -/
def nOut (M M' : yM) : Prop := ∀ j, ¬ (27 ≤ j ∧ j < 54) → M' j = M j
theorem nOut_copy {M : yM} : nOut M (wSet M 27 0) := fun _ h => wCopy_out h
theorem nOut_h {M M' : yM} (h : wOut M M' 27) : nOut M M' := fun j hj => h j (by omega) (by omega) (by omega)
theorem nOut.tr {M M' M'' : yM} (h : nOut M M') (k : nOut M' M'') : nOut M M'' := fun j hj => (k j hj).trans (h j hj)
theorem nOut_saM {M : yM} {b : Nat} {f : Int32} (hb : b < 5) : nOut M (saM M b f) := by
  refine nOut.tr (M' := saA M b f) (fun j hj => ?_) (nOut_h (wOut_hours 12))
  unfold saA
  rw [yst_row (by omega)]
  exact wCopy_out hj
theorem nOut_adM {M : yM} {x : Int32} (hb : cN x < 5) : ∀ n, nOut M (adM M x n) := by
  intro n
  induction n with
  | zero => exact fun _ _ => rfl
  | succ n ih =>
    rw [adM]
    split
    · exact ih
    · exact ih.tr (nOut_saM hb)
theorem wSpOK_n {M M' : yM} (h : wSpOK M 0) (k : nOut M M') : wSpOK M' 0 := by
  intro i hi
  obtain ⟨v, hv, e⟩ := h i hi
  exact ⟨v, hv, by rw [k _ (by omega)]; exact e⟩
def woT (M : yM) : Nat → Int32 | 0 => 0 | n + 1 => if M (0 + 4 + n) 4 = 5 then woT M n + bVal (M (0 + 4 + n)) else woT M n
theorem okB_e {M : yM} {x : Int32} (h : okB M x = none) : cN x < 15 ∧ x = nI (cN x) ∧ ¬ M 0 3 ≤ nI (cN x) := by
  obtain ⟨b, hb, rfl, hc⟩ := okB_n h
  rw [cN_n (by omega)]
  exact ⟨hb, rfl, hc⟩
theorem okS_e {M : yM} {x : Int32} (h : okS M x = none) : cN x < 5 ∧ x = nI (cN x) ∧ ¬ M 0 4 ≤ nI (cN x) := by
  obtain ⟨b, hb, rfl, hc⟩ := okS_n h
  rw [cN_n (by omega)]
  exact ⟨hb, rfl, hc⟩
theorem okF_e {x : Int32} (h : okF x = none) : cN x < 3 ∧ x = nI (cN x) := by
  obtain ⟨b, hb, rfl⟩ := okF_n h
  rw [cN_n (by omega)]
  exact ⟨hb, rfl⟩
theorem okB_k {M : yM} {x : Int32} (h : okB M x = none) : ykd (bkI x) = 0 := ykd_bk (Or.inl rfl) (okB_e h).1
theorem okS_k {M : yM} {x : Int32} (h : okS M x = none) : ykd (swI x) = 2 := ykd_sw (Or.inl rfl) (okS_e h).1
theorem okF_k {x : Int32} (h : okF x = none) : ykd (frI x) = 1 := ykd_fr (Or.inl rfl) (okF_e h).1
theorem wSet_3 {M : yM} : wSet M 27 0 27 3 = M 0 3 := by
  have h : wSet M 27 0 27 = wRow (M 27) (M 0) := wCopy_row
  rw [h, wRow, if_pos (by decide)]
theorem wSet_4 {M : yM} : wSet M 27 0 27 4 = M 0 4 := by
  have h : wSet M 27 0 27 = wRow (M 27) (M 0) := wCopy_row
  rw [h, wRow, if_pos (by decide)]
theorem ut_done {M : yM} {b : Nat} (h : ¬ M (0 + 4 + b) 4 < 5) : utR M b = 0 ∧ utM M b = M := by unfold utR utM; rw [if_neg h, if_neg h]; exact ⟨rfl, rfl⟩
theorem ut_some {M : yM} {b i : Nat} (h : M (0 + 4 + b) 4 < 5) (hn : hF (utP M (27 + 4 + b)) i = none) (hi : i < 250) (h5 : wHours (wSet M 27 0) 27 (i + 1) (27 + 4 + b) 4 = 5) : utR M b = nI (i + 1) ∧ utM M b = wHours (wSet M 27 0) 27 (i + 1) := by
  have e : utH M b = some (i + 1) := hF_s hn (decide_eq_true h5) hi
  unfold utR utM
  rw [if_pos h, if_pos h, e]
  exact ⟨rfl, rfl⟩
theorem ut_none {M : yM} {b : Nat} (h : M (0 + 4 + b) 4 < 5) (hn : hF (utP M (27 + 4 + b)) 250 = none) : utR M b = -1 ∧ utM M b = wHours (wSet M 27 0) 27 250 := by
  have e : utH M b = none := hn
  unfold utR utM
  rw [if_pos h, if_pos h, e]
  exact ⟨rfl, rfl⟩
theorem nx_some {M : yM} {i : Nat} (hn : hF (nxP M) i = none) (hi : i < 250) (h5 : ¬ wHourR (wHours (wSet M 27 0) 27 i) 27 ≤ 0) : nxR M = fdR (wHours (wSet M 27 0) 27 (i + 1)) ∧ nxM M = wHours (wSet M 27 0) 27 (i + 1) := by
  have e : nxH M = some (i + 1) := hF_s hn (by show (!decide (wHourR (wHours (wSet M 27 0) 27 i) 27 ≤ 0)) = true; rw [decide_eq_false h5]; rfl) hi
  unfold nxR nxM
  rw [e]
  exact ⟨rfl, rfl⟩
theorem nx_no {M : yM} {i : Nat} (hn : hF (nxP M) i = none) (h5 : wHourR (wHours (wSet M 27 0) 27 i) 27 ≤ 0) : hF (nxP M) (i + 1) = none := hF_n hn (by show (!decide (wHourR (wHours (wSet M 27 0) 27 i) 27 ≤ 0)) = false; rw [decide_eq_true h5]; rfl)
theorem nx_none {M : yM} (hn : hF (nxP M) 250 = none) : nxR M = -1 ∧ nxM M = wHours (wSet M 27 0) 27 250 := by
  have e : nxH M = none := hn
  unfold nxR nxM
  rw [e]
  exact ⟨rfl, rfl⟩
theorem okS_out {M M' : yM} {x : Int32} (h : nOut M M') : okS M' x = okS M x := by
  unfold okS wNoS
  rw [h 0 (by omega)]
/-! mean, digest -/
def meT (M : yM) : Nat → Int32 | 0 => 0 | n + 1 => if M (0 + 4 + n) 4 = -1 then meT M n else if M (0 + 4 + n) 4 = 6 then meT M n else meT M n + bVal (M (0 + 4 + n))
def meN (M : yM) : Nat → Nat | 0 => 0 | n + 1 => if M (0 + 4 + n) 4 = -1 then meN M n else if M (0 + 4 + n) 4 = 6 then meN M n else meN M n + 1
theorem meN_le {M : yM} : ∀ n, meN M n ≤ n := by
  intro n
  induction n with
  | zero => exact Nat.le_refl _
  | succ n ih =>
    rw [meN]
    split
    · omega
    · split <;> omega
def meD (a b : Int32) : UInt64 := if b = 0 then 0 else FP.ddiv (FP.i2d a) (FP.i2d b)
noncomputable def dgA (M : yM) : Nat → Int64 | 0 => 1367 | n + 1 => dgA M n * 31 + (wTellA M 0 (nI n)).toInt64
noncomputable def dgF (M : yM) (d : Int64) (f : Nat) : Nat → Int64 | 0 => d | n + 1 => dgF M d f n * 31 + (wTellF M 0 f (nI n)).toInt64
noncomputable def dgFs (M : yM) : Nat → Int64 | 0 => dgA M 15 | n + 1 => dgF M (dgFs M n) n 6
noncomputable def dgS (M : yM) (d : Int64) (f : Nat) : Nat → Int64 | 0 => d | n + 1 => dgS M d f n * 31 + (sTell (M (0 + 19 + f)) (nI n)).toInt64
noncomputable def dgSs (M : yM) : Nat → Int64 | 0 => dgFs M 3 | n + 1 => dgS M (dgSs M n) n 2
noncomputable def dgB (M : yM) (S : Nat) (d : Int64) (f : Nat) : Nat → Int64 | 0 => d | n + 1 => dgB M S d f n * 31 + (bTell (M (0 + 4 + f)) (nI n)).toInt64
noncomputable def dgBs (M : yM) (S : Nat) : Nat → Int64 | 0 => dgSs M S | n + 1 => dgB M S (dgBs M S n) n 11
end YFT
end
section
section YZ
abbrev rX4_checkKind : Room := { frames := 6, cells := 1, slots := 6, locals := 90 }
set_option maxRecDepth 100000 in
set_option maxHeartbeats 4000000 in
theorem mX4_checkKind (l : Launch) (hlf : l.stackTraces = false) (D : va_G) (cy : Nat → ClassId) (adr : Nat → Nat) (M : yM) (w : Int32) (n : Int32)  : Cv l yX4_checkKind wsX4_checkKind rX4_checkKind D cy adr [.int w, .int n] M (okK w n) (none) (M) 1 6 := by
  refine Cv.mk cX4_checkKind 2 none RX4 (by decide) rfl rfl (Nat.le_of_ble_eq_true rfl) ?_
  intro K C0 hX hT
  refine y_eq rfl (show ([(0, .int w), (1, .int n)] : List (Nat × Value)) = lv_args 0 [.int w, .int n] from rfl) rfl ?_
  have hgwIOE : ∀ w ∈ (vx_atS RX4 113 yIOE yNs).filter goodWord, w ∈ wsX4_checkKind := by decide +kernel
  refine y_iload_n C0 0 dX4_checkKind_0 rfl rfl ?_
  refine y_if_lt C0 9 dX4_checkKind_1 (by decide) (fun c_1 => ?_) (fun c_1 => ?_)
  · exact y_thr C0 hX hT hlf rfl (cls := yIOE) (is := 207) (text := "nothing is told under this number") (by decide) (by decide) (by decide +kernel) (by decide +kernel) hgwIOE ngIOE gdIOE dX4_checkKind_9 dX4_checkKind_12 dX4_checkKind_13 dX4_checkKind_15 dX4_checkKind_18 (by decide) (Nat.le_of_ble_eq_true rfl) (by decide) (by decide) (by decide) (by decide) (by simp [okK, thn, c_1]) rfl
  · refine y_iload_n C0 0 dX4_checkKind_4 rfl rfl ?_
    refine y_iload_n C0 1 dX4_checkKind_5 rfl rfl ?_
    refine y_icmp_lt C0 19 dX4_checkKind_6 (by decide) (fun c_6 => ?_) (fun c_6 => ?_)
    · have ho9 : (okK w n) = none := by simp [okK, thn, c_1, c_6]
      refine y_ok ho9 ?_
      refine y_widen (k := 1) (n := 6) (by decide) (by decide) ?_
      exact y_vret C0 dX4_checkKind_19 rfl rfl
    · exact y_thr C0 hX hT hlf rfl (cls := yIOE) (is := 207) (text := "nothing is told under this number") (by decide) (by decide) (by decide +kernel) (by decide +kernel) hgwIOE ngIOE gdIOE dX4_checkKind_9 dX4_checkKind_12 dX4_checkKind_13 dX4_checkKind_15 dX4_checkKind_18 (by decide) (Nat.le_of_ble_eq_true rfl) (by decide) (by decide) (by decide) (by decide) (by simp [okK, thn, c_1, c_6]) rfl
abbrev rX4_checkHours : Room := { frames := 6, cells := 1, slots := 6, locals := 90 }
set_option maxRecDepth 100000 in
set_option maxHeartbeats 4000000 in
theorem mX4_checkHours (l : Launch) (hlf : l.stackTraces = false) (D : va_G) (cy : Nat → ClassId) (adr : Nat → Nat) (M : yM) (h : Int32)  : Cv l yX4_checkHours wsX4_checkHours rX4_checkHours D cy adr [.int h] M (okH h) (none) (M) 1 6 := by
  refine Cv.mk cX4_checkHours 1 none RX4 (by decide) rfl rfl (Nat.le_of_ble_eq_true rfl) ?_
  intro K C0 hX hT
  refine y_eq rfl (show ([(0, .int h)] : List (Nat × Value)) = lv_args 0 [.int h] from rfl) rfl ?_
  have hgwIAE : ∀ w ∈ (vx_atS RX4 23 yIAE yNs).filter goodWord, w ∈ wsX4_checkHours := by decide +kernel
  refine y_iload_n C0 0 dX4_checkHours_0 rfl rfl ?_
  refine y_iconst (v := 1) C0 dX4_checkHours_1 (by decide) ?_
  refine y_icmp_lt C0 11 dX4_checkHours_2 (by decide) (fun c_2 => ?_) (fun c_2 => ?_)
  · exact y_thr C0 hX hT hlf rfl (cls := yIAE) (is := 209) (text := "hours are 1 to 120") (by decide) (by decide) (by decide +kernel) (by decide +kernel) hgwIAE ngIAE gdIAE dX4_checkHours_11 dX4_checkHours_14 dX4_checkHours_15 dX4_checkHours_17 dX4_checkHours_20 (by decide) (Nat.le_of_ble_eq_true rfl) (by decide) (by decide) (by decide) (by decide) (by simp [okH, thn, c_2]) rfl
  · refine y_iload_n C0 0 dX4_checkHours_5 rfl rfl ?_
    refine y_bipush (v := 120) C0 dX4_checkHours_6 (by decide) ?_
    refine y_icmp_le C0 21 dX4_checkHours_8 (by decide) (fun c_8 => ?_) (fun c_8 => ?_)
    · have ho9 : (okH h) = none := by simp [okH, thn, c_2, c_8]
      refine y_ok ho9 ?_
      refine y_widen (k := 1) (n := 6) (by decide) (by decide) ?_
      exact y_vret C0 dX4_checkHours_21 rfl rfl
    · exact y_thr C0 hX hT hlf rfl (cls := yIAE) (is := 209) (text := "hours are 1 to 120") (by decide) (by decide) (by decide +kernel) (by decide +kernel) hgwIAE ngIAE gdIAE dX4_checkHours_11 dX4_checkHours_14 dX4_checkHours_15 dX4_checkHours_17 dX4_checkHours_20 (by decide) (Nat.le_of_ble_eq_true rfl) (by decide) (by decide) (by decide) (by decide) (by simp [okH, thn, c_2, c_8]) rfl
abbrev rX4_priceOf : Room := { frames := 0, cells := 0, slots := 0, locals := 0 }
set_option maxRecDepth 100000 in
set_option maxHeartbeats 4000000 in
theorem mX4_priceOf (l : Launch) (D : va_G) (cy : Nat → ClassId) (adr : Nat → Nat) (M : yM) (w : Int32) (x : Int32)  : Ct l yX4_priceOf wsX4_priceOf rX4_priceOf D cy adr [.int w, .int x] M (some (.int (prc w x))) (M) 0 0 := by
  refine Ct.mk cX4_priceOf 2 (some .int) RX4 (by decide) rfl rfl (Nat.le_of_ble_eq_true rfl) ?_
  intro K C0
  refine y_eq rfl (show ([(0, .int w), (1, .int x)] : List (Nat × Value)) = lv_args 0 [.int w, .int x] from rfl) rfl ?_
  refine y_iload_n C0 0 dX4_priceOf_0 rfl rfl ?_
  by_cases s_1_0 : w = 0
  · refine y_lsw (off := 27) C0 dX4_priceOf_1 rfl (by rw [s_1_0]; try rfl) (tgt := 28) (by decide) ?_
    refine y_iload_n C0 1 dX4_priceOf_28 rfl rfl ?_
    refine y_iconst (v := 4) C0 dX4_priceOf_29 (by decide) ?_
    refine y_iadd C0 dX4_priceOf_30 ?_
    refine y_iconst (v := 5) C0 dX4_priceOf_31 (by decide) ?_
    refine y_idiv C0 dX4_priceOf_32 (by decide) ?_
    exact y_iret C0 dX4_priceOf_33 (by simp [prc, s_1_0]) rfl
  by_cases s_1_1 : w = 1
  · refine y_lsw (off := 33) C0 dX4_priceOf_1 rfl (by rw [s_1_1]; try rfl) (tgt := 34) (by decide) ?_
    refine y_iconst (v := 3) C0 dX4_priceOf_34 (by decide) ?_
    refine y_iload_n C0 1 dX4_priceOf_35 rfl rfl ?_
    refine y_imul C0 dX4_priceOf_36 ?_
    exact y_iret C0 dX4_priceOf_37 (by simp [prc, s_1_1]) rfl
  refine y_lsw (off := 37) C0 dX4_priceOf_1 rfl ((lv_osw s_1_0 rfl).trans (lv_osw s_1_1 rfl)) (tgt := 38) (by decide) ?_
  refine y_iconst (v := 2) C0 dX4_priceOf_38 (by decide) ?_
  refine y_iload_n C0 1 dX4_priceOf_39 rfl rfl ?_
  refine y_imul C0 dX4_priceOf_40 ?_
  exact y_iret C0 dX4_priceOf_41 (by simp [prc, s_1_0, s_1_1]) rfl
abbrev rX4_knownBook : Room := { frames := 6, cells := 1, slots := 6, locals := 90 }
set_option maxRecDepth 100000 in
set_option maxHeartbeats 4000000 in
theorem mX4_knownBook (l : Launch) (hlf : l.stackTraces = false) (D : va_G) (cy : Nat → ClassId) (adr : Nat → Nat) (M : yM) (x : Int32)  : Cv l yX4_knownBook wsX4_knownBook rX4_knownBook D cy adr [.ref (adr 54), .int x] M (okB M x) (some (.ref (adr (bkI x)))) (M) 1 6 := by
  refine Cv.mk cX4_knownBook 3 (some (.object "SewingFrames$Book")) RX4 (by decide) rfl rfl (Nat.le_of_ble_eq_true rfl) ?_
  intro K C0 hX hT
  refine y_eq rfl (show ([(0, .ref (adr 54)), (1, .int x)] : List (Nat × Value)) = lv_args 0 [.ref (adr 54), .int x] from rfl) rfl ?_
  have hin4 : ∀ w ∈ u_ws RX4 TX4 2, w ∈ wsX4_knownBook := by decide +kernel
  have hgwIOE : ∀ w ∈ (vx_atS RX4 113 yIOE yNs).filter goodWord, w ∈ wsX4_knownBook := by decide +kernel
  refine y_aload_n C0 0 dX4_knownBook_0 rfl rfl ?_
  refine y_get C0 4 rfl rfl (by decide) hin4 0 ykd_54 (by decide) (by decide +kernel) yv4_now dX4_knownBook_1 ?_
  refine y_iload_n C0 1 dX4_knownBook_4 rfl rfl ?_
  by_cases hn : wNo M 0 x
  · refine y_callV (As := [_]) (rest := _) (n := 1) C0 (mX3_bookNumbered_n l D cy adr _ 0 (Or.inl rfl) _ hn) 3 rfl (by decide) ykd_now gX4_knownBook_X3_bookNumbered rfl rfl rfl (by decide +kernel) ⟨by decide, by decide⟩ rfl rfl (Nat.le_of_ble_eq_true rfl) dX4_knownBook_5 ⟨by decide, by decide⟩ ?_
    refine y_astore_nN C0 [(2, _), (0, _), (1, _)] dX4_knownBook_8 rfl (by decide) rfl ?_
    refine y_aload_nN C0 0 dX4_knownBook_9 rfl rfl ?_
    refine y_ifnonnullN C0 dX4_knownBook_10 ?_
    exact y_thr C0 hX hT hlf rfl (cls := yIOE) (is := 200) (text := "there is no such book") (by decide) (by decide) (by decide +kernel) (by decide +kernel) hgwIOE ngIOE gdIOE dX4_knownBook_13 dX4_knownBook_16 dX4_knownBook_17 dX4_knownBook_19 dX4_knownBook_22 (by decide) (Nat.le_of_ble_eq_true rfl) (by decide) (by decide) (by decide) (by decide) (okB_t hn) rfl
  obtain ⟨b, hb, eb, hcb⟩ := wNo_not hn
  refine y_top eb ?_
  refine y_callV (As := [_]) (rest := _) (n := 1) C0 (mX3_bookNumbered l D cy adr _ 0 (Or.inl rfl) b hb hcb) 3 rfl (by decide) ykd_now gX4_knownBook_X3_bookNumbered rfl rfl rfl (by decide +kernel) ⟨by decide, by decide⟩ rfl rfl (Nat.le_of_ble_eq_true rfl) dX4_knownBook_5 ⟨by decide, by decide⟩ ?_
  refine y_astore_n C0 [(2, _), (0, _), (1, _)] dX4_knownBook_8 rfl (by decide) rfl ?_
  refine y_aload_n C0 0 dX4_knownBook_9 rfl rfl ?_
  refine y_ifnonnull C0 23 dX4_knownBook_10 (by decide) ?_
  refine y_aload_n C0 0 dX4_knownBook_23 rfl rfl ?_
  have ho9 : (okB M x) = none := okB_f hn
  refine y_ok ho9 ?_
  refine y_widen (k := 1) (n := 6) (by decide) (by decide) ?_
  exact y_aret C0 (Or.inr ⟨_, rfl⟩) dX4_knownBook_24 (by rw [eb, bkI_n hb]) rfl
abbrev rX4_knownSewer : Room := { frames := 6, cells := 1, slots := 6, locals := 90 }
set_option maxRecDepth 100000 in
set_option maxHeartbeats 4000000 in
theorem mX4_knownSewer (l : Launch) (hlf : l.stackTraces = false) (D : va_G) (cy : Nat → ClassId) (adr : Nat → Nat) (M : yM) (x : Int32)  : Cv l yX4_knownSewer wsX4_knownSewer rX4_knownSewer D cy adr [.ref (adr 54), .int x] M (okS M x) (some (.ref (adr (swI x)))) (M) 1 6 := by
  refine Cv.mk cX4_knownSewer 3 (some (.object "SewingFrames$Sewer")) RX4 (by decide) rfl rfl (Nat.le_of_ble_eq_true rfl) ?_
  intro K C0 hX hT
  refine y_eq rfl (show ([(0, .ref (adr 54)), (1, .int x)] : List (Nat × Value)) = lv_args 0 [.ref (adr 54), .int x] from rfl) rfl ?_
  have hin4 : ∀ w ∈ u_ws RX4 TX4 2, w ∈ wsX4_knownSewer := by decide +kernel
  have hgwIOE : ∀ w ∈ (vx_atS RX4 113 yIOE yNs).filter goodWord, w ∈ wsX4_knownSewer := by decide +kernel
  refine y_aload_n C0 0 dX4_knownSewer_0 rfl rfl ?_
  refine y_get C0 4 rfl rfl (by decide) hin4 0 ykd_54 (by decide) (by decide +kernel) yv4_now dX4_knownSewer_1 ?_
  refine y_iload_n C0 1 dX4_knownSewer_4 rfl rfl ?_
  by_cases hn : wNoS M 0 x
  · refine y_callV (As := [_]) (rest := _) (n := 1) C0 (mX3_sewerNumbered_n l D cy adr _ 0 (Or.inl rfl) _ hn) 3 rfl (by decide) ykd_now gX4_knownSewer_X3_sewerNumbered rfl rfl rfl (by decide +kernel) ⟨by decide, by decide⟩ rfl rfl (Nat.le_of_ble_eq_true rfl) dX4_knownSewer_5 ⟨by decide, by decide⟩ ?_
    refine y_astore_nN C0 [(2, _), (0, _), (1, _)] dX4_knownSewer_8 rfl (by decide) rfl ?_
    refine y_aload_nN C0 0 dX4_knownSewer_9 rfl rfl ?_
    refine y_ifnonnullN C0 dX4_knownSewer_10 ?_
    exact y_thr C0 hX hT hlf rfl (cls := yIOE) (is := 205) (text := "there is no such sewer") (by decide) (by decide) (by decide +kernel) (by decide +kernel) hgwIOE ngIOE gdIOE dX4_knownSewer_13 dX4_knownSewer_16 dX4_knownSewer_17 dX4_knownSewer_19 dX4_knownSewer_22 (by decide) (Nat.le_of_ble_eq_true rfl) (by decide) (by decide) (by decide) (by decide) (okS_t hn) rfl
  obtain ⟨b, hb, eb, hcb⟩ := wNoS_not hn
  refine y_top eb ?_
  refine y_callV (As := [_]) (rest := _) (n := 1) C0 (mX3_sewerNumbered l D cy adr _ 0 (Or.inl rfl) b hb hcb) 3 rfl (by decide) ykd_now gX4_knownSewer_X3_sewerNumbered rfl rfl rfl (by decide +kernel) ⟨by decide, by decide⟩ rfl rfl (Nat.le_of_ble_eq_true rfl) dX4_knownSewer_5 ⟨by decide, by decide⟩ ?_
  refine y_astore_n C0 [(2, _), (0, _), (1, _)] dX4_knownSewer_8 rfl (by decide) rfl ?_
  refine y_aload_n C0 0 dX4_knownSewer_9 rfl rfl ?_
  refine y_ifnonnull C0 23 dX4_knownSewer_10 (by decide) ?_
  refine y_aload_n C0 0 dX4_knownSewer_23 rfl rfl ?_
  have ho9 : (okS M x) = none := okS_f hn
  refine y_ok ho9 ?_
  refine y_widen (k := 1) (n := 6) (by decide) (by decide) ?_
  exact y_aret C0 (Or.inr ⟨_, rfl⟩) dX4_knownSewer_24 (by rw [eb, swI_n hb]) rfl
abbrev rX4_knownFrame : Room := { frames := 6, cells := 1, slots := 6, locals := 90 }
set_option maxRecDepth 100000 in
set_option maxHeartbeats 4000000 in
theorem mX4_knownFrame (l : Launch) (hlf : l.stackTraces = false) (D : va_G) (cy : Nat → ClassId) (adr : Nat → Nat) (M : yM) (f : Int32)  : Cv l yX4_knownFrame wsX4_knownFrame rX4_knownFrame D cy adr [.ref (adr 54), .int f] M (okF f) (some (.ref (adr (frI f)))) (M) 1 6 := by
  refine Cv.mk cX4_knownFrame 2 (some (.object "SewingFrames$Frame")) RX4 (by decide) rfl rfl (Nat.le_of_ble_eq_true rfl) ?_
  intro K C0 hX hT
  refine y_eq rfl (show ([(0, .ref (adr 54)), (1, .int f)] : List (Nat × Value)) = lv_args 0 [.ref (adr 54), .int f] from rfl) rfl ?_
  have hin3 : ∀ w ∈ u_ws RX3 TX3 12, w ∈ wsX4_knownFrame := by decide +kernel
  have hin4 : ∀ w ∈ u_ws RX4 TX4 2, w ∈ wsX4_knownFrame := by decide +kernel
  have hgwIOE : ∀ w ∈ (vx_atS RX4 113 yIOE yNs).filter goodWord, w ∈ wsX4_knownFrame := by decide +kernel
  refine y_iload_n C0 1 dX4_knownFrame_0 rfl rfl ?_
  refine y_if_lt C0 16 dX4_knownFrame_1 (by decide) (fun c_1 => ?_) (fun c_1 => ?_)
  · exact y_thr C0 hX hT hlf rfl (cls := yIOE) (is := 111) (text := "there is no such frame") (by decide) (by decide) (by decide +kernel) (by decide +kernel) hgwIOE ngIOE gdIOE dX4_knownFrame_16 dX4_knownFrame_19 dX4_knownFrame_20 dX4_knownFrame_22 dX4_knownFrame_25 (by decide) (Nat.le_of_ble_eq_true rfl) (by decide) (by decide) (by decide) (by decide) (by unfold okF; first | rw [if_pos c_1] | rw [if_neg c_1, if_neg (show ¬ f < 3 from c_13)]) rfl
  · refine y_iload_n C0 1 dX4_knownFrame_4 rfl rfl ?_
    refine y_aload_n C0 0 dX4_knownFrame_5 rfl rfl ?_
    refine y_get C0 4 rfl rfl (by decide) hin4 0 ykd_54 (by decide) (by decide +kernel) yv4_now dX4_knownFrame_6 ?_
    refine y_get C0 3 rfl rfl (by decide) hin3 2 ykd_now (by decide) (by decide +kernel) (yv3_frames ykd_now) dX4_knownFrame_9 ?_
    refine y_alen C0 9 (ykd_w3 (Or.inl rfl)) (by decide) (by decide) dX4_knownFrame_12 ?_
    refine y_icmp_lt C0 26 dX4_knownFrame_13 (by decide) (fun c_13 => ?_) (fun c_13 => ?_)
    · refine y_aload_n C0 0 dX4_knownFrame_26 rfl rfl ?_
      refine y_get C0 4 rfl rfl (by decide) hin4 0 ykd_54 (by decide) (by decide +kernel) yv4_now dX4_knownFrame_27 ?_
      refine y_get C0 3 rfl rfl (by decide) hin3 2 ykd_now (by decide) (by decide +kernel) (yv3_frames ykd_now) dX4_knownFrame_30 ?_
      refine y_iload_n C0 1 dX4_knownFrame_33 rfl rfl ?_
      obtain ⟨f0, hf, ef⟩ := okF_n (x := f) (by simp [okF, c_1, show f < 3 from c_13])
      refine y_top ef ?_
      refine y_aald C0 (f0) 9 (ykd_w3 (Or.inl rfl)) (by decide) (by decide) rfl (by omega : f0 < 3) (yel_fr (Or.inl rfl)) dX4_knownFrame_34 ?_
      have ho9 : (okF f) = none := by unfold okF; rw [if_neg c_1, if_pos (show f < 3 from c_13)]
      refine y_ok ho9 ?_
      refine y_widen (k := 1) (n := 6) (by decide) (by decide) ?_
      exact y_aret C0 (Or.inr ⟨_, rfl⟩) dX4_knownFrame_35 (by rw [ef, frI_n hf]) rfl
    · exact y_thr C0 hX hT hlf rfl (cls := yIOE) (is := 111) (text := "there is no such frame") (by decide) (by decide) (by decide +kernel) (by decide +kernel) hgwIOE ngIOE gdIOE dX4_knownFrame_16 dX4_knownFrame_19 dX4_knownFrame_20 dX4_knownFrame_22 dX4_knownFrame_25 (by decide) (Nat.le_of_ble_eq_true rfl) (by decide) (by decide) (by decide) (by decide) (by unfold okF; first | rw [if_pos c_1] | rw [if_neg c_1, if_neg (show ¬ f < 3 from c_13)]) rfl
abbrev rX4_told : Room := { frames := 7, cells := 2, slots := 12, locals := 112 }
set_option maxRecDepth 100000 in
set_option maxHeartbeats 4000000 in
theorem mX4_told (l : Launch) (hlf : l.stackTraces = false) (D : va_G) (cy : Nat → ClassId) (adr : Nat → Nat) (M : yM) (x : Int32) (w : Int32)  : Cv l yX4_told wsX4_told rX4_told D cy adr [.ref (adr 54), .int x, .int w] M (thn (okB M x) (okK w 11)) (some (.int (bTell (M (bkI x)) w))) (M) 2 12 := by
  refine Cv.mk cX4_told 4 (some .int) RX4 (by decide) rfl rfl (Nat.le_of_ble_eq_true rfl) ?_
  intro K C0 hX hT
  refine y_eq rfl (show ([(0, .ref (adr 54)), (1, .int x), (2, .int w)] : List (Nat × Value)) = lv_args 0 [.ref (adr 54), .int x, .int w] from rfl) rfl ?_
  refine y_aload_n C0 0 dX4_told_0 rfl rfl ?_
  refine y_iload_n C0 1 dX4_told_1 rfl rfl ?_
  refine y_callVX (As := [_]) (rest := _) (n := 1) C0 hX hT (mX4_knownBook l hlf D cy adr _ _) 4 rfl (by decide) ykd_54 gX4_told_X4_knownBook rfl rfl rfl (by decide +kernel) ⟨by decide, by decide⟩ rfl rfl (Nat.le_of_ble_eq_true rfl) dX4_told_2 ⟨by decide, by decide⟩ (fun Ex hE => ⟨by simp [thn, hE], rfl⟩) (by decide) (by decide) (fun k_2 => ?_)
  refine y_astore_n C0 [(3, _), (0, _), (1, _), (2, _)] dX4_told_5 rfl (by decide) rfl ?_
  refine y_iload_n C0 3 dX4_told_6 rfl rfl ?_
  refine y_bipush (v := 11) C0 dX4_told_7 (by decide) ?_
  refine y_callSX (As := [_, _]) (rest := _) (n := 2) C0 hX hT (mX4_checkKind l hlf D cy adr _ _ _) gX4_told_X4_checkKind rfl rfl rfl (by decide +kernel) ⟨by decide, by decide⟩ rfl rfl (Nat.le_of_ble_eq_true rfl) dX4_told_9 ⟨by decide, by decide⟩ (fun Ex hE => ⟨by simp [thn, hE, k_2], rfl⟩) (by decide) (by decide) (fun k_9 => ?_)
  refine y_aload_n C0 0 dX4_told_12 rfl rfl ?_
  refine y_iload_n C0 3 dX4_told_13 rfl rfl ?_
  refine y_callV (As := [_]) (rest := _) (n := 1) C0 (mX0_tell l D cy adr _ _ (okB_k k_2) _) 0 rfl (by decide) (okB_k k_2) gX4_told_X0_tell rfl rfl rfl (by decide +kernel) ⟨by decide, by decide⟩ rfl rfl (Nat.le_of_ble_eq_true rfl) dX4_told_14 ⟨by decide, by decide⟩ ?_
  have ho9 : (thn (okB M x) (okK w 11)) = none := by simp [thn, k_2, k_9]
  refine y_ok ho9 ?_
  refine y_widen (k := 2) (n := 12) (by decide) (by decide) ?_
  exact y_iret C0 dX4_told_17 rfl rfl
abbrev rX4_frame : Room := { frames := 7, cells := 2, slots := 12, locals := 111 }
set_option maxRecDepth 100000 in
set_option maxHeartbeats 4000000 in
theorem mX4_frame (l : Launch) (hlf : l.stackTraces = false) (D : va_G) (cy : Nat → ClassId) (adr : Nat → Nat) (M : yM) (f : Int32) (w : Int32)  : Cv l yX4_frame wsX4_frame rX4_frame D cy adr [.ref (adr 54), .int f, .int w] M (thn (okF f) (okK w 6)) (some (.int (wTellF M 0 (cN f) w))) (M) 2 12 := by
  refine Cv.mk cX4_frame 4 (some .int) RX4 (by decide) rfl rfl (Nat.le_of_ble_eq_true rfl) ?_
  intro K C0 hX hT
  refine y_eq rfl (show ([(0, .ref (adr 54)), (1, .int f), (2, .int w)] : List (Nat × Value)) = lv_args 0 [.ref (adr 54), .int f, .int w] from rfl) rfl ?_
  have hin4 : ∀ w ∈ u_ws RX4 TX4 2, w ∈ wsX4_frame := by decide +kernel
  refine y_aload_n C0 0 dX4_frame_0 rfl rfl ?_
  refine y_iload_n C0 1 dX4_frame_1 rfl rfl ?_
  refine y_callVX (As := [_]) (rest := _) (n := 1) C0 hX hT (mX4_knownFrame l hlf D cy adr _ _) 4 rfl (by decide) ykd_54 gX4_frame_X4_knownFrame rfl rfl rfl (by decide +kernel) ⟨by decide, by decide⟩ rfl rfl (Nat.le_of_ble_eq_true rfl) dX4_frame_2 ⟨by decide, by decide⟩ (fun Ex hE => ⟨by simp [thn, hE], rfl⟩) (by decide) (by decide) (fun k_2 => ?_)
  refine y_astore_n C0 [(3, _), (0, _), (1, _), (2, _)] dX4_frame_5 rfl (by decide) rfl ?_
  refine y_iload_n C0 3 dX4_frame_6 rfl rfl ?_
  refine y_bipush (v := 6) C0 dX4_frame_7 (by decide) ?_
  refine y_callSX (As := [_, _]) (rest := _) (n := 2) C0 hX hT (mX4_checkKind l hlf D cy adr _ _ _) gX4_frame_X4_checkKind rfl rfl rfl (by decide +kernel) ⟨by decide, by decide⟩ rfl rfl (Nat.le_of_ble_eq_true rfl) dX4_frame_9 ⟨by decide, by decide⟩ (fun Ex hE => ⟨by simp [thn, hE, k_2], rfl⟩) (by decide) (by decide) (fun k_9 => ?_)
  refine y_aload_n C0 1 dX4_frame_12 rfl rfl ?_
  refine y_get C0 4 rfl rfl (by decide) hin4 0 ykd_54 (by decide) (by decide +kernel) yv4_now dX4_frame_13 ?_
  refine y_aload_n C0 0 dX4_frame_16 rfl rfl ?_
  refine y_iload_n C0 3 dX4_frame_17 rfl rfl ?_
  refine y_callV (As := [_, _]) (rest := _) (n := 2) C0 (mX3_tellOfFrame l D cy adr _ 0 (Or.inl rfl) (cN f) (okF_e k_2).1 _) 3 rfl (by decide) ykd_now gX4_frame_X3_tellOfFrame rfl rfl rfl (by decide +kernel) ⟨by decide, by decide⟩ rfl rfl (Nat.le_of_ble_eq_true rfl) dX4_frame_18 ⟨by decide, by decide⟩ ?_
  have ho9 : (thn (okF f) (okK w 6)) = none := by simp [thn, k_2, k_9]
  refine y_ok ho9 ?_
  refine y_widen (k := 2) (n := 12) (by decide) (by decide) ?_
  exact y_iret C0 dX4_frame_21 rfl rfl
abbrev rX4_count : Room := { frames := 7, cells := 1, slots := 6, locals := 111 }
set_option maxRecDepth 100000 in
set_option maxHeartbeats 4000000 in
theorem mX4_count (l : Launch) (hlf : l.stackTraces = false) (D : va_G) (cy : Nat → ClassId) (adr : Nat → Nat) (M : yM) (w : Int32)  : Cv l yX4_count wsX4_count rX4_count D cy adr [.ref (adr 54), .int w] M (okK w 15) (some (.int (wTellA M 0 w))) (M) 1 6 := by
  refine Cv.mk cX4_count 2 (some .int) RX4 (by decide) rfl rfl (Nat.le_of_ble_eq_true rfl) ?_
  intro K C0 hX hT
  refine y_eq rfl (show ([(0, .ref (adr 54)), (1, .int w)] : List (Nat × Value)) = lv_args 0 [.ref (adr 54), .int w] from rfl) rfl ?_
  have hin4 : ∀ w ∈ u_ws RX4 TX4 2, w ∈ wsX4_count := by decide +kernel
  refine y_iload_n C0 1 dX4_count_0 rfl rfl ?_
  refine y_bipush (v := 15) C0 dX4_count_1 (by decide) ?_
  refine y_callSX (As := [_, _]) (rest := _) (n := 2) C0 hX hT (mX4_checkKind l hlf D cy adr _ _ _) gX4_count_X4_checkKind rfl rfl rfl (by decide +kernel) ⟨by decide, by decide⟩ rfl rfl (Nat.le_of_ble_eq_true rfl) dX4_count_3 ⟨by decide, by decide⟩ (fun Ex hE => ⟨by simp [thn, hE], rfl⟩) (by decide) (by decide) (fun k_3 => ?_)
  refine y_aload_n C0 0 dX4_count_6 rfl rfl ?_
  refine y_get C0 4 rfl rfl (by decide) hin4 0 ykd_54 (by decide) (by decide +kernel) yv4_now dX4_count_7 ?_
  refine y_iload_n C0 1 dX4_count_10 rfl rfl ?_
  refine y_callV (As := [_]) (rest := _) (n := 1) C0 (mX3_tellOfAll l D cy adr _ 0 (Or.inl rfl) _) 3 rfl (by decide) ykd_now gX4_count_X3_tellOfAll rfl rfl rfl (by decide +kernel) ⟨by decide, by decide⟩ rfl rfl (Nat.le_of_ble_eq_true rfl) dX4_count_11 ⟨by decide, by decide⟩ ?_
  have ho9 : (okK w 15) = none := by simp [thn, k_3]
  refine y_ok ho9 ?_
  refine y_widen (k := 1) (n := 6) (by decide) (by decide) ?_
  exact y_iret C0 dX4_count_14 rfl rfl
abbrev rX4_order : Room := { frames := 6, cells := 1, slots := 6, locals := 90 }
set_option maxRecDepth 100000 in
set_option maxHeartbeats 4000000 in
theorem mX4_order (l : Launch) (hlf : l.stackTraces = false) (D : va_G) (cy : Nat → ClassId) (adr : Nat → Nat) (M : yM) (s : Int32) (h : Int32) (e : Int32) (B : Nat) (hB : B ≤ 15) (eB : M 0 3 = nI B) : Cv l yX4_order wsX4_order rX4_order D cy adr [.ref (adr 54), .int s, .int h, .int e] M (ordO B s h e) (some (.int (ordM M B s h e (0 + 4 + B) 0))) (mo (ordO B s h e) (ordM M B s h e) M) 1 6 := by
  refine Cv.mk cX4_order 5 (some .int) RX4 (by decide) rfl rfl (Nat.le_of_ble_eq_true rfl) ?_
  intro K C0 hX hT
  refine y_eq rfl (show ([(0, .ref (adr 54)), (1, .int s), (2, .int h), (3, .int e)] : List (Nat × Value)) = lv_args 0 [.ref (adr 54), .int s, .int h, .int e] from rfl) rfl ?_
  have hin0 : ∀ w ∈ u_ws RX0 TX0 13, w ∈ wsX4_order := by decide +kernel
  have hin3 : ∀ w ∈ u_ws RX3 TX3 12, w ∈ wsX4_order := by decide +kernel
  have hin4 : ∀ w ∈ u_ws RX4 TX4 2, w ∈ wsX4_order := by decide +kernel
  have hgwIAE : ∀ w ∈ (vx_atS RX4 23 yIAE yNs).filter goodWord, w ∈ wsX4_order := by decide +kernel
  have hgwISE : ∀ w ∈ (vx_atS RX4 38 yISE yNs).filter goodWord, w ∈ wsX4_order := by decide +kernel
  refine y_iload_n C0 1 dX4_order_0 rfl rfl ?_
  refine y_iconst (v := 1) C0 dX4_order_1 (by decide) ?_
  refine y_icmp_lt C0 11 dX4_order_2 (by decide) (fun c_2 => ?_) (fun c_2 => ?_)
  · exact y_thr C0 hX hT hlf rfl (cls := yIAE) (is := 21) (text := "signatures are 1 to 24") (by decide) (by decide) (by decide +kernel) (by decide +kernel) hgwIAE ngIAE gdIAE dX4_order_11 dX4_order_14 dX4_order_15 dX4_order_17 dX4_order_20 (by decide) (Nat.le_of_ble_eq_true rfl) (by decide) (by decide) (by decide) (by decide) (by simp [ordO, thn, c_2]) (mo_t (e := yIAE) (by simp [ordO, thn, c_2]))
  · refine y_iload_n C0 1 dX4_order_5 rfl rfl ?_
    refine y_bipush (v := 24) C0 dX4_order_6 (by decide) ?_
    refine y_icmp_le C0 21 dX4_order_8 (by decide) (fun c_8 => ?_) (fun c_8 => ?_)
    · refine y_iload_n C0 2 dX4_order_21 rfl rfl ?_
      refine y_iconst (v := 1) C0 dX4_order_22 (by decide) ?_
      refine y_icmp_lt C0 32 dX4_order_23 (by decide) (fun c_23 => ?_) (fun c_23 => ?_)
      · exact y_thr C0 hX hT hlf rfl (cls := yIAE) (is := 26) (text := "sheets are 1 to 8") (by decide) (by decide) (by decide +kernel) (by decide +kernel) hgwIAE ngIAE gdIAE dX4_order_32 dX4_order_35 dX4_order_36 dX4_order_38 dX4_order_41 (by decide) (Nat.le_of_ble_eq_true rfl) (by decide) (by decide) (by decide) (by decide) (by simp [ordO, thn, c_2, c_8, c_23]) (mo_t (e := yIAE) (by simp [ordO, thn, c_2, c_8, c_23]))
      · refine y_iload_n C0 2 dX4_order_26 rfl rfl ?_
        refine y_bipush (v := 8) C0 dX4_order_27 (by decide) ?_
        refine y_icmp_le C0 42 dX4_order_29 (by decide) (fun c_29 => ?_) (fun c_29 => ?_)
        · refine y_iload_n C0 3 dX4_order_42 rfl rfl ?_
          refine y_if_lt C0 51 dX4_order_43 (by decide) (fun c_43 => ?_) (fun c_43 => ?_)
          · exact y_thr C0 hX hT hlf rfl (cls := yIAE) (is := 28) (text := "edges are 0 to 3") (by decide) (by decide) (by decide +kernel) (by decide +kernel) hgwIAE ngIAE gdIAE dX4_order_51 dX4_order_54 dX4_order_55 dX4_order_57 dX4_order_60 (by decide) (Nat.le_of_ble_eq_true rfl) (by decide) (by decide) (by decide) (by decide) (by simp [ordO, thn, c_2, c_8, c_23, c_29, c_43]) (mo_t (e := yIAE) (by simp [ordO, thn, c_2, c_8, c_23, c_29, c_43]))
          · refine y_iload_n C0 3 dX4_order_46 rfl rfl ?_
            refine y_iconst (v := 3) C0 dX4_order_47 (by decide) ?_
            refine y_icmp_le C0 61 dX4_order_48 (by decide) (fun c_48 => ?_) (fun c_48 => ?_)
            · refine y_aload_n C0 0 dX4_order_61 rfl rfl ?_
              refine y_get C0 4 rfl rfl (by decide) hin4 0 ykd_54 (by decide) (by decide +kernel) yv4_now dX4_order_62 ?_
              by_cases hn : ¬ B < 15
              · refine y_callV (As := []) (rest := _) (n := 0) C0 (mX3_freeBook_n l D cy adr _ 0 (Or.inl rfl) (by rw [eB]; exact nI_le (by omega) (by omega))) 3 rfl (by decide) ykd_now gX4_order_X3_freeBook rfl rfl rfl (by decide +kernel) ⟨by decide, by decide⟩ rfl rfl (Nat.le_of_ble_eq_true rfl) dX4_order_65 ⟨by decide, by decide⟩ ?_
                refine y_astoreN C0 [(4, _), (0, _), (1, _), (2, _), (3, _)] dX4_order_68 (by decide) rfl ?_
                refine y_aloadN C0 0 dX4_order_70 rfl ?_
                refine y_ifnonnullN C0 dX4_order_72 ?_
                exact y_thr C0 hX hT hlf rfl (cls := yISE) (is := 36) (text := "no more books can be ordered") (by decide) (by decide) (by decide +kernel) (by decide +kernel) hgwISE ngISE gdISE dX4_order_75 dX4_order_78 dX4_order_79 dX4_order_81 dX4_order_84 (by decide) (Nat.le_of_ble_eq_true rfl) (by decide) (by decide) (by decide) (by decide) (by simp [ordO, thn, c_2, c_8, c_23, c_29, c_43, c_48, hn]) (mo_t (e := yISE) (by simp [ordO, thn, c_2, c_8, c_23, c_29, c_43, c_48, hn]))
              simp only [Classical.not_not] at hn
              refine y_callV (As := []) (rest := _) (n := 0) C0 (mX3_freeBook l D cy adr _ 0 (Or.inl rfl) B hn eB) 3 rfl (by decide) ykd_now gX4_order_X3_freeBook rfl rfl rfl (by decide +kernel) ⟨by decide, by decide⟩ rfl rfl (Nat.le_of_ble_eq_true rfl) dX4_order_65 ⟨by decide, by decide⟩ ?_
              refine y_astore C0 [(4, _), (0, _), (1, _), (2, _), (3, _)] dX4_order_68 (by decide) rfl ?_
              refine y_aload C0 0 dX4_order_70 rfl ?_
              refine y_ifnonnull C0 85 dX4_order_72 (by decide) ?_
              refine y_aload C0 0 dX4_order_85 rfl ?_
              refine y_iload_n C0 2 dX4_order_87 rfl rfl ?_
              refine y_iload_n C0 3 dX4_order_88 rfl rfl ?_
              refine y_iload_n C0 4 dX4_order_89 rfl rfl ?_
              refine y_callV (As := [_, _, _]) (rest := _) (n := 3) C0 (mX0_begin l D cy adr _ _ (ykd_bk (Or.inl rfl) hn) _ _ _) 0 rfl (by decide) (ykd_bk (Or.inl rfl) hn) gX4_order_X0_begin rfl rfl rfl (by decide +kernel) ⟨by decide, by decide⟩ rfl rfl (Nat.le_of_ble_eq_true rfl) dX4_order_90 ⟨by decide, by decide⟩ ?_
              refine y_aload_n C0 1 dX4_order_93 rfl rfl ?_
              refine y_get C0 4 rfl rfl (by decide) hin4 0 ykd_54 (by decide) (by decide +kernel) yv4_now dX4_order_94 ?_
              refine y_dup C0 dX4_order_97 rfl ?_
              refine y_get C0 3 rfl rfl (by decide) hin3 3 ykd_now (by decide) (by decide +kernel) (yvi3 ykd_now (by decide)) dX4_order_98 ?_
              refine y_iconst (v := 1) C0 dX4_order_101 (by decide) ?_
              refine y_iadd C0 dX4_order_102 ?_
              refine y_put C0 3 rfl rfl (by decide) hin3 tyX3 tyX3_ok nmX3 3 ykd_now (by decide) (by decide +kernel) (yrn3 ykd_now (by decide)) rfl (by decide +kernel) dX4_order_103 ?_
              refine y_aload C0 0 dX4_order_106 rfl ?_
              refine y_get C0 0 rfl rfl (by decide) hin0 0 (ykd_bk (Or.inl rfl) hn) (by decide) (by decide +kernel) (yvi0 (ykd_bk (Or.inl rfl) hn)) dX4_order_108 ?_
              have ho9 : (ordO B s h e) = none := by simp [ordO, thn, c_2, c_8, c_23, c_29, c_43, c_48, hn]
              refine y_ok ho9 ?_
              refine y_widen (k := 1) (n := 6) (by decide) (by decide) ?_
              exact y_iret C0 dX4_order_111 rfl (mo_n ho9 rfl)
            · exact y_thr C0 hX hT hlf rfl (cls := yIAE) (is := 28) (text := "edges are 0 to 3") (by decide) (by decide) (by decide +kernel) (by decide +kernel) hgwIAE ngIAE gdIAE dX4_order_51 dX4_order_54 dX4_order_55 dX4_order_57 dX4_order_60 (by decide) (Nat.le_of_ble_eq_true rfl) (by decide) (by decide) (by decide) (by decide) (by simp [ordO, thn, c_2, c_8, c_23, c_29, c_43, c_48]) (mo_t (e := yIAE) (by simp [ordO, thn, c_2, c_8, c_23, c_29, c_43, c_48]))
        · exact y_thr C0 hX hT hlf rfl (cls := yIAE) (is := 26) (text := "sheets are 1 to 8") (by decide) (by decide) (by decide +kernel) (by decide +kernel) hgwIAE ngIAE gdIAE dX4_order_32 dX4_order_35 dX4_order_36 dX4_order_38 dX4_order_41 (by decide) (Nat.le_of_ble_eq_true rfl) (by decide) (by decide) (by decide) (by decide) (by simp [ordO, thn, c_2, c_8, c_23, c_29]) (mo_t (e := yIAE) (by simp [ordO, thn, c_2, c_8, c_23, c_29]))
    · exact y_thr C0 hX hT hlf rfl (cls := yIAE) (is := 21) (text := "signatures are 1 to 24") (by decide) (by decide) (by decide +kernel) (by decide +kernel) hgwIAE ngIAE gdIAE dX4_order_11 dX4_order_14 dX4_order_15 dX4_order_17 dX4_order_20 (by decide) (Nat.le_of_ble_eq_true rfl) (by decide) (by decide) (by decide) (by decide) (by simp [ordO, thn, c_2, c_8]) (mo_t (e := yIAE) (by simp [ordO, thn, c_2, c_8]))
abbrev rX4_hire : Room := { frames := 6, cells := 1, slots := 6, locals := 90 }
set_option maxRecDepth 100000 in
set_option maxHeartbeats 4000000 in
theorem mX4_hire (l : Launch) (hlf : l.stackTraces = false) (D : va_G) (cy : Nat → ClassId) (adr : Nat → Nat) (M : yM) (s : Int32) (B : Nat) (hB : B ≤ 5) (eB : M 0 4 = nI B) : Cv l yX4_hire wsX4_hire rX4_hire D cy adr [.ref (adr 54), .int s] M (hirO B s) (some (.int (hirM M B s (0 + 19 + B) 0))) (mo (hirO B s) (hirM M B s) M) 1 6 := by
  refine Cv.mk cX4_hire 3 (some .int) RX4 (by decide) rfl rfl (Nat.le_of_ble_eq_true rfl) ?_
  intro K C0 hX hT
  refine y_eq rfl (show ([(0, .ref (adr 54)), (1, .int s)] : List (Nat × Value)) = lv_args 0 [.ref (adr 54), .int s] from rfl) rfl ?_
  have hin2 : ∀ w ∈ u_ws RX2 TX2 3, w ∈ wsX4_hire := by decide +kernel
  have hin3 : ∀ w ∈ u_ws RX3 TX3 12, w ∈ wsX4_hire := by decide +kernel
  have hin4 : ∀ w ∈ u_ws RX4 TX4 2, w ∈ wsX4_hire := by decide +kernel
  have hgwIAE : ∀ w ∈ (vx_atS RX4 23 yIAE yNs).filter goodWord, w ∈ wsX4_hire := by decide +kernel
  have hgwISE : ∀ w ∈ (vx_atS RX4 38 yISE yNs).filter goodWord, w ∈ wsX4_hire := by decide +kernel
  refine y_iload_n C0 1 dX4_hire_0 rfl rfl ?_
  refine y_iconst (v := 1) C0 dX4_hire_1 (by decide) ?_
  refine y_icmp_lt C0 11 dX4_hire_2 (by decide) (fun c_2 => ?_) (fun c_2 => ?_)
  · exact y_thr C0 hX hT hlf rfl (cls := yIAE) (is := 88) (text := "speed is 1 to 9") (by decide) (by decide) (by decide +kernel) (by decide +kernel) hgwIAE ngIAE gdIAE dX4_hire_11 dX4_hire_14 dX4_hire_15 dX4_hire_17 dX4_hire_20 (by decide) (Nat.le_of_ble_eq_true rfl) (by decide) (by decide) (by decide) (by decide) (by simp [hirO, thn, c_2]) (mo_t (e := yIAE) (by simp [hirO, thn, c_2]))
  · refine y_iload_n C0 1 dX4_hire_5 rfl rfl ?_
    refine y_bipush (v := 9) C0 dX4_hire_6 (by decide) ?_
    refine y_icmp_le C0 21 dX4_hire_8 (by decide) (fun c_8 => ?_) (fun c_8 => ?_)
    · refine y_aload_n C0 0 dX4_hire_21 rfl rfl ?_
      refine y_get C0 4 rfl rfl (by decide) hin4 0 ykd_54 (by decide) (by decide +kernel) yv4_now dX4_hire_22 ?_
      by_cases hn : ¬ B < 5
      · refine y_callV (As := []) (rest := _) (n := 0) C0 (mX3_freeSewer_n l D cy adr _ 0 (Or.inl rfl) (by rw [eB]; exact nI_le (by omega) (by omega))) 3 rfl (by decide) ykd_now gX4_hire_X3_freeSewer rfl rfl rfl (by decide +kernel) ⟨by decide, by decide⟩ rfl rfl (Nat.le_of_ble_eq_true rfl) dX4_hire_25 ⟨by decide, by decide⟩ ?_
        refine y_astore_nN C0 [(2, _), (0, _), (1, _)] dX4_hire_28 rfl (by decide) rfl ?_
        refine y_aload_nN C0 0 dX4_hire_29 rfl rfl ?_
        refine y_ifnonnullN C0 dX4_hire_30 ?_
        exact y_thr C0 hX hT hlf rfl (cls := yISE) (is := 94) (text := "no more sewers can be hired") (by decide) (by decide) (by decide +kernel) (by decide +kernel) hgwISE ngISE gdISE dX4_hire_33 dX4_hire_36 dX4_hire_37 dX4_hire_39 dX4_hire_42 (by decide) (Nat.le_of_ble_eq_true rfl) (by decide) (by decide) (by decide) (by decide) (by simp [hirO, thn, c_2, c_8, hn]) (mo_t (e := yISE) (by simp [hirO, thn, c_2, c_8, hn]))
      simp only [Classical.not_not] at hn
      refine y_callV (As := []) (rest := _) (n := 0) C0 (mX3_freeSewer l D cy adr _ 0 (Or.inl rfl) B hn eB) 3 rfl (by decide) ykd_now gX4_hire_X3_freeSewer rfl rfl rfl (by decide +kernel) ⟨by decide, by decide⟩ rfl rfl (Nat.le_of_ble_eq_true rfl) dX4_hire_25 ⟨by decide, by decide⟩ ?_
      refine y_astore_n C0 [(2, _), (0, _), (1, _)] dX4_hire_28 rfl (by decide) rfl ?_
      refine y_aload_n C0 0 dX4_hire_29 rfl rfl ?_
      refine y_ifnonnull C0 43 dX4_hire_30 (by decide) ?_
      refine y_aload_n C0 0 dX4_hire_43 rfl rfl ?_
      refine y_iload_n C0 2 dX4_hire_44 rfl rfl ?_
      refine y_put C0 2 rfl rfl (by decide) hin2 tyX2 tyX2_ok nmX2 1 (ykd_sw (Or.inl rfl) hn) (by decide) (by decide +kernel) (yrn2 (ykd_sw (Or.inl rfl) hn)) rfl (by decide +kernel) dX4_hire_45 ?_
      refine y_aload_n C0 1 dX4_hire_48 rfl rfl ?_
      refine y_get C0 4 rfl rfl (by decide) hin4 0 ykd_54 (by decide) (by decide +kernel) yv4_now dX4_hire_49 ?_
      refine y_dup C0 dX4_hire_52 rfl ?_
      refine y_get C0 3 rfl rfl (by decide) hin3 4 ykd_now (by decide) (by decide +kernel) (yvi3 ykd_now (by decide)) dX4_hire_53 ?_
      refine y_iconst (v := 1) C0 dX4_hire_56 (by decide) ?_
      refine y_iadd C0 dX4_hire_57 ?_
      refine y_put C0 3 rfl rfl (by decide) hin3 tyX3 tyX3_ok nmX3 4 ykd_now (by decide) (by decide +kernel) (yrn3 ykd_now (by decide)) rfl (by decide +kernel) dX4_hire_58 ?_
      refine y_aload_n C0 0 dX4_hire_61 rfl rfl ?_
      refine y_get C0 2 rfl rfl (by decide) hin2 0 (ykd_sw (Or.inl rfl) hn) (by decide) (by decide +kernel) (yvi2 (ykd_sw (Or.inl rfl) hn)) dX4_hire_62 ?_
      have ho9 : (hirO B s) = none := by simp [hirO, thn, c_2, c_8, hn]
      refine y_ok ho9 ?_
      refine y_widen (k := 1) (n := 6) (by decide) (by decide) ?_
      exact y_iret C0 dX4_hire_65 rfl (mo_n ho9 rfl)
    · exact y_thr C0 hX hT hlf rfl (cls := yIAE) (is := 88) (text := "speed is 1 to 9") (by decide) (by decide) (by decide +kernel) (by decide +kernel) hgwIAE ngIAE gdIAE dX4_hire_11 dX4_hire_14 dX4_hire_15 dX4_hire_17 dX4_hire_20 (by decide) (Nat.le_of_ble_eq_true rfl) (by decide) (by decide) (by decide) (by decide) (by simp [hirO, thn, c_2, c_8]) (mo_t (e := yIAE) (by simp [hirO, thn, c_2, c_8]))
abbrev rX4_unpick : Room := { frames := 7, cells := 2, slots := 12, locals := 112 }
set_option maxRecDepth 100000 in
set_option maxHeartbeats 4000000 in
theorem mX4_unpick (l : Launch) (hlf : l.stackTraces = false) (D : va_G) (cy : Nat → ClassId) (adr : Nat → Nat) (M : yM) (x : Int32)  : Cv l yX4_unpick wsX4_unpick rX4_unpick D cy adr [.ref (adr 54), .int x] M (unpO M x) (some (.int (M (bkI x) 7))) (mo (unpO M x) (unpM M (bkI x)) M) 2 12 := by
  refine Cv.mk cX4_unpick 4 (some .int) RX4 (by decide) rfl rfl (Nat.le_of_ble_eq_true rfl) ?_
  intro K C0 hX hT
  refine y_eq rfl (show ([(0, .ref (adr 54)), (1, .int x)] : List (Nat × Value)) = lv_args 0 [.ref (adr 54), .int x] from rfl) rfl ?_
  have hin0 : ∀ w ∈ u_ws RX0 TX0 13, w ∈ wsX4_unpick := by decide +kernel
  have hin4 : ∀ w ∈ u_ws RX4 TX4 2, w ∈ wsX4_unpick := by decide +kernel
  have hgwISE : ∀ w ∈ (vx_atS RX4 38 yISE yNs).filter goodWord, w ∈ wsX4_unpick := by decide +kernel
  refine y_aload_n C0 0 dX4_unpick_0 rfl rfl ?_
  refine y_iload_n C0 1 dX4_unpick_1 rfl rfl ?_
  refine y_callVX (As := [_]) (rest := _) (n := 1) C0 hX hT (mX4_knownBook l hlf D cy adr _ _) 4 rfl (by decide) ykd_54 gX4_unpick_X4_knownBook rfl rfl rfl (by decide +kernel) ⟨by decide, by decide⟩ rfl rfl (Nat.le_of_ble_eq_true rfl) dX4_unpick_2 ⟨by decide, by decide⟩ (fun Ex hE => ⟨by simp [unpO, thn, hE], mo_t (e := Ex) (by simp [unpO, thn, hE])⟩) (by decide) (by decide) (fun k_2 => ?_)
  refine y_astore_n C0 [(2, _), (0, _), (1, _)] dX4_unpick_5 rfl (by decide) rfl ?_
  refine y_aload_n C0 0 dX4_unpick_6 rfl rfl ?_
  refine y_get C0 0 rfl rfl (by decide) hin0 4 (okB_k k_2) (by decide) (by decide +kernel) (yvi0 (okB_k k_2)) dX4_unpick_7 ?_
  refine y_iconst (v := 1) C0 dX4_unpick_10 (by decide) ?_
  refine y_icmp_eq C0 24 dX4_unpick_11 (by decide) (fun c_11 => ?_) (fun c_11 => ?_)
  · refine y_aload_n C0 0 dX4_unpick_24 rfl rfl ?_
    refine y_get C0 0 rfl rfl (by decide) hin0 7 (okB_k k_2) (by decide) (by decide +kernel) (yvi0 (okB_k k_2)) dX4_unpick_25 ?_
    refine y_istore_n C0 [(3, _), (2, _), (0, _), (1, _)] dX4_unpick_28 rfl (by decide) rfl ?_
    refine y_aload_n C0 2 dX4_unpick_29 rfl rfl ?_
    refine y_get C0 4 rfl rfl (by decide) hin4 0 ykd_54 (by decide) (by decide +kernel) yv4_now dX4_unpick_30 ?_
    refine y_aload_n C0 1 dX4_unpick_33 rfl rfl ?_
    refine y_callV (As := [_]) (rest := _) (n := 1) C0 (mX3_clearFrameOf l D cy adr _ 0 (Or.inl rfl) (cN x) (okB_e k_2).1) 3 rfl (by decide) ykd_now gX4_unpick_X3_clearFrameOf rfl rfl rfl (by decide +kernel) ⟨by decide, by decide⟩ rfl rfl (Nat.le_of_ble_eq_true rfl) dX4_unpick_34 ⟨by decide, by decide⟩ ?_
    refine y_aload_n C0 1 dX4_unpick_37 rfl rfl ?_
    refine y_callV (As := []) (rest := _) (n := 0) C0 (mX0_undo l D cy adr _ _ (okB_k k_2)) 0 rfl (by decide) (okB_k k_2) gX4_unpick_X0_undo rfl rfl rfl (by decide +kernel) ⟨by decide, by decide⟩ rfl rfl (Nat.le_of_ble_eq_true rfl) dX4_unpick_38 ⟨by decide, by decide⟩ ?_
    refine y_iload_n C0 0 dX4_unpick_41 rfl rfl ?_
    have ho9 : (unpO M x) = none := by simp [unpO, thn, k_2, c_11]
    refine y_ok ho9 ?_
    refine y_widen (k := 2) (n := 12) (by decide) (by decide) ?_
    exact y_iret C0 dX4_unpick_42 rfl (mo_n ho9 rfl)
  · exact y_thr C0 hX hT hlf rfl (cls := yISE) (is := 59) (text := "the book is not on a frame") (by decide) (by decide) (by decide +kernel) (by decide +kernel) hgwISE ngISE gdISE dX4_unpick_14 dX4_unpick_17 dX4_unpick_18 dX4_unpick_20 dX4_unpick_23 (by decide) (Nat.le_of_ble_eq_true rfl) (by decide) (by decide) (by decide) (by decide) (by simp [unpO, thn, k_2, c_11]) (mo_t (e := yISE) (by simp [unpO, thn, k_2, c_11]))
abbrev rX4_sell : Room := { frames := 7, cells := 2, slots := 12, locals := 112 }
set_option maxRecDepth 100000 in
set_option maxHeartbeats 4000000 in
theorem mX4_sell (l : Launch) (hlf : l.stackTraces = false) (D : va_G) (cy : Nat → ClassId) (adr : Nat → Nat) (M : yM) (x : Int32)  : Cv l yX4_sell wsX4_sell rX4_sell D cy adr [.ref (adr 54), .int x] M (selO M x) (some (.int (selM M (bkI x) 0 6))) (mo (selO M x) (selM M (bkI x)) M) 2 12 := by
  refine Cv.mk cX4_sell 3 (some .int) RX4 (by decide) rfl rfl (Nat.le_of_ble_eq_true rfl) ?_
  intro K C0 hX hT
  refine y_eq rfl (show ([(0, .ref (adr 54)), (1, .int x)] : List (Nat × Value)) = lv_args 0 [.ref (adr 54), .int x] from rfl) rfl ?_
  have hin0 : ∀ w ∈ u_ws RX0 TX0 13, w ∈ wsX4_sell := by decide +kernel
  have hin3 : ∀ w ∈ u_ws RX3 TX3 12, w ∈ wsX4_sell := by decide +kernel
  have hin4 : ∀ w ∈ u_ws RX4 TX4 2, w ∈ wsX4_sell := by decide +kernel
  have hgwISE : ∀ w ∈ (vx_atS RX4 38 yISE yNs).filter goodWord, w ∈ wsX4_sell := by decide +kernel
  refine y_aload_n C0 0 dX4_sell_0 rfl rfl ?_
  refine y_iload_n C0 1 dX4_sell_1 rfl rfl ?_
  refine y_callVX (As := [_]) (rest := _) (n := 1) C0 hX hT (mX4_knownBook l hlf D cy adr _ _) 4 rfl (by decide) ykd_54 gX4_sell_X4_knownBook rfl rfl rfl (by decide +kernel) ⟨by decide, by decide⟩ rfl rfl (Nat.le_of_ble_eq_true rfl) dX4_sell_2 ⟨by decide, by decide⟩ (fun Ex hE => ⟨by simp [selO, thn, hE], mo_t (e := Ex) (by simp [selO, thn, hE])⟩) (by decide) (by decide) (fun k_2 => ?_)
  refine y_astore_n C0 [(2, _), (0, _), (1, _)] dX4_sell_5 rfl (by decide) rfl ?_
  refine y_aload_n C0 0 dX4_sell_6 rfl rfl ?_
  refine y_get C0 0 rfl rfl (by decide) hin0 4 (okB_k k_2) (by decide) (by decide +kernel) (yvi0 (okB_k k_2)) dX4_sell_7 ?_
  refine y_iconst (v := 5) C0 dX4_sell_10 (by decide) ?_
  refine y_icmp_eq C0 24 dX4_sell_11 (by decide) (fun c_11 => ?_) (fun c_11 => ?_)
  · refine y_aload_n C0 0 dX4_sell_24 rfl rfl ?_
    refine y_bipush (v := 6) C0 dX4_sell_25 (by decide) ?_
    refine y_put C0 0 rfl rfl (by decide) hin0 tyX0 tyX0_ok nmX0 4 (okB_k k_2) (by decide) (by decide +kernel) (yrn0 (okB_k k_2)) rfl (by decide +kernel) dX4_sell_27 ?_
    refine y_aload_n C0 1 dX4_sell_30 rfl rfl ?_
    refine y_get C0 4 rfl rfl (by decide) hin4 0 ykd_54 (by decide) (by decide +kernel) yv4_now dX4_sell_31 ?_
    refine y_dup C0 dX4_sell_34 rfl ?_
    refine y_get C0 3 rfl rfl (by decide) hin3 6 ykd_now (by decide) (by decide +kernel) (yvi3 ykd_now (by decide)) dX4_sell_35 ?_
    refine y_aload_n C0 0 dX4_sell_38 rfl rfl ?_
    refine y_callV (As := []) (rest := _) (n := 0) C0 (mX0_value l D cy adr _ _ (okB_k k_2)) 0 rfl (by decide) (okB_k k_2) gX4_sell_X0_value rfl rfl rfl (by decide +kernel) ⟨by decide, by decide⟩ rfl rfl (Nat.le_of_ble_eq_true rfl) dX4_sell_39 ⟨by decide, by decide⟩ ?_
    refine y_iadd C0 dX4_sell_42 ?_
    refine y_put C0 3 rfl rfl (by decide) hin3 tyX3 tyX3_ok nmX3 6 ykd_now (by decide) (by decide +kernel) (yrn3 ykd_now (by decide)) rfl (by decide +kernel) dX4_sell_43 ?_
    refine y_aload_n C0 1 dX4_sell_46 rfl rfl ?_
    refine y_get C0 4 rfl rfl (by decide) hin4 0 ykd_54 (by decide) (by decide +kernel) yv4_now dX4_sell_47 ?_
    refine y_get C0 3 rfl rfl (by decide) hin3 6 ykd_now (by decide) (by decide +kernel) (yvi3 ykd_now (by decide)) dX4_sell_50 ?_
    have ho9 : (selO M x) = none := by simp [selO, thn, k_2, c_11]
    refine y_ok ho9 ?_
    refine y_widen (k := 2) (n := 12) (by decide) (by decide) ?_
    exact y_iret C0 dX4_sell_53 rfl (mo_n ho9 rfl)
  · exact y_thr C0 hX hT hlf rfl (cls := yISE) (is := 71) (text := "the book is not done, or sold") (by decide) (by decide) (by decide +kernel) (by decide +kernel) hgwISE ngISE gdISE dX4_sell_14 dX4_sell_17 dX4_sell_18 dX4_sell_20 dX4_sell_23 (by decide) (Nat.le_of_ble_eq_true rfl) (by decide) (by decide) (by decide) (by decide) (by simp [selO, thn, k_2, c_11]) (mo_t (e := yISE) (by simp [selO, thn, k_2, c_11]))
abbrev rX4_seat : Room := { frames := 7, cells := 2, slots := 12, locals := 112 }
set_option maxRecDepth 100000 in
set_option maxHeartbeats 4000000 in
theorem mX4_seat (l : Launch) (hlf : l.stackTraces = false) (D : va_G) (cy : Nat → ClassId) (adr : Nat → Nat) (M : yM) (x : Int32) (f : Int32)  : Cv l yX4_seat wsX4_seat rX4_seat D cy adr [.ref (adr 54), .int x, .int f] M (seaO M x f) (some (.int (M (swI x) 2))) (mo (seaO M x f) (yst M (swI x) 2 f) M) 2 12 := by
  refine Cv.mk cX4_seat 5 (some .int) RX4 (by decide) rfl rfl (Nat.le_of_ble_eq_true rfl) ?_
  intro K C0 hX hT
  refine y_eq rfl (show ([(0, .ref (adr 54)), (1, .int x), (2, .int f)] : List (Nat × Value)) = lv_args 0 [.ref (adr 54), .int x, .int f] from rfl) rfl ?_
  have hin2 : ∀ w ∈ u_ws RX2 TX2 3, w ∈ wsX4_seat := by decide +kernel
  have hin4 : ∀ w ∈ u_ws RX4 TX4 2, w ∈ wsX4_seat := by decide +kernel
  have hgwIOE : ∀ w ∈ (vx_atS RX4 113 yIOE yNs).filter goodWord, w ∈ wsX4_seat := by decide +kernel
  have hgwISE : ∀ w ∈ (vx_atS RX4 38 yISE yNs).filter goodWord, w ∈ wsX4_seat := by decide +kernel
  refine y_aload_n C0 0 dX4_seat_0 rfl rfl ?_
  refine y_iload_n C0 1 dX4_seat_1 rfl rfl ?_
  refine y_callVX (As := [_]) (rest := _) (n := 1) C0 hX hT (mX4_knownSewer l hlf D cy adr _ _) 4 rfl (by decide) ykd_54 gX4_seat_X4_knownSewer rfl rfl rfl (by decide +kernel) ⟨by decide, by decide⟩ rfl rfl (Nat.le_of_ble_eq_true rfl) dX4_seat_2 ⟨by decide, by decide⟩ (fun Ex hE => ⟨by simp [seaO, thn, hE], mo_t (e := Ex) (by simp [seaO, thn, hE])⟩) (by decide) (by decide) (fun k_2 => ?_)
  refine y_astore_n C0 [(3, _), (0, _), (1, _), (2, _)] dX4_seat_5 rfl (by decide) rfl ?_
  refine y_iload_n C0 3 dX4_seat_6 rfl rfl ?_
  refine y_iconst (v := (-1)) C0 dX4_seat_7 (by decide) ?_
  refine y_icmp_eq C0 30 dX4_seat_8 (by decide) (fun c_8 => ?_) (fun c_8 => ?_)
  · refine y_iload_n C0 3 dX4_seat_30 rfl rfl ?_
    refine y_iconst (v := (-1)) C0 dX4_seat_31 (by decide) ?_
    refine y_icmp_eq C0 58 dX4_seat_32 (by decide) (fun c_32 => ?_) (fun c_32 => ?_)
    · refine y_aload_n C0 0 dX4_seat_58 rfl rfl ?_
      refine y_get C0 2 rfl rfl (by decide) hin2 2 (okS_k k_2) (by decide) (by decide +kernel) (yvi2 (okS_k k_2)) dX4_seat_59 ?_
      refine y_istore C0 [(4, _), (3, _), (0, _), (1, _), (2, _)] dX4_seat_62 (by decide) rfl ?_
      refine y_aload_n C0 1 dX4_seat_64 rfl rfl ?_
      refine y_iload_n C0 4 dX4_seat_65 rfl rfl ?_
      refine y_put C0 2 rfl rfl (by decide) hin2 tyX2 tyX2_ok nmX2 2 (okS_k k_2) (by decide) (by decide +kernel) (yrn2 (okS_k k_2)) rfl (by decide +kernel) dX4_seat_66 ?_
      refine y_iload C0 0 dX4_seat_69 rfl ?_
      have ho9 : (seaO M x f) = none := by simp [seaO, thn, k_2, c_8, c_32]
      refine y_ok ho9 ?_
      refine y_widen (k := 2) (n := 12) (by decide) (by decide) ?_
      exact y_iret C0 dX4_seat_71 rfl (mo_n ho9 rfl)
    · exact absurd c_8 c_32
  · refine y_iload_n C0 3 dX4_seat_11 rfl rfl ?_
    refine y_if_lt C0 20 dX4_seat_12 (by decide) (fun c_12 => ?_) (fun c_12 => ?_)
    · exact y_thr C0 hX hT hlf rfl (cls := yIOE) (is := 111) (text := "there is no such frame") (by decide) (by decide) (by decide +kernel) (by decide +kernel) hgwIOE ngIOE gdIOE dX4_seat_20 dX4_seat_23 dX4_seat_24 dX4_seat_26 dX4_seat_29 (by decide) (Nat.le_of_ble_eq_true rfl) (by decide) (by decide) (by decide) (by decide) (by simp [seaO, thn, k_2, c_8, c_12]) (mo_t (e := yIOE) (by simp [seaO, thn, k_2, c_8, c_12]))
    · refine y_iload_n C0 3 dX4_seat_15 rfl rfl ?_
      refine y_iconst (v := 3) C0 dX4_seat_16 (by decide) ?_
      refine y_icmp_lt C0 30 dX4_seat_17 (by decide) (fun c_17 => ?_) (fun c_17 => ?_)
      · refine y_iload_n C0 3 dX4_seat_30 rfl rfl ?_
        refine y_iconst (v := (-1)) C0 dX4_seat_31 (by decide) ?_
        refine y_icmp_eq C0 58 dX4_seat_32 (by decide) (fun c_32 => ?_) (fun c_32 => ?_)
        · exact absurd c_32 c_8
        · refine y_aload_n C0 1 dX4_seat_35 rfl rfl ?_
          refine y_get C0 4 rfl rfl (by decide) hin4 0 ykd_54 (by decide) (by decide +kernel) yv4_now dX4_seat_36 ?_
          refine y_iload_n C0 3 dX4_seat_39 rfl rfl ?_
          refine y_iload_n C0 2 dX4_seat_40 rfl rfl ?_
          refine y_callV (As := [_, _]) (rest := _) (n := 2) C0 (mX3_othersAt l D cy adr _ 0 (Or.inl rfl) _ _) 3 rfl (by decide) ykd_now gX4_seat_X3_othersAt rfl rfl rfl (by decide +kernel) ⟨by decide, by decide⟩ rfl rfl (Nat.le_of_ble_eq_true rfl) dX4_seat_41 ⟨by decide, by decide⟩ ?_
          refine y_iconst (v := 2) C0 dX4_seat_44 (by decide) ?_
          refine y_icmp_lt C0 58 dX4_seat_45 (by decide) (fun c_45 => ?_) (fun c_45 => ?_)
          · refine y_aload_n C0 0 dX4_seat_58 rfl rfl ?_
            refine y_get C0 2 rfl rfl (by decide) hin2 2 (okS_k k_2) (by decide) (by decide +kernel) (yvi2 (okS_k k_2)) dX4_seat_59 ?_
            refine y_istore C0 [(4, _), (3, _), (0, _), (1, _), (2, _)] dX4_seat_62 (by decide) rfl ?_
            refine y_aload_n C0 1 dX4_seat_64 rfl rfl ?_
            refine y_iload_n C0 4 dX4_seat_65 rfl rfl ?_
            refine y_put C0 2 rfl rfl (by decide) hin2 tyX2 tyX2_ok nmX2 2 (okS_k k_2) (by decide) (by decide +kernel) (yrn2 (okS_k k_2)) rfl (by decide +kernel) dX4_seat_66 ?_
            refine y_iload C0 0 dX4_seat_69 rfl ?_
            have ho9 : (seaO M x f) = none := by simp [seaO, thn, k_2, c_8, c_12, c_17, c_32, c_45]
            refine y_ok ho9 ?_
            refine y_widen (k := 2) (n := 12) (by decide) (by decide) ?_
            exact y_iret C0 dX4_seat_71 rfl (mo_n ho9 rfl)
          · exact y_thr C0 hX hT hlf rfl (cls := yISE) (is := 118) (text := "two others sit at the frame") (by decide) (by decide) (by decide +kernel) (by decide +kernel) hgwISE ngISE gdISE dX4_seat_48 dX4_seat_51 dX4_seat_52 dX4_seat_54 dX4_seat_57 (by decide) (Nat.le_of_ble_eq_true rfl) (by decide) (by decide) (by decide) (by decide) (by simp [seaO, thn, k_2, c_8, c_12, c_17, c_32, c_45]) (mo_t (e := yISE) (by simp [seaO, thn, k_2, c_8, c_12, c_17, c_32, c_45]))
      · exact y_thr C0 hX hT hlf rfl (cls := yIOE) (is := 111) (text := "there is no such frame") (by decide) (by decide) (by decide +kernel) (by decide +kernel) hgwIOE ngIOE gdIOE dX4_seat_20 dX4_seat_23 dX4_seat_24 dX4_seat_26 dX4_seat_29 (by decide) (Nat.le_of_ble_eq_true rfl) (by decide) (by decide) (by decide) (by decide) (by simp [seaO, thn, k_2, c_8, c_12, c_17]) (mo_t (e := yIOE) (by simp [seaO, thn, k_2, c_8, c_12, c_17]))
abbrev rX4_string : Room := { frames := 7, cells := 2, slots := 12, locals := 111 }
set_option maxRecDepth 100000 in
set_option maxHeartbeats 4000000 in
theorem mX4_string (l : Launch) (hlf : l.stackTraces = false) (D : va_G) (cy : Nat → ClassId) (adr : Nat → Nat) (M : yM) (f : Int32) (c : Int32)  : Cv l yX4_string wsX4_string rX4_string D cy adr [.ref (adr 54), .int f, .int c] M (strO M f c) (some (.int (M (frI f) 1))) (mo (strO M f c) (yst M (frI f) 1 c) M) 2 12 := by
  refine Cv.mk cX4_string 5 (some .int) RX4 (by decide) rfl rfl (Nat.le_of_ble_eq_true rfl) ?_
  intro K C0 hX hT
  refine y_eq rfl (show ([(0, .ref (adr 54)), (1, .int f), (2, .int c)] : List (Nat × Value)) = lv_args 0 [.ref (adr 54), .int f, .int c] from rfl) rfl ?_
  have hin1 : ∀ w ∈ u_ws RX1 TX1 4, w ∈ wsX4_string := by decide +kernel
  have hgwIAE : ∀ w ∈ (vx_atS RX4 23 yIAE yNs).filter goodWord, w ∈ wsX4_string := by decide +kernel
  have hgwISE : ∀ w ∈ (vx_atS RX4 38 yISE yNs).filter goodWord, w ∈ wsX4_string := by decide +kernel
  refine y_aload_n C0 0 dX4_string_0 rfl rfl ?_
  refine y_iload_n C0 1 dX4_string_1 rfl rfl ?_
  refine y_callVX (As := [_]) (rest := _) (n := 1) C0 hX hT (mX4_knownFrame l hlf D cy adr _ _) 4 rfl (by decide) ykd_54 gX4_string_X4_knownFrame rfl rfl rfl (by decide +kernel) ⟨by decide, by decide⟩ rfl rfl (Nat.le_of_ble_eq_true rfl) dX4_string_2 ⟨by decide, by decide⟩ (fun Ex hE => ⟨by simp [strO, thn, hE], mo_t (e := Ex) (by simp [strO, thn, hE])⟩) (by decide) (by decide) (fun k_2 => ?_)
  refine y_astore_n C0 [(3, _), (0, _), (1, _), (2, _)] dX4_string_5 rfl (by decide) rfl ?_
  refine y_iload_n C0 3 dX4_string_6 rfl rfl ?_
  refine y_iconst (v := 2) C0 dX4_string_7 (by decide) ?_
  refine y_icmp_lt C0 17 dX4_string_8 (by decide) (fun c_8 => ?_) (fun c_8 => ?_)
  · exact y_thr C0 hX hT hlf rfl (cls := yIAE) (is := 128) (text := "cords are 2 to 6") (by decide) (by decide) (by decide +kernel) (by decide +kernel) hgwIAE ngIAE gdIAE dX4_string_17 dX4_string_20 dX4_string_21 dX4_string_23 dX4_string_26 (by decide) (Nat.le_of_ble_eq_true rfl) (by decide) (by decide) (by decide) (by decide) (by simp [strO, thn, k_2, c_8]) (mo_t (e := yIAE) (by simp [strO, thn, k_2, c_8]))
  · refine y_iload_n C0 3 dX4_string_11 rfl rfl ?_
    refine y_bipush (v := 6) C0 dX4_string_12 (by decide) ?_
    refine y_icmp_le C0 27 dX4_string_14 (by decide) (fun c_14 => ?_) (fun c_14 => ?_)
    · refine y_aload_n C0 0 dX4_string_27 rfl rfl ?_
      refine y_get C0 1 rfl rfl (by decide) hin1 2 (okF_k k_2) (by decide) (by decide +kernel) (yvi1 (okF_k k_2)) dX4_string_28 ?_
      refine y_iconst (v := (-1)) C0 dX4_string_31 (by decide) ?_
      refine y_icmp_eq C0 45 dX4_string_32 (by decide) (fun c_32 => ?_) (fun c_32 => ?_)
      · refine y_aload_n C0 0 dX4_string_45 rfl rfl ?_
        refine y_get C0 1 rfl rfl (by decide) hin1 1 (okF_k k_2) (by decide) (by decide +kernel) (yvi1 (okF_k k_2)) dX4_string_46 ?_
        refine y_istore C0 [(4, _), (3, _), (0, _), (1, _), (2, _)] dX4_string_49 (by decide) rfl ?_
        refine y_aload_n C0 1 dX4_string_51 rfl rfl ?_
        refine y_iload_n C0 4 dX4_string_52 rfl rfl ?_
        refine y_put C0 1 rfl rfl (by decide) hin1 tyX1 tyX1_ok nmX1 1 (okF_k k_2) (by decide) (by decide +kernel) (yrn1 (okF_k k_2)) rfl (by decide +kernel) dX4_string_53 ?_
        refine y_iload C0 0 dX4_string_56 rfl ?_
        have ho9 : (strO M f c) = none := by simp [strO, thn, k_2, c_8, c_14, c_32]
        refine y_ok ho9 ?_
        refine y_widen (k := 2) (n := 12) (by decide) (by decide) ?_
        exact y_iret C0 dX4_string_58 rfl (mo_n ho9 rfl)
      · exact y_thr C0 hX hT hlf rfl (cls := yISE) (is := 135) (text := "there is a book on the frame") (by decide) (by decide) (by decide +kernel) (by decide +kernel) hgwISE ngISE gdISE dX4_string_35 dX4_string_38 dX4_string_39 dX4_string_41 dX4_string_44 (by decide) (Nat.le_of_ble_eq_true rfl) (by decide) (by decide) (by decide) (by decide) (by simp [strO, thn, k_2, c_8, c_14, c_32]) (mo_t (e := yISE) (by simp [strO, thn, k_2, c_8, c_14, c_32]))
    · exact y_thr C0 hX hT hlf rfl (cls := yIAE) (is := 128) (text := "cords are 2 to 6") (by decide) (by decide) (by decide +kernel) (by decide +kernel) hgwIAE ngIAE gdIAE dX4_string_17 dX4_string_20 dX4_string_21 dX4_string_23 dX4_string_26 (by decide) (Nat.le_of_ble_eq_true rfl) (by decide) (by decide) (by decide) (by decide) (by simp [strO, thn, k_2, c_8, c_14]) (mo_t (e := yIAE) (by simp [strO, thn, k_2, c_8, c_14]))
abbrev rX4_buy : Room := { frames := 6, cells := 1, slots := 6, locals := 90 }
set_option maxRecDepth 100000 in
set_option maxHeartbeats 4000000 in
theorem mX4_buy (l : Launch) (hlf : l.stackTraces = false) (D : va_G) (cy : Nat → ClassId) (adr : Nat → Nat) (M : yM) (w : Int32) (x : Int32)  : Cv l yX4_buy wsX4_buy rX4_buy D cy adr [.ref (adr 54), .int w, .int x] M (buyO M w x) (some (.int (wStoreR (buyA M w x) 0 w x))) (mo (buyO M w x) (wStore (buyA M w x) 0 w x) M) 1 6 := by
  refine Cv.mk cX4_buy 4 (some .int) RX4 (by decide) rfl rfl (Nat.le_of_ble_eq_true rfl) ?_
  intro K C0 hX hT
  refine y_eq rfl (show ([(0, .ref (adr 54)), (1, .int w), (2, .int x)] : List (Nat × Value)) = lv_args 0 [.ref (adr 54), .int w, .int x] from rfl) rfl ?_
  have hin3 : ∀ w ∈ u_ws RX3 TX3 12, w ∈ wsX4_buy := by decide +kernel
  have hin4 : ∀ w ∈ u_ws RX4 TX4 2, w ∈ wsX4_buy := by decide +kernel
  have hgwIAE : ∀ w ∈ (vx_atS RX4 23 yIAE yNs).filter goodWord, w ∈ wsX4_buy := by decide +kernel
  have hgwIOE : ∀ w ∈ (vx_atS RX4 113 yIOE yNs).filter goodWord, w ∈ wsX4_buy := by decide +kernel
  have hgwISE : ∀ w ∈ (vx_atS RX4 38 yISE yNs).filter goodWord, w ∈ wsX4_buy := by decide +kernel
  refine y_iload_n C0 1 dX4_buy_0 rfl rfl ?_
  refine y_if_lt C0 9 dX4_buy_1 (by decide) (fun c_1 => ?_) (fun c_1 => ?_)
  · exact y_thr C0 hX hT hlf rfl (cls := yIOE) (is := 144) (text := "what is 0 to 2") (by decide) (by decide) (by decide +kernel) (by decide +kernel) hgwIOE ngIOE gdIOE dX4_buy_9 dX4_buy_12 dX4_buy_13 dX4_buy_15 dX4_buy_18 (by decide) (Nat.le_of_ble_eq_true rfl) (by decide) (by decide) (by decide) (by decide) (by simp [buyO, thn, c_1]) (mo_t (e := yIOE) (by simp [buyO, thn, c_1]))
  · refine y_iload_n C0 1 dX4_buy_4 rfl rfl ?_
    refine y_iconst (v := 2) C0 dX4_buy_5 (by decide) ?_
    refine y_icmp_le C0 19 dX4_buy_6 (by decide) (fun c_6 => ?_) (fun c_6 => ?_)
    · refine y_iload_n C0 2 dX4_buy_19 rfl rfl ?_
      refine y_iconst (v := 1) C0 dX4_buy_20 (by decide) ?_
      refine y_icmp_lt C0 31 dX4_buy_21 (by decide) (fun c_21 => ?_) (fun c_21 => ?_)
      · exact y_thr C0 hX hT hlf rfl (cls := yIAE) (is := 146) (text := "many is 1 to 200") (by decide) (by decide) (by decide +kernel) (by decide +kernel) hgwIAE ngIAE gdIAE dX4_buy_31 dX4_buy_34 dX4_buy_35 dX4_buy_37 dX4_buy_40 (by decide) (Nat.le_of_ble_eq_true rfl) (by decide) (by decide) (by decide) (by decide) (by simp [buyO, thn, c_1, c_6, c_21]) (mo_t (e := yIAE) (by simp [buyO, thn, c_1, c_6, c_21]))
      · refine y_iload_n C0 2 dX4_buy_24 rfl rfl ?_
        refine y_sipush (v := 200) C0 dX4_buy_25 (by decide) ?_
        refine y_icmp_le C0 41 dX4_buy_28 (by decide) (fun c_28 => ?_) (fun c_28 => ?_)
        · refine y_iload_n C0 1 dX4_buy_41 rfl rfl ?_
          refine y_iload_n C0 2 dX4_buy_42 rfl rfl ?_
          refine y_callS (As := [_, _]) (rest := _) (n := 2) C0 (mX4_priceOf l D cy adr _ _ _) gX4_buy_X4_priceOf rfl rfl rfl (by decide +kernel) ⟨by decide, by decide⟩ rfl rfl (Nat.le_of_ble_eq_true rfl) dX4_buy_43 ⟨by decide, by decide⟩ ?_
          refine y_istore_n C0 [(3, _), (0, _), (1, _), (2, _)] dX4_buy_46 rfl (by decide) rfl ?_
          refine y_iload_n C0 0 dX4_buy_47 rfl rfl ?_
          refine y_aload_n C0 1 dX4_buy_48 rfl rfl ?_
          refine y_get C0 4 rfl rfl (by decide) hin4 0 ykd_54 (by decide) (by decide +kernel) yv4_now dX4_buy_49 ?_
          refine y_get C0 3 rfl rfl (by decide) hin3 6 ykd_now (by decide) (by decide +kernel) (yvi3 ykd_now (by decide)) dX4_buy_52 ?_
          refine y_icmp_le C0 68 dX4_buy_55 (by decide) (fun c_55 => ?_) (fun c_55 => ?_)
          · refine y_aload_n C0 1 dX4_buy_68 rfl rfl ?_
            refine y_get C0 4 rfl rfl (by decide) hin4 0 ykd_54 (by decide) (by decide +kernel) yv4_now dX4_buy_69 ?_
            refine y_dup C0 dX4_buy_72 rfl ?_
            refine y_get C0 3 rfl rfl (by decide) hin3 6 ykd_now (by decide) (by decide +kernel) (yvi3 ykd_now (by decide)) dX4_buy_73 ?_
            refine y_iload_n C0 0 dX4_buy_76 rfl rfl ?_
            refine y_isub C0 dX4_buy_77 ?_
            refine y_put C0 3 rfl rfl (by decide) hin3 tyX3 tyX3_ok nmX3 6 ykd_now (by decide) (by decide +kernel) (yrn3 ykd_now (by decide)) rfl (by decide +kernel) dX4_buy_78 ?_
            refine y_aload_n C0 1 dX4_buy_81 rfl rfl ?_
            refine y_get C0 4 rfl rfl (by decide) hin4 0 ykd_54 (by decide) (by decide +kernel) yv4_now dX4_buy_82 ?_
            refine y_iload_n C0 2 dX4_buy_85 rfl rfl ?_
            refine y_iload_n C0 3 dX4_buy_86 rfl rfl ?_
            refine y_callV (As := [_, _]) (rest := _) (n := 2) C0 (mX3_store l D cy adr _ 0 (Or.inl rfl) _ _) 3 rfl (by decide) ykd_now gX4_buy_X3_store rfl rfl rfl (by decide +kernel) ⟨by decide, by decide⟩ rfl rfl (Nat.le_of_ble_eq_true rfl) dX4_buy_87 ⟨by decide, by decide⟩ ?_
            have ho9 : (buyO M w x) = none := by simp [buyO, thn, c_1, c_6, c_21, c_28, c_55]
            refine y_ok ho9 ?_
            refine y_widen (k := 1) (n := 6) (by decide) (by decide) ?_
            exact y_iret C0 dX4_buy_90 rfl (mo_n ho9 rfl)
          · exact y_thr C0 hX hT hlf rfl (cls := yISE) (is := 151) (text := "there are not so many coins") (by decide) (by decide) (by decide +kernel) (by decide +kernel) hgwISE ngISE gdISE dX4_buy_58 dX4_buy_61 dX4_buy_62 dX4_buy_64 dX4_buy_67 (by decide) (Nat.le_of_ble_eq_true rfl) (by decide) (by decide) (by decide) (by decide) (by simp [buyO, thn, c_1, c_6, c_21, c_28, c_55]) (mo_t (e := yISE) (by simp [buyO, thn, c_1, c_6, c_21, c_28, c_55]))
        · exact y_thr C0 hX hT hlf rfl (cls := yIAE) (is := 146) (text := "many is 1 to 200") (by decide) (by decide) (by decide +kernel) (by decide +kernel) hgwIAE ngIAE gdIAE dX4_buy_31 dX4_buy_34 dX4_buy_35 dX4_buy_37 dX4_buy_40 (by decide) (Nat.le_of_ble_eq_true rfl) (by decide) (by decide) (by decide) (by decide) (by simp [buyO, thn, c_1, c_6, c_21, c_28]) (mo_t (e := yIAE) (by simp [buyO, thn, c_1, c_6, c_21, c_28]))
    · exact y_thr C0 hX hT hlf rfl (cls := yIOE) (is := 144) (text := "what is 0 to 2") (by decide) (by decide) (by decide +kernel) (by decide +kernel) hgwIOE ngIOE gdIOE dX4_buy_9 dX4_buy_12 dX4_buy_13 dX4_buy_15 dX4_buy_18 (by decide) (Nat.le_of_ble_eq_true rfl) (by decide) (by decide) (by decide) (by decide) (by simp [buyO, thn, c_1, c_6]) (mo_t (e := yIOE) (by simp [buyO, thn, c_1, c_6]))
abbrev rX4_pass : Room := { frames := 7, cells := 1, slots := 6, locals := 148 }
set_option maxRecDepth 100000 in
set_option maxHeartbeats 4000000 in
theorem mX4_pass (l : Launch) (hlf : l.stackTraces = false) (D : va_G) (cy : Nat → ClassId) (adr : Nat → Nat) (M : yM) (h : Int32) (hsp : wSpOK M 0) : Cv l yX4_pass wsX4_pass rX4_pass D cy adr [.ref (adr 54), .int h] M (okH h) (some (.int (wHoursR M 0 h.toNatClampNeg))) (mo (okH h) (wHours M 0 h.toNatClampNeg) M) 1 6 := by
  refine Cv.mk cX4_pass 2 (some .int) RX4 (by decide) rfl rfl (Nat.le_of_ble_eq_true rfl) ?_
  intro K C0 hX hT
  refine y_eq rfl (show ([(0, .ref (adr 54)), (1, .int h)] : List (Nat × Value)) = lv_args 0 [.ref (adr 54), .int h] from rfl) rfl ?_
  have hin4 : ∀ w ∈ u_ws RX4 TX4 2, w ∈ wsX4_pass := by decide +kernel
  refine y_iload_n C0 1 dX4_pass_0 rfl rfl ?_
  refine y_callSX (As := [_]) (rest := _) (n := 1) C0 hX hT (mX4_checkHours l hlf D cy adr _ _) gX4_pass_X4_checkHours rfl rfl rfl (by decide +kernel) ⟨by decide, by decide⟩ rfl rfl (Nat.le_of_ble_eq_true rfl) dX4_pass_1 ⟨by decide, by decide⟩ (fun Ex hE => ⟨by simp [thn, hE], mo_t (e := Ex) (by simp [thn, hE])⟩) (by decide) (by decide) (fun k_1 => ?_)
  refine y_aload_n C0 0 dX4_pass_4 rfl rfl ?_
  refine y_get C0 4 rfl rfl (by decide) hin4 0 ykd_54 (by decide) (by decide +kernel) yv4_now dX4_pass_5 ?_
  refine y_iload_n C0 1 dX4_pass_8 rfl rfl ?_
  refine y_callV (As := [_]) (rest := _) (n := 1) C0 (mX3_letHoursGo l D cy adr _ 0 (Or.inl rfl) _ hsp) 3 rfl (by decide) ykd_now gX4_pass_X3_letHoursGo rfl rfl rfl (by decide +kernel) ⟨by decide, by decide⟩ rfl rfl (Nat.le_of_ble_eq_true rfl) dX4_pass_9 ⟨by decide, by decide⟩ ?_
  have ho9 : (okH h) = none := by simp [thn, k_1]
  refine y_ok ho9 ?_
  refine y_widen (k := 1) (n := 6) (by decide) (by decide) ?_
  exact y_iret C0 dX4_pass_12 rfl (mo_n ho9 rfl)
abbrev rX4_foresee : Room := { frames := 7, cells := 2, slots := 12, locals := 148 }
set_option maxRecDepth 100000 in
set_option maxHeartbeats 4000000 in
theorem mX4_foresee (l : Launch) (hlf : l.stackTraces = false) (D : va_G) (cy : Nat → ClassId) (adr : Nat → Nat) (M : yM) (h : Int32) (w : Int32) (hsp : wSpOK M 0) : Cv l yX4_foresee wsX4_foresee rX4_foresee D cy adr [.ref (adr 54), .int h, .int w] M (forO h w) (some (.int (wTellA (wHours (wSet M 27 0) 27 h.toNatClampNeg) 27 w))) (mo (forO h w) (wHours (wSet M 27 0) 27 h.toNatClampNeg) M) 2 12 := by
  refine Cv.mk cX4_foresee 3 (some .int) RX4 (by decide) rfl rfl (Nat.le_of_ble_eq_true rfl) ?_
  intro K C0 hX hT
  refine y_eq rfl (show ([(0, .ref (adr 54)), (1, .int h), (2, .int w)] : List (Nat × Value)) = lv_args 0 [.ref (adr 54), .int h, .int w] from rfl) rfl ?_
  have hin4 : ∀ w ∈ u_ws RX4 TX4 2, w ∈ wsX4_foresee := by decide +kernel
  have hgwIOE : ∀ w ∈ (vx_atS RX4 113 yIOE yNs).filter goodWord, w ∈ wsX4_foresee := by decide +kernel
  refine y_iload_n C0 1 dX4_foresee_0 rfl rfl ?_
  refine y_callSX (As := [_]) (rest := _) (n := 1) C0 hX hT (mX4_checkHours l hlf D cy adr _ _) gX4_foresee_X4_checkHours rfl rfl rfl (by decide +kernel) ⟨by decide, by decide⟩ rfl rfl (Nat.le_of_ble_eq_true rfl) dX4_foresee_1 ⟨by decide, by decide⟩ (fun Ex hE => ⟨by simp [forO, thn, hE], mo_t (e := Ex) (by simp [forO, thn, hE])⟩) (by decide) (by decide) (fun k_1 => ?_)
  refine y_iload_n C0 2 dX4_foresee_4 rfl rfl ?_
  refine y_iconst (v := 2) C0 dX4_foresee_5 (by decide) ?_
  refine y_icmp_lt C0 27 dX4_foresee_6 (by decide) (fun c_6 => ?_) (fun c_6 => ?_)
  · exact y_thr C0 hX hT hlf rfl (cls := yIOE) (is := 166) (text := "what is 2 to 7, or 10 to 14") (by decide) (by decide) (by decide +kernel) (by decide +kernel) hgwIOE ngIOE gdIOE dX4_foresee_27 dX4_foresee_30 dX4_foresee_31 dX4_foresee_33 dX4_foresee_36 (by decide) (Nat.le_of_ble_eq_true rfl) (by decide) (by decide) (by decide) (by decide) (by simp [forO, thn, k_1, c_6]) (mo_t (e := yIOE) (by simp [forO, thn, k_1, c_6]))
  · refine y_iload_n C0 2 dX4_foresee_9 rfl rfl ?_
    refine y_bipush (v := 14) C0 dX4_foresee_10 (by decide) ?_
    refine y_icmp_gt C0 27 dX4_foresee_12 (by decide) (fun c_12 => ?_) (fun c_12 => ?_)
    · exact y_thr C0 hX hT hlf rfl (cls := yIOE) (is := 166) (text := "what is 2 to 7, or 10 to 14") (by decide) (by decide) (by decide +kernel) (by decide +kernel) hgwIOE ngIOE gdIOE dX4_foresee_27 dX4_foresee_30 dX4_foresee_31 dX4_foresee_33 dX4_foresee_36 (by decide) (Nat.le_of_ble_eq_true rfl) (by decide) (by decide) (by decide) (by decide) (by simp [forO, thn, k_1, c_6, c_12]) (mo_t (e := yIOE) (by simp [forO, thn, k_1, c_6, c_12]))
    · refine y_iload_n C0 2 dX4_foresee_15 rfl rfl ?_
      refine y_bipush (v := 8) C0 dX4_foresee_16 (by decide) ?_
      refine y_icmp_eq C0 27 dX4_foresee_18 (by decide) (fun c_18 => ?_) (fun c_18 => ?_)
      · exact y_thr C0 hX hT hlf rfl (cls := yIOE) (is := 166) (text := "what is 2 to 7, or 10 to 14") (by decide) (by decide) (by decide +kernel) (by decide +kernel) hgwIOE ngIOE gdIOE dX4_foresee_27 dX4_foresee_30 dX4_foresee_31 dX4_foresee_33 dX4_foresee_36 (by decide) (Nat.le_of_ble_eq_true rfl) (by decide) (by decide) (by decide) (by decide) (by simp [forO, thn, k_1, c_6, c_12, c_18]) (mo_t (e := yIOE) (by simp [forO, thn, k_1, c_6, c_12, c_18]))
      · refine y_iload_n C0 2 dX4_foresee_21 rfl rfl ?_
        refine y_bipush (v := 9) C0 dX4_foresee_22 (by decide) ?_
        refine y_icmp_ne C0 37 dX4_foresee_24 (by decide) (fun c_24 => ?_) (fun c_24 => ?_)
        · refine y_aload_n C0 0 dX4_foresee_37 rfl rfl ?_
          refine y_get C0 4 rfl rfl (by decide) hin4 1 ykd_54 (by decide) (by decide +kernel) yv4_ahead dX4_foresee_38 ?_
          refine y_aload_n C0 0 dX4_foresee_41 rfl rfl ?_
          refine y_get C0 4 rfl rfl (by decide) hin4 0 ykd_54 (by decide) (by decide +kernel) yv4_now dX4_foresee_42 ?_
          refine y_callV (As := [_]) (rest := _) (n := 1) C0 (mX3_setTo l D cy adr _ 27 (Or.inr rfl) 0 (Or.inl rfl) (by decide)) 3 rfl (by decide) ykd_ahead gX4_foresee_X3_setTo rfl rfl rfl (by decide +kernel) ⟨by decide, by decide⟩ rfl rfl (Nat.le_of_ble_eq_true rfl) dX4_foresee_45 ⟨by decide, by decide⟩ ?_
          refine y_aload_n C0 0 dX4_foresee_48 rfl rfl ?_
          refine y_get C0 4 rfl rfl (by decide) hin4 1 ykd_54 (by decide) (by decide +kernel) yv4_ahead dX4_foresee_49 ?_
          refine y_iload_n C0 1 dX4_foresee_52 rfl rfl ?_
          refine y_callV (As := [_]) (rest := _) (n := 1) C0 (mX3_letHoursGo l D cy adr _ 27 (Or.inr rfl) _ (wSpOK_cp hsp)) 3 rfl (by decide) ykd_ahead gX4_foresee_X3_letHoursGo rfl rfl rfl (by decide +kernel) ⟨by decide, by decide⟩ rfl rfl (Nat.le_of_ble_eq_true rfl) dX4_foresee_53 ⟨by decide, by decide⟩ ?_
          refine y_pop C0 dX4_foresee_56 rfl ?_
          refine y_aload_n C0 0 dX4_foresee_57 rfl rfl ?_
          refine y_get C0 4 rfl rfl (by decide) hin4 1 ykd_54 (by decide) (by decide +kernel) yv4_ahead dX4_foresee_58 ?_
          refine y_iload_n C0 2 dX4_foresee_61 rfl rfl ?_
          refine y_callV (As := [_]) (rest := _) (n := 1) C0 (mX3_tellOfAll l D cy adr _ 27 (Or.inr rfl) _) 3 rfl (by decide) ykd_ahead gX4_foresee_X3_tellOfAll rfl rfl rfl (by decide +kernel) ⟨by decide, by decide⟩ rfl rfl (Nat.le_of_ble_eq_true rfl) dX4_foresee_62 ⟨by decide, by decide⟩ ?_
          have ho9 : (forO h w) = none := by simp [forO, thn, k_1, c_6, c_12, c_18, c_24]
          refine y_ok ho9 ?_
          refine y_widen (k := 2) (n := 12) (by decide) (by decide) ?_
          exact y_iret C0 dX4_foresee_65 rfl (mo_n ho9 rfl)
        · exact y_thr C0 hX hT hlf rfl (cls := yIOE) (is := 166) (text := "what is 2 to 7, or 10 to 14") (by decide) (by decide) (by decide +kernel) (by decide +kernel) hgwIOE ngIOE gdIOE dX4_foresee_27 dX4_foresee_30 dX4_foresee_31 dX4_foresee_33 dX4_foresee_36 (by decide) (Nat.le_of_ble_eq_true rfl) (by decide) (by decide) (by decide) (by decide) (by simp [forO, thn, k_1, c_6, c_12, c_18, c_24]) (mo_t (e := yIOE) (by simp [forO, thn, k_1, c_6, c_12, c_18, c_24]))
end YZ
end
section
section YZ
theorem y6n : ((6 : Int32) = -1) = False := by decide
theorem y_i2d {K : yK} {l : Launch} {R : Room} {D : va_G} {cy : Nat → ClassId} {adr : Nat → Nat} {nL cells slots : Nat} {Q : State → Prop} {M : yM} {E : va_W} {lv : List (Nat × Value)} {pc : Nat} {st : List Value} {cc : ByteArray} {own : String} {Ts : List Cond} {ret : Option FieldType} (C0 : Cx K cc own Ts nL ret D cy) {x : Int32} (d : decode cc pc = .ok (.i2d, 1)) (k : Y K l R D cy adr nL cells slots Q M E lv (pc + 1) (.double (FP.i2d x) :: st)) : Y K l R D cy adr nL cells slots Q M E lv pc (.int x :: st) := by
  obtain ⟨p, e, s, m, args, below, meth, c, A⟩ := K
  exact fun H locs ls hP hD hS hl => lv_i2d C0.1 C0.2.1 d (k H locs ls hP hD hS hl)
theorem y_ddiv {K : yK} {l : Launch} {R : Room} {D : va_G} {cy : Nat → ClassId} {adr : Nat → Nat} {nL cells slots : Nat} {Q : State → Prop} {M : yM} {E : va_W} {lv : List (Nat × Value)} {pc : Nat} {st : List Value} {cc : ByteArray} {own : String} {Ts : List Cond} {ret : Option FieldType} (C0 : Cx K cc own Ts nL ret D cy) {x y : UInt64} (d : decode cc pc = .ok (.ddiv, 1)) (hn : vf_n64 (FP.ddiv x y)) (k : Y K l R D cy adr nL cells slots Q M E lv (pc + 1) (.double (FP.ddiv x y) :: st)) : Y K l R D cy adr nL cells slots Q M E lv pc (.double y :: .double x :: st) := by
  obtain ⟨p, e, s, m, args, below, meth, c, A⟩ := K
  exact fun H locs ls hP hD hS hl => lv_ddiv C0.1 C0.2.1 d hn (k H locs ls hP hD hS hl)
theorem y_dret {K : yK} {l : Launch} {R : Room} {D : va_G} {cy : Nat → ClassId} {adr : Nat → Nat} {nL mc ms : Nat} {M M' : yM} {E : va_W} {lv : List (Nat × Value)} {pc : Nat} {cc : ByteArray} {own : String} {Ts : List Cond} {r : Option Value} (C0 : Cx K cc own Ts nL (some .double) D cy) {v : UInt64} (d : decode cc pc = .ok (.dreturn, 1)) (e1 : some (Value.double v) = r) (e2 : M = M') : Y K l R D cy adr nL mc ms (QT K D cy adr r M' mc ms) M E lv pc [.double v] := by
  subst e1; subst e2
  obtain ⟨p, e, s, m, args, below, meth, c, A⟩ := K
  obtain ⟨hx, hb, hml, hown, hts, hK, hA, hr, hlk⟩ := C0
  exact fun H locs ls hP hD hS hl => W.dret hx hb hr (fun t ht hW => ⟨rfl, by rw [ht]; exact ypl_P hP, hS.F ht⟩) hS.2.2 d hlk
abbrev rX4_until : Room := { frames := 7, cells := 1, slots := 6, locals := 125 }
set_option maxRecDepth 100000 in
set_option maxHeartbeats 4000000 in
theorem mX4_until (l : Launch) (hlf : l.stackTraces = false) (D : va_G) (cy : Nat → ClassId) (adr : Nat → Nat) (M : yM) (x : Int32) (hsp : wSpOK M 0) : Cv l yX4_until wsX4_until rX4_until D cy adr [.ref (adr 54), .int x] M (okB M x) (some (.int (utR M (cN x)))) (mo (okB M x) (utM M (cN x)) M) 1 6 := by
  refine Cv.mk cX4_until 4 (some .int) RX4 (by decide) rfl rfl (Nat.le_of_ble_eq_true rfl) ?_
  intro K C0 hX hT
  refine y_eq rfl (show ([(0, .ref (adr 54)), (1, .int x)] : List (Nat × Value)) = lv_args 0 [.ref (adr 54), .int x] from rfl) rfl ?_
  have hin0 : ∀ w ∈ u_ws RX0 TX0 13, w ∈ wsX4_until := by decide +kernel
  have hin4 : ∀ w ∈ u_ws RX4 TX4 2, w ∈ wsX4_until := by decide +kernel
  refine y_aload_n C0 0 dX4_until_0 rfl rfl ?_
  refine y_iload_n C0 1 dX4_until_1 rfl rfl ?_
  refine y_callVX (As := [_]) (rest := _) (n := 1) C0 hX hT (mX4_knownBook l hlf D cy adr _ _) 4 rfl (by decide) ykd_54 gX4_until_X4_knownBook rfl rfl rfl (by decide +kernel) ⟨by decide, by decide⟩ rfl rfl (Nat.le_of_ble_eq_true rfl) dX4_until_2 ⟨by decide, by decide⟩ (fun Ex hE => ⟨by simp [thn, hE], mo_t (e := Ex) (by simp [thn, hE])⟩) (by decide) (by decide) (fun k_2 => ?_)
  refine y_get C0 0 rfl rfl (by decide) hin0 4 (okB_k k_2) (by decide) (by decide +kernel) (yvi0 (okB_k k_2)) dX4_until_5 ?_
  refine y_iconst (v := 5) C0 dX4_until_8 (by decide) ?_
  refine y_icmp_lt C0 14 dX4_until_9 (by decide) (fun c_9 => ?_) (fun c_9 => ?_)
  · have ho9 := k_2
    refine y_ok ho9 ?_
    refine y_widen (k := 1) (n := 6) (by decide) (by decide) ?_
    refine y_aload_n C0 0 dX4_until_14 rfl rfl ?_
    refine y_get C0 4 rfl rfl (by decide) hin4 1 ykd_54 (by decide) (by decide +kernel) yv4_ahead dX4_until_15 ?_
    refine y_aload_n C0 0 dX4_until_18 rfl rfl ?_
    refine y_get C0 4 rfl rfl (by decide) hin4 0 ykd_54 (by decide) (by decide +kernel) yv4_now dX4_until_19 ?_
    refine y_callV (As := [_]) (rest := _) (n := 1) C0 (mX3_setTo l D cy adr _ 27 (Or.inr rfl) 0 (Or.inl rfl) (by decide)) 3 rfl (by decide) ykd_ahead gX4_until_X3_setTo rfl rfl rfl (by decide +kernel) ⟨by decide, by decide⟩ rfl rfl (Nat.le_of_ble_eq_true rfl) dX4_until_22 ⟨by decide, by decide⟩ ?_
    refine y_aload_n C0 0 dX4_until_25 rfl rfl ?_
    refine y_get C0 4 rfl rfl (by decide) hin4 1 ykd_54 (by decide) (by decide +kernel) yv4_ahead dX4_until_26 ?_
    refine y_iload_n C0 1 dX4_until_29 rfl rfl ?_
    obtain ⟨hb, eb, hcb⟩ := okB_e k_2
    refine y_top eb ?_
    refine y_callV (As := [_]) (rest := _) (n := 1) C0 (mX3_bookNumbered l D cy adr _ 27 (Or.inr rfl) (cN x) hb (by rw [wSet_3]; exact hcb)) 3 rfl (by decide) ykd_ahead gX4_until_X3_bookNumbered rfl rfl rfl (by decide +kernel) ⟨by decide, by decide⟩ rfl rfl (Nat.le_of_ble_eq_true rfl) dX4_until_30 ⟨by decide, by decide⟩ ?_
    refine y_astore_n C0 [(2, _), (0, _), (1, _)] dX4_until_33 rfl (by decide) rfl ?_
    refine y_iconst (v := 1) C0 dX4_until_34 (by decide) ?_
    refine y_istore_n C0 [(3, _), (2, _), (0, _), (1, _)] dX4_until_35 rfl (by decide) rfl ?_
    have hl_36 : ∀ (n : Nat) (i : Nat), 250 - i = n → i ≤ 250 → hF (utP M (27 + 4 + cN x)) i = none → Y K l rX4_until D cy adr 4 1 6 (QT K D cy adr (some (.int (utR M (cN x)))) (mo (okB M x) (utM M (cN x)) M) 1 6) (wHours (wSet M 27 0) 27 i) [] [(3, .int (nI (i + 1))), (2, .ref (adr (27 + 4 + cN x))), (1, .int x), (0, .ref (adr 54))] 36 [] := by
      intro n
      induction n using Nat.strongRecOn with
      | _ n ih_36 =>
        intro i hn_36 hi hfi
        refine y_iload_n C0 0 dX4_until_36 rfl rfl ?_
        refine y_sipush (v := 250) C0 dX4_until_37 (by decide) ?_
        refine y_icmp_gt C0 71 dX4_until_40 (by decide) (fun c_40 => ?_) (fun c_40 => ?_)
        · have he : i = 250 := by
            have h9 := (nI_ltI (a := 250) (b := i + 1) (by decide) (by omega)).mp c_40
            omega
          subst he
          refine y_iconst (v := (-1)) C0 dX4_until_71 (by decide) ?_
          exact y_iret C0 dX4_until_72 (by rw [(ut_none (M := M) (b := cN x) c_9 hfi).1]) (mo_n ho9 (ut_none (M := M) (b := cN x) c_9 hfi).2.symm)
        · have hlt : i < 250 := by
            rcases Nat.lt_or_ge i 250 with q | q
            · exact q
            · exact absurd (show nI 250 < nI (i + 1) from nI_lt (by omega) (by omega)) c_40
          have hsp9 := (wSpOK_cp hsp).out (wOut_hours (M := wSet M 27 0) (o := 27) i)
          refine y_aload_n C0 3 dX4_until_43 rfl rfl ?_
          refine y_get C0 4 rfl rfl (by decide) hin4 1 ykd_54 (by decide) (by decide +kernel) yv4_ahead dX4_until_44 ?_
          refine y_callV (As := []) (rest := _) (n := 0) C0 (mX3_letAnHourGo l D cy adr _ 27 (Or.inr rfl) hsp9) 3 rfl (by decide) ykd_ahead gX4_until_X3_letAnHourGo rfl rfl rfl (by decide +kernel) ⟨by decide, by decide⟩ rfl rfl (Nat.le_of_ble_eq_true rfl) dX4_until_47 ⟨by decide, by decide⟩ ?_
          refine y_pop C0 dX4_until_50 rfl ?_
          refine y_aload_n C0 1 dX4_until_51 rfl rfl ?_
          refine y_ifnull C0 dX4_until_52 ?_
          refine y_aload_n C0 1 dX4_until_55 rfl rfl ?_
          refine y_get C0 0 rfl rfl (by decide) hin0 4 (ykd_bk (Or.inr rfl) hb) (by decide) (by decide +kernel) (yvi0 (ykd_bk (Or.inr rfl) hb)) dX4_until_56 ?_
          refine y_iconst (v := 5) C0 dX4_until_59 (by decide) ?_
          refine y_icmp_ne C0 65 dX4_until_60 (by decide) (fun c_60 => ?_) (fun c_60 => ?_)
          · refine y_iinc (v := nI (i + 1 + 1)) C0 0 [(3, _), (2, _), (1, _), (0, _)] dX4_until_65 rfl (yinc_ok rfl rfl) (by decide) rfl ?_
            refine y_goto C0 36 dX4_until_68 (by decide) ?_
            refine y_sub [0, 1, 2, 3] [(3, _), (2, _), (1, _), (0, _)] rfl ?_
            exact y_eq rfl (by first | rfl | simp [k_2, c_9, c_40, c_60]) rfl (ih_36 _ (by omega) (i + 1) rfl hlt (hF_n hfi (decide_eq_false c_60)))
          · refine y_iload_n C0 0 dX4_until_63 rfl rfl ?_
            exact y_iret C0 dX4_until_64 (by rw [(ut_some (M := M) (b := cN x) c_9 hfi hlt c_60).1]) (mo_n ho9 (ut_some (M := M) (b := cN x) c_9 hfi hlt c_60).2.symm)
    refine y_sub [0, 1, 3, 2] [(3, _), (2, _), (1, _), (0, _)] rfl ?_
    exact hl_36 _ 0 rfl (Nat.zero_le _) rfl
  · have ho9 := k_2
    refine y_ok ho9 ?_
    refine y_widen (k := 1) (n := 6) (by decide) (by decide) ?_
    refine y_iconst (v := 0) C0 dX4_until_12 (by decide) ?_
    exact y_iret C0 dX4_until_13 (by rw [(ut_done (M := M) (b := cN x) c_9).1]) (mo_n ho9 (ut_done (M := M) (b := cN x) c_9).2.symm)
abbrev rX4_firstDoneAhead : Room := { frames := 0, cells := 0, slots := 0, locals := 0 }
set_option maxRecDepth 100000 in
set_option maxHeartbeats 4000000 in
theorem mX4_firstDoneAhead (l : Launch) (D : va_G) (cy : Nat → ClassId) (adr : Nat → Nat) (M : yM)   : Ct l yX4_firstDoneAhead wsX4_firstDoneAhead rX4_firstDoneAhead D cy adr [.ref (adr 54)] M (some (.int (fdR M))) (M) 0 0 := by
  refine Ct.mk cX4_firstDoneAhead 2 (some .int) RX4 (by decide) rfl rfl (Nat.le_of_ble_eq_true rfl) ?_
  intro K C0
  refine y_eq rfl (show ([(0, .ref (adr 54))] : List (Nat × Value)) = lv_args 0 [.ref (adr 54)] from rfl) rfl ?_
  have hin0 : ∀ w ∈ u_ws RX0 TX0 13, w ∈ wsX4_firstDoneAhead := by decide +kernel
  have hin3 : ∀ w ∈ u_ws RX3 TX3 12, w ∈ wsX4_firstDoneAhead := by decide +kernel
  have hin4 : ∀ w ∈ u_ws RX4 TX4 2, w ∈ wsX4_firstDoneAhead := by decide +kernel
  refine y_iconst (v := 0) C0 dX4_firstDoneAhead_0 (by decide) ?_
  refine y_istore_n C0 [(1, _), (0, _)] dX4_firstDoneAhead_1 rfl (by decide) rfl ?_
  have hl_2 : ∀ (n : Nat) (i : Nat), 15 - i = n → i ≤ 15 → fdA M i = none → Y K l rX4_firstDoneAhead D cy adr 2 0 0 (QT K D cy adr (some (.int (fdR M))) (M) 0 0) M [] [(1, .int (nI i)), (0, .ref (adr 54))] 2 [] := by
    intro n
    induction n using Nat.strongRecOn with
    | _ n ih_2 =>
      intro i hn_2 hi hfi
      refine y_iload_n C0 0 dX4_firstDoneAhead_2 rfl rfl ?_
      refine y_aload_n C0 1 dX4_firstDoneAhead_3 rfl rfl ?_
      refine y_get C0 4 rfl rfl (by decide) hin4 0 ykd_54 (by decide) (by decide +kernel) yv4_now dX4_firstDoneAhead_4 ?_
      refine y_get C0 3 rfl rfl (by decide) hin3 0 ykd_now (by decide) (by decide +kernel) (yv3_books ykd_now) dX4_firstDoneAhead_7 ?_
      refine y_alen C0 7 (ykd_w1 (Or.inl rfl)) (by decide) (by decide) dX4_firstDoneAhead_10 ?_
      refine y_icmp_ge C0 66 dX4_firstDoneAhead_11 (by decide) (fun c_11 => ?_) (fun c_11 => ?_)
      · have he := ct_end (N := 15) (by decide) hi c_11
        subst he
        refine y_iconst (v := (-1)) C0 dX4_firstDoneAhead_66 (by decide) ?_
        exact y_iret C0 dX4_firstDoneAhead_67 (by rw [fdR_n hfi]) rfl
      · have hlt := ct_lt (N := 15) (by decide) hi c_11
        refine y_iload_n C0 0 dX4_firstDoneAhead_14 rfl rfl ?_
        refine y_aload_n C0 1 dX4_firstDoneAhead_15 rfl rfl ?_
        refine y_get C0 4 rfl rfl (by decide) hin4 1 ykd_54 (by decide) (by decide +kernel) yv4_ahead dX4_firstDoneAhead_16 ?_
        refine y_get C0 3 rfl rfl (by decide) hin3 0 ykd_ahead (by decide) (by decide +kernel) (yv3_books ykd_ahead) dX4_firstDoneAhead_19 ?_
        refine y_alen C0 7 (ykd_w1 (Or.inr rfl)) (by decide) (by decide) dX4_firstDoneAhead_22 ?_
        refine y_icmp_ge C0 66 dX4_firstDoneAhead_23 (by decide) (fun c_23 => ?_) (fun c_23 => ?_)
        · exact absurd c_23 (nI_ge (show i < 15 from hlt) (by decide))
        · refine y_aload_n C0 1 dX4_firstDoneAhead_26 rfl rfl ?_
          refine y_get C0 4 rfl rfl (by decide) hin4 0 ykd_54 (by decide) (by decide +kernel) yv4_now dX4_firstDoneAhead_27 ?_
          refine y_get C0 3 rfl rfl (by decide) hin3 0 ykd_now (by decide) (by decide +kernel) (yv3_books ykd_now) dX4_firstDoneAhead_30 ?_
          refine y_iload_n C0 0 dX4_firstDoneAhead_33 rfl rfl ?_
          refine y_aald C0 (i) 7 (ykd_w1 (Or.inl rfl)) (by decide) (by decide) rfl (by omega : i < 15) (yel_bk (Or.inl rfl)) dX4_firstDoneAhead_34 ?_
          refine y_get C0 0 rfl rfl (by decide) hin0 4 (ykd_bk (Or.inl rfl) (by omega : i < 15)) (by decide) (by decide +kernel) (yvi0 (ykd_bk (Or.inl rfl) (by omega : i < 15))) dX4_firstDoneAhead_35 ?_
          refine y_iconst (v := 5) C0 dX4_firstDoneAhead_38 (by decide) ?_
          refine y_icmp_ge C0 60 dX4_firstDoneAhead_39 (by decide) (fun c_39 => ?_) (fun c_39 => ?_)
          · refine y_iinc (v := nI (i + 1)) C0 0 [(1, _), (0, _)] dX4_firstDoneAhead_60 rfl (yinc_ok rfl rfl) (by decide) rfl ?_
            refine y_goto C0 2 dX4_firstDoneAhead_63 (by decide) ?_
            refine y_sub [0, 1] [(1, _), (0, _)] rfl ?_
            exact ih_2 _ (by omega) (i + 1) rfl hlt (fdA_a hfi (Int32.not_lt.mpr c_39))
          · refine y_aload_n C0 1 dX4_firstDoneAhead_42 rfl rfl ?_
            refine y_get C0 4 rfl rfl (by decide) hin4 1 ykd_54 (by decide) (by decide +kernel) yv4_ahead dX4_firstDoneAhead_43 ?_
            refine y_get C0 3 rfl rfl (by decide) hin3 0 ykd_ahead (by decide) (by decide +kernel) (yv3_books ykd_ahead) dX4_firstDoneAhead_46 ?_
            refine y_iload_n C0 0 dX4_firstDoneAhead_49 rfl rfl ?_
            refine y_aald C0 (i) 7 (ykd_w1 (Or.inr rfl)) (by decide) (by decide) rfl (by omega : i < 15) (yel_bk (Or.inr rfl)) dX4_firstDoneAhead_50 ?_
            refine y_get C0 0 rfl rfl (by decide) hin0 4 (ykd_bk (Or.inr rfl) (by omega : i < 15)) (by decide) (by decide +kernel) (yvi0 (ykd_bk (Or.inr rfl) (by omega : i < 15))) dX4_firstDoneAhead_51 ?_
            refine y_iconst (v := 5) C0 dX4_firstDoneAhead_54 (by decide) ?_
            refine y_icmp_ne C0 60 dX4_firstDoneAhead_55 (by decide) (fun c_55 => ?_) (fun c_55 => ?_)
            · refine y_iinc (v := nI (i + 1)) C0 0 [(1, _), (0, _)] dX4_firstDoneAhead_60 rfl (yinc_ok rfl rfl) (by decide) rfl ?_
              refine y_goto C0 2 dX4_firstDoneAhead_63 (by decide) ?_
              refine y_sub [0, 1] [(1, _), (0, _)] rfl ?_
              exact ih_2 _ (by omega) (i + 1) rfl hlt (fdA_b hfi c_55)
            · refine y_iload_n C0 0 dX4_firstDoneAhead_58 rfl rfl ?_
              exact y_iret C0 dX4_firstDoneAhead_59 (by rw [fdA_s hfi (Int32.not_le.mp c_39) c_55 hlt]) rfl
  refine y_sub [0, 1] [(1, _), (0, _)] rfl ?_
  exact hl_2 _ 0 rfl (Nat.zero_le _) rfl
abbrev rX4_next : Room := { frames := 5, cells := 0, slots := 0, locals := 125 }
set_option maxRecDepth 100000 in
set_option maxHeartbeats 4000000 in
theorem mX4_next (l : Launch) (D : va_G) (cy : Nat → ClassId) (adr : Nat → Nat) (M : yM)  (hsp : wSpOK M 0) : Ct l yX4_next wsX4_next rX4_next D cy adr [.ref (adr 54)] M (some (.int (nxR M))) (nxM M) 0 0 := by
  refine Ct.mk cX4_next 2 (some .int) RX4 (by decide) rfl rfl (Nat.le_of_ble_eq_true rfl) ?_
  intro K C0
  refine y_eq rfl (show ([(0, .ref (adr 54))] : List (Nat × Value)) = lv_args 0 [.ref (adr 54)] from rfl) rfl ?_
  have hin4 : ∀ w ∈ u_ws RX4 TX4 2, w ∈ wsX4_next := by decide +kernel
  refine y_aload_n C0 0 dX4_next_0 rfl rfl ?_
  refine y_get C0 4 rfl rfl (by decide) hin4 1 ykd_54 (by decide) (by decide +kernel) yv4_ahead dX4_next_1 ?_
  refine y_aload_n C0 0 dX4_next_4 rfl rfl ?_
  refine y_get C0 4 rfl rfl (by decide) hin4 0 ykd_54 (by decide) (by decide +kernel) yv4_now dX4_next_5 ?_
  refine y_callV (As := [_]) (rest := _) (n := 1) C0 (mX3_setTo l D cy adr _ 27 (Or.inr rfl) 0 (Or.inl rfl) (by decide)) 3 rfl (by decide) ykd_ahead gX4_next_X3_setTo rfl rfl rfl (by decide +kernel) ⟨by decide, by decide⟩ rfl rfl (Nat.le_of_ble_eq_true rfl) dX4_next_8 ⟨by decide, by decide⟩ ?_
  refine y_iconst (v := 1) C0 dX4_next_11 (by decide) ?_
  refine y_istore_n C0 [(1, _), (0, _)] dX4_next_12 rfl (by decide) rfl ?_
  have hl_13 : ∀ (n : Nat) (i : Nat), 250 - i = n → i ≤ 250 → hF (nxP M) i = none → Y K l rX4_next D cy adr 2 0 0 (QT K D cy adr (some (.int (nxR M))) (nxM M) 0 0) (wHours (wSet M 27 0) 27 i) [] [(1, .int (nI (i + 1))), (0, .ref (adr 54))] 13 [] := by
    intro n
    induction n using Nat.strongRecOn with
    | _ n ih_13 =>
      intro i hn_13 hi hfi
      refine y_iload_n C0 0 dX4_next_13 rfl rfl ?_
      refine y_sipush (v := 250) C0 dX4_next_14 (by decide) ?_
      refine y_icmp_gt C0 41 dX4_next_17 (by decide) (fun c_17 => ?_) (fun c_17 => ?_)
      · have he : i = 250 := by
          have h9 := (nI_ltI (a := 250) (b := i + 1) (by decide) (by omega)).mp c_17
          omega
        subst he
        refine y_iconst (v := (-1)) C0 dX4_next_41 (by decide) ?_
        exact y_iret C0 dX4_next_42 (by rw [(nx_none hfi).1]) (nx_none hfi).2.symm
      · have hlt : i < 250 := by
          rcases Nat.lt_or_ge i 250 with q | q
          · exact q
          · exact absurd (show nI 250 < nI (i + 1) from nI_lt (by omega) (by omega)) c_17
        have hsp9 := (wSpOK_cp hsp).out (wOut_hours (M := wSet M 27 0) (o := 27) i)
        refine y_aload_n C0 1 dX4_next_20 rfl rfl ?_
        refine y_get C0 4 rfl rfl (by decide) hin4 1 ykd_54 (by decide) (by decide +kernel) yv4_ahead dX4_next_21 ?_
        refine y_callV (As := []) (rest := _) (n := 0) C0 (mX3_letAnHourGo l D cy adr _ 27 (Or.inr rfl) hsp9) 3 rfl (by decide) ykd_ahead gX4_next_X3_letAnHourGo rfl rfl rfl (by decide +kernel) ⟨by decide, by decide⟩ rfl rfl (Nat.le_of_ble_eq_true rfl) dX4_next_24 ⟨by decide, by decide⟩ ?_
        refine y_if_le C0 35 dX4_next_27 (by decide) (fun c_27 => ?_) (fun c_27 => ?_)
        · refine y_iinc (v := nI (i + 1 + 1)) C0 0 [(1, _), (0, _)] dX4_next_35 rfl (yinc_ok rfl rfl) (by decide) rfl ?_
          refine y_goto C0 13 dX4_next_38 (by decide) ?_
          refine y_sub [0, 1] [(1, _), (0, _)] rfl ?_
          exact y_eq rfl (by first | rfl | simp [c_17, c_27]) rfl (ih_13 _ (by omega) (i + 1) rfl hlt (nx_no hfi c_27))
        · refine y_aload_n C0 1 dX4_next_30 rfl rfl ?_
          refine y_callV (As := []) (rest := _) (n := 0) C0 (mX4_firstDoneAhead l D cy adr _) 4 rfl (by decide) ykd_54 gX4_next_X4_firstDoneAhead rfl rfl rfl (by decide +kernel) ⟨by decide, by decide⟩ rfl rfl (Nat.le_of_ble_eq_true rfl) dX4_next_31 ⟨by decide, by decide⟩ ?_
          exact y_iret C0 dX4_next_34 (by rw [(nx_some hfi hlt c_27).1]; rfl) (nx_some hfi hlt c_27).2.symm
  refine y_sub [0, 1] [(1, _), (0, _)] rfl ?_
  exact hl_13 _ 0 rfl (Nat.zero_le _) rfl
abbrev rX4_sewnAheadWith : Room := { frames := 6, cells := 0, slots := 0, locals := 148 }
set_option maxRecDepth 100000 in
set_option maxHeartbeats 4000000 in
theorem mX4_sewnAheadWith (l : Launch) (D : va_G) (cy : Nat → ClassId) (adr : Nat → Nat) (M : yM) (x : Int32) (f : Int32) (hk : okS M x = none) (hsp : wSpOK M 0) : Ct l yX4_sewnAheadWith wsX4_sewnAheadWith rX4_sewnAheadWith D cy adr [.ref (adr 54), .int x, .int f] M (some (.int (saR M (cN x) f))) (saM M (cN x) f) 0 0 := by
  refine Ct.mk cX4_sewnAheadWith 4 (some .int) RX4 (by decide) rfl rfl (Nat.le_of_ble_eq_true rfl) ?_
  intro K C0
  refine y_eq rfl (show ([(0, .ref (adr 54)), (1, .int x), (2, .int f)] : List (Nat × Value)) = lv_args 0 [.ref (adr 54), .int x, .int f] from rfl) rfl ?_
  have hin2 : ∀ w ∈ u_ws RX2 TX2 3, w ∈ wsX4_sewnAheadWith := by decide +kernel
  have hin3 : ∀ w ∈ u_ws RX3 TX3 12, w ∈ wsX4_sewnAheadWith := by decide +kernel
  have hin4 : ∀ w ∈ u_ws RX4 TX4 2, w ∈ wsX4_sewnAheadWith := by decide +kernel
  refine y_aload_n C0 0 dX4_sewnAheadWith_0 rfl rfl ?_
  refine y_get C0 4 rfl rfl (by decide) hin4 1 ykd_54 (by decide) (by decide +kernel) yv4_ahead dX4_sewnAheadWith_1 ?_
  refine y_aload_n C0 0 dX4_sewnAheadWith_4 rfl rfl ?_
  refine y_get C0 4 rfl rfl (by decide) hin4 0 ykd_54 (by decide) (by decide +kernel) yv4_now dX4_sewnAheadWith_5 ?_
  refine y_callV (As := [_]) (rest := _) (n := 1) C0 (mX3_setTo l D cy adr _ 27 (Or.inr rfl) 0 (Or.inl rfl) (by decide)) 3 rfl (by decide) ykd_ahead gX4_sewnAheadWith_X3_setTo rfl rfl rfl (by decide +kernel) ⟨by decide, by decide⟩ rfl rfl (Nat.le_of_ble_eq_true rfl) dX4_sewnAheadWith_8 ⟨by decide, by decide⟩ ?_
  refine y_aload_n C0 0 dX4_sewnAheadWith_11 rfl rfl ?_
  refine y_get C0 4 rfl rfl (by decide) hin4 1 ykd_54 (by decide) (by decide +kernel) yv4_ahead dX4_sewnAheadWith_12 ?_
  refine y_iload_n C0 1 dX4_sewnAheadWith_15 rfl rfl ?_
  obtain ⟨hb, eb, hcb⟩ := okS_e hk
  refine y_top eb ?_
  refine y_callV (As := [_]) (rest := _) (n := 1) C0 (mX3_sewerNumbered l D cy adr _ 27 (Or.inr rfl) (cN x) hb (by rw [wSet_4]; exact hcb)) 3 rfl (by decide) ykd_ahead gX4_sewnAheadWith_X3_sewerNumbered rfl rfl rfl (by decide +kernel) ⟨by decide, by decide⟩ rfl rfl (Nat.le_of_ble_eq_true rfl) dX4_sewnAheadWith_16 ⟨by decide, by decide⟩ ?_
  refine y_astore_n C0 [(3, _), (0, _), (1, _), (2, _)] dX4_sewnAheadWith_19 rfl (by decide) rfl ?_
  refine y_aload_n C0 0 dX4_sewnAheadWith_20 rfl rfl ?_
  refine y_ifnull C0 dX4_sewnAheadWith_21 ?_
  refine y_aload_n C0 0 dX4_sewnAheadWith_24 rfl rfl ?_
  refine y_iload_n C0 3 dX4_sewnAheadWith_25 rfl rfl ?_
  refine y_put C0 2 rfl rfl (by decide) hin2 tyX2 tyX2_ok nmX2 2 (ykd_sw (Or.inr rfl) hb) (by decide) (by decide +kernel) (yrn2 (ykd_sw (Or.inr rfl) hb)) rfl (by decide +kernel) dX4_sewnAheadWith_26 ?_
  refine y_aload_n C0 1 dX4_sewnAheadWith_29 rfl rfl ?_
  refine y_get C0 4 rfl rfl (by decide) hin4 1 ykd_54 (by decide) (by decide +kernel) yv4_ahead dX4_sewnAheadWith_30 ?_
  refine y_bipush (v := 12) C0 dX4_sewnAheadWith_33 (by decide) ?_
  refine y_callV (As := [_]) (rest := _) (n := 1) C0 (mX3_letHoursGo l D cy adr (saA M (cN x) f) 27 (Or.inr rfl) _ (wSpOK_sa hsp)) 3 rfl (by decide) ykd_ahead gX4_sewnAheadWith_X3_letHoursGo rfl rfl rfl (by decide +kernel) ⟨by decide, by decide⟩ rfl rfl (Nat.le_of_ble_eq_true rfl) dX4_sewnAheadWith_35 ⟨by decide, by decide⟩ ?_
  refine y_mem (M' := saM M (cN x) f) (congrArg (wHours (saA M (cN x) f) 27) (show (12 : Int32).toNatClampNeg = 12 by decide)) ?_
  refine y_pop C0 dX4_sewnAheadWith_38 rfl ?_
  refine y_aload_n C0 1 dX4_sewnAheadWith_39 rfl rfl ?_
  refine y_get C0 4 rfl rfl (by decide) hin4 1 ykd_54 (by decide) (by decide +kernel) yv4_ahead dX4_sewnAheadWith_40 ?_
  refine y_get C0 3 rfl rfl (by decide) hin3 10 ykd_ahead (by decide) (by decide +kernel) (yvi3 ykd_ahead (by decide)) dX4_sewnAheadWith_43 ?_
  exact y_iret C0 dX4_sewnAheadWith_46 rfl rfl
abbrev rX4_advise : Room := { frames := 7, cells := 1, slots := 6, locals := 171 }
set_option maxRecDepth 100000 in
set_option maxHeartbeats 4000000 in
theorem mX4_advise (l : Launch) (hlf : l.stackTraces = false) (D : va_G) (cy : Nat → ClassId) (adr : Nat → Nat) (M : yM) (x : Int32) (hsp : wSpOK M 0) : Cv l yX4_advise wsX4_advise rX4_advise D cy adr [.ref (adr 54), .int x] M (okS M x) (some (.int (adB M x 3))) (mo (okS M x) (adM M x 3) M) 1 6 := by
  refine Cv.mk cX4_advise 6 (some .int) RX4 (by decide) rfl rfl (Nat.le_of_ble_eq_true rfl) ?_
  intro K C0 hX hT
  refine y_eq rfl (show ([(0, .ref (adr 54)), (1, .int x)] : List (Nat × Value)) = lv_args 0 [.ref (adr 54), .int x] from rfl) rfl ?_
  have hin4 : ∀ w ∈ u_ws RX4 TX4 2, w ∈ wsX4_advise := by decide +kernel
  refine y_aload_n C0 0 dX4_advise_0 rfl rfl ?_
  refine y_iload_n C0 1 dX4_advise_1 rfl rfl ?_
  refine y_callVX (As := [_]) (rest := _) (n := 1) C0 hX hT (mX4_knownSewer l hlf D cy adr _ _) 4 rfl (by decide) ykd_54 gX4_advise_X4_knownSewer rfl rfl rfl (by decide +kernel) ⟨by decide, by decide⟩ rfl rfl (Nat.le_of_ble_eq_true rfl) dX4_advise_2 ⟨by decide, by decide⟩ (fun Ex hE => ⟨by simp [thn, hE], mo_t (e := Ex) (by simp [thn, hE])⟩) (by decide) (by decide) (fun k_2 => ?_)
  refine y_pop C0 dX4_advise_5 rfl ?_
  have ho9 := k_2
  refine y_ok ho9 ?_
  refine y_widen (k := 1) (n := 6) (by decide) (by decide) ?_
  refine y_iconst (v := (-1)) C0 dX4_advise_6 (by decide) ?_
  refine y_istore_n C0 [(2, _), (0, _), (1, _)] dX4_advise_7 rfl (by decide) rfl ?_
  refine y_iconst (v := (-1)) C0 dX4_advise_8 (by decide) ?_
  refine y_istore_n C0 [(3, _), (2, _), (0, _), (1, _)] dX4_advise_9 rfl (by decide) rfl ?_
  refine y_iconst (v := 0) C0 dX4_advise_10 (by decide) ?_
  refine y_istore C0 [(4, _), (3, _), (2, _), (0, _), (1, _)] dX4_advise_11 (by decide) rfl ?_
  have hl_13 : ∀ (n : Nat) (i : Nat), 3 - i = n → i ≤ 3 → Y K l rX4_advise D cy adr 6 1 6 (QT K D cy adr (some (.int (adB M x 3))) (mo (okS M x) (adM M x 3) M) 1 6) (adM M x i) [] [(4, .int (nI i)), (3, .int (adT M x i)), (2, .int (adB M x i)), (1, .int x), (0, .ref (adr 54))] 13 [] := by
    intro n
    induction n using Nat.strongRecOn with
    | _ n ih_13 =>
      intro i hn_13 hi
      refine y_iload C0 0 dX4_advise_13 rfl ?_
      refine y_iconst (v := 3) C0 dX4_advise_15 (by decide) ?_
      refine y_icmp_ge C0 60 dX4_advise_16 (by decide) (fun c_16 => ?_) (fun c_16 => ?_)
      · have he := ct_end (N := 3) (by decide) hi c_16
        subst he
        refine y_iload_n C0 2 dX4_advise_60 rfl rfl ?_
        exact y_iret C0 dX4_advise_61 rfl (mo_n ho9 rfl)
      · have hlt := ct_lt (N := 3) (by decide) hi c_16
        have hno := nOut_adM (M := M) (x := x) (okS_e ho9).1 i
        refine y_aload_n C0 4 dX4_advise_19 rfl rfl ?_
        refine y_get C0 4 rfl rfl (by decide) hin4 0 ykd_54 (by decide) (by decide +kernel) yv4_now dX4_advise_20 ?_
        refine y_iload C0 0 dX4_advise_23 rfl ?_
        refine y_iload_n C0 3 dX4_advise_25 rfl rfl ?_
        refine y_callV (As := [_, _]) (rest := _) (n := 2) C0 (mX3_othersAt l D cy adr _ 0 (Or.inl rfl) _ _) 3 rfl (by decide) ykd_now gX4_advise_X3_othersAt rfl rfl rfl (by decide +kernel) ⟨by decide, by decide⟩ rfl rfl (Nat.le_of_ble_eq_true rfl) dX4_advise_26 ⟨by decide, by decide⟩ ?_
        refine y_iconst (v := 2) C0 dX4_advise_29 (by decide) ?_
        refine y_icmp_ge C0 54 dX4_advise_30 (by decide) (fun c_30 => ?_) (fun c_30 => ?_)
        · refine y_iinc (v := nI (i + 1)) C0 0 [(4, _), (3, _), (2, _), (1, _), (0, _)] dX4_advise_54 rfl (yinc_ok rfl rfl) (by decide) rfl ?_
          refine y_goto C0 13 dX4_advise_57 (by decide) ?_
          refine y_sub [0, 1, 2, 3, 4] [(4, _), (3, _), (2, _), (1, _), (0, _)] rfl ?_
          exact y_eq (by simp only [adM, k_2, c_16, c_30, if_true, if_false]) (by simp only [adT, adB, k_2, c_16, c_30, if_true, if_false]) rfl (ih_13 _ (by omega) (i + 1) rfl hlt)
        · refine y_aload_n C0 4 dX4_advise_33 rfl rfl ?_
          refine y_iload_n C0 3 dX4_advise_34 rfl rfl ?_
          refine y_iload C0 0 dX4_advise_35 rfl ?_
          refine y_callV (As := [_, _]) (rest := _) (n := 2) C0 (mX4_sewnAheadWith l D cy adr _ _ _ ((okS_out hno).trans ho9) (wSpOK_n hsp hno)) 4 rfl (by decide) ykd_54 gX4_advise_X4_sewnAheadWith rfl rfl rfl (by decide +kernel) ⟨by decide, by decide⟩ rfl rfl (Nat.le_of_ble_eq_true rfl) dX4_advise_37 ⟨by decide, by decide⟩ ?_
          refine y_istore C0 [(5, _), (4, _), (3, _), (2, _), (1, _), (0, _)] dX4_advise_40 (by decide) rfl ?_
          refine y_iload C0 0 dX4_advise_42 rfl ?_
          refine y_iload_n C0 2 dX4_advise_44 rfl rfl ?_
          refine y_icmp_le C0 54 dX4_advise_45 (by decide) (fun c_45 => ?_) (fun c_45 => ?_)
          · refine y_iinc (v := nI (i + 1)) C0 1 [(4, _), (5, _), (3, _), (2, _), (1, _), (0, _)] dX4_advise_54 rfl (yinc_ok rfl rfl) (by decide) rfl ?_
            refine y_goto C0 13 dX4_advise_57 (by decide) ?_
            refine y_sub [0, 2, 3, 4, 5] [(4, _), (3, _), (2, _), (1, _), (0, _)] rfl ?_
            exact y_eq (by simp only [adM, k_2, c_16, c_30, c_45, if_true, if_false]) (by simp only [adT, adB, k_2, c_16, c_30, c_45, if_true, if_false]) rfl (ih_13 _ (by omega) (i + 1) rfl hlt)
          · refine y_iload C0 0 dX4_advise_48 rfl ?_
            refine y_istore_n C0 [(3, _), (5, _), (4, _), (2, _), (1, _), (0, _)] dX4_advise_50 rfl (by decide) rfl ?_
            refine y_iload C0 2 dX4_advise_51 rfl ?_
            refine y_istore_n C0 [(2, _), (3, _), (5, _), (4, _), (1, _), (0, _)] dX4_advise_53 rfl (by decide) rfl ?_
            refine y_iinc (v := nI (i + 1)) C0 3 [(4, _), (2, _), (3, _), (5, _), (1, _), (0, _)] dX4_advise_54 rfl (yinc_ok rfl rfl) (by decide) rfl ?_
            refine y_goto C0 13 dX4_advise_57 (by decide) ?_
            refine y_sub [0, 2, 1, 4, 5] [(4, _), (3, _), (2, _), (1, _), (0, _)] rfl ?_
            exact y_eq (by simp only [adM, k_2, c_16, c_30, c_45, if_true, if_false]) (by simp only [adT, adB, k_2, c_16, c_30, c_45, if_true, if_false]) rfl (ih_13 _ (by omega) (i + 1) rfl hlt)
  refine y_sub [0, 1, 2, 4, 3] [(4, _), (3, _), (2, _), (1, _), (0, _)] rfl ?_
  exact hl_13 _ 0 rfl (Nat.zero_le _)
abbrev rX4_digest : Room := { frames := 4, cells := 0, slots := 0, locals := 98 }
set_option maxRecDepth 100000 in
set_option maxHeartbeats 4000000 in
theorem mX4_digest (l : Launch) (D : va_G) (cy : Nat → ClassId) (adr : Nat → Nat) (M : yM)  (B S : Nat) (hB : B ≤ 15) (hS : S ≤ 5) (eB : M 0 3 = nI B) (eS : M 0 4 = nI S) : Ct l yX4_digest wsX4_digest rX4_digest D cy adr [.ref (adr 54)] M (some (.long (dgBs M S B))) (M) 0 0 := by
  refine Ct.mk cX4_digest 8 (some .long) RX4 (by decide) rfl rfl (Nat.le_of_ble_eq_true rfl) ?_
  intro K C0
  refine y_eq rfl (show ([(0, .ref (adr 54))] : List (Nat × Value)) = lv_args 0 [.ref (adr 54)] from rfl) rfl ?_
  have hin3 : ∀ w ∈ u_ws RX3 TX3 12, w ∈ wsX4_digest := by decide +kernel
  have hin4 : ∀ w ∈ u_ws RX4 TX4 2, w ∈ wsX4_digest := by decide +kernel
  refine y_ldc2 (v := 1367) C0 (by decide +kernel) dX4_digest_0 ?_
  refine y_lstore_n C0 [(1, _), (0, _)] dX4_digest_3 rfl (by decide) rfl ?_
  refine y_iconst (v := 0) C0 dX4_digest_4 (by decide) ?_
  refine y_istore_n C0 [(3, _), (1, _), (0, _)] dX4_digest_5 rfl (by decide) rfl ?_
  have hl_6 : ∀ (n : Nat) (j : Nat), 15 - j = n → j ≤ 15 → Y K l rX4_digest D cy adr 8 0 0 (QT K D cy adr (some (.long (dgBs M S B))) (M) 0 0) M [] [(3, .int (nI j)), (1, .long (dgA M j)), (0, .ref (adr 54))] 6 [] := by
    intro n
    induction n using Nat.strongRecOn with
    | _ n ih_6 =>
      intro j hn_6 hj
      refine y_iload_n C0 0 dX4_digest_6 rfl rfl ?_
      refine y_bipush (v := 15) C0 dX4_digest_7 (by decide) ?_
      refine y_icmp_ge C0 34 dX4_digest_9 (by decide) (fun c_9 => ?_) (fun c_9 => ?_)
      · have hej := ct_end (N := 15) (by decide) hj c_9
        subst hej
        refine y_aload_n C0 2 dX4_digest_34 rfl rfl ?_
        refine y_get C0 4 rfl rfl (by decide) hin4 0 ykd_54 (by decide) (by decide +kernel) yv4_now dX4_digest_35 ?_
        refine y_get C0 3 rfl rfl (by decide) hin3 2 ykd_now (by decide) (by decide +kernel) (yv3_frames ykd_now) dX4_digest_38 ?_
        refine y_astore_n C0 [(3, _), (1, _), (0, _)] dX4_digest_41 rfl (by decide) rfl ?_
        refine y_aload_n C0 0 dX4_digest_42 rfl rfl ?_
        refine y_alen C0 9 (ykd_w3 (Or.inl rfl)) (by decide) (by decide) dX4_digest_43 ?_
        refine y_istore C0 [(4, _), (3, _), (1, _), (0, _)] dX4_digest_44 (by decide) rfl ?_
        refine y_iconst (v := 0) C0 dX4_digest_46 (by decide) ?_
        refine y_istore C0 [(5, _), (4, _), (3, _), (1, _), (0, _)] dX4_digest_47 (by decide) rfl ?_
        have hl_49 : ∀ (n : Nat) (i : Nat), 3 - i = n → i ≤ 3 → Y K l rX4_digest D cy adr 8 0 0 (QT K D cy adr (some (.long (dgBs M S B))) (M) 0 0) M [] [(5, .int (nI i)), (4, .int (nI 3)), (3, .ref (adr (0 + 3))), (1, .long (dgFs M i)), (0, .ref (adr 54))] 49 [] := by
          intro n
          induction n using Nat.strongRecOn with
          | _ n ih_49 =>
            intro i hn_49 hi
            refine y_iload C0 0 dX4_digest_49 rfl ?_
            refine y_iload C0 1 dX4_digest_51 rfl ?_
            refine y_icmp_ge C0 103 dX4_digest_53 (by decide) (fun c_53 => ?_) (fun c_53 => ?_)
            · have hei := ct_end (N := 3) (by decide) hi c_53
              subst hei
              refine y_iconst (v := 0) C0 dX4_digest_103 (by decide) ?_
              refine y_istore_n C0 [(3, _), (5, _), (4, _), (1, _), (0, _)] dX4_digest_104 rfl (by decide) rfl ?_
              have hl_105 : ∀ (n : Nat) (i : Nat), S - i = n → i ≤ S → Y K l rX4_digest D cy adr 8 0 0 (QT K D cy adr (some (.long (dgBs M S B))) (M) 0 0) M [] [(3, .int (nI i)), (1, .long (dgSs M i)), (0, .ref (adr 54))] 105 [] := by
                intro n
                induction n using Nat.strongRecOn with
                | _ n ih_105 =>
                  intro i hn_105 hi
                  refine y_iload_n C0 0 dX4_digest_105 rfl rfl ?_
                  refine y_aload_n C0 2 dX4_digest_106 rfl rfl ?_
                  refine y_get C0 4 rfl rfl (by decide) hin4 0 ykd_54 (by decide) (by decide +kernel) yv4_now dX4_digest_107 ?_
                  refine y_get C0 3 rfl rfl (by decide) hin3 1 ykd_now (by decide) (by decide +kernel) (yv3_sewers ykd_now) dX4_digest_110 ?_
                  refine y_alen C0 8 (ykd_w2 (Or.inl rfl)) (by decide) (by decide) dX4_digest_113 ?_
                  refine y_icmp_ge C0 171 dX4_digest_114 (by decide) (fun c_114 => ?_) (fun c_114 => ?_)
                  · have hei : S = i := by
                      have h9 := (nI_leI (a := 5) (b := i) (by decide) (by omega)).mp c_114
                      omega
                    subst hei
                    refine y_iconst (v := 0) C0 dX4_digest_171 (by decide) ?_
                    refine y_istore_n C0 [(3, _), (1, _), (0, _)] dX4_digest_172 rfl (by decide) rfl ?_
                    have hl_173 : ∀ (n : Nat) (i : Nat), B - i = n → i ≤ B → Y K l rX4_digest D cy adr 8 0 0 (QT K D cy adr (some (.long (dgBs M S B))) (M) 0 0) M [] [(3, .int (nI i)), (1, .long (dgBs M S i)), (0, .ref (adr 54))] 173 [] := by
                      intro n
                      induction n using Nat.strongRecOn with
                      | _ n ih_173 =>
                        intro i hn_173 hi
                        refine y_iload_n C0 0 dX4_digest_173 rfl rfl ?_
                        refine y_aload_n C0 2 dX4_digest_174 rfl rfl ?_
                        refine y_get C0 4 rfl rfl (by decide) hin4 0 ykd_54 (by decide) (by decide +kernel) yv4_now dX4_digest_175 ?_
                        refine y_get C0 3 rfl rfl (by decide) hin3 0 ykd_now (by decide) (by decide +kernel) (yv3_books ykd_now) dX4_digest_178 ?_
                        refine y_alen C0 7 (ykd_w1 (Or.inl rfl)) (by decide) (by decide) dX4_digest_181 ?_
                        refine y_icmp_ge C0 240 dX4_digest_182 (by decide) (fun c_182 => ?_) (fun c_182 => ?_)
                        · have hei : B = i := by
                            have h9 := (nI_leI (a := 15) (b := i) (by decide) (by omega)).mp c_182
                            omega
                          subst hei
                          refine y_lload_n C0 1 dX4_digest_240 rfl rfl ?_
                          exact y_lret C0 dX4_digest_241 rfl rfl
                        · refine y_iload_n C0 0 dX4_digest_185 rfl rfl ?_
                          refine y_aload_n C0 2 dX4_digest_186 rfl rfl ?_
                          refine y_get C0 4 rfl rfl (by decide) hin4 0 ykd_54 (by decide) (by decide +kernel) yv4_now dX4_digest_187 ?_
                          refine y_get C0 3 rfl rfl (by decide) hin3 3 ykd_now (by decide) (by decide +kernel) (yvi3 ykd_now (by decide)) dX4_digest_190 ?_
                          refine y_icmp_ge C0 240 dX4_digest_193 (by decide) (fun c_193 => ?_) (fun c_193 => ?_)
                          · have hei : B = i := by
                              rw [eB] at c_193
                              exact (ct_end (by omega) hi c_193).symm
                            subst hei
                            refine y_lload_n C0 1 dX4_digest_240 rfl rfl ?_
                            exact y_lret C0 dX4_digest_241 rfl rfl
                          · rw [eB] at c_193
                            have hli := ct_lt (N := B) (by omega) hi c_193
                            refine y_iconst (v := 0) C0 dX4_digest_196 (by decide) ?_
                            refine y_istore C0 [(4, _), (3, _), (1, _), (0, _)] dX4_digest_197 (by decide) rfl ?_
                            have hl_199 : ∀ (n : Nat) (j : Nat), 11 - j = n → j ≤ 11 → Y K l rX4_digest D cy adr 8 0 0 (QT K D cy adr (some (.long (dgBs M S B))) (M) 0 0) M [] [(4, .int (nI j)), (3, .int (nI i)), (1, .long (dgB M S (dgBs M S i) i j)), (0, .ref (adr 54))] 199 [] := by
                              intro n
                              induction n using Nat.strongRecOn with
                              | _ n ih_199 =>
                                intro j hn_199 hj
                                refine y_iload C0 0 dX4_digest_199 rfl ?_
                                refine y_bipush (v := 11) C0 dX4_digest_201 (by decide) ?_
                                refine y_icmp_ge C0 234 dX4_digest_203 (by decide) (fun c_203 => ?_) (fun c_203 => ?_)
                                · have hej := ct_end (N := 11) (by decide) hj c_203
                                  subst hej
                                  refine y_iinc (v := nI (i + 1)) C0 1 [(3, _), (4, _), (1, _), (0, _)] dX4_digest_234 rfl (yinc_ok rfl rfl) (by decide) rfl ?_
                                  refine y_goto C0 173 dX4_digest_237 (by decide) ?_
                                  refine y_sub [0, 2, 3] [(3, _), (1, _), (0, _)] rfl ?_
                                  exact y_eq rfl rfl rfl (ih_173 _ (by omega) (i + 1) rfl hli)
                                · have hlj := ct_lt (N := 11) (by decide) hj c_203
                                  refine y_lload_n C0 2 dX4_digest_206 rfl rfl ?_
                                  refine y_ldc2 (v := 31) C0 (by decide +kernel) dX4_digest_207 ?_
                                  refine y_lmul C0 dX4_digest_210 ?_
                                  refine y_aload_n C0 3 dX4_digest_211 rfl rfl ?_
                                  refine y_get C0 4 rfl rfl (by decide) hin4 0 ykd_54 (by decide) (by decide +kernel) yv4_now dX4_digest_212 ?_
                                  refine y_get C0 3 rfl rfl (by decide) hin3 0 ykd_now (by decide) (by decide +kernel) (yv3_books ykd_now) dX4_digest_215 ?_
                                  refine y_iload_n C0 1 dX4_digest_218 rfl rfl ?_
                                  refine y_aald C0 (i) 7 (ykd_w1 (Or.inl rfl)) (by decide) (by decide) rfl (by omega : i < 15) (yel_bk (Or.inl rfl)) dX4_digest_219 ?_
                                  refine y_iload C0 0 dX4_digest_220 rfl ?_
                                  refine y_callV (As := [_]) (rest := _) (n := 1) C0 (mX0_tell l D cy adr _ _ (ykd_bk (Or.inl rfl) (by omega)) _) 0 rfl (by decide) (ykd_bk (Or.inl rfl) (by omega : i < 15)) gX4_digest_X0_tell rfl rfl rfl (by decide +kernel) ⟨by decide, by decide⟩ rfl rfl (Nat.le_of_ble_eq_true rfl) dX4_digest_222 ⟨by decide, by decide⟩ ?_
                                  refine y_i2l C0 dX4_digest_225 ?_
                                  refine y_ladd C0 dX4_digest_226 ?_
                                  refine y_lstore_n C0 [(1, _), (4, _), (3, _), (0, _)] dX4_digest_227 rfl (by decide) rfl ?_
                                  refine y_iinc (v := nI (j + 1)) C0 1 [(4, _), (1, _), (3, _), (0, _)] dX4_digest_228 rfl (yinc_ok rfl rfl) (by decide) rfl ?_
                                  refine y_goto C0 199 dX4_digest_231 (by decide) ?_
                                  refine y_sub [0, 2, 1, 3] [(4, _), (3, _), (1, _), (0, _)] rfl ?_
                                  exact y_eq rfl rfl rfl (ih_199 _ (by omega) (j + 1) rfl hlj)
                            refine y_sub [0, 1, 2, 3] [(4, _), (3, _), (1, _), (0, _)] rfl ?_
                            exact hl_199 _ 0 rfl (Nat.zero_le _)
                    refine y_sub [0, 1, 2] [(3, _), (1, _), (0, _)] rfl ?_
                    exact hl_173 _ 0 rfl (Nat.zero_le _)
                  · refine y_iload_n C0 0 dX4_digest_117 rfl rfl ?_
                    refine y_aload_n C0 2 dX4_digest_118 rfl rfl ?_
                    refine y_get C0 4 rfl rfl (by decide) hin4 0 ykd_54 (by decide) (by decide +kernel) yv4_now dX4_digest_119 ?_
                    refine y_get C0 3 rfl rfl (by decide) hin3 4 ykd_now (by decide) (by decide +kernel) (yvi3 ykd_now (by decide)) dX4_digest_122 ?_
                    refine y_icmp_ge C0 171 dX4_digest_125 (by decide) (fun c_125 => ?_) (fun c_125 => ?_)
                    · have hei : S = i := by
                        rw [eS] at c_125
                        exact (ct_end (by omega) hi c_125).symm
                      subst hei
                      refine y_iconst (v := 0) C0 dX4_digest_171 (by decide) ?_
                      refine y_istore_n C0 [(3, _), (1, _), (0, _)] dX4_digest_172 rfl (by decide) rfl ?_
                      have hl_173 : ∀ (n : Nat) (i : Nat), B - i = n → i ≤ B → Y K l rX4_digest D cy adr 8 0 0 (QT K D cy adr (some (.long (dgBs M S B))) (M) 0 0) M [] [(3, .int (nI i)), (1, .long (dgBs M S i)), (0, .ref (adr 54))] 173 [] := by
                        intro n
                        induction n using Nat.strongRecOn with
                        | _ n ih_173 =>
                          intro i hn_173 hi
                          refine y_iload_n C0 0 dX4_digest_173 rfl rfl ?_
                          refine y_aload_n C0 2 dX4_digest_174 rfl rfl ?_
                          refine y_get C0 4 rfl rfl (by decide) hin4 0 ykd_54 (by decide) (by decide +kernel) yv4_now dX4_digest_175 ?_
                          refine y_get C0 3 rfl rfl (by decide) hin3 0 ykd_now (by decide) (by decide +kernel) (yv3_books ykd_now) dX4_digest_178 ?_
                          refine y_alen C0 7 (ykd_w1 (Or.inl rfl)) (by decide) (by decide) dX4_digest_181 ?_
                          refine y_icmp_ge C0 240 dX4_digest_182 (by decide) (fun c_182 => ?_) (fun c_182 => ?_)
                          · have hei : B = i := by
                              have h9 := (nI_leI (a := 15) (b := i) (by decide) (by omega)).mp c_182
                              omega
                            subst hei
                            refine y_lload_n C0 1 dX4_digest_240 rfl rfl ?_
                            exact y_lret C0 dX4_digest_241 rfl rfl
                          · refine y_iload_n C0 0 dX4_digest_185 rfl rfl ?_
                            refine y_aload_n C0 2 dX4_digest_186 rfl rfl ?_
                            refine y_get C0 4 rfl rfl (by decide) hin4 0 ykd_54 (by decide) (by decide +kernel) yv4_now dX4_digest_187 ?_
                            refine y_get C0 3 rfl rfl (by decide) hin3 3 ykd_now (by decide) (by decide +kernel) (yvi3 ykd_now (by decide)) dX4_digest_190 ?_
                            refine y_icmp_ge C0 240 dX4_digest_193 (by decide) (fun c_193 => ?_) (fun c_193 => ?_)
                            · have hei : B = i := by
                                rw [eB] at c_193
                                exact (ct_end (by omega) hi c_193).symm
                              subst hei
                              refine y_lload_n C0 1 dX4_digest_240 rfl rfl ?_
                              exact y_lret C0 dX4_digest_241 rfl rfl
                            · rw [eB] at c_193
                              have hli := ct_lt (N := B) (by omega) hi c_193
                              refine y_iconst (v := 0) C0 dX4_digest_196 (by decide) ?_
                              refine y_istore C0 [(4, _), (3, _), (1, _), (0, _)] dX4_digest_197 (by decide) rfl ?_
                              have hl_199 : ∀ (n : Nat) (j : Nat), 11 - j = n → j ≤ 11 → Y K l rX4_digest D cy adr 8 0 0 (QT K D cy adr (some (.long (dgBs M S B))) (M) 0 0) M [] [(4, .int (nI j)), (3, .int (nI i)), (1, .long (dgB M S (dgBs M S i) i j)), (0, .ref (adr 54))] 199 [] := by
                                intro n
                                induction n using Nat.strongRecOn with
                                | _ n ih_199 =>
                                  intro j hn_199 hj
                                  refine y_iload C0 0 dX4_digest_199 rfl ?_
                                  refine y_bipush (v := 11) C0 dX4_digest_201 (by decide) ?_
                                  refine y_icmp_ge C0 234 dX4_digest_203 (by decide) (fun c_203 => ?_) (fun c_203 => ?_)
                                  · have hej := ct_end (N := 11) (by decide) hj c_203
                                    subst hej
                                    refine y_iinc (v := nI (i + 1)) C0 1 [(3, _), (4, _), (1, _), (0, _)] dX4_digest_234 rfl (yinc_ok rfl rfl) (by decide) rfl ?_
                                    refine y_goto C0 173 dX4_digest_237 (by decide) ?_
                                    refine y_sub [0, 2, 3] [(3, _), (1, _), (0, _)] rfl ?_
                                    exact y_eq rfl rfl rfl (ih_173 _ (by omega) (i + 1) rfl hli)
                                  · have hlj := ct_lt (N := 11) (by decide) hj c_203
                                    refine y_lload_n C0 2 dX4_digest_206 rfl rfl ?_
                                    refine y_ldc2 (v := 31) C0 (by decide +kernel) dX4_digest_207 ?_
                                    refine y_lmul C0 dX4_digest_210 ?_
                                    refine y_aload_n C0 3 dX4_digest_211 rfl rfl ?_
                                    refine y_get C0 4 rfl rfl (by decide) hin4 0 ykd_54 (by decide) (by decide +kernel) yv4_now dX4_digest_212 ?_
                                    refine y_get C0 3 rfl rfl (by decide) hin3 0 ykd_now (by decide) (by decide +kernel) (yv3_books ykd_now) dX4_digest_215 ?_
                                    refine y_iload_n C0 1 dX4_digest_218 rfl rfl ?_
                                    refine y_aald C0 (i) 7 (ykd_w1 (Or.inl rfl)) (by decide) (by decide) rfl (by omega : i < 15) (yel_bk (Or.inl rfl)) dX4_digest_219 ?_
                                    refine y_iload C0 0 dX4_digest_220 rfl ?_
                                    refine y_callV (As := [_]) (rest := _) (n := 1) C0 (mX0_tell l D cy adr _ _ (ykd_bk (Or.inl rfl) (by omega)) _) 0 rfl (by decide) (ykd_bk (Or.inl rfl) (by omega : i < 15)) gX4_digest_X0_tell rfl rfl rfl (by decide +kernel) ⟨by decide, by decide⟩ rfl rfl (Nat.le_of_ble_eq_true rfl) dX4_digest_222 ⟨by decide, by decide⟩ ?_
                                    refine y_i2l C0 dX4_digest_225 ?_
                                    refine y_ladd C0 dX4_digest_226 ?_
                                    refine y_lstore_n C0 [(1, _), (4, _), (3, _), (0, _)] dX4_digest_227 rfl (by decide) rfl ?_
                                    refine y_iinc (v := nI (j + 1)) C0 1 [(4, _), (1, _), (3, _), (0, _)] dX4_digest_228 rfl (yinc_ok rfl rfl) (by decide) rfl ?_
                                    refine y_goto C0 199 dX4_digest_231 (by decide) ?_
                                    refine y_sub [0, 2, 1, 3] [(4, _), (3, _), (1, _), (0, _)] rfl ?_
                                    exact y_eq rfl rfl rfl (ih_199 _ (by omega) (j + 1) rfl hlj)
                              refine y_sub [0, 1, 2, 3] [(4, _), (3, _), (1, _), (0, _)] rfl ?_
                              exact hl_199 _ 0 rfl (Nat.zero_le _)
                      refine y_sub [0, 1, 2] [(3, _), (1, _), (0, _)] rfl ?_
                      exact hl_173 _ 0 rfl (Nat.zero_le _)
                    · rw [eS] at c_125
                      have hli := ct_lt (N := S) (by omega) hi c_125
                      refine y_iconst (v := 0) C0 dX4_digest_128 (by decide) ?_
                      refine y_istore C0 [(4, _), (3, _), (1, _), (0, _)] dX4_digest_129 (by decide) rfl ?_
                      have hl_131 : ∀ (n : Nat) (j : Nat), 2 - j = n → j ≤ 2 → Y K l rX4_digest D cy adr 8 0 0 (QT K D cy adr (some (.long (dgBs M S B))) (M) 0 0) M [] [(4, .int (nI j)), (3, .int (nI i)), (1, .long (dgS M (dgSs M i) i j)), (0, .ref (adr 54))] 131 [] := by
                        intro n
                        induction n using Nat.strongRecOn with
                        | _ n ih_131 =>
                          intro j hn_131 hj
                          refine y_iload C0 0 dX4_digest_131 rfl ?_
                          refine y_iconst (v := 2) C0 dX4_digest_133 (by decide) ?_
                          refine y_icmp_ge C0 165 dX4_digest_134 (by decide) (fun c_134 => ?_) (fun c_134 => ?_)
                          · have hej := ct_end (N := 2) (by decide) hj c_134
                            subst hej
                            refine y_iinc (v := nI (i + 1)) C0 1 [(3, _), (4, _), (1, _), (0, _)] dX4_digest_165 rfl (yinc_ok rfl rfl) (by decide) rfl ?_
                            refine y_goto C0 105 dX4_digest_168 (by decide) ?_
                            refine y_sub [0, 2, 3] [(3, _), (1, _), (0, _)] rfl ?_
                            exact y_eq rfl rfl rfl (ih_105 _ (by omega) (i + 1) rfl hli)
                          · have hlj := ct_lt (N := 2) (by decide) hj c_134
                            refine y_lload_n C0 2 dX4_digest_137 rfl rfl ?_
                            refine y_ldc2 (v := 31) C0 (by decide +kernel) dX4_digest_138 ?_
                            refine y_lmul C0 dX4_digest_141 ?_
                            refine y_aload_n C0 3 dX4_digest_142 rfl rfl ?_
                            refine y_get C0 4 rfl rfl (by decide) hin4 0 ykd_54 (by decide) (by decide +kernel) yv4_now dX4_digest_143 ?_
                            refine y_get C0 3 rfl rfl (by decide) hin3 1 ykd_now (by decide) (by decide +kernel) (yv3_sewers ykd_now) dX4_digest_146 ?_
                            refine y_iload_n C0 1 dX4_digest_149 rfl rfl ?_
                            refine y_aald C0 (i) 8 (ykd_w2 (Or.inl rfl)) (by decide) (by decide) rfl (by omega : i < 5) (yel_sw (Or.inl rfl)) dX4_digest_150 ?_
                            refine y_iload C0 0 dX4_digest_151 rfl ?_
                            refine y_callV (As := [_]) (rest := _) (n := 1) C0 (mX2_tell l D cy adr _ _ (ykd_sw (Or.inl rfl) (by omega)) _) 2 rfl (by decide) (ykd_sw (Or.inl rfl) (by omega : i < 5)) gX4_digest_X2_tell rfl rfl rfl (by decide +kernel) ⟨by decide, by decide⟩ rfl rfl (Nat.le_of_ble_eq_true rfl) dX4_digest_153 ⟨by decide, by decide⟩ ?_
                            refine y_i2l C0 dX4_digest_156 ?_
                            refine y_ladd C0 dX4_digest_157 ?_
                            refine y_lstore_n C0 [(1, _), (4, _), (3, _), (0, _)] dX4_digest_158 rfl (by decide) rfl ?_
                            refine y_iinc (v := nI (j + 1)) C0 1 [(4, _), (1, _), (3, _), (0, _)] dX4_digest_159 rfl (yinc_ok rfl rfl) (by decide) rfl ?_
                            refine y_goto C0 131 dX4_digest_162 (by decide) ?_
                            refine y_sub [0, 2, 1, 3] [(4, _), (3, _), (1, _), (0, _)] rfl ?_
                            exact y_eq rfl rfl rfl (ih_131 _ (by omega) (j + 1) rfl hlj)
                      refine y_sub [0, 1, 2, 3] [(4, _), (3, _), (1, _), (0, _)] rfl ?_
                      exact hl_131 _ 0 rfl (Nat.zero_le _)
              refine y_sub [0, 3, 4] [(3, _), (1, _), (0, _)] rfl ?_
              exact hl_105 _ 0 rfl (Nat.zero_le _)
            · have hli := ct_lt (N := 3) (by decide) hi c_53
              refine y_aload_n C0 2 dX4_digest_56 rfl rfl ?_
              refine y_iload C0 0 dX4_digest_57 rfl ?_
              refine y_aald C0 (i) 9 (ykd_w3 (Or.inl rfl)) (by decide) (by decide) rfl (by omega : i < 3) (yel_fr (Or.inl rfl)) dX4_digest_59 ?_
              refine y_astore C0 [(6, _), (5, _), (4, _), (3, _), (1, _), (0, _)] dX4_digest_60 (by decide) rfl ?_
              refine y_iconst (v := 0) C0 dX4_digest_62 (by decide) ?_
              refine y_istore C0 [(7, _), (6, _), (5, _), (4, _), (3, _), (1, _), (0, _)] dX4_digest_63 (by decide) rfl ?_
              have hl_65 : ∀ (n : Nat) (j : Nat), 6 - j = n → j ≤ 6 → Y K l rX4_digest D cy adr 8 0 0 (QT K D cy adr (some (.long (dgBs M S B))) (M) 0 0) M [] [(7, .int (nI j)), (6, .ref (adr (0 + 24 + i))), (5, .int (nI i)), (4, .int (nI 3)), (3, .ref (adr (0 + 3))), (1, .long (dgF M (dgFs M i) i j)), (0, .ref (adr 54))] 65 [] := by
                intro n
                induction n using Nat.strongRecOn with
                | _ n ih_65 =>
                  intro j hn_65 hj
                  refine y_iload C0 0 dX4_digest_65 rfl ?_
                  refine y_bipush (v := 6) C0 dX4_digest_67 (by decide) ?_
                  refine y_icmp_ge C0 97 dX4_digest_69 (by decide) (fun c_69 => ?_) (fun c_69 => ?_)
                  · have hej := ct_end (N := 6) (by decide) hj c_69
                    subst hej
                    refine y_iinc (v := nI (i + 1)) C0 2 [(5, _), (7, _), (6, _), (4, _), (3, _), (1, _), (0, _)] dX4_digest_97 rfl (yinc_ok rfl rfl) (by decide) rfl ?_
                    refine y_goto C0 49 dX4_digest_100 (by decide) ?_
                    refine y_sub [0, 3, 4, 5, 6] [(5, _), (4, _), (3, _), (1, _), (0, _)] rfl ?_
                    exact y_eq rfl rfl rfl (ih_49 _ (by omega) (i + 1) rfl hli)
                  · have hlj := ct_lt (N := 6) (by decide) hj c_69
                    refine y_lload_n C0 5 dX4_digest_72 rfl rfl ?_
                    refine y_ldc2 (v := 31) C0 (by decide +kernel) dX4_digest_73 ?_
                    refine y_lmul C0 dX4_digest_76 ?_
                    refine y_aload_n C0 6 dX4_digest_77 rfl rfl ?_
                    refine y_get C0 4 rfl rfl (by decide) hin4 0 ykd_54 (by decide) (by decide +kernel) yv4_now dX4_digest_78 ?_
                    refine y_aload C0 1 dX4_digest_81 rfl ?_
                    refine y_iload C0 0 dX4_digest_83 rfl ?_
                    refine y_callV (As := [_, _]) (rest := _) (n := 2) C0 (mX3_tellOfFrame l D cy adr _ 0 (Or.inl rfl) i hli _) 3 rfl (by decide) ykd_now gX4_digest_X3_tellOfFrame rfl rfl rfl (by decide +kernel) ⟨by decide, by decide⟩ rfl rfl (Nat.le_of_ble_eq_true rfl) dX4_digest_85 ⟨by decide, by decide⟩ ?_
                    refine y_i2l C0 dX4_digest_88 ?_
                    refine y_ladd C0 dX4_digest_89 ?_
                    refine y_lstore_n C0 [(1, _), (7, _), (6, _), (5, _), (4, _), (3, _), (0, _)] dX4_digest_90 rfl (by decide) rfl ?_
                    refine y_iinc (v := nI (j + 1)) C0 1 [(7, _), (1, _), (6, _), (5, _), (4, _), (3, _), (0, _)] dX4_digest_91 rfl (yinc_ok rfl rfl) (by decide) rfl ?_
                    refine y_goto C0 65 dX4_digest_94 (by decide) ?_
                    refine y_sub [0, 2, 3, 4, 5, 1, 6] [(7, _), (6, _), (5, _), (4, _), (3, _), (1, _), (0, _)] rfl ?_
                    exact y_eq rfl rfl rfl (ih_65 _ (by omega) (j + 1) rfl hlj)
              refine y_sub [0, 1, 2, 3, 4, 5, 6] [(7, _), (6, _), (5, _), (4, _), (3, _), (1, _), (0, _)] rfl ?_
              exact hl_65 _ 0 rfl (Nat.zero_le _)
        refine y_sub [0, 1, 2, 3, 4] [(5, _), (4, _), (3, _), (1, _), (0, _)] rfl ?_
        exact hl_49 _ 0 rfl (Nat.zero_le _)
      · have hlj := ct_lt (N := 15) (by decide) hj c_9
        refine y_lload_n C0 1 dX4_digest_12 rfl rfl ?_
        refine y_ldc2 (v := 31) C0 (by decide +kernel) dX4_digest_13 ?_
        refine y_lmul C0 dX4_digest_16 ?_
        refine y_aload_n C0 2 dX4_digest_17 rfl rfl ?_
        refine y_get C0 4 rfl rfl (by decide) hin4 0 ykd_54 (by decide) (by decide +kernel) yv4_now dX4_digest_18 ?_
        refine y_iload_n C0 0 dX4_digest_21 rfl rfl ?_
        refine y_callV (As := [_]) (rest := _) (n := 1) C0 (mX3_tellOfAll l D cy adr _ 0 (Or.inl rfl) _) 3 rfl (by decide) ykd_now gX4_digest_X3_tellOfAll rfl rfl rfl (by decide +kernel) ⟨by decide, by decide⟩ rfl rfl (Nat.le_of_ble_eq_true rfl) dX4_digest_22 ⟨by decide, by decide⟩ ?_
        refine y_i2l C0 dX4_digest_25 ?_
        refine y_ladd C0 dX4_digest_26 ?_
        refine y_lstore_n C0 [(1, _), (3, _), (0, _)] dX4_digest_27 rfl (by decide) rfl ?_
        refine y_iinc (v := nI (j + 1)) C0 1 [(3, _), (1, _), (0, _)] dX4_digest_28 rfl (yinc_ok rfl rfl) (by decide) rfl ?_
        refine y_goto C0 6 dX4_digest_31 (by decide) ?_
        refine y_sub [0, 1, 2] [(3, _), (1, _), (0, _)] rfl ?_
        exact y_eq rfl rfl rfl (ih_6 _ (by omega) (j + 1) rfl hlj)
  refine y_sub [0, 1, 2] [(3, _), (1, _), (0, _)] rfl ?_
  exact hl_6 _ 0 rfl (Nat.zero_le _)
end YZ
end
section
section YM
/-! THE MODEL'S ROW, as its code goes -/
theorem up_cm {M : yM} {i j : Nat} {f g : Rw} (h : i ≠ j) : va_up (va_up M i f) j g = va_up (va_up M j g) i f := by
  funext a
  by_cases h1 : a = i
  · subst h1; rw [up_n h, up_s, up_s]
  · by_cases h2 : a = j
    · subst h2; rw [up_s, up_n h1, up_s]
    · rw [up_n h2, up_n h1, up_n h1, up_n h2]
section
variable {K : yK} {l : Launch} {Ro : Room} {D : va_G} {cy : Nat → ClassId} {adr : Nat → Nat} {nL cells slots : Nat} {Q : State → Prop} {M : yM} {R : Rw} {E : va_W} {lv : List (Nat × Value)} {pc : Nat} {st : List Value} {cc : ByteArray} {own : String} {Ts : List Cond} {ret : Option FieldType}
end
def mI (v a b : Int32) : Int32 := if v < a then 0 else if b < v then 0 else 1
theorem mI_z {v a b : Int32} : narrow .boolean (.int (mI v a b)) = .int (mI v a b) := by
  unfold mI
  split
  · rfl
  · split <;> rfl
theorem mI_1 {v a b : Int32} (h : ¬ mI v a b = 0) : ¬ v < a ∧ ¬ b < v := by
  unfold mI at h
  split at h
  · exact absurd rfl h
  · split at h
    · exact absurd rfl h
    · constructor <;> assumption
theorem mI_i {v a b : Int32} (h1 : ¬ v < a) (h2 : ¬ b < v) : mI v a b = 1 := by unfold mI; rw [if_neg h1, if_neg h2]
/-- v is a number from 0 to n - 1 -/
theorem mI_n {v : Int32} {n : Nat} (hn : n < 1000) (h : ¬ mI v 0 (nI n - 1) = 0) : cN v < n ∧ v = nI (cN v) := by
  obtain ⟨h1, h2⟩ := mI_1 h
  obtain ⟨k, hk, rfl⟩ := nI_of h1
  rw [cN_n hk]
  refine ⟨?_, rfl⟩
  have h3 := Int32.not_lt.mp h2
  have h4 := Int32.le_iff_toInt_le.mp h3
  have h5 : (nI n - 1).toInt = (n : Int) - 1 := pk_sub_toInt (a := n) (b := 1) (by omega) (by omega)
  rw [h5, nI_toInt hk] at h4
  omega
theorem mI_k {v : Int32} {n : Nat} (hn : n < 1000) (h : ¬ mI v 0 (nI n) = 0) : cN v ≤ n ∧ v = nI (cN v) := by
  obtain ⟨h1, h2⟩ := mI_1 h
  obtain ⟨k, hk, rfl⟩ := nI_of h1
  rw [cN_n hk]
  refine ⟨?_, rfl⟩
  have h3 := Int32.not_lt.mp h2
  exact (nI_leI hk (by omega)).mp h3
def rinc (r : Rw) (k : Nat) (v : Int32) : Rw := ru r k (r k + v)
def rdec (r : Rw) (k : Nat) (v : Int32) : Rw := ru r k (r k - v)
def rTh (r : Rw) (a : Nat) : Int32 := r a * r (a + 1)
def rSt (r : Rw) (a : Nat) (s : Int32) : Int32 := r (a + 10) + 2 + (if s = 0 then 2 else 0) + (if s = r a - 1 then 2 else 0)
def rWe (r : Rw) (a : Nat) : Int32 := 4 * r a + 2 * r (a + 10) + 6 * r (a + 9) - 3 * r (a + 7)
def rWo (r : Rw) (a : Nat) : Int32 := if 1 < rWe r a then rWe r a else 1
def rUp (r : Rw) (a : Nat) : Nat → Int32 | 0 => 0 | n + 1 => rUp r a n + rSt r a (nI n)
def rIn (r : Rw) (a : Nat) : Int32 := rUp r a (r (a + 5)).toNatClampNeg + r (a + 6)
def rOt (r : Rw) (x f : Int32) : Nat → Int32 | 0 => 0 | n + 1 => rOt r x f n + (if nI n = x then 0 else if r (174 + 2 * n + 1) = f then 1 else 0)
def rRN (r : Rw) (f : Int32) : Nat → Int32 | 0 => 0 | n + 1 => if r (174 + 2 * n + 1) = f then rRN r f n + 1 else rRN r f n
def rRS (r : Rw) (f : Int32) : Nat → Int32 | 0 => 0 | n + 1 => if r (174 + 2 * n + 1) = f then rRS r f n + r (174 + 2 * n) else rRS r f n
def rRa (r : Rw) (f : Int32) (S : Nat) : Int32 := if rRN r f S = 2 then (if 1 < rRS r f S - 3 then rRS r f S - 3 else 1) else rRS r f S
def rLk (r : Rw) (s : Int32) : Nat → Int32 | 0 => 0 | n + 1 => rLk r s n + (if r (11 * n + 3) = s then 1 else 0)
def rFs (r : Rw) (s : Int32) : Nat → Option Nat | 0 => none | n + 1 => match rFs r s n with | some i => some i | none => if r (11 * n + 3) = s then some n else none
def rFr (r : Rw) (s : Int32) (n : Nat) : Int32 := match rFs r s n with | some k => nI k | none => -1
def rLe (r : Rw) (x : Int32) : Int32 := if 0 ≤ x then rUp r (11 * cN x) (r (11 * cN x)).toNatClampNeg - rIn r (11 * cN x) else 0
def rFT (r : Rw) (f : Nat) (w : Int32) (S : Nat) : Int32 := if w = 2 then rOt r (-1) (nI f) S else if w = 3 then rRa r (nI f) S else if w = 4 then rLe r (r (165 + 3 * f + 1)) else if w = 5 then r (165 + 3 * f + 2) else r (165 + 3 * f + cN w)
def rBT (r : Rw) (b : Nat) (w : Int32) : Int32 := if w = 10 then rWo r (11 * b) else r (11 * b + cN w)
def rCo (r : Rw) (w : Int32) (B : Nat) : Int32 := if w = 0 then r 188 else if w = 1 then r 189 else if w = 9 then r 187 else if w = 10 then r 184 else if w = 11 then r 185 else if w = 12 then r 186 else if w = 13 then r 191 else if w = 14 then r 192 else rLk r (w - 2) B
theorem rFs_up {r : Rw} {s : Int32} {n k : Nat} (h : rFs r s n = some k) : ∀ d, rFs r s (n + d) = some k := by
  intro d
  induction d with
  | zero => exact h
  | succ d ih => simp [rFs, ← Nat.add_assoc, ih]
theorem rFs_s {r : Rw} {s : Int32} {i n : Nat} (h : rFs r s i = none) (hc : r (11 * i + 3) = s) (hi : i < n) : rFs r s n = some i := by
  have h1 : rFs r s (i + 1) = some i := by simp [rFs, h, hc]
  have := rFs_up h1 (n - (i + 1))
  rwa [show i + 1 + (n - (i + 1)) = n by omega] at this
theorem rFs_n {r : Rw} {s : Int32} {i : Nat} (h : rFs r s i = none) (hc : ¬ r (11 * i + 3) = s) : rFs r s (i + 1) = none := by simp [rFs, h, hc]
theorem rFs_lt {r : Rw} {s : Int32} : ∀ {n i : Nat}, rFs r s n = some i → i < n := by
  intro n
  induction n with
  | zero => intro i h; simp [rFs] at h
  | succ n ih =>
    intro i h
    cases hq : rFs r s n with
    | some k => simp [rFs, hq] at h; have := ih hq; omega
    | none =>
      simp only [rFs, hq] at h
      split at h
      · cases h; omega
      · cases h
theorem rFr_s {r : Rw} {s : Int32} {n k : Nat} (h : rFs r s n = some k) : rFr r s n = nI k := by unfold rFr; rw [h]
theorem rFr_n {r : Rw} {s : Int32} {n : Nat} (h : rFs r s n = none) : rFr r s n = -1 := by unfold rFr; rw [h]
/-! an hour -/
def rLf (r : Rw) (b : Nat) : Int32 := 1 + rTh r (11 * b) / 16
def rGb (r : Rw) (b : Nat) : Rw := rinc (rdec r 186 (rLf r b)) (11 * b + 9) 1
def rGc (r : Rw) (b : Nat) : Rw := if rGb r b (11 * b + 9) = rGb r b (11 * b + 2) then ru (rGb r b) (11 * b + 3) 5 else rGb r b
def rGild (r : Rw) (B : Nat) : Rw := match rFs r 4 B with | some b => if rLf r b ≤ r 186 then rGc r b else r | none => r
theorem rGild_s {r : Rw} {B b : Nat} (h : rFs r 4 B = some b) : rGild r B = if rLf r b ≤ r 186 then rGc r b else r := by unfold rGild; rw [h]
theorem rGild_n {r : Rw} {B : Nat} (h : rFs r 4 B = none) : rGild r B = r := by unfold rGild; rw [h]
def rBd (r : Rw) (a : Nat) : Rw := if r (a + 3) = 3 then (if 2 ≤ r 185 then ru (rdec r 185 2) (a + 3) (if rdec r 185 2 (a + 2) = 0 then 5 else 4) else r) else r
def rDr (r : Rw) (a : Nat) : Rw := if r (a + 3) = 2 then (if rdec r (a + 8) 1 (a + 8) = 0 then ru (rdec r (a + 8) 1) (a + 3) 3 else rdec r (a + 8) 1) else r
def rBds (r : Rw) : Nat → Rw | 0 => r | n + 1 => rBd (rBds r n) (11 * n)
def rDrs (r : Rw) : Nat → Rw | 0 => r | n + 1 => rDr (rDrs r n) (11 * n)
def rS1 (r : Rw) (f b : Nat) : Rw := rinc (rinc (rinc (rdec r 184 1) (165 + 3 * f + 2) 1) 191 1) (11 * b + 6) 1
def rS2 (r : Rw) (b : Nat) : Rw := rinc (ru r (11 * b + 6) 0) (11 * b + 5) 1
def rS3 (r : Rw) (b : Nat) : Rw := rinc (rinc r (11 * b + 7) 1) 192 1
def rS4a (r : Rw) (b : Nat) : Rw := ru (ru r (11 * b + 3) 2) (11 * b + 4) (-1)
def rS4 (r : Rw) (f b : Nat) : Rw := ru (ru (rS4a r b) (11 * b + 8) (2 + rTh (rS4a r b) (11 * b) / 8)) (165 + 3 * f + 1) (-1)
def rS5 (r : Rw) (f b : Nat) : Rw := if r (11 * b + 5) < r (11 * b) then r else rS4 r f b
def rStitch (r : Rw) (f b k : Nat) : Rw := if rS1 r f b (11 * b + 6) < rSt (rS1 r f b) (11 * b) (rS1 r f b (11 * b + 5)) then rS1 r f b else (if nI k < 10 then rS5 (rS2 (rS1 r f b) b) f b else rS5 (rS3 (rS2 (rS1 r f b) b) b) f b)
def rSew (r : Rw) (f : Nat) : Nat → Rw | 0 => r | n + 1 => if rSew r f n (165 + 3 * f + 1) < 0 then rSew r f n else if rSew r f n 184 ≤ 0 then rSew r f n else rStitch (rSew r f n) f (cN (rSew r f n (165 + 3 * f + 1))) (n + 1)
def rSw (r : Rw) (f S : Nat) : Rw := rSew r f (rRa r (nI f) S).toNatClampNeg
theorem rSew_a {r : Rw} {f n : Nat} (h : rSew r f n (165 + 3 * f + 1) < 0) : ∀ d, rSew r f (n + d) = rSew r f n := by
  intro d
  induction d with
  | zero => rfl
  | succ d ih => rw [← Nat.add_assoc, rSew, ih, if_pos h]
theorem rSew_b {r : Rw} {f n : Nat} (h : rSew r f n 184 ≤ 0) : ∀ d, rSew r f (n + d) = rSew r f n := by
  intro d
  induction d with
  | zero => rfl
  | succ d ih =>
    rw [← Nat.add_assoc, rSew, ih, if_pos h]
    split <;> rfl
def rMa (r : Rw) (f b : Nat) : Rw := ru (ru (ru r (165 + 3 * f + 1) (nI b)) (11 * b + 3) 1) (11 * b + 4) (nI f)
def rMt (r : Rw) (f B : Nat) : Rw := if 0 ≤ r (165 + 3 * f + 1) then r else match rFs r 0 B with | some b => ru (rMa r f b) (11 * b + 10) (rMa r f b (165 + 3 * f)) | none => r
theorem rMt_s {r : Rw} {f B b : Nat} (h : ¬ 0 ≤ r (165 + 3 * f + 1)) (hq : rFs r 0 B = some b) : rMt r f B = ru (rMa r f b) (11 * b + 10) (rMa r f b (165 + 3 * f)) := by unfold rMt; rw [if_neg h, hq]
theorem rMt_n {r : Rw} {f B : Nat} (h : ¬ 0 ≤ r (165 + 3 * f + 1)) (hq : rFs r 0 B = none) : rMt r f B = r := by unfold rMt; rw [if_neg h, hq]
theorem rMt_f {r : Rw} {f B : Nat} (h : 0 ≤ r (165 + 3 * f + 1)) : rMt r f B = r := by unfold rMt; rw [if_pos h]
def rSws (r : Rw) (S : Nat) : Nat → Rw | 0 => r | n + 1 => rSw (rSws r S n) n S
def rMts (r : Rw) (B : Nat) : Nat → Rw | 0 => r | n + 1 => rMt (rMts r B n) n B
def rPa (r : Rw) (B : Nat) : Rw := rDrs (rBds (rGild r B) B) B
def rPass (r : Rw) (B S : Nat) : Rw := rinc (rMts (rSws (rPa r B) S 3) B 3) 188 1
def rHours (r : Rw) (B S : Nat) : Nat → Rw | 0 => r | n + 1 => rPass (rHours r B S n) B S
/-! what holds of the row -/
def mOK (r : Rw) (B S : Nat) : Prop := r 189 = nI B ∧ B ≤ 15 ∧ r 190 = nI S ∧ S ≤ 5 ∧ (∀ f, f < 3 → r (165 + 3 * f + 1) < 0 ∨ ∃ b, b < 15 ∧ r (165 + 3 * f + 1) = nI b) ∧ (∀ s, s < 5 → ∃ v, v ≤ 9 ∧ r (174 + 2 * s) = nI v)
def mOut (r r' : Rw) : Prop := r' 189 = r 189 ∧ r' 190 = r 190 ∧ (∀ f, f < 3 → r' (165 + 3 * f + 1) = r (165 + 3 * f + 1) ∨ r' (165 + 3 * f + 1) < 0 ∨ ∃ b, b < 15 ∧ r' (165 + 3 * f + 1) = nI b) ∧ (∀ s, s < 5 → r' (174 + 2 * s) = r (174 + 2 * s))
theorem mOK.out {r r' : Rw} {B S : Nat} (h : mOK r B S) (k : mOut r r') : mOK r' B S := by
  obtain ⟨a1, a2, a3, a4, a5, a6⟩ := h
  obtain ⟨b1, b2, b3, b4⟩ := k
  refine ⟨b1.trans a1, a2, b2.trans a3, a4, fun f hf => ?_, fun s hs => ?_⟩
  · rcases b3 f hf with h | h
    · rw [h]; exact a5 f hf
    · exact h
  · obtain ⟨v, hv, e⟩ := a6 s hs
    exact ⟨v, hv, (b4 s hs).trans e⟩
theorem mOut.rf {r : Rw} : mOut r r := ⟨rfl, rfl, fun _ _ => Or.inl rfl, fun _ _ => rfl⟩
theorem mOut.tr {a b c : Rw} (h : mOut a b) (k : mOut b c) : mOut a c := by
  refine ⟨k.1.trans h.1, k.2.1.trans h.2.1, fun f hf => ?_, fun s hs => (k.2.2.2 s hs).trans (h.2.2.2 s hs)⟩
  rcases k.2.2.1 f hf with q | q
  · rw [q]; exact h.2.2.1 f hf
  · exact Or.inr q
theorem mOut_ru {r : Rw} {i : Nat} {v : Int32} (h : i < 165 ∨ (165 ≤ i ∧ i < 174 ∧ i % 3 ≠ 1) ∨ (184 ≤ i ∧ i ≠ 189 ∧ i ≠ 190)) : mOut r (ru r i v) := ⟨ru_n (by omega), ru_n (by omega), fun f hf => Or.inl (ru_n (by omega)), fun s hs => ru_n (by omega)⟩
theorem mOut_bk {r : Rw} {f : Nat} {v : Int32} (hf : f < 3) (h : v < 0 ∨ ∃ b, b < 15 ∧ v = nI b) : mOut r (ru r (165 + 3 * f + 1) v) := by
  refine ⟨ru_n (by omega), ru_n (by omega), fun g hg => ?_, fun s hs => ru_n (by omega)⟩
  by_cases e : g = f
  · subst e; rw [ru_s]; exact Or.inr h
  · exact Or.inl (ru_n (by omega))
theorem mOut_gild {r : Rw} {B : Nat} (hB : B ≤ 15) : mOut r (rGild r B) := by
  cases h : rFs r 4 B with
  | none => rw [rGild_n h]; exact mOut.rf
  | some b =>
    have hb := rFs_lt h
    rw [rGild_s h]
    have h1 : mOut r (rGb r b) := (mOut_ru (by omega)).tr (mOut_ru (by omega))
    split
    · unfold rGc
      split
      · exact h1.tr (mOut_ru (by omega))
      · exact h1
    · exact mOut.rf
theorem mOut_bd {r : Rw} {a : Nat} (ha : a < 155) : mOut r (rBd r a) := by
  unfold rBd
  split
  · split
    · exact (mOut_ru (by omega)).tr (mOut_ru (by omega))
    · exact mOut.rf
  · exact mOut.rf
theorem mOut_dr {r : Rw} {a : Nat} (ha : a < 155) : mOut r (rDr r a) := by
  have h1 : mOut r (rdec r (a + 8) 1) := mOut_ru (by omega)
  unfold rDr
  split
  · split
    · exact h1.tr (mOut_ru (by omega))
    · exact h1
  · exact mOut.rf
theorem mOut_bds {r : Rw} : ∀ n, n ≤ 15 → mOut r (rBds r n) := by
  intro n
  induction n with
  | zero => intro _; exact mOut.rf
  | succ n ih => intro hn; exact (ih (by omega)).tr (mOut_bd (by omega))
theorem mOut_drs {r : Rw} : ∀ n, n ≤ 15 → mOut r (rDrs r n) := by
  intro n
  induction n with
  | zero => intro _; exact mOut.rf
  | succ n ih => intro hn; exact (ih (by omega)).tr (mOut_dr (by omega))
theorem mOut_s1 {r : Rw} {f b : Nat} (hf : f < 3) (hb : b < 15) : mOut r (rS1 r f b) := (((mOut_ru (by omega)).tr (mOut_ru (by omega))).tr (mOut_ru (by omega))).tr (mOut_ru (by omega))
theorem mOut_s5 {r : Rw} {f b : Nat} (hf : f < 3) (hb : b < 15) : mOut r (rS5 r f b) := by
  unfold rS5
  split
  · exact mOut.rf
  · exact (((mOut_ru (by omega)).tr (mOut_ru (by omega))).tr (mOut_ru (by omega))).tr (mOut_bk hf (Or.inl (by decide)))
theorem mOut_stitch {r : Rw} {f b k : Nat} (hf : f < 3) (hb : b < 15) : mOut r (rStitch r f b k) := by
  have h2 : mOut r (rS2 (rS1 r f b) b) := (mOut_s1 hf hb).tr ((mOut_ru (by omega)).tr (mOut_ru (by omega)))
  unfold rStitch
  split
  · exact mOut_s1 hf hb
  · split
    · exact h2.tr (mOut_s5 hf hb)
    · exact (h2.tr ((mOut_ru (by omega)).tr (mOut_ru (by omega)))).tr (mOut_s5 hf hb)
theorem mFr_b {r : Rw} {B S f : Nat} (h : mOK r B S) (hf : f < 3) (hn : ¬ r (165 + 3 * f + 1) < 0) : cN (r (165 + 3 * f + 1)) < 15 ∧ r (165 + 3 * f + 1) = nI (cN (r (165 + 3 * f + 1))) := by
  rcases h.2.2.2.2.1 f hf with q | ⟨b, hb, e⟩
  · exact absurd q hn
  · rw [e, cN_n (by omega)]; exact ⟨hb, rfl⟩
theorem mOK_sew {r : Rw} {B S f : Nat} (h : mOK r B S) (hf : f < 3) : ∀ n, mOK (rSew r f n) B S ∧ mOut r (rSew r f n) := by
  intro n
  induction n with
  | zero => exact ⟨h, mOut.rf⟩
  | succ n ih =>
    rw [rSew]
    split
    · exact ih
    · rename_i hn
      split
      · exact ih
      · have h9 := mOut_stitch (r := rSew r f n) (k := n + 1) hf (mFr_b ih.1 hf hn).1
        exact ⟨ih.1.out h9, ih.2.tr h9⟩
theorem mOut_mt {r : Rw} {f B : Nat} (hf : f < 3) (hB : B ≤ 15) : mOut r (rMt r f B) := by
  by_cases h0 : 0 ≤ r (165 + 3 * f + 1)
  · rw [rMt_f h0]; exact mOut.rf
  · cases h : rFs r 0 B with
    | none => rw [rMt_n h0 h]; exact mOut.rf
    | some b =>
      have hb := rFs_lt h
      rw [rMt_s h0 h]
      exact (((mOut_bk hf (Or.inr ⟨b, by omega, rfl⟩)).tr (mOut_ru (by omega))).tr (mOut_ru (by omega))).tr (mOut_ru (by omega))
theorem mOK_sws {r : Rw} {B S : Nat} (h : mOK r B S) : ∀ n, n ≤ 3 → mOK (rSws r S n) B S := by
  intro n
  induction n with
  | zero => intro _; exact h
  | succ n ih => intro hn; exact (mOK_sew (ih (by omega)) (by omega) _).1
theorem mOK_mts {r : Rw} {B S : Nat} (h : mOK r B S) : ∀ n, n ≤ 3 → mOK (rMts r B n) B S := by
  intro n
  induction n with
  | zero => intro _; exact h
  | succ n ih => intro hn; exact (ih (by omega)).out (mOut_mt (by omega) h.2.1)
theorem mOK_pa {r : Rw} {B S : Nat} (h : mOK r B S) : mOK (rPa r B) B S := ((h.out (mOut_gild h.2.1)).out (mOut_bds B h.2.1)).out (mOut_drs B h.2.1)
theorem mOK_pass {r : Rw} {B S : Nat} (h : mOK r B S) : mOK (rPass r B S) B S := (mOK_mts (mOK_sws (mOK_pa h) 3 (Nat.le_refl _)) 3 (Nat.le_refl _)).out (mOut_ru (by omega))
theorem mOK_hours {r : Rw} {B S : Nat} (h : mOK r B S) : ∀ n, mOK (rHours r B S n) B S := by
  intro n
  induction n with
  | zero => exact h
  | succ n ih => exact mOK_pass ih
theorem rRS_le {r : Rw} {B S : Nat} {f : Int32} (h : mOK r B S) : ∀ n, n ≤ 5 → ∃ v : Nat, v ≤ 9 * n ∧ rRS r f n = nI v := by
  intro n
  induction n with
  | zero => intro _; exact ⟨0, Nat.le_refl _, rfl⟩
  | succ n ih =>
    intro hn
    obtain ⟨v, hv, e⟩ := ih (by omega)
    obtain ⟨w, hw, e2⟩ := h.2.2.2.2.2 n (by omega)
    by_cases hc : r (174 + 2 * n + 1) = f
    · exact ⟨v + w, by omega, by simp only [rRS, if_pos hc]; rw [e, e2, nI_add]⟩
    · exact ⟨v, by omega, by simp only [rRS, if_neg hc]; exact e⟩
theorem rRa_le {r : Rw} {B S : Nat} {f : Int32} (h : mOK r B S) : (rRa r f S).toNatClampNeg < 1000 := by
  obtain ⟨v, hv, e⟩ := rRS_le (f := f) h S h.2.2.2.1
  have hS := h.2.2.2.1
  have h1 : (nI v).toNatClampNeg = v := nI_clamp (by omega)
  have h2 : (1 : Int32).toNatClampNeg = 1 := rfl
  unfold rRa
  rw [e]
  split
  · split
    · have h3 : (nI v - 3).toInt = (v : Int) - 3 := pk_sub_toInt (a := v) (b := 3) (by omega) (by omega)
      have h4 : (nI v - 3).toNatClampNeg = (nI v - 3).toInt.toNat := rfl
      omega
    · omega
  · omega
end YM
end
section
section YMF
theorem rSew_go {r : Rw} {f b n : Nat} (h1 : ¬ rSew r f n (165 + 3 * f + 1) < 0) (h2 : ¬ rSew r f n 184 ≤ 0) (eb : rSew r f n (165 + 3 * f + 1) = nI b) (hb : b < 15) : rSew r f (n + 1) = rStitch (rSew r f n) f b (n + 1) := by
  rw [rSew, if_neg h1, if_neg h2, eb, cN_n (by omega)]
theorem rStitch_a {r : Rw} {f b k : Nat} (h : rS1 r f b (11 * b + 6) < rSt (rS1 r f b) (11 * b) (rS1 r f b (11 * b + 5))) : rStitch r f b k = rS1 r f b := by rw [rStitch, if_pos h]
theorem rStitch_b {r : Rw} {f b k : Nat} (h : ¬ rS1 r f b (11 * b + 6) < rSt (rS1 r f b) (11 * b) (rS1 r f b (11 * b + 5))) (h2 : nI k < 10) : rStitch r f b k = rS5 (rS2 (rS1 r f b) b) f b := by rw [rStitch, if_neg h, if_pos h2]
theorem rStitch_c {r : Rw} {f b k : Nat} (h : ¬ rS1 r f b (11 * b + 6) < rSt (rS1 r f b) (11 * b) (rS1 r f b (11 * b + 5))) (h2 : ¬ nI k < 10) : rStitch r f b k = rS5 (rS3 (rS2 (rS1 r f b) b) b) f b := by rw [rStitch, if_neg h, if_neg h2]
theorem rS5_a {r : Rw} {f b : Nat} (h : r (11 * b + 5) < r (11 * b)) : rS5 r f b = r := by rw [rS5, if_pos h]
theorem rS5_b {r : Rw} {f b : Nat} (h : ¬ r (11 * b + 5) < r (11 * b)) : rS5 r f b = rS4 r f b := by rw [rS5, if_neg h]
/-! what a public method answers: its code, its answer -/
/-! arrays of a method's own -/
theorem arrV_eq {cA : ClassId} {n : Nat} {f g : Nat → Value} (h : ∀ j, j < n → f j = g j) : arrV cA n f = arrV cA n g := by
  unfold arrV
  congr 1
  apply Array.ext
  · simp
  · intro i h1 h2
    simp at h1
    simp [h i h1]
section
variable {K : yK} {l : Launch} {Ro : Room} {D : va_G} {cy : Nat → ClassId} {adr : Nat → Nat} {nL cells slots : Nat} {Q : State → Prop} {M : yM} {R : Rw} {E : va_W} {lv : List (Nat × Value)} {pc : Nat} {st : List Value} {cc : ByteArray} {own : String} {Ts : List Cond} {ret : Option FieldType} {q : Nat} {f : Nat → Int32}
end
end YMF
end
section
section YMH
theorem mOK_le {r : Rw} {B S f : Nat} (h : mOK r B S) (hf : f < 3) : 0 ≤ r (165 + 3 * f + 1) → cN (r (165 + 3 * f + 1)) < 15 ∧ r (165 + 3 * f + 1) = nI (cN (r (165 + 3 * f + 1))) := fun q => mFr_b h hf (Int32.not_lt.mpr q)
def mQ : Nat → Int32 := upd (upd (upd (upd (upd (fun _ => 0) 0 3) 1 5) 2 6) 3 7) 4 10
def mW (i : Nat) : Nat := if i = 0 then 3 else if i = 1 then 5 else if i = 2 then 6 else if i = 3 then 7 else 10
theorem mQ_e {i : Nat} (h : i < 5) : mQ i = nI (mW i) := by
  rcases (show i = 0 ∨ i = 1 ∨ i = 2 ∨ i = 3 ∨ i = 4 by omega) with rfl | rfl | rfl | rfl | rfl <;> rfl
theorem mW_lt {i : Nat} : mW i < 11 := by
  unfold mW
  split
  · omega
  · split
    · omega
    · split
      · omega
      · split <;> omega
def rUn (r : Rw) (b : Nat) : Nat → Rw | 0 => r | n + 1 => ru (rUn r b n) (11 * b + mW n) 0
def rUp2 (r : Rw) (b : Nat) : Rw := ru (ru r (165 + 3 * cN (r (11 * b + 4)) + 1) (-1)) (11 * b + 4) (-1)
def ordC (B : Nat) (s h e : Int32) : Int32 := if mI s 1 24 = 0 then 1 else if mI h 1 8 = 0 then 1 else if mI e 0 3 = 0 then 1 else if nI B = 15 then 2 else 0
def mOrd (r : Rw) (B : Nat) (s h e : Int32) : Rw := rinc (ru (ru (ru (ru r (11 * B) s) (11 * B + 1) h) (11 * B + 2) e) (11 * B + 4) (-1)) 189 1
def unpC (r : Rw) (B : Nat) (x : Int32) : Int32 := if mI x 0 (nI B - 1) = 0 then 1 else if r (11 * cN x + 3) = 1 then 0 else 2
def selC (r : Rw) (B : Nat) (x : Int32) : Int32 := if mI x 0 (nI B - 1) = 0 then 1 else if r (11 * cN x + 3) = 5 then 0 else 2
def mSel (r : Rw) (b : Nat) : Rw := rinc (ru r (11 * b + 3) 6) 187 (rWo (ru r (11 * b + 3) 6) (11 * b))
def tolC (B : Nat) (x w : Int32) : Int32 := if mI x 0 (nI B - 1) = 0 then 1 else if mI w 0 10 = 0 then 1 else 0
def hirC (S : Nat) (s : Int32) : Int32 := if mI s 1 9 = 0 then 1 else if nI S = 5 then 2 else 0
def mHir (r : Rw) (S : Nat) (s : Int32) : Rw := rinc (ru (ru r (174 + 2 * S) s) (174 + 2 * S + 1) (-1)) 190 1
def seaC (r : Rw) (S : Nat) (x f : Int32) : Int32 := if mI x 0 (nI S - 1) = 0 then 1 else if mI f (-1) 2 = 0 then 1 else if f < 0 then 0 else if rOt r x f S ≤ 1 then 0 else 2
def sewC (S : Nat) (x w : Int32) : Int32 := if mI x 0 (nI S - 1) = 0 then 1 else if mI w 0 1 = 0 then 1 else 0
def strC (r : Rw) (f c : Int32) : Int32 := if mI f 0 2 = 0 then 1 else if mI c 2 6 = 0 then 2 else if r (165 + 3 * cN f + 1) < 0 then 0 else 3
def fraC (f w : Int32) : Int32 := if mI f 0 2 = 0 then 1 else if mI w 0 5 = 0 then 1 else 0
def buyC (r : Rw) (w x : Int32) : Int32 := if mI w 0 2 = 0 then 1 else if mI x 1 200 = 0 then 2 else if prc w x ≤ r 187 then 0 else 3
def mBuy (r : Rw) (w x : Int32) : Rw := rinc (rdec r 187 (prc w x)) (184 + cN w) x
def couC (w : Int32) : Int32 := if mI w 0 14 = 0 then 1 else 0
def pasC (h : Int32) : Int32 := if mI h 1 120 = 0 then 1 else 0
def forC (h w : Int32) : Int32 := if mI h 1 120 = 0 then 1 else if mI w 2 7 = 0 then (if mI w 10 14 = 0 then 2 else 0) else 0
def untC (B : Nat) (x : Int32) : Int32 := if mI x 0 (nI B - 1) = 0 then 1 else 0
def advC (S : Nat) (x : Int32) : Int32 := if mI x 0 (nI S - 1) = 0 then 1 else 0
def dnP (r : Rw) (B S b : Nat) : Nat → Bool := fun h => decide (5 ≤ rHours r B S (h - 1) (11 * b + 3))
def dnH (r : Rw) (B S b : Nat) : Option Nat := hF (dnP r B S b) 251
def dnR (r : Rw) (B S b : Nat) : Int32 := match dnH r B S b with | some h => nI (h - 1) | none => -1
def dnN (r : Rw) (B S b : Nat) : Nat := match dnH r B S b with | some h => h - 1 | none => 251
def dnM (r : Rw) (B S b : Nat) : Rw := rHours r B S (dnN r B S b)
theorem dn_s {r : Rw} {B S b i : Nat} (hn : hF (dnP r B S b) i = none) (h : ¬ rHours r B S i (11 * b + 3) < 5) (hi : i < 251) : dnR r B S b = nI i ∧ dnM r B S b = rHours r B S i := by
  have e : dnH r B S b = some (i + 1) := hF_s hn (decide_eq_true (Int32.not_lt.mp h)) hi
  unfold dnM dnR dnN
  rw [e]
  exact ⟨rfl, rfl⟩
theorem dn_k {r : Rw} {B S b i : Nat} (hn : hF (dnP r B S b) i = none) (h : rHours r B S i (11 * b + 3) < 5) : hF (dnP r B S b) (i + 1) = none := hF_n hn (decide_eq_false (Int32.not_le.mpr h))
theorem dn_n {r : Rw} {B S b : Nat} (hn : hF (dnP r B S b) 251 = none) : dnR r B S b = -1 ∧ dnM r B S b = rHours r B S 251 := by
  have e : dnH r B S b = none := hn
  unfold dnM dnR dnN
  rw [e]
  exact ⟨rfl, rfl⟩
def mnO (r : Rw) (B S n : Nat) : Int32 := if r (11 * n + 3) < 5 then dnR r B S n else -1
def mnS (r : Rw) (B S : Nat) : Nat → Int32 | 0 => 251 | n + 1 => if mnO r B S n < 0 then mnS r B S n else if mnO r B S n < mnS r B S n then mnO r B S n else mnS r B S n
def mnB (r : Rw) (B S : Nat) : Nat → Int32 | 0 => -1 | n + 1 => if mnO r B S n < 0 then mnB r B S n else if mnO r B S n < mnS r B S n then nI n else mnB r B S n
def mnP (r p : Rw) (B S : Nat) : Nat → Rw | 0 => p | n + 1 => if r (11 * n + 3) < 5 then dnM r B S n else mnP r p B S n
theorem y_m1 : ((-1 : Int32) < 0) = True := by decide
def stM (r : Rw) (B S s : Nat) (f : Int32) : Rw := rHours (ru r (174 + 2 * s + 1) f) B S 12
def stR (r : Rw) (B S s : Nat) (f : Int32) : Int32 := stM r B S s f 191
theorem mOK_st {r : Rw} {B S s : Nat} {f : Int32} (h : mOK r B S) (hs : s < 5) : mOK (ru r (174 + 2 * s + 1) f) B S := h.out ⟨ru_n (by omega), ru_n (by omega), fun g hg => Or.inl (ru_n (by omega)), fun t ht => ru_n (by omega)⟩
def maO (r : Rw) (B S : Nat) (x : Int32) (n : Nat) : Int32 := if rOt r x (nI n) S ≤ 1 then stR r B S (cN x) (nI n) else -1
def maT (r : Rw) (B S : Nat) (x : Int32) : Nat → Int32 | 0 => -1 | n + 1 => if maT r B S x n < maO r B S x n then maO r B S x n else maT r B S x n
def maB (r : Rw) (B S : Nat) (x : Int32) : Nat → Int32 | 0 => -1 | n + 1 => if maT r B S x n < maO r B S x n then nI n else maB r B S x n
def maP (r p : Rw) (B S : Nat) (x : Int32) : Nat → Rw | 0 => p | n + 1 => if rOt r x (nI n) S ≤ 1 then stM r B S (cN x) (nI n) else maP r p B S x n
def mwT (r : Rw) : Nat → Int32 | 0 => 0 | n + 1 => mwT r n + (if r (11 * n + 3) = 5 then rWo r (11 * n) else 0)
def mmT (r : Rw) : Nat → Int32 | 0 => 0 | n + 1 => if r (11 * n + 3) = 6 then mmT r n else mmT r n + rWo r (11 * n)
def mmN (r : Rw) : Nat → Nat | 0 => 0 | n + 1 => if r (11 * n + 3) = 6 then mmN r n else mmN r n + 1
theorem mmN_le {r : Rw} : ∀ n, mmN r n ≤ n := by
  intro n
  induction n with
  | zero => exact Nat.le_refl _
  | succ n ih =>
    rw [mmN]
    split <;> omega
def mdA (r : Rw) (B : Nat) : Nat → Int64 | 0 => 1367 | n + 1 => mdA r B n * 31 + (rCo r (nI n) B).toInt64
def mdF (r : Rw) (B S : Nat) : Nat → Int64 | 0 => mdA r B 15 | n + 1 => mdF r B S n * 31 + (rFT r (n / 6) (nI (n % 6)) S).toInt64
def mdS (r : Rw) (B S : Nat) : Nat → Int64 | 0 => mdF r B S 18 | n + 1 => mdS r B S n * 31 + (r (174 + n)).toInt64
def mdB (r : Rw) (B S : Nat) : Nat → Int64 | 0 => mdS r B S (2 * S) | n + 1 => mdB r B S n * 31 + (rBT r (n / 11) (nI (n % 11))).toInt64
theorem cN_c {n m : Nat} (h : n < m) (hm : m < 1000) : cN (nI n) < m ∧ nI n = nI (cN (nI n)) := by rw [cN_n (by omega)]; exact ⟨h, rfl⟩
end YMH
end
section
section YE
/-! THE TIE: the model's row, read off the class's workshop at o -/
def fm (k : Nat) : Nat := if k = 0 then 1 else if k = 1 then 2 else if k = 2 then 3 else if k = 3 then 4 else if k = 4 then 5 else if k = 5 then 8 else if k = 6 then 9 else if k = 7 then 10 else if k = 8 then 11 else if k = 9 then 12 else 6
def enc (M : yM) (o B S : Nat) : Rw := fun i =>
  if i < 165 then (if i / 11 < B then M (o + 4 + i / 11) (fm (i % 11)) else 0)
  else if i < 174 then M (o + 24 + (i - 165) / 3) ((i - 165) % 3 + 1)
  else if i < 184 then (if (i - 174) / 2 < S then M (o + 19 + (i - 174) / 2) ((i - 174) % 2 + 1) else 0)
  else if i = 184 then M o 7 else if i = 185 then M o 8 else if i = 186 then M o 9 else if i = 187 then M o 6 else if i = 188 then M o 5 else if i = 189 then M o 3 else if i = 190 then M o 4 else if i = 191 then M o 10 else if i = 192 then M o 11 else 0
section
variable {M : yM} {o B S : Nat}
theorem enc_bk {b k : Nat} (hb : b < B) (hB : B ≤ 15) (hk : k < 11) : enc M o B S (11 * b + k) = M (o + 4 + b) (fm k) := by
  unfold enc
  have h1 : (11 * b + k) / 11 = b := by omega
  have h2 : (11 * b + k) % 11 = k := by omega
  rw [if_pos (by omega), h1, h2, if_pos hb]
theorem enc_b0 {b : Nat} (hb : b < B) (hB : B ≤ 15) : enc M o B S (11 * b) = M (o + 4 + b) 1 := enc_bk (k := 0) hb hB (by decide)
theorem enc_b1 {b : Nat} (hb : b < B) (hB : B ≤ 15) : enc M o B S (11 * b + 1) = M (o + 4 + b) 2 := enc_bk hb hB (by decide)
theorem enc_b2 {b : Nat} (hb : b < B) (hB : B ≤ 15) : enc M o B S (11 * b + 2) = M (o + 4 + b) 3 := enc_bk hb hB (by decide)
theorem enc_b3 {b : Nat} (hb : b < B) (hB : B ≤ 15) : enc M o B S (11 * b + 3) = M (o + 4 + b) 4 := enc_bk hb hB (by decide)
theorem enc_b4 {b : Nat} (hb : b < B) (hB : B ≤ 15) : enc M o B S (11 * b + 4) = M (o + 4 + b) 5 := enc_bk hb hB (by decide)
theorem enc_b5 {b : Nat} (hb : b < B) (hB : B ≤ 15) : enc M o B S (11 * b + 5) = M (o + 4 + b) 8 := enc_bk hb hB (by decide)
theorem enc_b6 {b : Nat} (hb : b < B) (hB : B ≤ 15) : enc M o B S (11 * b + 6) = M (o + 4 + b) 9 := enc_bk hb hB (by decide)
theorem enc_b7 {b : Nat} (hb : b < B) (hB : B ≤ 15) : enc M o B S (11 * b + 7) = M (o + 4 + b) 10 := enc_bk hb hB (by decide)
theorem enc_b8 {b : Nat} (hb : b < B) (hB : B ≤ 15) : enc M o B S (11 * b + 8) = M (o + 4 + b) 11 := enc_bk hb hB (by decide)
theorem enc_b9 {b : Nat} (hb : b < B) (hB : B ≤ 15) : enc M o B S (11 * b + 9) = M (o + 4 + b) 12 := enc_bk hb hB (by decide)
theorem enc_b10 {b : Nat} (hb : b < B) (hB : B ≤ 15) : enc M o B S (11 * b + 10) = M (o + 4 + b) 6 := enc_bk hb hB (by decide)
theorem enc_fr {f k : Nat} (hf : f < 3) (hk : k < 3) : enc M o B S (165 + 3 * f + k) = M (o + 24 + f) (k + 1) := by
  unfold enc
  have h1 : (165 + 3 * f + k - 165) / 3 = f := by omega
  have h2 : (165 + 3 * f + k - 165) % 3 = k := by omega
  rw [if_neg (by omega), if_pos (by omega), h1, h2]
theorem enc_f0 {f : Nat} (hf : f < 3) : enc M o B S (165 + 3 * f) = M (o + 24 + f) 1 := enc_fr (k := 0) hf (by decide)
theorem enc_f1 {f : Nat} (hf : f < 3) : enc M o B S (165 + 3 * f + 1) = M (o + 24 + f) 2 := enc_fr hf (by decide)
theorem enc_f2 {f : Nat} (hf : f < 3) : enc M o B S (165 + 3 * f + 2) = M (o + 24 + f) 3 := enc_fr hf (by decide)
theorem enc_sw {s k : Nat} (hs : s < S) (hS : S ≤ 5) (hk : k < 2) : enc M o B S (174 + 2 * s + k) = M (o + 19 + s) (k + 1) := by
  unfold enc
  have h1 : (174 + 2 * s + k - 174) / 2 = s := by omega
  have h2 : (174 + 2 * s + k - 174) % 2 = k := by omega
  rw [if_neg (by omega), if_neg (by omega), if_pos (by omega), h1, h2, if_pos hs]
theorem enc_s0 {s : Nat} (hs : s < S) (hS : S ≤ 5) : enc M o B S (174 + 2 * s) = M (o + 19 + s) 1 := enc_sw (k := 0) hs hS (by decide)
theorem enc_s1 {s : Nat} (hs : s < S) (hS : S ≤ 5) : enc M o B S (174 + 2 * s + 1) = M (o + 19 + s) 2 := enc_sw hs hS (by decide)
theorem enc_184 : enc M o B S 184 = M o 7 := rfl
theorem enc_185 : enc M o B S 185 = M o 8 := rfl
theorem enc_186 : enc M o B S 186 = M o 9 := rfl
theorem enc_187 : enc M o B S 187 = M o 6 := rfl
theorem enc_188 : enc M o B S 188 = M o 5 := rfl
theorem enc_189 : enc M o B S 189 = M o 3 := rfl
theorem enc_190 : enc M o B S 190 = M o 4 := rfl
theorem enc_191 : enc M o B S 191 = M o 10 := rfl
theorem enc_192 : enc M o B S 192 = M o 11 := rfl
/-- the same books, frames, sewers and numbers: the same row -/
theorem enc_eq {M' : yM} {o' : Nat} (hb : ∀ b, b < B → ∀ k, k < 11 → M' (o' + 4 + b) (fm k) = M (o + 4 + b) (fm k)) (hf : ∀ f, f < 3 → ∀ k, k < 3 → M' (o' + 24 + f) (k + 1) = M (o + 24 + f) (k + 1)) (hs : ∀ s, s < S → ∀ k, k < 2 → M' (o' + 19 + s) (k + 1) = M (o + 19 + s) (k + 1)) (hw : ∀ k, 3 ≤ k → k ≤ 11 → M' o' k = M o k) : enc M' o' B S = enc M o B S := by
  funext i
  unfold enc
  by_cases h1 : i < 165
  · rw [if_pos h1, if_pos h1]
    by_cases h2 : i / 11 < B
    · rw [if_pos h2, if_pos h2, hb _ h2 _ (by omega)]
    · rw [if_neg h2, if_neg h2]
  · rw [if_neg h1, if_neg h1]
    by_cases h2 : i < 174
    · rw [if_pos h2, if_pos h2, hf _ (by omega) _ (by omega)]
    · rw [if_neg h2, if_neg h2]
      by_cases h3 : i < 184
      · rw [if_pos h3, if_pos h3]
        by_cases h4 : (i - 174) / 2 < S
        · rw [if_pos h4, if_pos h4, hs _ h4 _ (by omega)]
        · rw [if_neg h4, if_neg h4]
      · rw [if_neg h3, if_neg h3, hw 7 (by decide) (by decide), hw 8 (by decide) (by decide), hw 9 (by decide) (by decide), hw 6 (by decide) (by decide), hw 5 (by decide) (by decide), hw 3 (by decide) (by decide), hw 4 (by decide) (by decide), hw 10 (by decide) (by decide), hw 11 (by decide) (by decide)]
/-- two rows that agree where the tie looks -/
theorem row_eq {r r' : Rw} (hb : ∀ b, b < 15 → ∀ k, k < 11 → r (11 * b + k) = r' (11 * b + k)) (hf : ∀ f, f < 3 → ∀ k, k < 3 → r (165 + 3 * f + k) = r' (165 + 3 * f + k)) (hs : ∀ s, s < 5 → ∀ k, k < 2 → r (174 + 2 * s + k) = r' (174 + 2 * s + k)) (hw : ∀ i, 184 ≤ i → r i = r' i) : r = r' := by
  funext i
  by_cases h1 : i < 165
  · have := hb (i / 11) (by omega) (i % 11) (by omega)
    rwa [show 11 * (i / 11) + i % 11 = i by omega] at this
  · by_cases h2 : i < 174
    · have := hf ((i - 165) / 3) (by omega) ((i - 165) % 3) (by omega)
      rwa [show 165 + 3 * ((i - 165) / 3) + (i - 165) % 3 = i by omega] at this
    · by_cases h3 : i < 184
      · have := hs ((i - 174) / 2) (by omega) ((i - 174) % 2) (by omega)
        rwa [show 174 + 2 * ((i - 174) / 2) + (i - 174) % 2 = i by omega] at this
      · exact hw i (by omega)
/-! what a write does to the row -/
theorem fm_ne7 {k : Nat} : fm k ≠ 7 ∧ fm k ≠ 0 := by
  unfold fm
  repeat' split
  all_goals exact ⟨by omega, by omega⟩
theorem fm_inj {a b : Nat} (ha : a < 11) (hb : b < 11) (h : fm a = fm b) : a = b := by
  have : ∀ a : Fin 11, ∀ b : Fin 11, fm a.val = fm b.val → a.val = b.val := by decide +kernel
  exact this ⟨a, ha⟩ ⟨b, hb⟩ h
theorem enc_ub {f : Rw} {b k : Nat} {v : Int32} (hb : b < B) (hB : B ≤ 15) (hk : k < 11) : enc (va_up M (o + 4 + b) (ru f (fm k) v)) o B S = ru (enc (va_up M (o + 4 + b) f) o B S) (11 * b + k) v := by
  funext i
  by_cases hi : i = 11 * b + k
  · subst hi
    rw [ru_s, enc_bk hb hB hk, up_s, ru_s]
  · rw [ru_n hi]
    unfold enc
    by_cases h1 : i < 165
    · rw [if_pos h1, if_pos h1]
      by_cases h2 : i / 11 < B
      · rw [if_pos h2, if_pos h2]
        by_cases h3 : i / 11 = b
        · rw [h3, up_s, up_s, ru_n]
          intro q
          exact hi (by have := fm_inj (by omega) hk q; omega)
        · rw [up_n (by omega), up_n (by omega)]
      · rw [if_neg h2, if_neg h2]
    · rw [if_neg h1, if_neg h1]
      by_cases h2 : i < 174
      · rw [if_pos h2, if_pos h2, up_n (by omega), up_n (by omega)]
      · rw [if_neg h2, if_neg h2]
        by_cases h3 : i < 184
        · rw [if_pos h3, if_pos h3, up_n (by omega), up_n (by omega)]
        · rw [if_neg h3, if_neg h3, up_n (by omega), up_n (by omega)]
theorem enc_u7 {f : Rw} {b k : Nat} {v : Int32} (hb : b < B) (hB : B ≤ 15) (hk : k = 7 ∨ k = 0) : enc (va_up M (o + 4 + b) (ru f k v)) o B S = enc (va_up M (o + 4 + b) f) o B S := by
  refine enc_eq (fun a ha j hj => ?_) (fun a ha j hj => ?_) (fun a ha j hj => ?_) (fun j _ _ => ?_)
  · by_cases h3 : a = b
    · subst h3
      rw [up_s, up_s, ru_n]
      have := fm_ne7 (k := j)
      omega
    · rw [up_n (by omega), up_n (by omega)]
  · rw [up_n (by omega), up_n (by omega)]
  · by_cases h3 : a < 15
    · rw [up_n (by omega), up_n (by omega)]
    · rw [up_n (by omega), up_n (by omega)]
  · rw [up_n (by omega), up_n (by omega)]
theorem enc_u1 {f : Rw} {b : Nat} {v : Int32} (hb : b < B) (hB : B ≤ 15) : enc (va_up M (o + 4 + b) (ru f 1 v)) o B S = ru (enc (va_up M (o + 4 + b) f) o B S) (11 * b) v := enc_ub (k := 0) hb hB (by decide)
theorem enc_u4 {f : Rw} {b : Nat} {v : Int32} (hb : b < B) (hB : B ≤ 15) : enc (va_up M (o + 4 + b) (ru f 4 v)) o B S = ru (enc (va_up M (o + 4 + b) f) o B S) (11 * b + 3) v := enc_ub (k := 3) hb hB (by decide)
theorem enc_u5 {f : Rw} {b : Nat} {v : Int32} (hb : b < B) (hB : B ≤ 15) : enc (va_up M (o + 4 + b) (ru f 5 v)) o B S = ru (enc (va_up M (o + 4 + b) f) o B S) (11 * b + 4) v := enc_ub (k := 4) hb hB (by decide)
theorem enc_u8 {f : Rw} {b : Nat} {v : Int32} (hb : b < B) (hB : B ≤ 15) : enc (va_up M (o + 4 + b) (ru f 8 v)) o B S = ru (enc (va_up M (o + 4 + b) f) o B S) (11 * b + 5) v := enc_ub (k := 5) hb hB (by decide)
theorem enc_u9 {f : Rw} {b : Nat} {v : Int32} (hb : b < B) (hB : B ≤ 15) : enc (va_up M (o + 4 + b) (ru f 9 v)) o B S = ru (enc (va_up M (o + 4 + b) f) o B S) (11 * b + 6) v := enc_ub (k := 6) hb hB (by decide)
theorem enc_u10 {f : Rw} {b : Nat} {v : Int32} (hb : b < B) (hB : B ≤ 15) : enc (va_up M (o + 4 + b) (ru f 10 v)) o B S = ru (enc (va_up M (o + 4 + b) f) o B S) (11 * b + 7) v := enc_ub (k := 7) hb hB (by decide)
theorem enc_u11 {f : Rw} {b : Nat} {v : Int32} (hb : b < B) (hB : B ≤ 15) : enc (va_up M (o + 4 + b) (ru f 11 v)) o B S = ru (enc (va_up M (o + 4 + b) f) o B S) (11 * b + 8) v := enc_ub (k := 8) hb hB (by decide)
theorem enc_u12 {f : Rw} {b : Nat} {v : Int32} (hb : b < B) (hB : B ≤ 15) : enc (va_up M (o + 4 + b) (ru f 12 v)) o B S = ru (enc (va_up M (o + 4 + b) f) o B S) (11 * b + 9) v := enc_ub (k := 9) hb hB (by decide)
theorem enc_u6 {f : Rw} {b : Nat} {v : Int32} (hb : b < B) (hB : B ≤ 15) : enc (va_up M (o + 4 + b) (ru f 6 v)) o B S = ru (enc (va_up M (o + 4 + b) f) o B S) (11 * b + 10) v := enc_ub (k := 10) hb hB (by decide)
theorem enc_id {j : Nat} : enc (va_up M j (M j)) o B S = enc M o B S := by rw [up_id]
theorem enc_yb {b k : Nat} {v : Int32} (hb : b < B) (hB : B ≤ 15) (hk : k < 11) : enc (yst M (o + 4 + b) (fm k) v) o B S = ru (enc M o B S) (11 * b + k) v := by
  rw [yst_ru, enc_ub hb hB hk, enc_id]
theorem enc_rb {b k : Nat} (hb : b < 15) (hk : k < 11) : enc M o B S (11 * b + k) = if b < B then M (o + 4 + b) (fm k) else 0 := by
  unfold enc
  have h1 : (11 * b + k) / 11 = b := by omega
  have h2 : (11 * b + k) % 11 = k := by omega
  rw [if_pos (by omega), h1, h2]
theorem enc_rs {s k : Nat} (hs : s < 5) (hk : k < 2) : enc M o B S (174 + 2 * s + k) = if s < S then M (o + 19 + s) (k + 1) else 0 := by
  unfold enc
  have h1 : (174 + 2 * s + k - 174) / 2 = s := by omega
  have h2 : (174 + 2 * s + k - 174) % 2 = k := by omega
  rw [if_neg (by omega), if_neg (by omega), if_pos (by omega), h1, h2]
def encW (f : Rw) (i : Nat) : Int32 := if i = 184 then f 7 else if i = 185 then f 8 else if i = 186 then f 9 else if i = 187 then f 6 else if i = 188 then f 5 else if i = 189 then f 3 else if i = 190 then f 4 else if i = 191 then f 10 else if i = 192 then f 11 else 0
theorem enc_rw {i : Nat} (hi : 184 ≤ i) : enc M o B S i = encW (M o) i := by
  unfold enc
  rw [if_neg (by omega), if_neg (by omega), if_neg (by omega)]
  rfl
theorem enc_yf {f k : Nat} {v : Int32} (hf : f < 3) (hk : k < 3) : enc (yst M (o + 24 + f) (k + 1) v) o B S = ru (enc M o B S) (165 + 3 * f + k) v := by
  refine row_eq (fun a ha j hj => ?_) (fun a ha j hj => ?_) (fun a ha j hj => ?_) (fun j hj => ?_)
  · rw [ru_n (by omega), enc_rb ha hj, enc_rb ha hj, yst_row (by omega)]
  · rw [enc_fr ha hj]
    by_cases h1 : 165 + 3 * a + j = 165 + 3 * f + k
    · obtain rfl : a = f := by omega
      obtain rfl : j = k := by omega
      rw [ru_s, yst_same]
    · rw [ru_n h1, enc_fr ha hj]
      by_cases h2 : a = f
      · subst h2; rw [yst_at, if_neg (by omega)]
      · rw [yst_row (by omega)]
  · rw [ru_n (by omega), enc_rs ha hj, enc_rs ha hj, yst_row (by omega)]
  · rw [ru_n (by omega), enc_rw hj, enc_rw hj, yst_row (by omega)]
theorem enc_ys {s k : Nat} {v : Int32} (hS : S ≤ 5) (hs : s < S) (hk : k < 2) : enc (yst M (o + 19 + s) (k + 1) v) o B S = ru (enc M o B S) (174 + 2 * s + k) v := by
  refine row_eq (fun a ha j hj => ?_) (fun a ha j hj => ?_) (fun a ha j hj => ?_) (fun j hj => ?_)
  · rw [ru_n (by omega), enc_rb ha hj, enc_rb ha hj, yst_row (by omega)]
  · rw [ru_n (by omega), enc_fr ha hj, enc_fr ha hj, yst_row (by omega)]
  · rw [enc_rs ha hj]
    by_cases h1 : 174 + 2 * a + j = 174 + 2 * s + k
    · obtain rfl : a = s := by omega
      obtain rfl : j = k := by omega
      rw [ru_s, yst_same, if_pos hs]
    · rw [ru_n h1, enc_rs ha hj]
      by_cases h2 : a = s
      · subst h2; rw [yst_at, if_neg (show ¬ j + 1 = k + 1 by omega)]
      · rw [yst_row (by omega)]
  · rw [ru_n (by omega), enc_rw hj, enc_rw hj, yst_row (by omega)]
/-- the numbers of the workshop -/
def sc (k : Nat) : Nat := if k = 3 then 189 else if k = 4 then 190 else if k = 5 then 188 else if k = 6 then 187 else if k = 7 then 184 else if k = 8 then 185 else if k = 9 then 186 else if k = 10 then 191 else 192
theorem sc_le {k : Nat} : 184 ≤ sc k := by
  unfold sc
  repeat' split
  all_goals omega
theorem encW_ru {f : Rw} {k i : Nat} {v : Int32} (h3 : 3 ≤ k) (h11 : k ≤ 11) : encW (ru f k v) i = ru (encW f) (sc k) v i := by
  by_cases hi : 184 ≤ i ∧ i ≤ 192
  · rcases (show i = 184 ∨ i = 185 ∨ i = 186 ∨ i = 187 ∨ i = 188 ∨ i = 189 ∨ i = 190 ∨ i = 191 ∨ i = 192 by omega) with rfl | rfl | rfl | rfl | rfl | rfl | rfl | rfl | rfl <;>
    rcases (show k = 3 ∨ k = 4 ∨ k = 5 ∨ k = 6 ∨ k = 7 ∨ k = 8 ∨ k = 9 ∨ k = 10 ∨ k = 11 by omega) with rfl | rfl | rfl | rfl | rfl | rfl | rfl | rfl | rfl <;> rfl
  · have hs : sc k ≤ 192 := by
      unfold sc
      repeat' split
      all_goals omega
    have hs2 := sc_le (k := k)
    rw [ru_n (by omega)]
    unfold encW
    rw [if_neg (by omega), if_neg (by omega), if_neg (by omega), if_neg (by omega), if_neg (by omega), if_neg (by omega), if_neg (by omega), if_neg (by omega), if_neg (by omega)]
    rw [if_neg (by omega), if_neg (by omega), if_neg (by omega), if_neg (by omega), if_neg (by omega), if_neg (by omega), if_neg (by omega), if_neg (by omega), if_neg (by omega)]
theorem enc_yo {k : Nat} {v : Int32} (h3 : 3 ≤ k) (h11 : k ≤ 11) : enc (yst M o k v) o B S = ru (enc M o B S) (sc k) v := by
  have hs := sc_le (k := k)
  refine row_eq (fun a ha j hj => ?_) (fun a ha j hj => ?_) (fun a ha j hj => ?_) (fun j hj => ?_)
  · rw [ru_n (by omega), enc_rb ha hj, enc_rb ha hj, yst_row (by omega)]
  · rw [ru_n (by omega), enc_fr ha hj, enc_fr ha hj, yst_row (by omega)]
  · rw [ru_n (by omega), enc_rs ha hj, enc_rs ha hj, yst_row (by omega)]
  · rw [enc_rw hj, yst_ru, up_s, encW_ru h3 h11]
    unfold ru
    split
    · rfl
    · rw [enc_rw hj]
end
end YE
end
section
section YI
theorem nI_inj {a b : Nat} (ha : a < 2 ^ 31) (hb : b < 2 ^ 31) (h : nI a = nI b) : a = b := by
  have := congrArg Int32.toNatClampNeg h
  rwa [nI_clamp ha, nI_clamp hb] at this
theorem nI_ne1 {a : Nat} (ha : a < 2 ^ 31) : ¬ nI a = -1 := by
  intro h
  have h1 := congrArg Int32.toInt h
  rw [nI_toInt ha] at h1
  have h2 : (-1 : Int32).toInt = -1 := by decide
  omega
theorem bSos_cg {f g : Rw} {s : Int32} (h1 : f 1 = g 1) (h6 : f 6 = g 6) : bSos f s = bSos g s := by unfold bSos; rw [h1, h6]
theorem bSum_cg {f g : Rw} (h1 : f 1 = g 1) (h6 : f 6 = g 6) : ∀ n, bSum f n = bSum g n := by
  intro n
  induction n with
  | zero => rfl
  | succ n ih => rw [bSum, bSum, ih, bSos_cg h1 h6]
/-- a book that isn't ordered; one that is -/
def BkU (f : Rw) (b : Nat) : Prop := f 0 = nI b ∧ f 4 = -1 ∧ f 5 = -1 ∧ f 6 = 0 ∧ f 7 = 0 ∧ f 8 = 0 ∧ f 9 = 0 ∧ f 10 = 0 ∧ f 11 = 0 ∧ f 12 = 0
def BkA (f : Rw) (b : Nat) : Prop := f 0 = nI b ∧ (∃ s, 1 ≤ s ∧ s ≤ 24 ∧ f 1 = nI s) ∧ (∃ e, e ≤ 3 ∧ f 3 = nI e) ∧ (∃ w, w ≤ 24 ∧ f 8 = nI w) ∧ (∃ c, c ≤ 6 ∧ f 6 = nI c) ∧ f 7 = bSum f (f 8).toNatClampNeg + f 9
def BkB (f : Rw) : Prop := (∃ t, t ≤ 6 ∧ f 4 = nI t) ∧ (f 4 = 0 → f 7 = 0 ∧ f 8 = 0 ∧ f 9 = 0) ∧ (f 4 = 1 → f 8 < f 1 ∧ f 9 < bSos f (f 8)) ∧ (f 4 = 4 → f 12 < f 3) ∧ (f 4 < 4 → f 12 = 0)
def BkO (f : Rw) (b : Nat) : Prop := BkA f b ∧ BkB f
theorem BkA.cg {f g : Rw} {b : Nat} (h : BkA f b) (e0 : g 0 = f 0) (e1 : g 1 = f 1) (e3 : g 3 = f 3) (e6 : g 6 = f 6) (e7 : g 7 = f 7) (e8 : g 8 = f 8) (e9 : g 9 = f 9) : BkA g b := by
  obtain ⟨a0, a1, a3, a8, a6, a7⟩ := h
  refine ⟨e0.trans a0, ?_, ?_, ?_, ?_, ?_⟩
  · rw [e1]; exact a1
  · rw [e3]; exact a3
  · rw [e8]; exact a8
  · rw [e6]; exact a6
  · rw [e7, e8, e9, bSum_cg e1 e6]; exact a7
/-- a later stage than the second -/
theorem BkB.late {f : Rw} {t : Nat} (ht : t ≤ 6) (h4 : f 4 = nI t) (h2 : 2 ≤ t) (h44 : t = 4 → f 12 < f 3) (h12 : t < 4 → f 12 = 0) : BkB f := by
  refine ⟨⟨t, ht, h4⟩, fun h => ?_, fun h => ?_, fun h => ?_, fun h => ?_⟩
  · rw [h4] at h; have := nI_inj (b := 0) (by omega) (by omega) h; omega
  · rw [h4] at h; have := nI_inj (b := 1) (by omega) (by omega) h; omega
  · rw [h4] at h; exact h44 (nI_inj (b := 4) (by omega) (by omega) h)
  · rw [h4] at h; exact h12 ((nI_ltI (b := 4) (by omega) (by omega)).mp h)
theorem i32_succ {a b : Int32} (h : a < b) (k : b ≤ a + 1) : a + 1 = b := by
  have h1 := Int32.lt_iff_toInt_lt.mp h
  have h2 := Int32.le_iff_toInt_le.mp k
  have h3 : (a + 1).toInt = a.toInt + 1 := by
    rw [Int32.toInt_add]
    have h4 : (1 : Int32).toInt = 1 := by decide
    rw [h4]
    have h5 := Int32.toInt_lt b
    have h6 := Int32.le_toInt a
    exact Int.bmod_eq_of_le (by omega) (by omega)
  exact Int32.toInt_inj.mp (by omega)
theorem BkO.bind {f : Rw} {b : Nat} (h : BkO f b) (h4 : f 4 = 3) : BkO (bBind f) b := by
  refine ⟨h.1.cg rfl rfl rfl rfl rfl rfl rfl, ?_⟩
  have h12 : f 12 = 0 := h.2.2.2.2.2 (by rw [h4]; decide)
  obtain ⟨e, he, e3⟩ := h.1.2.2.1
  unfold bBind
  by_cases hz : f 3 = 0
  · rw [if_pos hz]; exact BkB.late (t := 5) (by decide) rfl (by decide) (by omega) (by omega)
  · rw [if_neg hz]
    refine BkB.late (t := 4) (by decide) rfl (by decide) (fun _ => ?_) (by omega)
    show f 12 < f 3
    rw [h12, e3]
    rw [e3] at hz
    exact nI_lt (a := 0) (by rcases Nat.eq_zero_or_pos e with q | q; exact absurd (by rw [q]; rfl) hz; exact q) (by omega)
theorem BkO.dryH {f : Rw} {b : Nat} (h : BkO f b) (h4 : f 4 = 2) : BkO (bDryH f) b := by
  have h12 : f 12 = 0 := h.2.2.2.2.2 (by rw [h4]; decide)
  unfold bDryH
  split
  · exact ⟨h.1.cg rfl rfl rfl rfl rfl rfl rfl, BkB.late (t := 3) (by decide) rfl (by decide) (by omega) (fun _ => h12)⟩
  · exact ⟨h.1.cg rfl rfl rfl rfl rfl rfl rfl, BkB.late (t := 2) (by decide) h4 (by decide) (by omega) (fun _ => h12)⟩
theorem BkO.gild {f : Rw} {b : Nat} (h : BkO f b) (h4 : f 4 = 4) : BkO (bGild f) b := by
  unfold bGild
  split
  · exact ⟨h.1.cg rfl rfl rfl rfl rfl rfl rfl, BkB.late (t := 4) (by decide) h4 (by decide) (fun _ => by assumption) (by omega)⟩
  · exact ⟨h.1.cg rfl rfl rfl rfl rfl rfl rfl, BkB.late (t := 5) (by decide) rfl (by decide) (by omega) (by omega)⟩
theorem BkO.dryB {f : Rw} {b : Nat} (h : BkA f b) (h12 : f 12 = 0) : BkO (bDryB f) b := ⟨h.cg rfl rfl rfl rfl rfl rfl rfl, BkB.late (t := 2) (by decide) rfl (by decide) (by omega) (fun _ => h12)⟩
theorem bSos_nat {f : Rw} {c s w : Nat} (hc : c ≤ 6) (h6 : f 6 = nI c) (hs : s ≤ 24) (h1 : f 1 = nI s) : ∃ n, 2 ≤ n ∧ n ≤ 12 ∧ bSos f (nI w) = nI n := by
  have e2 : ∀ a, nI a + 2 = nI (a + 2) := fun a => nI_add a 2
  unfold bSos
  rw [h6, h1, e2]
  split
  · split
    · rw [e2, e2]; exact ⟨_, by omega, by omega, rfl⟩
    · rw [e2]; exact ⟨_, by omega, by omega, rfl⟩
  · split
    · rw [e2]; exact ⟨_, by omega, by omega, rfl⟩
    · exact ⟨_, by omega, by omega, rfl⟩
theorem BkO.mount {f : Rw} {b fr c : Nat} (h : BkO f b) (h4 : f 4 = 0) (hc : c ≤ 6) : BkO (bMount f (nI fr) (nI c)) b := by
  obtain ⟨⟨a0, a1, a3, a8, a6, a7⟩, b0, b1, b2, b3, b4⟩ := h
  obtain ⟨h7, h8, h9⟩ := b1 h4
  have h12 : f 12 = 0 := b4 (by rw [h4]; decide)
  obtain ⟨s, s1, s2, es⟩ := a1
  have e8 : bMount f (nI fr) (nI c) 8 = 0 := h8
  have e9 : bMount f (nI fr) (nI c) 9 = 0 := h9
  refine ⟨⟨a0, ⟨s, s1, s2, es⟩, a3, a8, ⟨c, hc, rfl⟩, ?_⟩, ⟨1, by decide, rfl⟩, fun q => absurd (show (1 : Int32) = 0 from q) (by decide), fun _ => ⟨?_, ?_⟩, fun q => absurd (show (1 : Int32) = 4 from q) (by decide), fun _ => h12⟩
  · rw [e8, e9]; exact h7
  · rw [e8]; show 0 < f 1; rw [es]; exact nI_lt (a := 0) (by omega) (by omega)
  · rw [e8, e9]
    obtain ⟨n, n2, n12, e⟩ := bSos_nat (f := bMount f (nI fr) (nI c)) (w := 0) hc rfl s2 es
    show 0 < bSos _ (nI 0)
    rw [e]
    exact nI_lt (a := 0) (by omega) (by omega)
theorem BkO.undo {f : Rw} {b : Nat} (h : BkO f b) (h4 : f 4 = 1) : BkO (bUndo f) b := by
  obtain ⟨⟨a0, a1, a3, a8, a6, a7⟩, b0, b1, b2, b3, b4⟩ := h
  have h12 : f 12 = 0 := b4 (by rw [h4]; decide)
  exact ⟨⟨a0, a1, a3, ⟨0, by decide, rfl⟩, ⟨0, by decide, rfl⟩, rfl⟩, ⟨0, by decide, rfl⟩, fun _ => ⟨rfl, rfl, rfl⟩, fun q => absurd (show (0 : Int32) = 1 from q) (by decide), fun q => absurd (show (0 : Int32) = 4 from q) (by decide), fun _ => h12⟩
theorem BkO.begin {f : Rw} {b s h e : Nat} (hu : BkU f b) (s1 : 1 ≤ s) (s2 : s ≤ 24) (he : e ≤ 3) : BkO (bBegin f (nI s) (nI h) (nI e)) b := by
  obtain ⟨u0, u4, u5, u6, u7, u8, u9, u10, u11, u12⟩ := hu
  have e8 : bBegin f (nI s) (nI h) (nI e) 8 = 0 := u8
  have e9 : bBegin f (nI s) (nI h) (nI e) 9 = 0 := u9
  refine ⟨⟨u0, ⟨s, s1, s2, rfl⟩, ⟨e, he, rfl⟩, ⟨0, by decide, u8⟩, ⟨0, by decide, u6⟩, ?_⟩, ⟨0, by decide, rfl⟩, fun _ => ⟨u7, u8, u9⟩, fun q => absurd (show (0 : Int32) = 1 from q) (by decide), fun q => absurd (show (0 : Int32) = 4 from q) (by decide), fun _ => u12⟩
  rw [e8, e9]; exact u7
/-- a stitch: the book's numbers, and whether it's sewn then -/
theorem BkO.add {f : Rw} {b : Nat} (h : BkO f b) (h4 : f 4 = 1) : BkA (bAdd f) b ∧ (bAdd f 8 < bAdd f 1 → bAdd f 9 < bSos (bAdd f) (bAdd f 8)) ∧ bAdd f 4 = 1 ∧ bAdd f 5 = f 5 ∧ bAdd f 12 = f 12 ∧ bAdd f 1 = f 1 ∧ bAdd f 10 = f 10 := by
  obtain ⟨⟨a0, a1, a3, a8, a6, a7⟩, b0, b1, b2, b3, b4⟩ := h
  obtain ⟨k1, k2⟩ := b2 h4
  obtain ⟨s, s1, s2, es⟩ := a1
  obtain ⟨w, w1, ew⟩ := a8
  obtain ⟨c, c1, ec⟩ := a6
  have hws : w < s := by rw [ew, es] at k1; exact (nI_ltI (by omega) (by omega)).mp k1
  have hcl : (f 8).toNatClampNeg = w := by rw [ew]; exact nI_clamp (by omega)
  unfold bAdd
  by_cases hc : bSos f (f 8) ≤ f 9 + 1
  · rw [if_pos hc]
    have e9 := i32_succ k2 hc
    have e8 : f 8 + 1 = nI (w + 1) := by rw [ew]; exact nI_add w 1
    refine ⟨⟨a0, ⟨s, s1, s2, es⟩, a3, ⟨w + 1, by omega, e8⟩, ⟨c, c1, ec⟩, ?_⟩, fun _ => ?_, h4, rfl, rfl, rfl, rfl⟩
    · show f 7 + 1 = bSum (ru (ru (bInc f) 8 (f 8 + 1)) 9 0) (f 8 + 1).toNatClampNeg + 0
      rw [e8, nI_clamp (by omega), bSum_cg (f := ru (ru (bInc f) 8 (nI (w + 1))) 9 0) (g := f) rfl rfl, bSum, a7, hcl]
      rw [← ew, ← e9]
      rw [Int32.add_zero, Int32.add_assoc]
    · show 0 < bSos (ru (ru (bInc f) 8 (f 8 + 1)) 9 0) (f 8 + 1)
      rw [e8]
      obtain ⟨n, n2, n12, e⟩ := bSos_nat (f := ru (ru (bInc f) 8 (f 8 + 1)) 9 0) (w := w + 1) c1 ec s2 es
      rw [e8] at e
      rw [e]
      exact nI_lt (a := 0) (by omega) (by omega)
  · rw [if_neg hc]
    refine ⟨⟨a0, ⟨s, s1, s2, es⟩, a3, ⟨w, w1, ew⟩, ⟨c, c1, ec⟩, ?_⟩, fun _ => ?_, h4, rfl, rfl, rfl, rfl⟩
    · show f 7 + 1 = bSum (bInc f) (f 8).toNatClampNeg + (f 9 + 1)
      rw [bSum_cg (f := bInc f) (g := f) rfl rfl, a7, Int32.add_assoc]
    · show f 9 + 1 < bSos (bInc f) (f 8)
      rw [bSos_cg (f := bInc f) (g := f) rfl rfl]
      exact Int32.not_le.mp hc
end YI
end
section
section YI2
def FrI (M : yM) (o B f : Nat) : Prop := M (o + 24 + f) 0 = nI f ∧ (∃ c, c ≤ 6 ∧ M (o + 24 + f) 1 = nI c) ∧ (M (o + 24 + f) 2 = -1 ∨ ∃ b, b < B ∧ M (o + 24 + f) 2 = nI b ∧ M (o + 4 + b) 4 = 1 ∧ M (o + 4 + b) 5 = nI f)
def SwI (M : yM) (o S s : Nat) : Prop := M (o + 19 + s) 0 = nI s ∧ (S ≤ s → M (o + 19 + s) 2 = -1) ∧ ∃ v, v ≤ 9 ∧ M (o + 19 + s) 1 = nI v
def Inv (M : yM) (o B S : Nat) : Prop := (M o 3 = nI B ∧ B ≤ 15 ∧ M o 4 = nI S ∧ S ≤ 5) ∧ (∀ b, b < B → BkO (M (o + 4 + b)) b) ∧ (∀ b, B ≤ b → b < 15 → BkU (M (o + 4 + b)) b) ∧ (∀ f, f < 3 → FrI M o B f) ∧ (∀ b, b < B → M (o + 4 + b) 4 = 1 → ∃ f, f < 3 ∧ M (o + 4 + b) 5 = nI f ∧ M (o + 24 + f) 2 = nI b) ∧ (∀ s, s < 5 → SwI M o S s)
section
variable {M : yM} {o B S : Nat}
theorem Inv.cg {M' : yM} (h : Inv M o B S) (e : ∀ j, o ≤ j → j < o + 27 → M' j = M j) : Inv M' o B S := by
  obtain ⟨h1, h2, h3, h4, h5, h6⟩ := h
  have hB := h1.2.1
  refine ⟨by rw [e o (by omega) (by omega)]; exact h1, fun b hb => ?_, fun b hb hb2 => ?_, fun f hf => ?_, fun b hb => ?_, fun s hs => ?_⟩
  · rw [e (o + 4 + b) (by omega) (by omega)]; exact h2 b hb
  · rw [e (o + 4 + b) (by omega) (by omega)]; exact h3 b hb hb2
  · obtain ⟨a1, a2, a3⟩ := h4 f hf
    unfold FrI
    rw [e (o + 24 + f) (by omega) (by omega)]
    refine ⟨a1, a2, ?_⟩
    rcases a3 with q | ⟨b, hb, q⟩
    · exact Or.inl q
    · exact Or.inr ⟨b, hb, by rw [e (o + 4 + b) (by omega) (by omega)]; exact q⟩
  · rw [e (o + 4 + b) (by omega) (by omega)]
    intro q
    obtain ⟨f, hf, q1, q2⟩ := h5 b hb q
    exact ⟨f, hf, q1, by rw [e (o + 24 + f) (by omega) (by omega)]; exact q2⟩
  · unfold SwI
    rw [e (o + 19 + s) (by omega) (by omega)]
    exact h6 s hs
theorem Inv.sp (h : Inv M o B S) : wSpOK M o := fun i hi => (h.2.2.2.2.2 i hi).2.2
theorem Inv.o3 (h : Inv M o B S) : M o 3 = nI B := h.1.1
theorem Inv.o4 (h : Inv M o B S) : M o 4 = nI S := h.1.2.2.1
theorem Inv.hB (h : Inv M o B S) : B ≤ 15 := h.1.2.1
theorem Inv.hS (h : Inv M o B S) : S ≤ 5 := h.1.2.2.2
theorem Inv.bk (h : Inv M o B S) {b : Nat} (hb : b < B) : BkO (M (o + 4 + b)) b := h.2.1 b hb
theorem Inv.num (h : Inv M o B S) {b : Nat} (hb : b < 15) : M (o + 4 + b) 0 = nI b := by
  rcases Nat.lt_or_ge b B with q | q
  · exact (h.bk q).1.1
  · exact (h.2.2.1 b q hb).1
theorem Inv.un (h : Inv M o B S) {b : Nat} (hb : B ≤ b) (h15 : b < 15) : M (o + 4 + b) 4 = -1 := (h.2.2.1 b hb h15).2.1
/-- the frame's book -/
theorem Inv.fb (h : Inv M o B S) {f : Nat} (hf : f < 3) (hn : ¬ M (o + 24 + f) 2 = -1) : ∃ b, b < B ∧ M (o + 24 + f) 2 = nI b ∧ M (o + 4 + b) 4 = 1 ∧ M (o + 4 + b) 5 = nI f := by
  rcases (h.2.2.2.1 f hf).2.2 with q | q
  · exact absurd q hn
  · exact q
theorem Inv.sc {k : Nat} {v : Int32} (h : Inv M o B S) (hk : 5 ≤ k) : Inv (yst M o k v) o B S := by
  obtain ⟨h1, h2, h3, h4, h5, h6⟩ := h
  have hB := h1.2.1
  have e : ∀ j, j ≠ o → yst M o k v j = M j := fun j hj => yst_row hj
  refine ⟨by rw [yst_at, if_neg (by omega), yst_at, if_neg (by omega)]; exact h1, fun b hb => ?_, fun b hb hb2 => ?_, fun f hf => ?_, fun b hb => ?_, fun s hs => ?_⟩
  · rw [e _ (by omega)]; exact h2 b hb
  · rw [e _ (by omega)]; exact h3 b hb hb2
  · obtain ⟨a1, a2, a3⟩ := h4 f hf
    unfold FrI
    rw [e (o + 24 + f) (by omega)]
    refine ⟨a1, a2, ?_⟩
    rcases a3 with q | ⟨b, hb, q⟩
    · exact Or.inl q
    · exact Or.inr ⟨b, hb, by rw [e (o + 4 + b) (by omega)]; exact q⟩
  · rw [e _ (by omega)]
    intro q
    obtain ⟨f, hf, q1, q2⟩ := h5 b hb q
    exact ⟨f, hf, q1, by rw [e (o + 24 + f) (by omega)]; exact q2⟩
  · unfold SwI
    rw [e _ (by omega)]
    exact h6 s hs
/-- a book that is, or isn't, on a frame as it was -/
theorem Inv.book {b : Nat} {g : Rw} (h : Inv M o B S) (hb : b < B) (hg : BkO g b) (h1 : g 4 = 1 ↔ M (o + 4 + b) 4 = 1) (h5 : g 4 = 1 → g 5 = M (o + 4 + b) 5) : Inv (va_up M (o + 4 + b) g) o B S := by
  obtain ⟨a1, a2, a3, a4, a5, a6⟩ := h
  have hB := a1.2.1
  refine ⟨by rw [up_n (by omega)]; exact a1, fun c hc => ?_, fun c hc hc2 => ?_, fun f hf => ?_, fun c hc => ?_, fun s hs => ?_⟩
  · by_cases q : c = b
    · subst q; rw [up_s]; exact hg
    · rw [up_n (by omega)]; exact a2 c hc
  · rw [up_n (by omega)]; exact a3 c hc hc2
  · obtain ⟨k1, k2, k3⟩ := a4 f hf
    unfold FrI
    rw [up_n (by omega)]
    refine ⟨k1, k2, ?_⟩
    rcases k3 with q | ⟨c, hc, q1, q2, q3⟩
    · exact Or.inl q
    · refine Or.inr ⟨c, hc, q1, ?_⟩
      by_cases q : c = b
      · subst q; rw [up_s]; exact ⟨h1.mpr q2, (h5 (h1.mpr q2)).trans q3⟩
      · rw [up_n (by omega)]; exact ⟨q2, q3⟩
  · by_cases q : c = b
    · subst q
      rw [up_s]
      intro k
      obtain ⟨f, hf, q1, q2⟩ := a5 c hc (h1.mp k)
      exact ⟨f, hf, (h5 k).trans q1, by rw [up_n (by omega)]; exact q2⟩
    · rw [up_n (by omega)]
      intro k
      obtain ⟨f, hf, q1, q2⟩ := a5 c hc k
      exact ⟨f, hf, q1, by rw [up_n (by omega)]; exact q2⟩
  · unfold SwI
    rw [up_n (by omega)]
    exact a6 s hs
/-- a frame's cords, or what was sewn at it -/
theorem Inv.fr {f k : Nat} {v : Int32} (h : Inv M o B S) (hf : f < 3) (hk : k = 3 ∨ (k = 1 ∧ ∃ c, c ≤ 6 ∧ v = nI c)) : Inv (yst M (o + 24 + f) k v) o B S := by
  obtain ⟨a1, a2, a3, a4, a5, a6⟩ := h
  have hB := a1.2.1
  have e2 : ∀ g, yst M (o + 24 + f) k v (o + 24 + g) 2 = M (o + 24 + g) 2 := fun g => by
    by_cases q : g = f
    · subst q; rw [yst_at, if_neg (by omega)]
    · rw [yst_row (by omega)]
  have e0 : ∀ g, yst M (o + 24 + f) k v (o + 24 + g) 0 = M (o + 24 + g) 0 := fun g => by
    by_cases q : g = f
    · subst q; rw [yst_at, if_neg (by omega)]
    · rw [yst_row (by omega)]
  refine ⟨by rw [yst_row (by omega)]; exact a1, fun c hc => ?_, fun c hc hc2 => ?_, fun g hg => ?_, fun c hc => ?_, fun s hs => ?_⟩
  · rw [yst_row (by omega)]; exact a2 c hc
  · rw [yst_row (by omega)]; exact a3 c hc hc2
  · obtain ⟨k1, k2, k3⟩ := a4 g hg
    unfold FrI
    rw [e0, e2]
    refine ⟨k1, ?_, ?_⟩
    · by_cases q : g = f
      · subst q
        rw [yst_at]
        rcases hk with rfl | ⟨rfl, hv⟩
        · rw [if_neg (by decide)]; exact k2
        · rw [if_pos rfl]; exact hv
      · rw [yst_row (by omega)]; exact k2
    · rcases k3 with q | ⟨c, hc, q⟩
      · exact Or.inl q
      · exact Or.inr ⟨c, hc, by rw [yst_row (by omega)]; exact q⟩
  · rw [yst_row (by omega)]
    intro q
    obtain ⟨g, hg, q1, q2⟩ := a5 c hc q
    exact ⟨g, hg, q1, by rw [e2]; exact q2⟩
  · unfold SwI
    rw [yst_row (by omega)]
    exact a6 s hs
/-- a book comes off its frame -/
theorem Inv.off {f b : Nat} {g : Rw} (h : Inv M o B S) (hf : f < 3) (hb : b < B) (hfb : M (o + 24 + f) 2 = nI b) (hg : BkO g b) (h1 : ¬ g 4 = 1) : Inv (va_up (yst M (o + 24 + f) 2 (-1)) (o + 4 + b) g) o B S := by
  obtain ⟨a1, a2, a3, a4, a5, a6⟩ := h
  have hB := a1.2.1
  have ef : ∀ j, j ≠ o + 4 + b → j ≠ o + 24 + f → va_up (yst M (o + 24 + f) 2 (-1)) (o + 4 + b) g j = M j := fun j q1 q2 => by rw [up_n q1, yst_row q2]
  refine ⟨by rw [ef _ (by omega) (by omega)]; exact a1, fun c hc => ?_, fun c hc hc2 => ?_, fun k hk => ?_, fun c hc => ?_, fun s hs => ?_⟩
  · by_cases q : c = b
    · subst q; rw [up_s]; exact hg
    · rw [ef _ (by omega) (by omega)]; exact a2 c hc
  · rw [ef _ (by omega) (by omega)]; exact a3 c hc hc2
  · obtain ⟨k1, k2, k3⟩ := a4 k hk
    unfold FrI
    by_cases q : k = f
    · subst q
      rw [up_n (by omega), yst_at, if_neg (by decide), yst_at, if_neg (by decide), yst_at, if_pos rfl]
      exact ⟨k1, k2, Or.inl rfl⟩
    · rw [ef (o + 24 + k) (by omega) (by omega)]
      refine ⟨k1, k2, ?_⟩
      rcases k3 with q3 | ⟨c, hc, q1, q2, q3⟩
      · exact Or.inl q3
      · refine Or.inr ⟨c, hc, q1, ?_⟩
        have hcb : c ≠ b := by
          intro e
          subst e
          obtain ⟨f2, hf2, r1, r2⟩ := a5 c hc q2
          have e1 : k = f2 := nI_inj (by omega) (by omega) (q3.symm.trans r1)
          subst e1
          obtain ⟨c2, hc2, s1, s2, s3⟩ : ∃ c2, c2 < B ∧ M (o + 24 + f) 2 = nI c2 ∧ M (o + 4 + c2) 4 = 1 ∧ M (o + 4 + c2) 5 = nI f := by
            rcases (a4 f hf).2.2 with z | z
            · rw [hfb] at z; exact absurd z (nI_ne1 (by omega))
            · exact z
          have e2 : c = c2 := nI_inj (by omega) (by omega) (hfb.symm.trans s1)
          subst e2
          exact q (nI_inj (by omega) (by omega) (q3.symm.trans s3))
        rw [ef _ (by omega) (by omega)]
        exact ⟨q2, q3⟩
  · by_cases q : c = b
    · subst q; rw [up_s]; intro k; exact absurd k h1
    · rw [ef _ (by omega) (by omega)]
      intro k
      obtain ⟨f2, hf2, q1, q2⟩ := a5 c hc k
      refine ⟨f2, hf2, q1, ?_⟩
      have hff : f2 ≠ f := by
        intro e
        subst e
        exact q (nI_inj (by omega) (by omega) (q2.symm.trans hfb))
      rw [ef _ (by omega) (by omega)]
      exact q2
  · unfold SwI
    rw [ef _ (by omega) (by omega)]
    exact a6 s hs
/-- a book comes onto a frame -/
theorem Inv.on {f b : Nat} {g : Rw} (h : Inv M o B S) (hf : f < 3) (hb : b < B) (hfb : M (o + 24 + f) 2 = -1) (h0 : ¬ M (o + 4 + b) 4 = 1) (hg : BkO g b) (h1 : g 4 = 1) (h5 : g 5 = nI f) : Inv (yst (va_up M (o + 4 + b) g) (o + 24 + f) 2 (nI b)) o B S := by
  obtain ⟨a1, a2, a3, a4, a5, a6⟩ := h
  have hB := a1.2.1
  have ef : ∀ j, j ≠ o + 4 + b → j ≠ o + 24 + f → yst (va_up M (o + 4 + b) g) (o + 24 + f) 2 (nI b) j = M j := fun j q1 q2 => by rw [yst_row q2, up_n q1]
  have eb : yst (va_up M (o + 4 + b) g) (o + 24 + f) 2 (nI b) (o + 4 + b) = g := by rw [yst_row (by omega), up_s]
  refine ⟨by rw [ef _ (by omega) (by omega)]; exact a1, fun c hc => ?_, fun c hc hc2 => ?_, fun k hk => ?_, fun c hc => ?_, fun s hs => ?_⟩
  · by_cases q : c = b
    · subst q; rw [eb]; exact hg
    · rw [ef _ (by omega) (by omega)]; exact a2 c hc
  · rw [ef _ (by omega) (by omega)]; exact a3 c hc hc2
  · obtain ⟨k1, k2, k3⟩ := a4 k hk
    unfold FrI
    by_cases q : k = f
    · subst q
      refine ⟨?_, ?_, Or.inr ⟨b, hb, yst_same, by rw [eb]; exact h1, by rw [eb]; exact h5⟩⟩
      · rw [yst_at, if_neg (by decide), up_n (by omega)]; exact k1
      · rw [yst_at, if_neg (by decide), up_n (by omega)]; exact k2
    · rw [ef (o + 24 + k) (by omega) (by omega)]
      refine ⟨k1, k2, ?_⟩
      rcases k3 with q3 | ⟨c, hc, q1, q2, q3⟩
      · exact Or.inl q3
      · have hcb : c ≠ b := fun e => h0 (e ▸ q2)
        exact Or.inr ⟨c, hc, q1, by rw [ef _ (by omega) (by omega)]; exact ⟨q2, q3⟩⟩
  · by_cases q : c = b
    · subst q; intro _; exact ⟨f, hf, by rw [eb]; exact h5, yst_same⟩
    · rw [ef _ (by omega) (by omega)]
      intro k
      obtain ⟨f2, hf2, q1, q2⟩ := a5 c hc k
      have hff : f2 ≠ f := by
        intro e
        subst e
        rw [hfb] at q2
        exact nI_ne1 (by omega) q2.symm
      exact ⟨f2, hf2, q1, by rw [ef _ (by omega) (by omega)]; exact q2⟩
  · unfold SwI
    rw [ef _ (by omega) (by omega)]
    exact a6 s hs
theorem Inv.seat {s : Nat} {v : Int32} (h : Inv M o B S) (hs : s < S) : Inv (yst M (o + 19 + s) 2 v) o B S := by
  obtain ⟨a1, a2, a3, a4, a5, a6⟩ := h
  have hB := a1.2.1
  have hS := a1.2.2.2
  have e : ∀ j, j ≠ o + 19 + s → yst M (o + 19 + s) 2 v j = M j := fun j hj => yst_row hj
  refine ⟨by rw [e _ (by omega)]; exact a1, fun b hb => ?_, fun b hb hb2 => ?_, fun f hf => ?_, fun b hb => ?_, fun t ht => ?_⟩
  · rw [e _ (by omega)]; exact a2 b hb
  · rw [e _ (by omega)]; exact a3 b hb hb2
  · obtain ⟨k1, k2, k3⟩ := a4 f hf
    unfold FrI
    rw [e (o + 24 + f) (by omega)]
    refine ⟨k1, k2, ?_⟩
    rcases k3 with q | ⟨b, hb, q⟩
    · exact Or.inl q
    · exact Or.inr ⟨b, hb, by rw [e (o + 4 + b) (by omega)]; exact q⟩
  · rw [e _ (by omega)]
    intro q
    obtain ⟨f, hf, q1, q2⟩ := a5 b hb q
    exact ⟨f, hf, q1, by rw [e (o + 24 + f) (by omega)]; exact q2⟩
  · obtain ⟨k1, k2, k3⟩ := a6 t ht
    unfold SwI
    by_cases q : t = s
    · subst q
      rw [yst_at, if_neg (by decide), yst_at (b := 1), if_neg (by decide)]
      exact ⟨k1, fun z => by omega, k3⟩
    · rw [e _ (by omega)]; exact ⟨k1, k2, k3⟩
end
end YI2
end
section
section YHr
theorem ru_cm {r : Rw} {a b : Nat} {x y : Int32} (h : a ≠ b) : ru (ru r a x) b y = ru (ru r b y) a x := by
  funext i
  unfold ru
  by_cases h1 : i = a
  · subst h1; rw [if_neg h, if_pos rfl, if_pos rfl]
  · rw [if_neg h1, if_neg h1]
section
variable {M : yM} {o B S : Nat}
theorem rFs_enc {s : Int32} (hB : B ≤ 15) : ∀ n, n ≤ B → rFs (enc M o B S) s n = wFst M o s n := by
  intro n
  induction n with
  | zero => intro _; rfl
  | succ n ih =>
    intro hn
    rw [rFs, wFst, ih (by omega), enc_b3 (by omega) hB]
    cases wFst M o s n <;> rfl
theorem wFst_B (h : Inv M o B S) {s : Int32} (hs : ¬ s = -1) : wFst M o s 15 = rFs (enc M o B S) s B := by
  rw [rFs_enc h.hB B (Nat.le_refl _)]
  have key : ∀ d, B + d ≤ 15 → wFst M o s (B + d) = wFst M o s B := by
    intro d
    induction d with
    | zero => intro _; rfl
    | succ d ih =>
      intro hd
      rw [← Nat.add_assoc, wFst, ih (by omega)]
      cases wFst M o s B with
      | some k => rfl
      | none =>
        show (if M (o + 4 + (B + d)) 4 = s then _ else _) = _
        rw [if_neg]
        rw [h.un (by omega) (by omega)]
        exact fun q => hs q.symm
  have := key (15 - B) (by have := h.hB; omega)
  rwa [show B + (15 - B) = 15 by have := h.hB; omega] at this
theorem wFst_s {s : Int32} : ∀ {n i : Nat}, wFst M o s n = some i → M (o + 4 + i) 4 = s := by
  intro n
  induction n with
  | zero => intro i h; simp [wFst] at h
  | succ n ih =>
    intro i h
    cases hq : wFst M o s n with
    | some k => simp [wFst, hq] at h; subst h; exact ih hq
    | none =>
      simp only [wFst, hq] at h
      split at h
      · cases h; assumption
      · cases h
/-- gilding -/
theorem gild_tie (h : Inv M o B S) : rGild (enc M o B S) B = enc (wGild M o) o B S ∧ Inv (wGild M o) o B S := by
  have hB := h.hB
  have hw := wFst_B (s := 4) h (by decide)
  cases hq : wFst M o 4 15 with
  | none =>
    rw [← wGild_none hq, rGild_n (hw.symm.trans hq)]
    exact ⟨rfl, h⟩
  | some b =>
    have hb := rFs_lt (hw.symm.trans hq)
    have h4 := wFst_s hq
    rw [wGild_some hq, rGild_s (hw.symm.trans hq), wGildAt]
    have el : rLf (enc M o B S) b = bLeaves (M (o + 4 + b)) := by
      unfold rLf rTh bLeaves bThick
      rw [enc_b0 hb hB, enc_b1 hb hB]
    rw [el, enc_186]
    by_cases hc : M o 9 < bLeaves (M (o + 4 + b))
    · rw [if_pos hc, if_neg (Int32.not_le.mpr hc)]
      exact ⟨rfl, h⟩
    · rw [if_neg hc, if_pos (Int32.not_lt.mp hc)]
      obtain ⟨X, eX⟩ : ∃ z, z = wPay M o (bLeaves (M (o + 4 + b))) := ⟨_, rfl⟩
      rw [← eX]
      have hX : Inv X o B S := by rw [eX]; exact h.sc (by decide)
      have eb : X (o + 4 + b) = M (o + 4 + b) := by rw [eX]; exact yst_row (by omega)
      have e1 : rdec (enc M o B S) 186 (bLeaves (M (o + 4 + b))) = enc X o B S := by
        rw [eX]
        exact (enc_yo (k := 9) (by decide) (by decide)).symm
      obtain ⟨g, eg⟩ : ∃ z, z = X (o + 4 + b) := ⟨_, rfl⟩
      have e2 : rGb (enc M o B S) b = enc (va_up X (o + 4 + b) (ru g 12 (g 12 + 1))) o B S := by
        unfold rGb
        rw [el, e1, enc_u12 hb hB, eg, enc_id, rinc, enc_b9 hb hB]
      have hbk := hX.bk hb
      rw [← eg] at hbk
      have g4 : g 4 = 4 := by rw [eg, eb]; exact h4
      have hlt := hbk.2.2.2.2.1 g4
      unfold rGc
      rw [e2, enc_b9 hb hB, enc_b2 hb hB, up_s]
      unfold wGildB
      rw [← eg]
      have hI : Inv (va_up X (o + 4 + b) (bGild g)) o B S := by
        have h9 := hbk.gild g4
        have g1 : ¬ bGild g 4 = 1 := by
          unfold bGild
          split
          · show ¬ g 4 = 1
            rw [g4]; decide
          · show ¬ (5 : Int32) = 1
            decide
        refine hX.book hb h9 ⟨fun q => absurd q g1, fun q => ?_⟩ (fun q => absurd q g1)
        rw [← eg, g4] at q
        exact absurd q (by decide)
      refine ⟨?_, hI⟩
      show (if g 12 + 1 = g 3 then _ else _) = _
      unfold bGild
      by_cases hd : g 12 + 1 < g 3
      · rw [if_pos hd, if_neg (fun q => by rw [q] at hd; exact Int32.lt_irrefl hd)]
      · rw [if_neg hd, if_pos (i32_succ hlt (Int32.not_lt.mp hd)), enc_u4 hb hB]
/-- boards, for one book -/
def wBd1 (X : yM) (o b : Nat) : yM := if X (o + 4 + b) 4 = 3 then (if X o 8 < 2 then X else wBoardAt X o b) else X
theorem board_tie {b : Nat} (h : Inv M o B S) (hb : b < B) : rBd (enc M o B S) (11 * b) = enc (wBd1 M o b) o B S ∧ Inv (wBd1 M o b) o B S := by
  have hB := h.hB
  unfold rBd wBd1
  rw [enc_b3 hb hB, enc_185]
  by_cases h3 : M (o + 4 + b) 4 = 3
  · rw [if_pos h3, if_pos h3]
    by_cases hc : M o 8 < 2
    · rw [if_pos hc, if_neg (Int32.not_le.mpr hc)]
      exact ⟨rfl, h⟩
    · rw [if_neg hc, if_pos (Int32.not_lt.mp hc)]
      obtain ⟨X, eX⟩ : ∃ z, z = yst M o 8 (M o 8 - 2) := ⟨_, rfl⟩
      unfold wBoardAt
      rw [← eX]
      have hX : Inv X o B S := by rw [eX]; exact h.sc (by decide)
      have eb : X (o + 4 + b) = M (o + 4 + b) := by rw [eX]; exact yst_row (by omega)
      have e1 : rdec (enc M o B S) 185 2 = enc X o B S := by
        rw [eX]
        exact (enc_yo (k := 8) (by decide) (by decide)).symm
      rw [e1, enc_b2 hb hB]
      unfold wBoardB bBind
      rw [enc_u4 hb hB, enc_id]
      refine ⟨rfl, ?_⟩
      have hbk := hX.bk hb
      have x4 : X (o + 4 + b) 4 = 3 := by rw [eb]; exact h3
      have g1 : ¬ bBind (X (o + 4 + b)) 4 = 1 := by
        show ¬ (if _ then (5 : Int32) else 4) = 1
        split <;> decide
      refine hX.book hb (hbk.bind x4) ⟨fun q => absurd q g1, fun q => ?_⟩ (fun q => absurd q g1)
      rw [x4] at q
      exact absurd q (by decide)
  · rw [if_neg h3, if_neg h3]
    exact ⟨rfl, h⟩
theorem boards_tie (h : Inv M o B S) : ∀ n, n ≤ B → rBds (enc M o B S) n = enc (wBoard M o n) o B S ∧ Inv (wBoard M o n) o B S := by
  intro n
  induction n with
  | zero => intro _; exact ⟨rfl, h⟩
  | succ n ih =>
    intro hn
    obtain ⟨e, hI⟩ := ih (by omega)
    rw [rBds, e]
    exact board_tie hI (by omega)
theorem boards_B (h : Inv M o B S) : wBoard M o 15 = wBoard M o B := by
  have hI := (boards_tie h B (Nat.le_refl _)).2
  have hB := h.hB
  have key : ∀ d, B + d ≤ 15 → wBoard M o (B + d) = wBoard M o B := by
    intro d
    induction d with
    | zero => intro _; rfl
    | succ d ih =>
      intro hd
      rw [← Nat.add_assoc, wBoard, ih (by omega), if_neg]
      rw [hI.un (by omega) (by omega)]
      decide
  have := key (15 - B) (by omega)
  rwa [show B + (15 - B) = 15 by omega] at this
/-- drying -/
theorem dry_tie {b : Nat} (h : Inv M o B S) (hb : b < B) : rDr (enc M o B S) (11 * b) = enc (if M (o + 4 + b) 4 = 2 then va_up M (o + 4 + b) (bDryH (M (o + 4 + b))) else M) o B S ∧ Inv (if M (o + 4 + b) 4 = 2 then va_up M (o + 4 + b) (bDryH (M (o + 4 + b))) else M) o B S := by
  have hB := h.hB
  unfold rDr
  rw [enc_b3 hb hB]
  by_cases h3 : M (o + 4 + b) 4 = 2
  · rw [if_pos h3, if_pos h3]
    obtain ⟨g, eg⟩ : ∃ z, z = M (o + 4 + b) := ⟨_, rfl⟩
    have e1 : rdec (enc M o B S) (11 * b + 8) 1 = enc (va_up M (o + 4 + b) (ru g 11 (g 11 - 1))) o B S := by
      rw [enc_u11 hb hB, eg, enc_id, rdec, enc_b8 hb hB]
    rw [e1, enc_b8 hb hB, up_s, ← eg]
    rw [← eg] at h3
    have hbk := h.bk hb
    rw [← eg] at hbk
    have g1 : ¬ bDryH g 4 = 1 := by
      unfold bDryH
      split
      · show ¬ (3 : Int32) = 1
        decide
      · show ¬ g 4 = 1
        rw [h3]; decide
    refine ⟨?_, h.book hb (hbk.dryH h3) ⟨fun q => absurd q g1, fun q => ?_⟩ (fun q => absurd q g1)⟩
    · show (if g 11 - 1 = 0 then _ else _) = _
      unfold bDryH
      by_cases hz : g 11 - 1 = 0
      · rw [if_pos hz, if_pos hz, enc_u4 hb hB]
      · rw [if_neg hz, if_neg hz]
    · rw [← eg, h3] at q
      exact absurd q (by decide)
  · rw [if_neg h3, if_neg h3]
    exact ⟨rfl, h⟩
theorem drys_tie (h : Inv M o B S) : ∀ n, n ≤ B → rDrs (enc M o B S) n = enc (wDry M o n) o B S ∧ Inv (wDry M o n) o B S := by
  intro n
  induction n with
  | zero => intro _; exact ⟨rfl, h⟩
  | succ n ih =>
    intro hn
    obtain ⟨e, hI⟩ := ih (by omega)
    rw [rDrs, e]
    exact dry_tie hI (by omega)
theorem drys_B (h : Inv M o B S) : wDry M o 15 = wDry M o B := by
  have hI := (drys_tie h B (Nat.le_refl _)).2
  have hB := h.hB
  have key : ∀ d, B + d ≤ 15 → wDry M o (B + d) = wDry M o B := by
    intro d
    induction d with
    | zero => intro _; rfl
    | succ d ih =>
      intro hd
      rw [← Nat.add_assoc, wDry, ih (by omega), if_neg]
      rw [hI.un (by omega) (by omega)]
      decide
  have := key (15 - B) (by omega)
  rwa [show B + (15 - B) = 15 by omega] at this
theorem pa_tie (h : Inv M o B S) : rPa (enc M o B S) B = enc (wDry (wBoard (wGild M o) o 15) o 15) o B S ∧ Inv (wDry (wBoard (wGild M o) o 15) o 15) o B S := by
  obtain ⟨e1, h1⟩ := gild_tie h
  obtain ⟨e2, h2⟩ := boards_tie h1 B (Nat.le_refl _)
  obtain ⟨e3, h3⟩ := drys_tie h2 B (Nat.le_refl _)
  rw [boards_B h1, drys_B h2]
  refine ⟨?_, h3⟩
  unfold rPa
  rw [e1, e2, e3]
end
end YHr
end
section
section YSw
variable {M : yM} {o B S : Nat}
theorem yst_u1 {P : yM} {j k : Nat} {G : Rw} {v : Int32} : yst (va_up P j G) j k v = va_up P j (ru G k v) := by rw [yst_ru, up_s, up_up]
theorem yst_u2 {P : yM} {i j k : Nat} {G : Rw} {v : Int32} (h : i ≠ j) : yst (va_up P j G) i k v = va_up (yst P i k v) j G := by rw [yst_ru, up_n h, yst_ru, up_cm (fun q => h q.symm)]
theorem rSt_enc {b : Nat} {s : Int32} (hb : b < B) (hB : B ≤ 15) : rSt (enc M o B S) (11 * b) s = bSos (M (o + 4 + b)) s := by
  unfold rSt bSos
  rw [enc_b10 hb hB, enc_b0 hb hB]
  by_cases h1 : s = 0
  · by_cases h2 : s = M (o + 4 + b) 1 - 1
    · rw [if_pos h1, if_pos h2, if_pos h2, if_pos h1]
    · rw [if_pos h1, if_neg h2, if_neg h2, if_pos h1, Int32.add_zero]
  · by_cases h2 : s = M (o + 4 + b) 1 - 1
    · rw [if_neg h1, if_pos h2, if_pos h2, if_neg h1, Int32.add_zero]
    · rw [if_neg h1, if_neg h2, if_neg h2, if_neg h1, Int32.add_zero, Int32.add_zero]
theorem rUp_enc {b : Nat} (hb : b < B) (hB : B ≤ 15) : ∀ n, rUp (enc M o B S) (11 * b) n = bSum (M (o + 4 + b)) n := by
  intro n
  induction n with
  | zero => rfl
  | succ n ih => rw [rUp, bSum, ih, rSt_enc hb hB]
/-- the frame's hour of stitches begins with these three numbers -/
theorem stA_tie {f : Nat} (hf : f < 3) : enc (wStA M o f) o B S = rinc (rinc (rdec (enc M o B S) 184 1) (165 + 3 * f + 2) 1) 191 1 := by
  obtain ⟨X, eX⟩ : ∃ z, z = ydec M o 7 1 := ⟨_, rfl⟩
  obtain ⟨Z, eZ⟩ : ∃ z, z = yinc X o 10 1 := ⟨_, rfl⟩
  have e1 : enc X o B S = rdec (enc M o B S) 184 1 := by rw [eX]; exact enc_yo (k := 7) (by decide) (by decide)
  have e2 : enc Z o B S = ru (enc X o B S) 191 (X o 10 + 1) := by rw [eZ]; exact enc_yo (k := 10) (by decide) (by decide)
  have e3 : wStA M o f = yinc Z (o + 24 + f) 3 1 := by rw [eZ, eX]; rfl
  have z3 : Z (o + 24 + f) 3 = X (o + 24 + f) 3 := by rw [eZ]; unfold yinc; rw [yst_row (by omega)]
  rw [e3]
  unfold yinc
  rw [enc_yf (k := 2) hf (by decide), e2, z3, ← e1]
  unfold rinc
  rw [enc_f2 hf, ru_n (by omega), enc_191, ru_cm (by omega)]
theorem stA_Inv {f : Nat} (h : Inv M o B S) (hf : f < 3) : Inv (wStA M o f) o B S := by
  unfold wStA yinc ydec
  exact ((h.sc (by decide)).sc (by decide)).fr hf (Or.inl rfl)
theorem stA_bk {f b : Nat} (hb : b < 15) : wStA M o f (o + 4 + b) = M (o + 4 + b) := by
  unfold wStA yinc ydec
  rw [yst_row (by omega), yst_row (by omega), yst_row (by omega)]
theorem stA_fb {f : Nat} : wStA M o f (o + 24 + f) 2 = M (o + 24 + f) 2 := by
  unfold wStA yinc ydec
  rw [yst_at, if_neg (by decide), yst_row (by omega), yst_row (by omega)]
theorem stA_7 {f : Nat} : wStA M o f o 7 = M o 7 - 1 := by
  unfold wStA yinc ydec
  rw [yst_row (by omega), yst_at, if_neg (by decide), yst_same]
/-- what stands behind a stitch that may have been the book's last -/
def SewR (M : yM) (o B S f b : Nat) (r : Rw) (N : yM) : Prop := r = enc (wSewE N o f b) o B S ∧ Inv (wSewE N o f b) o B S ∧ (bSewn (N (o + 4 + b)) = 0 → N (o + 24 + f) 2 = nI b ∧ N o 7 = M o 7)
theorem sewE_a {f b : Nat} {N : yM} (h : N (o + 4 + b) 8 < N (o + 4 + b) 1) : wSewE N o f b = N ∧ bSewn (N (o + 4 + b)) = 0 := by
  have : bSewn (N (o + 4 + b)) = 0 := by unfold bSewn; rw [if_pos h]
  unfold wSewE
  rw [if_pos this]
  exact ⟨rfl, this⟩
theorem sewE_b {f b : Nat} {N : yM} (h : ¬ N (o + 4 + b) 8 < N (o + 4 + b) 1) : wSewE N o f b = wDryB (yst N (o + 24 + f) 2 (-1)) (o + 4 + b) ∧ ¬ bSewn (N (o + 4 + b)) = 0 := by
  have : ¬ bSewn (N (o + 4 + b)) = 0 := by unfold bSewn; rw [if_neg h]; decide
  unfold wSewE
  rw [if_neg this]
  exact ⟨rfl, this⟩
/-- the end of a stitch that ends a signature: P a workshop whose book b is still as before; N: with the book's row g -/
theorem sew_end {P N : yM} {f b : Nat} {g : Rw} (hP : Inv P o B S) (hf : f < 3) (hb : b < B) (hfb : P (o + 24 + f) 2 = nI b) (h4 : P (o + 4 + b) 4 = 1) (hN : N = va_up P (o + 4 + b) g) (hA : BkA g b) (h9 : g 8 < g 1 → g 9 < bSos g (g 8)) (g4 : g 4 = 1) (g5 : g 5 = P (o + 4 + b) 5) (g12 : g 12 = 0) : SewR P o B S f b (rS5 (enc N o B S) f b) N := by
  have hB := hP.hB
  have eN : N (o + 4 + b) = g := by rw [hN, up_s]
  have eN2 : ∀ j, j ≠ o + 4 + b → N j = P j := fun j hj => by rw [hN, up_n hj]
  unfold SewR
  by_cases hc : g 8 < g 1
  · have hc2 : N (o + 4 + b) 8 < N (o + 4 + b) 1 := by rw [eN]; exact hc
    rw [(sewE_a (f := f) hc2).1]
    have hg : BkO g b := ⟨hA, ⟨1, by decide, g4⟩, fun q => absurd (g4.symm.trans q) (by decide), fun _ => ⟨hc, h9 hc⟩, fun q => absurd (g4.symm.trans q) (by decide), fun _ => g12⟩
    refine ⟨rS5_a (by rw [enc_b5 hb hB, enc_b0 hb hB]; exact hc2), ?_, fun _ => ⟨by rw [eN2 _ (by omega)]; exact hfb, by rw [eN2 _ (by omega)]⟩⟩
    rw [hN]
    exact hP.book hb hg ⟨fun _ => h4, fun _ => g4⟩ (fun _ => g5)
  · have hc2 : ¬ N (o + 4 + b) 8 < N (o + 4 + b) 1 := by rw [eN]; exact hc
    obtain ⟨e1, e2⟩ := sewE_b (f := f) hc2
    rw [e1]
    refine ⟨?_, ?_, fun q => absurd q e2⟩
    · rw [rS5_b (by rw [enc_b5 hb hB, enc_b0 hb hB]; exact hc2)]
      obtain ⟨X, eX⟩ : ∃ z, z = yst N (o + 24 + f) 2 (-1) := ⟨_, rfl⟩
      have e3 : enc X o B S = ru (enc N o B S) (165 + 3 * f + 1) (-1) := by rw [eX]; exact enc_yf (k := 1) hf (by decide)
      have xb : X (o + 4 + b) = N (o + 4 + b) := by rw [eX]; exact yst_row (by omega)
      rw [← eX]
      unfold wDryB bDryB
      rw [enc_u11 hb hB, enc_u5 hb hB, enc_u4 hb hB, enc_id, e3]
      unfold rS4 rS4a
      have et : rTh (ru (ru (enc N o B S) (11 * b + 3) 2) (11 * b + 4) (-1)) (11 * b) = bThick (X (o + 4 + b)) := by
        unfold rTh bThick
        rw [ru_n (by omega), ru_n (by omega), ru_n (by omega), ru_n (by omega), enc_b0 hb hB, enc_b1 hb hB, xb]
      rw [et, ru_cm (a := 11 * b + 8) (by omega), ru_cm (a := 11 * b + 4) (b := 165 + 3 * f + 1) (by omega), ru_cm (a := 11 * b + 3) (b := 165 + 3 * f + 1) (by omega)]
    · have h0 := hP.off (g := bDryB g) hf hb hfb (BkO.dryB hA g12) (by show ¬ (2 : Int32) = 1; decide)
      refine h0.cg (fun j _ _ => ?_)
      unfold wDryB
      by_cases q : j = o + 4 + b
      · subst q
        rw [up_s, up_s, yst_row (by omega), eN]
      · rw [up_n q, up_n q]
        by_cases q2 : j = o + 24 + f
        · subst q2
          funext k
          rw [yst_at, yst_at, eN2 _ q]
        · rw [yst_row q2, yst_row q2, eN2 _ q]
/-- ONE STITCH -/
theorem stitch_tie {f b k : Nat} (h : Inv M o B S) (hf : f < 3) (hb : b < B) (hfb : M (o + 24 + f) 2 = nI b) (h4 : M (o + 4 + b) 4 = 1) : SewR (ydec M o 7 1) o B S f b (rStitch (enc M o B S) f b k) (wStitch M o f b k) := by
  have hB := h.hB
  obtain ⟨P, eP⟩ : ∃ z, z = wStA M o f := ⟨_, rfl⟩
  have hP : Inv P o B S := by rw [eP]; exact stA_Inv h hf
  have p7 : P o 7 = ydec M o 7 1 o 7 := by rw [eP, stA_7]; unfold ydec; rw [yst_same]
  have pfb : P (o + 24 + f) 2 = nI b := by rw [eP, stA_fb]; exact hfb
  have p4 : P (o + 4 + b) 4 = 1 := by rw [eP, stA_bk (by omega)]; exact h4
  obtain ⟨g, eg⟩ : ∃ z, z = P (o + 4 + b) := ⟨_, rfl⟩
  have hbk := hP.bk hb
  rw [← eg] at hbk
  have g4 : g 4 = 1 := by rw [eg]; exact p4
  have g12 : g 12 = 0 := hbk.2.2.2.2.2 (by rw [g4]; decide)
  obtain ⟨a1, a2, a3, a4, a5, a6, a7⟩ := hbk.add g4
  have e1 : rS1 (enc M o B S) f b = enc (va_up P (o + 4 + b) (bInc g)) o B S := by
    unfold rS1 bInc
    rw [enc_u9 hb hB, enc_u7 hb hB (Or.inl rfl), eg, enc_id, ← stA_tie hf, ← eP, rinc, enc_b6 hb hB]
  have e2 : enc (va_up P (o + 4 + b) (bInc g)) o B S (11 * b + 6) = g 9 + 1 := by rw [enc_b6 hb hB, up_s]; rfl
  have e3 : rSt (enc (va_up P (o + 4 + b) (bInc g)) o B S) (11 * b) (enc (va_up P (o + 4 + b) (bInc g)) o B S (11 * b + 5)) = bSos g (g 8) := by
    rw [rSt_enc hb hB, enc_b5 hb hB, up_s]
    exact bSos_cg rfl rfl
  have hR : ∀ {r : Rw} {N : yM}, SewR P o B S f b r N → SewR (ydec M o 7 1) o B S f b r N := fun q => ⟨q.1, q.2.1, fun z => ⟨(q.2.2 z).1, (q.2.2 z).2.trans p7⟩⟩
  have egM : wStA M o f (o + 4 + b) = g := by rw [← eP, eg]
  by_cases hc : bSos g (g 8) ≤ g 9 + 1
  · have hnl : ¬ rS1 (enc M o B S) f b (11 * b + 6) < rSt (rS1 (enc M o B S) f b) (11 * b) (rS1 (enc M o B S) f b (11 * b + 5)) := by
      rw [e1, e2, e3]; exact Int32.not_lt.mpr hc
    have hR0 : ¬ bAddR (wStA M o f (o + 4 + b)) = 0 := by rw [egM]; unfold bAddR; rw [if_pos hc]; decide
    have eA : bAdd g = ru (ru (bInc g) 8 (g 8 + 1)) 9 0 := by unfold bAdd; rw [if_pos hc]
    have eB : wStB M o f b = va_up P (o + 4 + b) (bAdd g) := by unfold wStB wAddB; rw [egM, ← eP]
    have e4 : rS2 (rS1 (enc M o B S) f b) b = enc (wStB M o f b) o B S := by
      rw [e1, eB, eA, enc_u9 hb hB, enc_u8 hb hB]
      unfold rS2 rinc
      rw [ru_n (by omega), enc_b5 hb hB, up_s, ru_cm (by omega)]
      rfl
    by_cases hk : nI k < 10
    · rw [rStitch_b hnl hk, wStitch_b hR0 hk, e4]
      exact hR (sew_end hP hf hb pfb p4 eB a1 a2 a3 (by rw [a4, eg]) (a5.trans g12))
    · rw [rStitch_c hnl hk, wStitch_c hR0 hk, e4]
      obtain ⟨N, eN⟩ : ∃ z, z = wStB M o f b := ⟨_, rfl⟩
      have hP2 : Inv (yst P o 11 (N o 11 + 1)) o B S := hP.sc (by decide)
      have eW : wStC N o b = va_up (yst P o 11 (N o 11 + 1)) (o + 4 + b) (ru (bAdd g) 10 (bAdd g 10 + 1)) := by
        unfold wStC yinc
        have n1 : yst N (o + 4 + b) 10 (N (o + 4 + b) 10 + 1) o 11 = N o 11 := by rw [yst_row (by omega)]
        rw [n1, eN, eB, up_s, yst_u1, yst_u2 (by omega)]
      have e5 : rS3 (enc N o B S) b = enc (wStC N o b) o B S := by
        have h1 : enc (yinc N (o + 4 + b) 10 1) o B S = rinc (enc N o B S) (11 * b + 7) 1 := by
          have h2 : yinc N (o + 4 + b) 10 1 = yst N (o + 4 + b) (fm 7) (N (o + 4 + b) 10 + 1) := rfl
          rw [h2, enc_yb hb hB (by decide), rinc, enc_b7 hb hB]
        have h3 : enc (wStC N o b) o B S = rinc (enc (yinc N (o + 4 + b) 10 1) o B S) 192 1 := by
          have h2 : wStC N o b = yst (yinc N (o + 4 + b) 10 1) o 11 (yinc N (o + 4 + b) 10 1 o 11 + 1) := rfl
          rw [h2, enc_yo (by decide) (by decide)]
          rfl
        rw [h3, h1]
        rfl
      rw [← eN, e5]
      have q7 : yst P o 11 (N o 11 + 1) o 7 = P o 7 := by rw [yst_at, if_neg (by decide)]
      have hE := sew_end (P := yst P o 11 (N o 11 + 1)) (N := wStC N o b) (g := ru (bAdd g) 10 (bAdd g 10 + 1)) hP2 hf hb (by rw [yst_row (by omega)]; exact pfb) (by rw [yst_row (by omega)]; exact p4) eW (a1.cg rfl rfl rfl rfl rfl rfl rfl) (fun q => by rw [bSos_cg (f := ru (bAdd g) 10 (bAdd g 10 + 1)) (g := bAdd g) rfl rfl]; exact a2 q) a3 (by rw [yst_row (by omega), ← eg]; exact a4) (a5.trans g12)
      exact hR ⟨hE.1, hE.2.1, fun z => ⟨(hE.2.2 z).1, (hE.2.2 z).2.trans q7⟩⟩
  · have hl : rS1 (enc M o B S) f b (11 * b + 6) < rSt (rS1 (enc M o B S) f b) (11 * b) (rS1 (enc M o B S) f b (11 * b + 5)) := by
      rw [e1, e2, e3]; exact Int32.not_le.mp hc
    have hR0 : bAddR (wStA M o f (o + 4 + b)) = 0 := by rw [egM]; unfold bAddR; rw [if_neg hc]
    have eA : bAdd g = bInc g := by unfold bAdd; rw [if_neg hc]
    have eB : wStB M o f b = va_up P (o + 4 + b) (bInc g) := by unfold wStB wAddB; rw [egM, ← eP, eA]
    rw [rStitch_a hl, wStitch_a hR0, e1, ← eB]
    have hlt : bInc g 8 < bInc g 1 := (hbk.2.2.2.1 g4).1
    have hr := rS5_a (r := enc (wStB M o f b) o B S) (f := f) (b := b) (by rw [enc_b5 hb hB, enc_b0 hb hB, eB, up_s]; exact hlt)
    rw [← hr]
    rw [eA] at a1 a2 a3 a4 a5
    exact hR (sew_end hP hf hb pfb p4 eB a1 a2 a3 (by rw [a4, eg]) (a5.trans g12))
end YSw
end
section
section YSx
variable {M : yM} {o B S : Nat}
theorem rRN_enc (h : Inv M o B S) {f : Int32} : ∀ n, n ≤ S → rRN (enc M o B S) f n = wOth M o f (-1) n ∧ rRS (enc M o B S) f n = wSpd M o f n := by
  intro n
  induction n with
  | zero => intro _; exact ⟨rfl, rfl⟩
  | succ n ih =>
    intro hn
    have hS := h.hS
    obtain ⟨i1, i2⟩ := ih (by omega)
    rw [rRN, rRS, wOth, wSpd, i1, i2, enc_s1 (by omega) hS, enc_s0 (by omega) hS]
    by_cases hc : M (o + 19 + n) 2 = f
    · rw [if_pos hc, if_pos hc, if_pos hc, if_neg]
      · exact ⟨rfl, rfl⟩
      · rw [(h.2.2.2.2.2 n (by omega)).1]
        exact nI_ne1 (by omega)
    · rw [if_neg hc, if_neg hc, if_neg hc]
      exact ⟨rfl, rfl⟩
theorem oth_S (h : Inv M o B S) {f s : Int32} (hf : ¬ f = -1) : wOth M o f s 5 = wOth M o f s S ∧ wSpd M o f 5 = wSpd M o f S := by
  have hS := h.hS
  have key : ∀ d, S + d ≤ 5 → wOth M o f s (S + d) = wOth M o f s S ∧ wSpd M o f (S + d) = wSpd M o f S := by
    intro d
    induction d with
    | zero => intro _; exact ⟨rfl, rfl⟩
    | succ d ih =>
      intro hd
      obtain ⟨i1, i2⟩ := ih (by omega)
      have hc : ¬ M (o + 19 + (S + d)) 2 = f := by
        rw [(h.2.2.2.2.2 (S + d) (by omega)).2.1 (by omega)]
        exact fun q => hf q.symm
      rw [← Nat.add_assoc, wOth, wSpd, if_neg hc, if_neg hc]
      exact ⟨i1, i2⟩
  have := key (5 - S) (by omega)
  rwa [show S + (5 - S) = 5 by omega] at this
theorem sit_oth (h : Inv M o B S) {f : Int32} : ∀ n, n ≤ 5 → wSit M o f n = wOth M o f (-1) n := by
  intro n
  induction n with
  | zero => intro _; rfl
  | succ n ih =>
    intro hn
    rw [wSit, wOth, ih (by omega)]
    by_cases hc : M (o + 19 + n) 2 = f
    · rw [if_pos hc, if_pos hc, if_neg]
      rw [(h.2.2.2.2.2 n (by omega)).1]
      exact nI_ne1 (by omega)
    · rw [if_neg hc, if_neg hc]
theorem rate_tie (h : Inv M o B S) {f : Nat} (hf : f < 3) : rRa (enc M o B S) (nI f) S = wRate M o (nI f) := by
  obtain ⟨h1, h2⟩ := rRN_enc h (f := nI f) S (Nat.le_refl _)
  obtain ⟨h3, h4⟩ := oth_S h (f := nI f) (s := -1) (nI_ne1 (by omega))
  unfold rRa wRate
  rw [sit_oth h 5 (Nat.le_refl _), h1, h2, h3, h4]
theorem mOK_enc (h : Inv M o B S) : mOK (enc M o B S) B S := by
  refine ⟨h.o3, h.hB, h.o4, h.hS, fun f hf => ?_, fun s hs => ?_⟩
  · rw [enc_f1 hf]
    have hB := h.hB
    rcases (h.2.2.2.1 f hf).2.2 with q | ⟨b, hb, q, _⟩
    · exact Or.inl (by rw [q]; decide)
    · exact Or.inr ⟨b, by omega, q⟩
  · have e := enc_rs (M := M) (o := o) (B := B) (S := S) (k := 0) hs (by decide)
    rw [Nat.add_zero] at e
    rw [e]
    split
    · exact (h.2.2.2.2.2 s hs).2.2
    · exact ⟨0, by decide, rfl⟩
theorem nI_sub {a b : Nat} (h : b ≤ a) (ha : a < 2 ^ 30) : nI a - nI b = nI (a - b) := by
  apply Int32.toInt_inj.mp
  rw [pk_sub_toInt (by omega) (by omega), nI_toInt (by omega)]
  omega
theorem ydec_7 {n T : Nat} (hT : n < T) (hTT : T < 2 ^ 31) : nI T - nI n - 1 = nI T - nI (n + 1) := by
  rw [show nI (n + 1) = nI n + 1 from (nI_add n 1).symm, Int32.sub_sub]
theorem nI_subp {n T : Nat} (hT : n < T) (hTT : T < 2 ^ 31) : ¬ nI T - nI n ≤ 0 := by
  have e : nI T - nI n = nI (T - n) := by
    have h1 : nI T = nI (T - n) + nI n := by rw [nI_add]; congr 1; omega
    rw [h1, Int32.add_sub_cancel]
  rw [e]
  exact nI_ge (a := 0) (by omega) (by omega)
theorem clamp_pos {x : Int32} {n : Nat} (h : n < x.toNatClampNeg) : x = nI x.toNatClampNeg ∧ x.toNatClampNeg < 2 ^ 31 := by
  have h1 : ¬ x < 0 := fun q => by
    have h2 := Int32.lt_iff_toInt_lt.mp q
    have h3 : x.toNatClampNeg = x.toInt.toNat := rfl
    have h4 : (0 : Int32).toInt = 0 := rfl
    omega
  obtain ⟨j, hj, rfl⟩ := nI_of h1
  rw [nI_clamp hj]
  exact ⟨rfl, hj⟩
/-- THE STITCHES OF A FRAME'S HOUR, as long as there is thread -/
theorem sewL_tie (h : Inv M o B S) {f b : Nat} (hf : f < 3) (hb : b < B) (hfb : M (o + 24 + f) 2 = nI b) (h4 : M (o + 4 + b) 4 = 1) : ∀ n, n ≤ (M o 7).toNatClampNeg → rSew (enc M o B S) f n = enc (wSewE (wSewL M o f b n) o f b) o B S ∧ Inv (wSewE (wSewL M o f b n) o f b) o B S ∧ (bSewn (wSewL M o f b n (o + 4 + b)) = 0 → wSewL M o f b n (o + 24 + f) 2 = nI b ∧ wSewL M o f b n o 7 = M o 7 - nI n) := by
  have hB := h.hB
  intro n
  induction n with
  | zero =>
    intro _
    have hs := ((h.bk hb).2.2.2.1 h4).1
    have e : wSewE M o f b = M := (sewE_a (f := f) hs).1
    show enc M o B S = enc (wSewE M o f b) o B S ∧ Inv (wSewE M o f b) o B S ∧ _
    rw [e]
    refine ⟨rfl, h, fun _ => ⟨hfb, ?_⟩⟩
    show M o 7 = M o 7 - nI 0
    rw [show nI 0 = (0 : Int32) from rfl, Int32.sub_zero]
  | succ n ih =>
    intro hn
    obtain ⟨i1, i2, i3⟩ := ih (by omega)
    obtain ⟨X, eX⟩ : ∃ z, z = wSewL M o f b n := ⟨_, rfl⟩
    rw [← eX] at i1 i2 i3
    by_cases hs : bSewn (X (o + 4 + b)) = 0
    · obtain ⟨x1, x2⟩ := i3 hs
      have hE : wSewE X o f b = X := by unfold wSewE; rw [if_pos hs]
      rw [hE] at i1 i2
      have e1 : wSewL M o f b (n + 1) = wStitch X o f b (n + 1) := by rw [wSewL_go (by rw [← eX]; exact hs), ← eX]
      obtain ⟨t1, t2⟩ := clamp_pos (x := M o 7) (n := n) (by omega)
      have r1 : ¬ rSew (enc M o B S) f n (165 + 3 * f + 1) < 0 := by rw [i1, enc_f1 hf, x1]; exact nI_pos (by omega)
      have r2 : ¬ rSew (enc M o B S) f n 184 ≤ 0 := by
        rw [i1, enc_184, x2, t1]
        exact nI_subp (by omega) t2
      have r3 : rSew (enc M o B S) f n (165 + 3 * f + 1) = nI b := by rw [i1, enc_f1 hf, x1]
      have x4 : X (o + 4 + b) 4 = 1 := by
        obtain ⟨b2, hb2, q1, q2, _⟩ := i2.fb hf (by rw [x1]; exact nI_ne1 (by omega))
        have : b = b2 := nI_inj (by omega) (by omega) (x1.symm.trans q1)
        rw [this]
        exact q2
      have key := stitch_tie (k := n + 1) i2 hf hb x1 x4
      rw [rSew_go r1 r2 r3 (by omega), i1, e1]
      refine ⟨key.1, key.2.1, fun q => ⟨(key.2.2 q).1, ?_⟩⟩
      rw [(key.2.2 q).2]
      unfold ydec
      rw [yst_same, x2, t1]
      exact ydec_7 (by omega) t2
    · have e1 : wSewL M o f b (n + 1) = X := by rw [wSewL, ← eX, if_neg hs]
      have e2 : wSewE X o f b = wDryB (yst X (o + 24 + f) 2 (-1)) (o + 4 + b) := by unfold wSewE; rw [if_neg hs]
      have r1 : rSew (enc M o B S) f n (165 + 3 * f + 1) < 0 := by
        rw [i1, enc_f1 hf, e2]
        unfold wDryB
        rw [up_n (by omega), yst_same]
        decide
      rw [rSew_a r1 1, e1]
      exact ⟨i1, i2, fun q => absurd q hs⟩
theorem sew_tie (h : Inv M o B S) {f : Nat} (hf : f < 3) : rSw (enc M o B S) f S = enc (wSew M o f) o B S ∧ Inv (wSew M o f) o B S := by
  have hB := h.hB
  by_cases hn : M (o + 24 + f) 2 = -1
  · have hno : wNo M o (M (o + 24 + f) 2) := Or.inl (by rw [hn]; decide)
    rw [wSew_no hno]
    refine ⟨?_, h⟩
    unfold rSw
    have r1 : rSew (enc M o B S) f 0 (165 + 3 * f + 1) < 0 := by
      show enc M o B S (165 + 3 * f + 1) < 0
      rw [enc_f1 hf, hn]
      decide
    have := rSew_a r1 (rRa (enc M o B S) (nI f) S).toNatClampNeg
    rw [Nat.zero_add] at this
    rw [this]
    rfl
  · obtain ⟨b, hb, hfb, h4, h5⟩ := h.fb hf hn
    have hno : ¬ wNo M o (M (o + 24 + f) 2) := by
      rw [hfb]
      unfold wNo
      rw [h.o3]
      intro q
      rcases q with q | q | q
      · exact nI_pos (by omega) q
      · exact nI_ge hb (by omega) q
      · exact nI_ge (show b < 15 by omega) (by omega) q
    rw [wSew_b hno (by omega) hfb, wSewB]
    obtain ⟨f0, hf0⟩ : ∃ z, z = wRate M o (nI f) := ⟨_, rfl⟩
    have er := rate_tie h hf
    have em : wMost M o f = if M o 7 < f0 then M o 7 else f0 := by
      unfold wMost
      rw [(h.2.2.2.1 f hf).1, hf0]
    have hcl : (wMost M o f).toNatClampNeg ≤ (M o 7).toNatClampNeg := by
      rw [em]
      split
      · exact Nat.le_refl _
      · rename_i q
        have h1 := Int32.le_iff_toInt_le.mp (Int32.not_lt.mp q)
        have h2 : f0.toNatClampNeg = f0.toInt.toNat := rfl
        have h3 : (M o 7).toNatClampNeg = (M o 7).toInt.toNat := rfl
        omega
    obtain ⟨k1, k2, k3⟩ := sewL_tie h hf hb hfb h4 _ hcl
    obtain ⟨N, eN⟩ : ∃ z, z = (wMost M o f).toNatClampNeg := ⟨_, rfl⟩
    rw [← eN] at k1 k2 k3 ⊢
    refine ⟨?_, k2⟩
    rw [← k1]
    unfold rSw
    rw [er, ← hf0]
    by_cases hc : M o 7 < f0
    · have eN2 : N = (M o 7).toNatClampNeg := by rw [eN, em, if_pos hc]
      have hle : N ≤ f0.toNatClampNeg := by
        have h1 := Int32.lt_iff_toInt_lt.mp hc
        have h2 : f0.toNatClampNeg = f0.toInt.toNat := rfl
        have h3 : (M o 7).toNatClampNeg = (M o 7).toInt.toNat := rfl
        omega
      have hst : ∀ d, rSew (enc M o B S) f (N + d) = rSew (enc M o B S) f N := by
        by_cases hs : bSewn (wSewL M o f b N (o + 4 + b)) = 0
        · refine rSew_b ?_
          have hE : wSewE (wSewL M o f b N) o f b = wSewL M o f b N := by unfold wSewE; rw [if_pos hs]
          rw [k1, hE, enc_184, (k3 hs).2]
          by_cases hz : M o 7 < 0
          · have hN0 : N = 0 := by
              have h2 := Int32.lt_iff_toInt_lt.mp hz
              have h3 : (M o 7).toNatClampNeg = (M o 7).toInt.toNat := rfl
              have h4 : (0 : Int32).toInt = 0 := rfl
              omega
            rw [hN0, show nI 0 = (0 : Int32) from rfl, Int32.sub_zero]
            exact Int32.le_of_lt hz
          · obtain ⟨j, hj, e⟩ := nI_of hz
            rw [eN2, e, nI_clamp hj, Int32.sub_self]
            exact Int32.le_refl _
        · refine rSew_a ?_
          have e2 : wSewE (wSewL M o f b N) o f b = wDryB (yst (wSewL M o f b N) (o + 24 + f) 2 (-1)) (o + 4 + b) := by unfold wSewE; rw [if_neg hs]
          rw [k1, enc_f1 hf, e2]
          unfold wDryB
          rw [up_n (by omega), yst_same]
          decide
      have := hst (f0.toNatClampNeg - N)
      rwa [show N + (f0.toNatClampNeg - N) = f0.toNatClampNeg by omega] at this
    · have eN2 : N = f0.toNatClampNeg := by rw [eN, em, if_neg hc]
      rw [eN2]
theorem sews_tie (h : Inv M o B S) : ∀ n, n ≤ 3 → rSws (enc M o B S) S n = enc (wSews M o n) o B S ∧ Inv (wSews M o n) o B S := by
  intro n
  induction n with
  | zero => intro _; exact ⟨rfl, h⟩
  | succ n ih =>
    intro hn
    obtain ⟨e, hI⟩ := ih (by omega)
    rw [rSws, e]
    exact sew_tie hI (by omega)
/-- mounting -/
theorem mount_tie (h : Inv M o B S) {f : Nat} (hf : f < 3) : rMt (enc M o B S) f B = enc (if M (o + 24 + f) 2 = -1 then wMount M o f else M) o B S ∧ Inv (if M (o + 24 + f) 2 = -1 then wMount M o f else M) o B S := by
  have hB := h.hB
  by_cases hn : M (o + 24 + f) 2 = -1
  · rw [if_pos hn]
    have h0 : ¬ 0 ≤ enc M o B S (165 + 3 * f + 1) := by rw [enc_f1 hf, hn]; decide
    have hw := wFst_B (s := 0) h (by decide)
    cases hq : wFst M o 0 15 with
    | none =>
      rw [← wMount_none hq, rMt_n h0 (hw.symm.trans hq)]
      exact ⟨rfl, h⟩
    | some b =>
      have hb := rFs_lt (hw.symm.trans hq)
      have h4 := wFst_s hq
      rw [wMount_some hq, rMt_s h0 (hw.symm.trans hq)]
      obtain ⟨k1, ⟨c, hc, k2⟩, _⟩ := h.2.2.2.1 f hf
      have hbk := h.bk hb
      have enum : wMountA M o f b (o + 4 + b) 0 = nI b := by
        unfold wMountA
        rw [up_s]
        exact hbk.1.1
      unfold wMountAt
      rw [enum]
      unfold wMountA
      rw [k1, k2]
      refine ⟨?_, h.on hf hb hn (by rw [h4]; decide) (hbk.mount h4 hc) rfl rfl⟩
      have e1 := enc_yf (M := va_up M (o + 4 + b) (bMount (M (o + 4 + b)) (nI f) (nI c))) (o := o) (B := B) (S := S) (k := 1) (v := nI b) hf (by decide)
      rw [e1]
      unfold bMount
      rw [enc_u6 hb hB, enc_u5 hb hB, enc_u4 hb hB, enc_id]
      unfold rMa
      rw [ru_n (by omega), ru_n (by omega), ru_n (by omega), enc_f0 hf, k2, ru_cm (a := 11 * b + 10) (by omega), ru_cm (a := 11 * b + 4) (b := 165 + 3 * f + 1) (by omega), ru_cm (a := 11 * b + 3) (b := 165 + 3 * f + 1) (by omega)]
  · rw [if_neg hn]
    obtain ⟨b, hb, hfb, _⟩ := h.fb hf hn
    rw [rMt_f (by rw [enc_f1 hf, hfb]; exact nI_pos' (by omega))]
    exact ⟨rfl, h⟩
theorem mounts_tie (h : Inv M o B S) : ∀ n, n ≤ 3 → rMts (enc M o B S) B n = enc (wMounts M o n) o B S ∧ Inv (wMounts M o n) o B S := by
  intro n
  induction n with
  | zero => intro _; exact ⟨rfl, h⟩
  | succ n ih =>
    intro hn
    obtain ⟨e, hI⟩ := ih (by omega)
    rw [rMts, e]
    exact mount_tie hI (by omega)
/-- AN HOUR -/
theorem hour_tie (h : Inv M o B S) : rPass (enc M o B S) B S = enc (wHour M o) o B S ∧ Inv (wHour M o) o B S := by
  obtain ⟨e1, h1⟩ := pa_tie h
  obtain ⟨e2, h2⟩ := sews_tie h1 3 (Nat.le_refl _)
  obtain ⟨e3, h3⟩ := mounts_tie h2 3 (Nat.le_refl _)
  unfold rPass wHour wHourA
  rw [e1, e2, e3]
  exact ⟨(enc_yo (k := 5) (by decide) (by decide)).symm, h3.sc (by decide)⟩
theorem hours_tie (h : Inv M o B S) : ∀ n, rHours (enc M o B S) B S n = enc (wHours M o n) o B S ∧ Inv (wHours M o n) o B S := by
  intro n
  induction n with
  | zero => exact ⟨rfl, h⟩
  | succ n ih =>
    rw [rHours, ih.1]
    exact hour_tie ih.2
end YSx
end
section
section YEx
/-! WHAT THE PROPERTY WANTS BEYOND THE INVARIANT: of an ordered book -/
def BkE (f : Rw) : Prop := (∃ h, 1 ≤ h ∧ h ≤ 8 ∧ f 2 = nI h) ∧ (f 4 = 2 → ∃ k, 1 ≤ k ∧ k ≤ 26 ∧ f 11 = nI k) ∧ (¬ f 4 = 2 → f 11 = 0) ∧ (¬ f 4 = 1 → f 5 = -1) ∧ (∃ l w, l ≤ w ∧ w ≤ 24 ∧ f 10 = nI l ∧ f 8 = nI w) ∧ (∃ g e, g ≤ e ∧ e ≤ 3 ∧ f 12 = nI g ∧ f 3 = nI e) ∧ (2 ≤ f 4 → f 8 = f 1)
/-- from one late stage to another -/
theorem BkE.to {f : Rw} {t : Int32} (h : BkE f) (h1 : ¬ f 4 = 1) (h2 : ¬ f 4 = 2) (h3 : 2 ≤ f 4) (t1 : ¬ t = 2) : BkE (ru f 4 t) := by
  obtain ⟨a1, a2, a3, a4, a5, a6, a7⟩ := h
  exact ⟨a1, fun q => absurd (show t = 2 from q) t1, fun _ => a3 h2, fun _ => a4 h1, a5, a6, fun _ => a7 h3⟩
theorem BkE.bind {f : Rw} (h : BkE f) (h4 : f 4 = 3) : BkE (bBind f) := by
  unfold bBind
  refine h.to (by rw [h4]; decide) (by rw [h4]; decide) (by rw [h4]; decide) ?_
  split <;> decide
theorem BkE.sold {f : Rw} (h : BkE f) (h4 : f 4 = 5) : BkE (ru f 4 6) := h.to (by rw [h4]; decide) (by rw [h4]; decide) (by rw [h4]; decide) (by decide)
theorem BkE.dryH {f : Rw} (h : BkE f) (h4 : f 4 = 2) : BkE (bDryH f) := by
  obtain ⟨a1, a2, a3, a4, a5, a6, a7⟩ := h
  obtain ⟨k, k1, k2, ek⟩ := a2 h4
  have e : f 11 - 1 = nI (k - 1) := by rw [ek]; exact pk_sub (b := 1) k1
  unfold bDryH
  rw [e]
  by_cases hz : nI (k - 1) = 0
  · rw [if_pos hz, hz]
    exact ⟨a1, fun q => absurd (show (3 : Int32) = 2 from q) (by decide), fun _ => rfl, fun _ => a4 (by rw [h4]; decide), a5, a6, fun _ => a7 (by rw [h4]; decide)⟩
  · rw [if_neg hz]
    refine ⟨a1, fun _ => ⟨k - 1, ?_, by omega, rfl⟩, fun q => absurd h4 q, fun _ => a4 (by rw [h4]; decide), a5, a6, fun _ => a7 (by rw [h4]; decide)⟩
    rcases Nat.eq_zero_or_pos (k - 1) with q | q
    · exact absurd (by rw [q]; rfl) hz
    · exact q
theorem BkE.gild {f : Rw} (h : BkE f) (h4 : f 4 = 4) (hlt : f 12 < f 3) : BkE (bGild f) := by
  obtain ⟨a1, a2, a3, a4, a5, ⟨g, e, g1, e1, eg, ee⟩, a7⟩ := h
  have hge : g < e := by rw [eg, ee] at hlt; exact (nI_ltI (by omega) (by omega)).mp hlt
  have e12 : f 12 + 1 = nI (g + 1) := by rw [eg]; exact nI_add g 1
  have h8 := a7 (by rw [h4]; decide)
  have h5 := a4 (by rw [h4]; decide)
  have h11 := a3 (by rw [h4]; decide)
  unfold bGild
  rw [e12]
  split
  · exact ⟨a1, fun q => absurd (h4.symm.trans q) (by decide), fun _ => h11, fun _ => h5, a5, ⟨g + 1, e, by omega, e1, rfl, ee⟩, fun _ => h8⟩
  · exact ⟨a1, fun q => absurd (show (5 : Int32) = 2 from q) (by decide), fun _ => h11, fun _ => h5, a5, ⟨g + 1, e, by omega, e1, rfl, ee⟩, fun _ => h8⟩
theorem bThick_n {f : Rw} {s h : Nat} (es : f 1 = nI s) (eh : f 2 = nI h) : bThick f = nI (s * h) := by unfold bThick; rw [es, eh, pk_mul]
theorem BkE.dryB {f : Rw} {b : Nat} (h : BkE f) (hA : BkA f b) (h8 : f 8 = f 1) : BkE (bDryB f) := by
  obtain ⟨⟨n, n1, n2, en⟩, a2, a3, a4, a5, a6, a7⟩ := h
  obtain ⟨_, ⟨s, s1, s2, es⟩, _⟩ := hA
  have ht : bThick f = nI (s * n) := bThick_n es en
  have hsn : s * n ≤ 24 * 8 := Nat.mul_le_mul s2 n2
  have hd : 2 + bThick f / 8 = nI (2 + s * n / 8) := by
    rw [ht]
    have := pk_div (a := s * n) (d := 8) (by omega) (by decide) (by decide)
    rw [show (8 : Int32) = nI 8 from rfl, this]
    exact nI_add 2 (s * n / 8)
  unfold bDryB
  rw [hd]
  exact ⟨⟨n, n1, n2, en⟩, fun _ => ⟨2 + s * n / 8, by omega, by omega, rfl⟩, fun q => absurd (show (2 : Int32) = 2 from rfl) q, fun _ => rfl, a5, a6, fun _ => h8⟩
theorem BkE.undo {f : Rw} (h : BkE f) (h4 : f 4 = 1) : BkE (bUndo f) := by
  obtain ⟨a1, a2, a3, a4, a5, a6, a7⟩ := h
  have h11 := a3 (by rw [h4]; decide)
  exact ⟨a1, fun q => absurd (show (0 : Int32) = 2 from q) (by decide), fun _ => h11, fun _ => rfl, ⟨0, 0, Nat.le_refl _, by decide, rfl, rfl⟩, a6, fun q => absurd (show (2 : Int32) ≤ 0 from q) (by decide)⟩
theorem BkE.mount {f : Rw} {x y : Int32} (h : BkE f) (h4 : f 4 = 0) : BkE (bMount f x y) := by
  obtain ⟨a1, a2, a3, a4, a5, a6, a7⟩ := h
  have h11 := a3 (by rw [h4]; decide)
  exact ⟨a1, fun q => absurd (show (1 : Int32) = 2 from q) (by decide), fun _ => h11, fun q => absurd (show (1 : Int32) = 1 from rfl) q, a5, a6, fun q => absurd (show (2 : Int32) ≤ 1 from q) (by decide)⟩
theorem BkE.begin {f : Rw} {b s h e : Nat} (hu : BkU f b) (h1 : 1 ≤ h) (h2 : h ≤ 8) (he : e ≤ 3) : BkE (bBegin f (nI s) (nI h) (nI e)) := by
  obtain ⟨u0, u4, u5, u6, u7, u8, u9, u10, u11, u12⟩ := hu
  exact ⟨⟨h, h1, h2, rfl⟩, fun q => absurd (show (0 : Int32) = 2 from q) (by decide), fun _ => u11, fun _ => u5, ⟨0, 0, Nat.le_refl _, by decide, u10, u8⟩, ⟨0, e, Nat.zero_le _, he, u12, rfl⟩, fun q => absurd (show (2 : Int32) ≤ 0 from q) (by decide)⟩
/-- a stitch -/
theorem BkE.add {f : Rw} {b : Nat} (h : BkE f) (hO : BkO f b) (h4 : f 4 = 1) {G : Rw} (hG : G = bAdd f ∨ (G = ru (bAdd f) 10 (bAdd f 10 + 1) ∧ ¬ bAddR f = 0)) : BkE G ∧ (¬ bSewn G = 0 → BkE (bDryB G)) := by
  obtain ⟨k1, k2⟩ := hO.2.2.2.1 h4
  obtain ⟨hA, _⟩ := hO.add h4
  obtain ⟨a1, a2, a3, a4, ⟨l, w, lw, w24, el, ew⟩, a6, a7⟩ := h
  obtain ⟨_, ⟨s, s1, s2, es⟩, _⟩ := hO.1
  have h11 := a3 (by rw [h4]; decide)
  have hws : w < s := by rw [ew, es] at k1; exact (nI_ltI (by omega) (by omega)).mp k1
  by_cases hc : bSos f (f 8) ≤ f 9 + 1
  · have eA : bAdd f = ru (ru (bInc f) 8 (f 8 + 1)) 9 0 := by unfold bAdd; rw [if_pos hc]
    have e8 : f 8 + 1 = nI (w + 1) := by rw [ew]; exact nI_add w 1
    have e10 : f 10 + 1 = nI (l + 1) := by rw [el]; exact nI_add l 1
    have g8 : G 8 = nI (w + 1) := by
      rcases hG with rfl | ⟨rfl, _⟩
      · rw [eA]; exact e8
      · rw [eA]; exact e8
    have g1 : G 1 = f 1 := by
      rcases hG with rfl | ⟨rfl, _⟩
      · rw [eA]; rfl
      · rw [eA]; rfl
    have hB : BkA G b := by
      rcases hG with rfl | ⟨rfl, _⟩
      · exact hA
      · exact hA.cg rfl rfl rfl rfl rfl rfl rfl
    have hE : BkE G := by
      rcases hG with rfl | ⟨rfl, _⟩
      · rw [eA]
        exact ⟨a1, fun q => absurd (h4.symm.trans q) (by decide), fun _ => h11, fun q => absurd h4 q, ⟨l, w + 1, by omega, by omega, el, e8⟩, a6, fun q => absurd (show (2 : Int32) ≤ f 4 from q) (by rw [h4]; decide)⟩
      · rw [eA]
        exact ⟨a1, fun q => absurd (h4.symm.trans q) (by decide), fun _ => h11, fun q => absurd h4 q, ⟨l + 1, w + 1, by omega, by omega, e10, e8⟩, a6, fun q => absurd (show (2 : Int32) ≤ f 4 from q) (by rw [h4]; decide)⟩
    refine ⟨hE, fun hn => hE.dryB hB ?_⟩
    have : ¬ G 8 < G 1 := fun q => hn (by unfold bSewn; rw [if_pos q])
    rw [g8, g1, es] at this
    rw [g8, g1, es]
    have h9 : ¬ w + 1 < s := fun q => this (nI_lt q (by omega))
    rw [show w + 1 = s by omega]
  · have eA : bAdd f = bInc f := by unfold bAdd; rw [if_neg hc]
    have hG2 : G = bInc f := by
      rcases hG with rfl | ⟨_, hr⟩
      · exact eA
      · exact absurd (by unfold bAddR; rw [if_neg hc]) hr
    subst hG2
    refine ⟨⟨a1, fun q => absurd (h4.symm.trans q) (by decide), fun _ => h11, fun q => absurd h4 q, ⟨l, w, lw, w24, el, ew⟩, a6, fun q => absurd (show (2 : Int32) ≤ f 4 from q) (by rw [h4]; decide)⟩, fun hn => absurd ?_ hn⟩
    unfold bSewn
    rw [if_pos (show bInc f 8 < bInc f 1 from k1)]
/-! of the workshop's numbers: tot ells in all, at most cm coins, d loose stitches fewer than sewn -/
def WE (M : yM) (o tot cm d : Nat) : Prop := ∃ (T W Lo b g c : Nat) (w : Nat → Nat), (M o 7 = nI T ∧ M o 10 = nI W ∧ T + W = tot) ∧ (M o 11 = nI Lo ∧ Lo + d ≤ W) ∧ (M o 8 = nI b ∧ b ≤ 12) ∧ (M o 9 = nI g ∧ g ≤ 20) ∧ (M o 6 = nI c ∧ c ≤ cm) ∧ (∀ f, f < 3 → M (o + 24 + f) 3 = nI (w f)) ∧ w 0 + w 1 + w 2 = W
section
variable {M M' : yM} {o tot cm d : Nat}
theorem WE.cg (h : WE M o tot cm d) (e : ∀ k, 6 ≤ k → M' o k = M o k) (ef : ∀ f, f < 3 → M' (o + 24 + f) 3 = M (o + 24 + f) 3) : WE M' o tot cm d := by
  obtain ⟨T, W, Lo, b, g, c, w, h1, h2, h3, h4, h5, h6, h7⟩ := h
  refine ⟨T, W, Lo, b, g, c, w, ?_, ?_, ?_, ?_, ?_, fun f hf => (ef f hf).trans (h6 f hf), h7⟩
  · rw [e 7 (by decide), e 10 (by decide)]; exact h1
  · rw [e 11 (by decide)]; exact h2
  · rw [e 8 (by decide)]; exact h3
  · rw [e 9 (by decide)]; exact h4
  · rw [e 6 (by decide)]; exact h5
theorem WE.lo (h : WE M o tot cm d) : WE M o tot cm 0 := by
  obtain ⟨T, W, Lo, b, g, c, w, h1, h2, h3, h4, h5, h6, h7⟩ := h
  exact ⟨T, W, Lo, b, g, c, w, h1, ⟨h2.1, by omega⟩, h3, h4, h5, h6, h7⟩
theorem WE.bk {b : Nat} {g : Rw} (h : WE M o tot cm d) (hb : b < 15) : WE (va_up M (o + 4 + b) g) o tot cm d := h.cg (fun k _ => by rw [up_n (by omega)]) (fun f hf => by rw [up_n (by omega)])
theorem WE.fr {f : Nat} {v : Int32} (h : WE M o tot cm d) (k : Nat) (hk : ¬ k = 3) : WE (yst M (o + 24 + f) k v) o tot cm d := h.cg (fun k _ => by rw [yst_row (by omega)]) (fun g hg => by
  by_cases q : g = f
  · subst q; rw [yst_at, if_neg (fun z => hk z.symm)]
  · rw [yst_row (by omega)])
theorem WE.gold {g : Nat} (h : WE M o tot cm d) (hg : g ≤ 20) : WE (yst M o 9 (nI g)) o tot cm d := by
  obtain ⟨T, W, Lo, b, g0, c, w, h1, h2, h3, h4, h5, h6, h7⟩ := h
  exact ⟨T, W, Lo, b, g, c, w, by rw [yst_at, if_neg (by decide), yst_at, if_neg (by decide)]; exact h1, by rw [yst_at, if_neg (by decide)]; exact h2, by rw [yst_at, if_neg (by decide)]; exact h3, ⟨yst_same, hg⟩, by rw [yst_at, if_neg (by decide)]; exact h5, fun f hf => by rw [yst_row (by omega)]; exact h6 f hf, h7⟩
theorem WE.boards {b : Nat} (h : WE M o tot cm d) (hb : b ≤ 12) : WE (yst M o 8 (nI b)) o tot cm d := by
  obtain ⟨T, W, Lo, b0, g, c, w, h1, h2, h3, h4, h5, h6, h7⟩ := h
  exact ⟨T, W, Lo, b, g, c, w, by rw [yst_at, if_neg (by decide), yst_at, if_neg (by decide)]; exact h1, by rw [yst_at, if_neg (by decide)]; exact h2, ⟨yst_same, hb⟩, by rw [yst_at, if_neg (by decide)]; exact h4, by rw [yst_at, if_neg (by decide)]; exact h5, fun f hf => by rw [yst_row (by omega)]; exact h6 f hf, h7⟩
theorem WE.coins {c cm' : Nat} (h : WE M o tot cm d) (hc : c ≤ cm') : WE (yst M o 6 (nI c)) o tot cm' d := by
  obtain ⟨T, W, Lo, b, g, c0, w, h1, h2, h3, h4, h5, h6, h7⟩ := h
  exact ⟨T, W, Lo, b, g, c, w, by rw [yst_at, if_neg (by decide), yst_at, if_neg (by decide)]; exact h1, by rw [yst_at, if_neg (by decide)]; exact h2, by rw [yst_at, if_neg (by decide)]; exact h3, by rw [yst_at, if_neg (by decide)]; exact h4, ⟨yst_same, hc⟩, fun f hf => by rw [yst_row (by omega)]; exact h6 f hf, h7⟩
theorem WE.thread (h : WE M o tot cm d) : ∃ T, T ≤ tot ∧ M o 7 = nI T := by
  obtain ⟨T, W, Lo, b, g, c, w, h1, _⟩ := h
  exact ⟨T, by omega, h1.1⟩
theorem WE.buy {n : Nat} (h : WE M o tot cm d) : WE (yst M o 7 (M o 7 + nI n)) o (tot + n) cm d := by
  obtain ⟨T, W, Lo, b, g, c, w, h1, h2, h3, h4, h5, h6, h7⟩ := h
  exact ⟨T + n, W, Lo, b, g, c, w, ⟨by rw [yst_same, h1.1, nI_add], by rw [yst_at, if_neg (by decide)]; exact h1.2.1, by omega⟩, by rw [yst_at, if_neg (by decide)]; exact h2, by rw [yst_at, if_neg (by decide)]; exact h3, by rw [yst_at, if_neg (by decide)]; exact h4, by rw [yst_at, if_neg (by decide)]; exact h5, fun f hf => by rw [yst_row (by omega)]; exact h6 f hf, h7⟩
theorem wStA_o {f k : Nat} : wStA M o f o k = if k = 10 then M o 10 + 1 else if k = 7 then M o 7 - 1 else M o k := by
  unfold wStA yinc ydec
  rw [yst_row (by omega), yst_at, yst_at, yst_at, if_neg (by decide : ¬ (10 : Nat) = 7)]
theorem wStA_f {f g k : Nat} : wStA M o f (o + 24 + g) k = if g = f ∧ k = 3 then M (o + 24 + f) 3 + 1 else M (o + 24 + g) k := by
  unfold wStA yinc ydec
  by_cases q : g = f
  · subst q
    rw [yst_at, yst_row (by omega), yst_row (by omega)]
    by_cases z : k = 3
    · rw [if_pos z, if_pos ⟨rfl, z⟩]
    · rw [if_neg z, if_neg (fun y => z y.2)]
  · rw [if_neg (fun y => q y.1), yst_row (by omega), yst_row (by omega), yst_row (by omega)]
/-- a stitch takes an ell -/
theorem WE.stA {f T : Nat} (h : WE M o tot cm d) (hf : f < 3) (hT : M o 7 = nI (T + 1)) (hT2 : T + 1 < 2 ^ 30) (ht : tot < 2 ^ 30) : WE (wStA M o f) o tot cm (d + 1) := by
  obtain ⟨T0, W, Lo, b, g, c, w, h1, h2, h3, h4, h5, h6, h7⟩ := h
  have e0 : T0 = T + 1 := nI_inj (by omega) (by omega) (h1.1.symm.trans hT)
  refine ⟨T, W + 1, Lo, b, g, c, fun x => if x = f then w x + 1 else w x, ⟨?_, ?_, by omega⟩, ⟨?_, by omega⟩, ?_, ?_, ?_, fun x hx => ?_, ?_⟩
  · rw [wStA_o, if_neg (by decide), if_pos rfl, hT]; exact nI_pred T
  · rw [wStA_o, if_pos rfl, h1.2.1]; exact nI_1 W
  · rw [wStA_o, if_neg (by decide), if_neg (by decide)]; exact h2.1
  · rw [wStA_o, if_neg (by decide), if_neg (by decide)]; exact h3
  · rw [wStA_o, if_neg (by decide), if_neg (by decide)]; exact h4
  · rw [wStA_o, if_neg (by decide), if_neg (by decide)]; exact h5
  · rw [wStA_f]
    by_cases q : x = f
    · subst q
      rw [if_pos ⟨rfl, rfl⟩, h6 x hx]
      show nI (w x) + 1 = nI (if x = x then w x + 1 else w x)
      rw [if_pos rfl]; exact nI_1 (w x)
    · rw [if_neg (fun y => q y.1), h6 x hx]
      show nI (w x) = nI (if x = f then w x + 1 else w x)
      rw [if_neg q]
  · show (if 0 = f then w 0 + 1 else w 0) + (if 1 = f then w 1 + 1 else w 1) + (if 2 = f then w 2 + 1 else w 2) = W + 1
    rcases (show f = 0 ∨ f = 1 ∨ f = 2 by omega) with rfl | rfl | rfl
    · rw [if_pos rfl, if_neg (by decide), if_neg (by decide)]; omega
    · rw [if_neg (by decide), if_pos rfl, if_neg (by decide)]; omega
    · rw [if_neg (by decide), if_neg (by decide), if_pos rfl]; omega
theorem WE.loose1 (h : WE M o tot cm (d + 1)) : WE (yst M o 11 (M o 11 + 1)) o tot cm d := by
  obtain ⟨T, W, Lo, b, g, c, w, h1, h2, h3, h4, h5, h6, h7⟩ := h
  exact ⟨T, W, Lo + 1, b, g, c, w, by rw [yst_at, if_neg (by decide), yst_at, if_neg (by decide)]; exact h1, ⟨by rw [yst_same, h2.1]; exact nI_1 Lo, by omega⟩, by rw [yst_at, if_neg (by decide)]; exact h3, by rw [yst_at, if_neg (by decide)]; exact h4, by rw [yst_at, if_neg (by decide)]; exact h5, fun f hf => by rw [yst_row (by omega)]; exact h6 f hf, h7⟩
end
end YEx
end
section
section YEh
/-- WHAT STANDS BETWEEN THE LAW'S CALLS, of the workshop at o -/
def Ext (M : yM) (o B S tot cm : Nat) : Prop := Inv M o B S ∧ (∀ b, b < B → BkE (M (o + 4 + b))) ∧ WE M o tot cm 0
variable {M : yM} {o B S tot cm : Nat}
theorem Ext.bkput {b : Nat} {g : Rw} (h : Ext M o B S tot cm) (hb : b < B) (hI : Inv (va_up M (o + 4 + b) g) o B S) (hg : BkE g) : Ext (va_up M (o + 4 + b) g) o B S tot cm := by
  have hB := h.1.hB
  refine ⟨hI, fun c hc => ?_, h.2.2.bk (by omega)⟩
  by_cases q : c = b
  · subst q; rw [up_s]; exact hg
  · rw [up_n (by omega)]; exact h.2.1 c hc
theorem Ext.oput {k : Nat} {v : Int32} (h : Ext M o B S tot cm) (hk : 5 ≤ k) (hW : WE (yst M o k v) o tot cm 0) : Ext (yst M o k v) o B S tot cm := ⟨h.1.sc hk, fun c hc => by rw [yst_row (by omega)]; exact h.2.1 c hc, hW⟩
theorem gild_ext (h : Ext M o B S tot cm) : Ext (wGild M o) o B S tot cm := by
  have hB := h.1.hB
  have hI := (gild_tie h.1).2
  have hw := wFst_B (s := 4) h.1 (by decide)
  cases hq : wFst M o 4 15 with
  | none => rw [← wGild_none hq]; exact h
  | some b =>
    have hb := rFs_lt (hw.symm.trans hq)
    have h4 := wFst_s hq
    rw [wGild_some hq] at hI ⊢
    unfold wGildAt at hI ⊢
    by_cases hc : M o 9 < bLeaves (M (o + 4 + b))
    · rw [if_pos hc]; exact h
    · rw [if_neg hc] at hI ⊢
      have hE := h.2.1 b hb
      obtain ⟨⟨n, n1, n2, en⟩, -⟩ := id hE
      obtain ⟨-, ⟨s, s1, s2, es⟩, -⟩ := (h.1.bk hb).1
      have hsn : s * n ≤ 24 * 8 := Nat.mul_le_mul s2 n2
      have el : bLeaves (M (o + 4 + b)) = nI (1 + s * n / 16) := by
        unfold bLeaves
        rw [bThick_n es en, show (16 : Int32) = nI 16 from rfl, pk_div (by omega) (by decide) (by decide)]
        exact nI_add 1 (s * n / 16)
      obtain ⟨T, W, Lo, b0, g, c, w, h1, h2, h3, h49, h5, h6, h7⟩ := id h.2.2
      rw [el] at hc hI ⊢
      rw [h49.1] at hc
      have hle : 1 + s * n / 16 ≤ g := (nI_leI (by omega) (by omega)).mp (Int32.not_lt.mp hc)
      obtain ⟨X, eX⟩ : ∃ z, z = wPay M o (nI (1 + s * n / 16)) := ⟨_, rfl⟩
      have hX : Ext X o B S tot cm := by
        rw [eX]
        unfold wPay
        rw [h49.1, pk_sub hle]
        exact h.oput (by decide) (h.2.2.gold (by omega))
      rw [← eX] at hI ⊢
      have eb : X (o + 4 + b) = M (o + 4 + b) := by rw [eX]; exact yst_row (by omega)
      unfold wGildB at hI ⊢
      have x4 : X (o + 4 + b) 4 = 4 := by rw [eb]; exact h4
      exact hX.bkput hb hI ((hX.2.1 b hb).gild x4 ((hX.1.bk hb).2.2.2.2.1 x4))
theorem board_ext {b : Nat} (h : Ext M o B S tot cm) (hb : b < B) : Ext (wBd1 M o b) o B S tot cm := by
  have hB := h.1.hB
  have hI := (board_tie h.1 hb).2
  unfold wBd1 at hI ⊢
  by_cases h3 : M (o + 4 + b) 4 = 3
  · rw [if_pos h3] at hI ⊢
    by_cases hc : M o 8 < 2
    · rw [if_pos hc]; exact h
    · rw [if_neg hc] at hI ⊢
      obtain ⟨T, W, Lo, b0, g, c, w, h1, h2, h38, h4, h5, h6, h7⟩ := id h.2.2
      rw [h38.1] at hc
      have hle : 2 ≤ b0 := (nI_leI (a := 2) (by omega) (by omega)).mp (Int32.not_lt.mp hc)
      unfold wBoardAt at hI ⊢
      obtain ⟨X, eX⟩ : ∃ z, z = yst M o 8 (M o 8 - 2) := ⟨_, rfl⟩
      have hX : Ext X o B S tot cm := by
        rw [eX, h38.1]
        have e9 : nI b0 - 2 = nI (b0 - 2) := pk_sub (b := 2) hle
        rw [e9]
        exact h.oput (by decide) (h.2.2.boards (by omega))
      rw [← eX] at hI ⊢
      have x4 : X (o + 4 + b) 4 = 3 := by rw [eX, yst_row (by omega)]; exact h3
      unfold wBoardB at hI ⊢
      exact hX.bkput hb hI ((hX.2.1 b hb).bind x4)
  · rw [if_neg h3]; exact h
theorem boards_ext (h : Ext M o B S tot cm) : ∀ n, n ≤ B → Ext (wBoard M o n) o B S tot cm := by
  intro n
  induction n with
  | zero => intro _; exact h
  | succ n ih => intro hn; exact board_ext (ih (by omega)) (by omega)
theorem dry_ext {b : Nat} (h : Ext M o B S tot cm) (hb : b < B) : Ext (if M (o + 4 + b) 4 = 2 then va_up M (o + 4 + b) (bDryH (M (o + 4 + b))) else M) o B S tot cm := by
  have hI := (dry_tie h.1 hb).2
  by_cases h3 : M (o + 4 + b) 4 = 2
  · rw [if_pos h3] at hI ⊢
    exact h.bkput hb hI ((h.2.1 b hb).dryH h3)
  · rw [if_neg h3]; exact h
theorem drys_ext (h : Ext M o B S tot cm) : ∀ n, n ≤ B → Ext (wDry M o n) o B S tot cm := by
  intro n
  induction n with
  | zero => intro _; exact h
  | succ n ih => intro hn; exact dry_ext (ih (by omega)) (by omega)
theorem pa_ext (h : Ext M o B S tot cm) : Ext (wDry (wBoard (wGild M o) o 15) o 15) o B S tot cm := by
  have h1 := gild_ext h
  have h2 := boards_ext h1 B (Nat.le_refl _)
  have h3 := drys_ext h2 B (Nat.le_refl _)
  rw [boards_B h1.1, drys_B h2.1]
  exact h3
/-! the rows that a stitch writes -/
theorem sewE_b2 {N : yM} {f b c : Nat} (hc : c < 15) : wSewE N o f b (o + 4 + c) = if bSewn (N (o + 4 + b)) = 0 then N (o + 4 + c) else (if c = b then bDryB (N (o + 4 + b)) else N (o + 4 + c)) := by
  unfold wSewE wDryB
  by_cases h : bSewn (N (o + 4 + b)) = 0
  · rw [if_pos h, if_pos h]
  · rw [if_neg h, if_neg h]
    by_cases q : c = b
    · subst q; rw [up_s, if_pos rfl, yst_row (by omega)]
    · rw [if_neg q, up_n (by omega), yst_row (by omega)]
theorem sewE_WE {N : yM} {f b d : Nat} (h : WE N o tot cm d) (hb : b < 15) : WE (wSewE N o f b) o tot cm d := by
  unfold wSewE wDryB
  split
  · exact h
  · exact (h.fr 2 (by decide)).bk hb
theorem stitch_ext {f b k T : Nat} (h : Ext M o B S tot cm) (hf : f < 3) (hb : b < B) (hfb : M (o + 24 + f) 2 = nI b) (h4 : M (o + 4 + b) 4 = 1) (hT : M o 7 = nI (T + 1)) (hT2 : T + 1 ≤ tot) (ht : tot < 2 ^ 20) : Ext (wSewE (wStitch M o f b k) o f b) o B S tot cm := by
  have hB := h.1.hB
  have hI := (stitch_tie (k := k) h.1 hf hb hfb h4).2.1
  obtain ⟨P, eP⟩ : ∃ z, z = wStA M o f := ⟨_, rfl⟩
  have hPW : WE P o tot cm 1 := by rw [eP]; exact h.2.2.stA hf hT (by omega) (by omega)
  have hPb : ∀ c, c < 15 → P (o + 4 + c) = M (o + 4 + c) := fun c hc => by rw [eP]; exact stA_bk hc
  obtain ⟨g, eg⟩ : ∃ z, z = M (o + 4 + b) := ⟨_, rfl⟩
  have hE := h.2.1 b hb
  have hO := h.1.bk hb
  rw [← eg] at hE hO h4
  have egP : wStA M o f (o + 4 + b) = g := by rw [← eP, hPb b (by omega), eg]
  have eB : wStB M o f b = va_up P (o + 4 + b) (bAdd g) := by unfold wStB wAddB; rw [egP, ← eP]
  have key : ∃ G, (G = bAdd g ∨ (G = ru (bAdd g) 10 (bAdd g 10 + 1) ∧ ¬ bAddR g = 0)) ∧ wStitch M o f b k (o + 4 + b) = G ∧ (∀ c, c < 15 → c ≠ b → wStitch M o f b k (o + 4 + c) = M (o + 4 + c)) ∧ WE (wStitch M o f b k) o tot cm 0 := by
    by_cases hr : bAddR g = 0
    · have e : wStitch M o f b k = va_up P (o + 4 + b) (bAdd g) := by rw [wStitch_a (by rw [egP]; exact hr), eB]
      rw [e]
      exact ⟨_, Or.inl rfl, up_s, fun c hc q => by rw [up_n (by omega)]; exact hPb c hc, hPW.lo.bk (by omega)⟩
    · by_cases hk : nI k < 10
      · have e : wStitch M o f b k = va_up P (o + 4 + b) (bAdd g) := by rw [wStitch_b (by rw [egP]; exact hr) hk, eB]
        rw [e]
        exact ⟨_, Or.inl rfl, up_s, fun c hc q => by rw [up_n (by omega)]; exact hPb c hc, hPW.lo.bk (by omega)⟩
      · have e : wStitch M o f b k = yst (va_up P (o + 4 + b) (ru (bAdd g) 10 (bAdd g 10 + 1))) o 11 (va_up P (o + 4 + b) (ru (bAdd g) 10 (bAdd g 10 + 1)) o 11 + 1) := by
          rw [wStitch_c (by rw [egP]; exact hr) hk, eB]
          unfold wStC yinc
          rw [up_s, yst_u1]
        rw [e]
        refine ⟨_, Or.inr ⟨rfl, hr⟩, ?_, fun c hc q => ?_, (hPW.bk (by omega)).loose1⟩
        · rw [yst_row (by omega), up_s]
        · rw [yst_row (by omega), up_n (by omega)]; exact hPb c hc
  obtain ⟨G, hG, e1, e2, e3⟩ := key
  obtain ⟨k1, k2⟩ := hE.add hO h4 hG
  refine ⟨hI, fun c hc => ?_, sewE_WE e3 (by omega)⟩
  rw [sewE_b2 (by omega), e1]
  by_cases hs : bSewn G = 0
  · rw [if_pos hs]
    by_cases q : c = b
    · subst q; rw [e1]; exact k1
    · rw [e2 c (by omega) q]; exact h.2.1 c hc
  · rw [if_neg hs]
    by_cases q : c = b
    · rw [if_pos q]; exact k2 hs
    · rw [if_neg q, e2 c (by omega) q]; exact h.2.1 c hc
theorem sewL_ext {f b T : Nat} (h : Ext M o B S tot cm) (hf : f < 3) (hb : b < B) (hfb : M (o + 24 + f) 2 = nI b) (h4 : M (o + 4 + b) 4 = 1) (hT : M o 7 = nI T) (hT2 : T ≤ tot) (ht : tot < 2 ^ 20) : ∀ n, n ≤ T → Ext (wSewE (wSewL M o f b n) o f b) o B S tot cm := by
  have hB := h.1.hB
  have hcl : (M o 7).toNatClampNeg = T := by rw [hT]; exact nI_clamp (by omega)
  intro n
  induction n with
  | zero =>
    intro _
    have hs := ((h.1.bk hb).2.2.2.1 h4).1
    have e : wSewE M o f b = M := (sewE_a (f := f) hs).1
    show Ext (wSewE M o f b) o B S tot cm
    rw [e]
    exact h
  | succ n ih =>
    intro hn
    have i2 := ih (by omega)
    obtain ⟨-, j2, j3⟩ := sewL_tie h.1 hf hb hfb h4 n (by omega)
    obtain ⟨X, eX⟩ : ∃ z, z = wSewL M o f b n := ⟨_, rfl⟩
    rw [← eX] at i2 j2 j3
    by_cases hs : bSewn (X (o + 4 + b)) = 0
    · obtain ⟨x1, x2⟩ := j3 hs
      have hE : wSewE X o f b = X := by unfold wSewE; rw [if_pos hs]
      rw [hE] at i2 j2
      have e1 : wSewL M o f b (n + 1) = wStitch X o f b (n + 1) := by rw [wSewL_go (by rw [← eX]; exact hs), ← eX]
      have x4 : X (o + 4 + b) 4 = 1 := by
        obtain ⟨b2, hb2, q1, q2, _⟩ := j2.fb hf (by rw [x1]; exact nI_ne1 (by omega))
        have : b = b2 := nI_inj (by omega) (by omega) (x1.symm.trans q1)
        rw [this]
        exact q2
      have x7 : X o 7 = nI ((T - n - 1) + 1) := by rw [x2, hT, pk_sub (by omega)]; congr 1; omega
      rw [e1]
      exact stitch_ext i2 hf hb x1 x4 x7 (by omega) ht
    · have e1 : wSewL M o f b (n + 1) = X := by rw [wSewL, ← eX, if_neg hs]
      rw [e1]
      exact i2
theorem sew_ext (h : Ext M o B S tot cm) {f : Nat} (hf : f < 3) (ht : tot < 2 ^ 20) : Ext (wSew M o f) o B S tot cm := by
  have hB := h.1.hB
  by_cases hn : M (o + 24 + f) 2 = -1
  · rw [wSew_no (Or.inl (by rw [hn]; decide))]; exact h
  · obtain ⟨b, hb, hfb, h4, h5⟩ := h.1.fb hf hn
    have hno : ¬ wNo M o (M (o + 24 + f) 2) := by
      rw [hfb]
      unfold wNo
      rw [h.1.o3]
      intro q
      rcases q with q | q | q
      · exact nI_pos (by omega) q
      · exact nI_ge hb (by omega) q
      · exact nI_ge (show b < 15 by omega) (by omega) q
    rw [wSew_b hno (by omega) hfb, wSewB]
    obtain ⟨T, hT, eT⟩ := h.2.2.thread
    refine sewL_ext h hf hb hfb h4 eT hT ht _ ?_
    have hcl : (M o 7).toNatClampNeg = T := by rw [eT]; exact nI_clamp (by omega)
    rw [← hcl]
    unfold wMost
    split
    · exact Nat.le_refl _
    · rename_i q
      have h1 := Int32.le_iff_toInt_le.mp (Int32.not_lt.mp q)
      have h2 : (wRate M o (M (o + 24 + f) 0)).toNatClampNeg = (wRate M o (M (o + 24 + f) 0)).toInt.toNat := rfl
      have h3 : (M o 7).toNatClampNeg = (M o 7).toInt.toNat := rfl
      omega
theorem sews_ext (h : Ext M o B S tot cm) (ht : tot < 2 ^ 20) : ∀ n, n ≤ 3 → Ext (wSews M o n) o B S tot cm := by
  intro n
  induction n with
  | zero => intro _; exact h
  | succ n ih => intro hn; exact sew_ext (ih (by omega)) (by omega) ht
theorem mount_ext (h : Ext M o B S tot cm) {f : Nat} (hf : f < 3) : Ext (if M (o + 24 + f) 2 = -1 then wMount M o f else M) o B S tot cm := by
  have hB := h.1.hB
  have hI := (mount_tie h.1 hf).2
  by_cases hn : M (o + 24 + f) 2 = -1
  · rw [if_pos hn] at hI ⊢
    have hw := wFst_B (s := 0) h.1 (by decide)
    cases hq : wFst M o 0 15 with
    | none => rw [← wMount_none hq]; exact h
    | some b =>
      have hb := rFs_lt (hw.symm.trans hq)
      have h4 := wFst_s hq
      rw [wMount_some hq] at hI ⊢
      unfold wMountAt at hI ⊢
      refine ⟨hI, fun c hc => ?_, (h.2.2.bk (by omega)).fr 2 (by decide)⟩
      rw [yst_row (by omega)]
      unfold wMountA
      by_cases q : c = b
      · subst q; rw [up_s]; exact (h.2.1 c hc).mount h4
      · rw [up_n (by omega)]; exact h.2.1 c hc
  · rw [if_neg hn]; exact h
theorem mounts_ext (h : Ext M o B S tot cm) : ∀ n, n ≤ 3 → Ext (wMounts M o n) o B S tot cm := by
  intro n
  induction n with
  | zero => intro _; exact h
  | succ n ih => intro hn; exact mount_ext (ih (by omega)) (by omega)
theorem hour_ext (h : Ext M o B S tot cm) (ht : tot < 2 ^ 20) : Ext (wHour M o) o B S tot cm := by
  have h3 := mounts_ext (sews_ext (pa_ext h) ht 3 (Nat.le_refl _)) 3 (Nat.le_refl _)
  unfold wHour wHourA
  refine h3.oput (by decide) (h3.2.2.cg (fun k hk => ?_) (fun f hf => ?_))
  · rw [yst_at, if_neg (by omega)]
  · rw [yst_row (by omega)]
theorem hours_ext (h : Ext M o B S tot cm) (ht : tot < 2 ^ 20) : ∀ n, Ext (wHours M o n) o B S tot cm := by
  intro n
  induction n with
  | zero => exact h
  | succ n ih => exact hour_ext ih ht
end YEh
end
