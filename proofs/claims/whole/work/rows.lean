section
-- ===== PART A: goes FIRST, ahead of the names: the tables' words, and 'selects' of the private methods out of them =====
/-- a private method of a class that the tables say can be made, by its rows of tables_1 -/
def lw_okq (q : MethodName × Nat) : Prop := (q.1.cls ≠ "java/lang/invoke/MethodHandle" ∧ q.1.cls ≠ "java/lang/invoke/VarHandle") ∧ Cond.instantiable q.1.cls q.2 ∈ tables_1 ∧ Cond.privateMethod q.1 ∈ tables_1 ∧ Cond.instanceMethod q.1 ∈ tables_1
theorem lw_p0 : lw_okq (⟨"SewingFrames", "firstDoneAhead", "()I"⟩, 2) := ⟨⟨by decide +kernel, by decide +kernel⟩, List.mem_of_getElem? (i := 16) (by decide +kernel), List.mem_of_getElem? (i := 293) (by decide +kernel), List.mem_of_getElem? (i := 294) (by decide +kernel)⟩
theorem lw_p1 : lw_okq (⟨"java/lang/Throwable", "fillInStackTrace", "(I)Ljava/lang/Throwable;"⟩, 6) := ⟨⟨by decide +kernel, by decide +kernel⟩, List.mem_of_getElem? (i := 384) (by decide +kernel), List.mem_of_getElem? (i := 382) (by decide +kernel), List.mem_of_getElem? (i := 383) (by decide +kernel)⟩
theorem lw_p2 : lw_okq (⟨"SewingFrames", "knownBook", "(I)LSewingFrames$Book;"⟩, 2) := ⟨⟨by decide +kernel, by decide +kernel⟩, List.mem_of_getElem? (i := 16) (by decide +kernel), List.mem_of_getElem? (i := 448) (by decide +kernel), List.mem_of_getElem? (i := 449) (by decide +kernel)⟩
theorem lw_p3 : lw_okq (⟨"SewingFrames", "knownSewer", "(I)LSewingFrames$Sewer;"⟩, 2) := ⟨⟨by decide +kernel, by decide +kernel⟩, List.mem_of_getElem? (i := 16) (by decide +kernel), List.mem_of_getElem? (i := 517) (by decide +kernel), List.mem_of_getElem? (i := 518) (by decide +kernel)⟩
theorem lw_p4 : lw_okq (⟨"SewingFrames", "knownFrame", "(I)LSewingFrames$Frame;"⟩, 2) := ⟨⟨by decide +kernel, by decide +kernel⟩, List.mem_of_getElem? (i := 16) (by decide +kernel), List.mem_of_getElem? (i := 543) (by decide +kernel), List.mem_of_getElem? (i := 544) (by decide +kernel)⟩
theorem lw_p5 : lw_okq (⟨"SewingFrames", "sewnAheadWith", "(II)I"⟩, 2) := ⟨⟨by decide +kernel, by decide +kernel⟩, List.mem_of_getElem? (i := 16) (by decide +kernel), List.mem_of_getElem? (i := 618) (by decide +kernel), List.mem_of_getElem? (i := 619) (by decide +kernel)⟩
theorem lw_p6 : lw_okq (⟨"SewingFramesModel", "no", "(I)I"⟩, 3) := ⟨⟨by decide +kernel, by decide +kernel⟩, List.mem_of_getElem? (i := 626) (by decide +kernel), List.mem_of_getElem? (i := 650) (by decide +kernel), List.mem_of_getElem? (i := 651) (by decide +kernel)⟩
theorem lw_p7 : lw_okq (⟨"SewingFramesModel", "isBook", "(I)Z"⟩, 3) := ⟨⟨by decide +kernel, by decide +kernel⟩, List.mem_of_getElem? (i := 626) (by decide +kernel), List.mem_of_getElem? (i := 658) (by decide +kernel), List.mem_of_getElem? (i := 659) (by decide +kernel)⟩
theorem lw_p8 : lw_okq (⟨"SewingFramesModel", "bookTold", "(II)I"⟩, 3) := ⟨⟨by decide +kernel, by decide +kernel⟩, List.mem_of_getElem? (i := 626) (by decide +kernel), List.mem_of_getElem? (i := 683) (by decide +kernel), List.mem_of_getElem? (i := 684) (by decide +kernel)⟩
theorem lw_p9 : lw_okq (⟨"SewingFramesModel", "isSewer", "(I)Z"⟩, 3) := ⟨⟨by decide +kernel, by decide +kernel⟩, List.mem_of_getElem? (i := 626) (by decide +kernel), List.mem_of_getElem? (i := 695) (by decide +kernel), List.mem_of_getElem? (i := 696) (by decide +kernel)⟩
theorem lw_p10 : lw_okq (⟨"SewingFramesModel", "others", "(II)I"⟩, 3) := ⟨⟨by decide +kernel, by decide +kernel⟩, List.mem_of_getElem? (i := 626) (by decide +kernel), List.mem_of_getElem? (i := 699) (by decide +kernel), List.mem_of_getElem? (i := 700) (by decide +kernel)⟩
theorem lw_p11 : lw_okq (⟨"SewingFramesModel", "frameTold", "(II)I"⟩, 3) := ⟨⟨by decide +kernel, by decide +kernel⟩, List.mem_of_getElem? (i := 626) (by decide +kernel), List.mem_of_getElem? (i := 718) (by decide +kernel), List.mem_of_getElem? (i := 719) (by decide +kernel)⟩
theorem lw_p12 : lw_okq (⟨"SewingFramesModel", "left", "(I)I"⟩, 3) := ⟨⟨by decide +kernel, by decide +kernel⟩, List.mem_of_getElem? (i := 626) (by decide +kernel), List.mem_of_getElem? (i := 725) (by decide +kernel), List.mem_of_getElem? (i := 726) (by decide +kernel)⟩
theorem lw_p13 : lw_okq (⟨"SewingFramesModel", "lookAhead", "()V"⟩, 3) := ⟨⟨by decide +kernel, by decide +kernel⟩, List.mem_of_getElem? (i := 626) (by decide +kernel), List.mem_of_getElem? (i := 778) (by decide +kernel), List.mem_of_getElem? (i := 779) (by decide +kernel)⟩
theorem lw_p14 : lw_okq (⟨"SewingFramesModel", "doneIn", "(I)I"⟩, 3) := ⟨⟨by decide +kernel, by decide +kernel⟩, List.mem_of_getElem? (i := 626) (by decide +kernel), List.mem_of_getElem? (i := 789) (by decide +kernel), List.mem_of_getElem? (i := 790) (by decide +kernel)⟩
theorem lw_p15 : lw_okq (⟨"SewingFramesModel", "stitchesWith", "(II)I"⟩, 3) := ⟨⟨by decide +kernel, by decide +kernel⟩, List.mem_of_getElem? (i := 626) (by decide +kernel), List.mem_of_getElem? (i := 801) (by decide +kernel), List.mem_of_getElem? (i := 802) (by decide +kernel)⟩
def lw_privs_1 : List (MethodName × Nat) := [(⟨"SewingFrames", "firstDoneAhead", "()I"⟩, 2), (⟨"java/lang/Throwable", "fillInStackTrace", "(I)Ljava/lang/Throwable;"⟩, 6), (⟨"SewingFrames", "knownBook", "(I)LSewingFrames$Book;"⟩, 2), (⟨"SewingFrames", "knownSewer", "(I)LSewingFrames$Sewer;"⟩, 2), (⟨"SewingFrames", "knownFrame", "(I)LSewingFrames$Frame;"⟩, 2), (⟨"SewingFrames", "sewnAheadWith", "(II)I"⟩, 2), (⟨"SewingFramesModel", "no", "(I)I"⟩, 3), (⟨"SewingFramesModel", "isBook", "(I)Z"⟩, 3), (⟨"SewingFramesModel", "bookTold", "(II)I"⟩, 3), (⟨"SewingFramesModel", "isSewer", "(I)Z"⟩, 3), (⟨"SewingFramesModel", "others", "(II)I"⟩, 3), (⟨"SewingFramesModel", "frameTold", "(II)I"⟩, 3), (⟨"SewingFramesModel", "left", "(I)I"⟩, 3), (⟨"SewingFramesModel", "lookAhead", "()V"⟩, 3), (⟨"SewingFramesModel", "doneIn", "(I)I"⟩, 3), (⟨"SewingFramesModel", "stitchesWith", "(II)I"⟩, 3)]
theorem lw_r1 : ∀ q ∈ lw_privs_1, lw_okq q := List.forall_mem_cons.mpr ⟨lw_p0, List.forall_mem_cons.mpr ⟨lw_p1, List.forall_mem_cons.mpr ⟨lw_p2, List.forall_mem_cons.mpr ⟨lw_p3, List.forall_mem_cons.mpr ⟨lw_p4, List.forall_mem_cons.mpr ⟨lw_p5, List.forall_mem_cons.mpr ⟨lw_p6, List.forall_mem_cons.mpr ⟨lw_p7, List.forall_mem_cons.mpr ⟨lw_p8, List.forall_mem_cons.mpr ⟨lw_p9, List.forall_mem_cons.mpr ⟨lw_p10, List.forall_mem_cons.mpr ⟨lw_p11, List.forall_mem_cons.mpr ⟨lw_p12, List.forall_mem_cons.mpr ⟨lw_p13, List.forall_mem_cons.mpr ⟨lw_p14, List.forall_mem_cons.mpr ⟨lw_p15, fun _ h => absurd h List.not_mem_nil⟩⟩⟩⟩⟩⟩⟩⟩⟩⟩⟩⟩⟩⟩⟩⟩
def lw_privs : List (MethodName × Nat) := lw_privs_1
def lw_tbl : List Cond := k2_sels lw_privs ++ tables_1
theorem lw_privs_ok : ∀ q ∈ lw_privs, lw_okq q := lw_r1
/-- the streams that the claim lets the run draw from -/
abbrev lw_cs : List Choice := [Jvm.Choice.named "NaN.bits"]
theorem lw_bits : nanBits ∈ lw_cs := by first | decide | exact List.mem_cons_self | simp [lw_cs, nanBits]
end
section
/-! ===== BEGIN words of one list among another's, by their places ===== -/
theorem goodIn_r {big : List Cond} (ws : List Cond) (ps : List Nat) (hp : ws = ps.filterMap (fun i => big[i]?)) (h : ws.all goodWord = true) : GoodIn big ws := by
  intro w hw
  have h1 := List.all_eq_true.mp h w hw
  rw [hp] at hw
  obtain ⟨i, -, hi⟩ := List.mem_filterMap.mp hw
  have hm : w ∈ big := by first | exact List.mem_of_getElem? hi | exact List.getElem?_mem hi
  exact ⟨hm, good_of_word h1⟩
theorem goodIn_app {big a b : List Cond} (ha : GoodIn big a) (hb : GoodIn big b) : GoodIn big (a ++ b) := fun w h => (List.mem_append.mp h).elim (ha w) (hb w)
theorem goodIn_ca {big a b : List Cond} {c : Cond} (ha : GoodIn big (c :: a)) (hb : GoodIn big b) : GoodIn big (c :: (a ++ b)) := fun w h => (List.mem_cons.mp h).elim (fun e => ha w (List.mem_cons.mpr (Or.inl e))) (fun h => (List.mem_append.mp h).elim (fun h => ha w (List.mem_cons.mpr (Or.inr h))) (hb w))
theorem goodIn_sub {big ws : List Cond} (hm : ∀ w ∈ ws, w ∈ big) (h : ws.all goodWord = true) : GoodIn big ws := fun w hw => ⟨hm w hw, good_of_word (List.all_eq_true.mp h w hw)⟩
/-! ===== END ===== -/

/-! ===== BEGIN exceptions that leave a method, and their catching by the caller (launches without stack traces) ===== -/
section VXA
/-! The laws vx_back, vx_callV, vx_callS, vx_callSW, vx_throw0, vx_throwS follow proofs of the library, with one case more: JvmDerived/Free/Laws.lean (Back.of_free), Shelf42/LK1.lean (callV, callS), Shelf/KitTraced.lean (throwNew0V, throwNewS). -/
/-- where a method has thrown q: the class by its name, the cell, what was written, the world -/
def vx_T (XC : String → State → State → Prop) (st : State) (q : Addr) (t : State) (mc ms : Nat) (free : Addr → Prop) : Prop :=
  ∃ (E : String) (ce : Cell) (L : List Loc), XC E st t ∧ t.heap[q]? = some ce ∧ ce.vm = .none ∧ st.vm.findClass E = some ce.cls ∧ st.WarmedH t.vm ∧ st.sameButNew ({ t with vm := st.vm } : State) L mc ms ∧ ∀ z ∈ L, free z.base
def vx_Q (Qc : Array Value → State → Outcome → State → Prop) (XC : String → State → State → Prop) (mc ms : Nat) (free : Addr → Prop) : Array Value → State → Outcome → State → Prop := fun a st o t =>
  (Qc a st o t ∧ ∃ L, FrameEnd st o t L mc ms ∧ ∀ q ∈ L, free q.base) ∨ ∃ q, o = .threw q ∧ vx_T XC st q t mc ms free
/-- a callee that returns or throws -/
def vx_Met (l : Launch) (y : MethodName) (ws : List Cond) (rm : Room) (Pc : Array Value → State → Prop) (Qc : Array Value → State → Outcome → State → Prop) (XC : String → State → State → Prop) (mc ms : Nat) (free : Addr → Prop) : Prop :=
  MetFree l y (headSpec ws rm) Pc (fun _ _ _ _ _ => True) (vx_Q Qc XC mc ms free)
def vx_Post (XC : String → State → State → Prop) (mc ms : Nat) (free : Addr → Prop) : Pt → Array Value → Addr → Pt → Prop := fun A a q B =>
  ∃ (g : JFrame) (mk : MethodId) (t : State) (L : List Loc) (E : String) (ce : Cell), B.U.heap = t.heap ∧ B.U.vm = t.vm ∧ XC E (A.U.calling g mk a) t ∧ t.heap[q]? = some ce ∧ ce.vm = .none ∧ A.U.vm.findClass E = some ce.cls ∧ B.locs = A.locs ++ L ∧ (∀ z ∈ L, free z.base) ∧ B.cells = A.cells + mc ∧ B.slots = A.slots + ms
def vx_Back (l : Launch) (R : Room) (p : Program) (e : Env) (below : List Frame) (s : State) (sargs : Array Value) (y : MethodName) (len W9 : Nat)
    (Pre : Pt → Array Value → Prop) (Post : Pt → Array Value → Option Value → Pt → Prop) (PostX : Pt → Array Value → Addr → Pt → Prop) : Prop :=
  ∀ (m : MethodId) (meth : Method) (c : Code) (A : Pt) (g : JFrame) (ig : Instr) (mk : MethodId) (a : Array Value),
    Stand p l e R s m sargs below meth c A.U A.locs A.cells A.slots → g.method = m → g.locals.size = c.maxLocals → decode c.code g.pc = .ok (ig, len) →
    2 * g.monitorRoom + (g.stack.map fun v => v.category).sum ≤ W9 → A.U.methodNamed? y = some mk → Pre A a →
    (∃ (v : Option Value) (B : Pt), Stand p l e R s m sargs below meth c B.U B.locs B.cells B.slots ∧ Post A a v B ∧
      Steps p.tables e below (doInvoke e (A.U.setTop g) [] mk a).1 (B.U.setTop { g with pc := g.pc + len, stack := v.toList ++ g.stack })) ∨
    (∃ (q : Addr) (B : Pt), Stand p l e R s m sargs below meth c B.U B.locs B.cells B.slots ∧ PostX A a q B ∧
      Steps p.tables e below (doInvoke e (A.U.setTop g) [] mk a).1 ((B.U.setTop g).pushFrame (.throwing q)))
section Payer
variable {l : Launch} {R : Room} {p : Program} {e : Env} {below : List Frame} {s : State} {sargs : Array Value} {y : MethodName} {len W9 : Nat}
theorem vx_back {ws : List Cond} {rm : Room} {Pc : Array Value → State → Prop} {Qc : Array Value → State → Outcome → State → Prop} {XC : String → State → State → Prop} {mc ms : Nat} {free : Addr → Prop} {bytes : ByteArray} {maxL : Nat} {ret : Option FieldType}
    (hM : vx_Met l y ws rm Pc Qc XC mc ms free) (hblind : FrameBlind Pc) (hrc : rm.cells = mc) (hrs : rm.slots = ms)
    (hframes : rm.frames + 1 ≤ R.frames) (hlocals : W9 + (maxL + 11) + rm.locals ≤ R.locals)
    (hws : ∀ w ∈ ws, ∀ a' U, s.WarmedH U.vm → w.before a' U = true) (hcode : Cond.code y bytes maxL ret ∈ ws) (hinit : ∀ a' U, s.WarmedH U.vm → (Cond.initialized y.cls).before a' U = true) :
    vx_Back l R p e below s sargs y len W9 (PreOf R mc ms Pc) (PostOf Qc mc ms free) (vx_Post XC mc ms free) := by
  intro m meth c A g ig mk a X hg hsize hdg hW hn hp
  have h1 : (headSpec ws rm).pre.before a A.U = true := atoms_intro fun w hw => hws w hw _ _ X.warmed
  have h2 : (Cond.code y bytes maxL ret).before a A.U = true := hws _ hcode _ _ X.warmed
  have h3 : (Cond.initialized y.cls).before a A.U = true := hinit _ _ X.warmed
  have h4 : A.cells + (headSpec ws rm).room.cells ≤ R.cells := by rw [show (headSpec ws rm).room.cells = mc from hrc]; exact hp.1
  have h5 : A.slots + (headSpec ws rm).room.slots ≤ R.slots := by rw [show (headSpec ws rm).room.slots = ms from hrs]; exact hp.2.1
  have hPc : Pc a (A.U.calling g mk a) := hblind _ _ _ _ hp.2.2
  obtain ⟨U, Ls, c0, s0⟩ := A
  dsimp only [Pt.U, Pt.locs, Pt.cells, Pt.slots] at h1 h2 h3 h4 h5 X hn hPc ⊢
  obtain ⟨methY, cY, hmY, hcY, -, hlY, -, -, -, -⟩ := Cond.code_spec hn h2
  obtain ⟨kY, hkY, -⟩ := className_of_methodNamed hn
  have hinitY : kY.init = .initialized := Cond.initialized_spec (findClass_of_methodNamed hn) hkY h3
  have h : At U g.method c below := by rw [hg]; exact X.here
  have hlocals9 : W9 + (maxL + 11) + (headSpec ws rm).room.locals ≤ R.locals := hlocals
  have happ : (headSpec ws rm).appliesLoose y e.platform (U.calling g mk a) = true :=
    Spec.appliesLoose_calling (g := g) h hdg hn hkY hinitY
      (X.room_calling (g := g) (R' := (headSpec ws rm).room) hsize hmY hcY hframes (by rw [hlY]; omega) h4 h5) h1
  obtain ⟨mid, hmid⟩ := h.above
  have hfr : (U.setTop g).frames = (.java g :: mid) ++ below := by rw [State.frames_setTop' g h.top, hmid]; rfl
  obtain ⟨o, s₂, hsteps, -, hend, hq⟩ := Steps.callFree hM p X.admits X.cas X.clock (acts := []) hfr happ hPc trivial
  have hq' : vx_Q Qc XC mc ms free a (U.calling g mk a) o s₂ := hq
  rw [State.frames_setTop' g h.top] at hend
  obtain ⟨g₀, hg0⟩ := Option.isSome_iff_exists.mp h.top
  obtain ⟨r, hr⟩ := State.topJava?_eq_some.mp hg0
  have hr' : (({ U with heap := s₂.heap, slotsUsed := s₂.slotsUsed } : State).setVm s₂.vm).frames = .java g₀ :: r := hr
  rcases hq' with ⟨hqc, L, hfe, hL⟩ | ⟨q, rfl, E, ce, L, hx, hce, hcv, hcl, hW₂, hsm, hL⟩
  · obtain ⟨⟨v, rfl⟩, hW₂, e2, q2, q3, q4, q5, q6⟩ := id hfe
    have e3 : s₂ = ({ (U.calling g mk a).setFrames s₂.frames with heap := s₂.heap, slotsUsed := s₂.slotsUsed } : State).setVm s₂.vm := by
      have : s₂ = ({ s₂ with vm := (U.calling g mk a).vm } : State).setVm s₂.vm := rfl
      rw [e2] at this
      exact this
    obtain ⟨c₂, i₂, len₂, hc₂, hd₂, hf₂⟩ := hend
    have hW' : U.WarmedH s₂.vm := hW₂
    have hcc : c₂ = c := by
      have h1 : s₂.code? g.method = U.code? g.method := by
        rw [State.code?_eq, State.code?_eq, hW'.alike.method?]
      exact Option.some.inj (hc₂.symm.trans (h1.trans h.code))
    subst hcc
    have hlen : len₂ = len := by rw [hdg] at hd₂; cases hd₂; rfl
    subst hlen
    have hs₂ : s₂ = (({ U with heap := s₂.heap, slotsUsed := s₂.slotsUsed } : State).setVm s₂.vm).setTop { g with pc := g.pc + len₂, stack := v.toList ++ g.stack } := by
      refine e3.trans ?_
      rw [hf₂, State.calling_eq h.top, State.setFrames_setFrames, State.setTop_of_frames _ hr', hr]
      rfl
    have hsame : U.sameButNew ({ U with heap := s₂.heap, slotsUsed := s₂.slotsUsed } : State) L mc ms := by
      refine ⟨?_, q2, q3, q4, q5, q6⟩
      obtain ⟨t, ht, -⟩ := State.frames_cons hr
      show ({ U with heap := s₂.heap, slotsUsed := s₂.slotsUsed } : State) = { U.setFrames U.frames with heap := s₂.heap, slotsUsed := s₂.slotsUsed }
      rw [State.setFrames_self ht]
    subst hg
    refine Or.inl ⟨v, ⟨(({ U with heap := s₂.heap, slotsUsed := s₂.slotsUsed } : State).setVm s₂.vm), Ls ++ L, c0 + mc, s0 + ms⟩,
      ⟨X.admits, X.cas, X.clock, X.frames, X.room, X.hears, X.method, X.code, (X.here.setHeapUsed s₂.heap s₂.slotsUsed).setVm hW'.alike, X.tail, State.WarmedH.trans X.warmed hW', X.limits, X.bytes, X.same.trans (hsame.setVm s.vm)⟩,
      ⟨g, mk, s₂, L, rfl, rfl, hqc, rfl, hL, rfl, rfl⟩, ?_⟩
    show Steps p.tables e below _ ((({ U with heap := s₂.heap, slotsUsed := s₂.slotsUsed } : State).setVm s₂.vm).setTop { g with pc := g.pc + len₂, stack := v.toList ++ g.stack })
    rw [← hs₂]
    exact hsteps
  · obtain ⟨e2, q2, q3, q4, q5, q6⟩ := id hsm
    have e3 : s₂ = ({ (U.calling g mk a).setFrames s₂.frames with heap := s₂.heap, slotsUsed := s₂.slotsUsed } : State).setVm s₂.vm := by
      have : s₂ = ({ s₂ with vm := (U.calling g mk a).vm } : State).setVm s₂.vm := rfl
      rw [e2] at this
      exact this
    have hf₂ : s₂.frames = .throwing q :: .java g :: U.frames.tail := hend
    have hW' : U.WarmedH s₂.vm := hW₂
    have hs₂ : s₂ = ((({ U with heap := s₂.heap, slotsUsed := s₂.slotsUsed } : State).setVm s₂.vm).setTop g).pushFrame (.throwing q) := by
      refine e3.trans ?_
      rw [hf₂, State.calling_eq h.top, State.setFrames_setFrames, State.pushFrame, State.frames_setTop _ hr', State.setTop_of_frames _ hr', State.setFrames_setFrames, hr]
      rfl
    have hsame : U.sameButNew ({ U with heap := s₂.heap, slotsUsed := s₂.slotsUsed } : State) L mc ms := by
      refine ⟨?_, q2, q3, q4, q5, q6⟩
      obtain ⟨t, ht, -⟩ := State.frames_cons hr
      show ({ U with heap := s₂.heap, slotsUsed := s₂.slotsUsed } : State) = { U.setFrames U.frames with heap := s₂.heap, slotsUsed := s₂.slotsUsed }
      rw [State.setFrames_self ht]
    subst hg
    refine Or.inr ⟨q, ⟨(({ U with heap := s₂.heap, slotsUsed := s₂.slotsUsed } : State).setVm s₂.vm), Ls ++ L, c0 + mc, s0 + ms⟩,
      ⟨X.admits, X.cas, X.clock, X.frames, X.room, X.hears, X.method, X.code, (X.here.setHeapUsed s₂.heap s₂.slotsUsed).setVm hW'.alike, X.tail, State.WarmedH.trans X.warmed hW', X.limits, X.bytes, X.same.trans (hsame.setVm s.vm)⟩,
      ⟨g, mk, s₂, L, E, ce, rfl, rfl, hx, hce, hcv, hcl, rfl, hL, rfl, rfl⟩, ?_⟩
    show Steps p.tables e below _ (((({ U with heap := s₂.heap, slotsUsed := s₂.slotsUsed } : State).setVm s₂.vm).setTop g).pushFrame (.throwing q))
    rw [← hs₂]
    exact hsteps
end Payer
section Calls
variable {p : Program} {l : Launch} {e : Env} {R : Room} {s : State} {m : MethodId} {args : Array Value} {below : List Frame} {meth : Method} {c : Code} {T : State} {locs : List Loc} {cells slots : Nat}
theorem vx_callV (X : Stand p l e R s m args below meth c T locs cells slots) (hexec : p.tables.exec = Jvm.exec) {own C : String} {index : Nat} {y : MethodName} {bytes : ByteArray} {maxL : Nat} {ret : Option FieldType}
    (hown : s.vm.findClass own = some m.cls) (hlink : (Cond.methodLink own index y).before args s = true) (hinst : (Cond.instanceMethod y).before args s = true) (hsel : (Cond.selects C y y).before args s = true)
    (hcode : (Cond.code y bytes maxL ret).before args s = true) (hy : y.cls ≠ "java/lang/invoke/MethodHandle" ∧ y.cls ≠ "java/lang/invoke/VarHandle")
    {W9 : Nat} {Pre : Pt → Array Value → Prop} {Post : Pt → Array Value → Option Value → Pt → Prop} {PostX : Pt → Array Value → Addr → Pt → Prop} (hK : vx_Back l R p e below s args y 3 W9 Pre Post PostX)
    {b : Addr} {cellB : Cell} (hcell : T.heap[b]? = some cellB) (hobj : cellB.vm.isStatics = false) (hcls : s.vm.findClass C = some cellB.cls)
    {g : JFrame} (hg : g.method = m) (hsize : g.locals.size = c.maxLocals) {argsL rest : List Value} (hlen : ∀ sig, parseMethodDescriptor y.desc = some sig → argsL.length = sig.parameters.length)
    (hstack : g.stack = argsL.reverse ++ .ref b :: rest) (hW : 2 * g.monitorRoom + (rest.map fun v => v.category).sum ≤ W9) (hdg : decode c.code g.pc = .ok (.invokevirtual index, 3))
    (hpre : ∀ vm₁, s.WarmedH vm₁ → Pre ⟨T.setVm vm₁, locs, cells, slots⟩ (Value.ref b :: argsL).toArray) :
    (∃ (v : Option Value) (vm₁ : Vm) (B : Pt), s.WarmedH vm₁ ∧ Stand p l e R s m args below meth c B.U B.locs B.cells B.slots ∧ Post ⟨T.setVm vm₁, locs, cells, slots⟩ (Value.ref b :: argsL).toArray v B ∧
      ∀ target, Steps p.tables e below (B.U.setTop { g with pc := g.pc + 3, stack := v.toList ++ rest }) target → Steps p.tables e below (T.setTop g) target) ∨
    (∃ (q : Addr) (vm₁ : Vm) (B : Pt), s.WarmedH vm₁ ∧ Stand p l e R s m args below meth c B.U B.locs B.cells B.slots ∧ PostX ⟨T.setVm vm₁, locs, cells, slots⟩ (Value.ref b :: argsL).toArray q B ∧
      Steps p.tables e below (T.setTop g) ((B.U.setTop { g with stack := rest }).pushFrame (.throwing q))) := by
  obtain ⟨mk, methM, hnamed, hmethM, hstM, habM⟩ := Cond.instanceMethod_spec hinst
  obtain ⟨methM', cM, hmethM', -, -, -, -, -, -, hsigM⟩ := Cond.code_spec hnamed hcode
  cases hmethM.symm.trans hmethM'
  obtain ⟨c2, r2, m2, q1, q2, q3, q4, kP, hkP, hkPi⟩ := Cond.selects_spec hsel
  cases hcls.symm.trans q1
  cases (State.methodFound?_of_named hnamed hy).symm.trans q2
  cases hnamed.symm.trans q3
  have hselP : selectMethod e.platform s.vm cellB.cls mk = .method mk := by rw [Launch.admits_selectMethod X.admits]; exact q4
  obtain ⟨vm₁, X₁, hstep₁⟩ := X.invokevirtual hexec hown hlink hnamed hmethM hstM hkP hkPi hy (a := b) (cell := cellB) hcell
    (fun z h => by rw [h] at hobj; cases hobj) hselP hmethM habM hkP hkPi (g := g) hg (argsL := argsL) (rest := rest) (hlen _ hsigM) hstack hdg
  rcases hK m meth c ⟨T.setVm vm₁, locs, cells, slots⟩ { g with stack := rest } (.invokevirtual index) mk (Value.ref b :: argsL).toArray X₁ hg hsize hdg hW (X₁.named hnamed) (hpre vm₁ X₁.warmed) with ⟨v, B, X', hpost, hsteps⟩ | ⟨q, B, X', hpost, hsteps⟩
  · exact Or.inl ⟨v, vm₁, B, X₁.warmed, X', hpost, fun target h => hstep₁ _ fun acts => by rw [doInvoke_state]; exact hsteps.trans h⟩
  · exact Or.inr ⟨q, vm₁, B, X₁.warmed, X', hpost, hstep₁ _ fun acts => by rw [doInvoke_state]; exact hsteps⟩
theorem vx_callS (X : Stand p l e R s m args below meth c T locs cells slots) (hexec : p.tables.exec = Jvm.exec) {own : String} {index : Nat} {y : MethodName} {bytes : ByteArray} {maxL : Nat} {ret : Option FieldType}
    (hown : s.vm.findClass own = some m.cls) (hlink : (Cond.methodLink own index y).before args s = true) (hstat : (Cond.static y).before args s = true) (hinit : (Cond.initialized y.cls).before args s = true)
    (hcode : (Cond.code y bytes maxL ret).before args s = true) (hy : y.cls ≠ "java/lang/invoke/MethodHandle" ∧ y.cls ≠ "java/lang/invoke/VarHandle")
    {W9 : Nat} {Pre : Pt → Array Value → Prop} {Post : Pt → Array Value → Option Value → Pt → Prop} {PostX : Pt → Array Value → Addr → Pt → Prop} (hK : vx_Back l R p e below s args y 3 W9 Pre Post PostX)
    {g : JFrame} (hg : g.method = m) (hsize : g.locals.size = c.maxLocals) {argsL rest : List Value} (hlen : ∀ sig, parseMethodDescriptor y.desc = some sig → argsL.length = sig.parameters.length)
    (hstack : g.stack = argsL.reverse ++ rest) (hW : 2 * g.monitorRoom + (rest.map fun v => v.category).sum ≤ W9) (hdg : decode c.code g.pc = .ok (.invokestatic index, 3))
    (hpre : ∀ vm₁, s.WarmedH vm₁ → Pre ⟨T.setVm vm₁, locs, cells, slots⟩ argsL.toArray) :
    (∃ (v : Option Value) (vm₁ : Vm) (B : Pt), s.WarmedH vm₁ ∧ Stand p l e R s m args below meth c B.U B.locs B.cells B.slots ∧ Post ⟨T.setVm vm₁, locs, cells, slots⟩ argsL.toArray v B ∧
      ∀ target, Steps p.tables e below (B.U.setTop { g with pc := g.pc + 3, stack := v.toList ++ rest }) target → Steps p.tables e below (T.setTop g) target) ∨
    (∃ (q : Addr) (vm₁ : Vm) (B : Pt), s.WarmedH vm₁ ∧ Stand p l e R s m args below meth c B.U B.locs B.cells B.slots ∧ PostX ⟨T.setVm vm₁, locs, cells, slots⟩ argsL.toArray q B ∧
      Steps p.tables e below (T.setTop g) ((B.U.setTop { g with stack := rest }).pushFrame (.throwing q))) := by
  obtain ⟨mk, hnamed⟩ := Cond.code_named hcode
  obtain ⟨methM, cM, hmethM, -, -, -, -, -, -, hsigM⟩ := Cond.code_spec hnamed hcode
  have hstatic : methM.isStatic = true := Cond.static_spec hnamed hmethM hstat
  obtain ⟨kP, hkP, -⟩ := className_of_methodNamed hnamed
  have hinitP : kP.init = .initialized := Cond.initialized_spec (findClass_of_methodNamed hnamed) hkP hinit
  obtain ⟨vm₁, X₁, hstep₁⟩ := X.invokestatic hexec hown hlink hnamed hmethM hstatic hkP hinitP hy (g := g) hg (argsL := argsL) (rest := rest) (hlen _ hsigM) hstack hdg
  rcases hK m meth c ⟨T.setVm vm₁, locs, cells, slots⟩ { g with stack := rest } (.invokestatic index) mk argsL.toArray X₁ hg hsize hdg hW (X₁.named hnamed) (hpre vm₁ X₁.warmed) with ⟨v, B, X', hpost, hsteps⟩ | ⟨q, B, X', hpost, hsteps⟩
  · exact Or.inl ⟨v, vm₁, B, X₁.warmed, X', hpost, fun target h => hstep₁ _ fun acts => by rw [doInvoke_state]; exact hsteps.trans h⟩
  · exact Or.inr ⟨q, vm₁, B, X₁.warmed, X', hpost, hstep₁ _ fun acts => by rw [doInvoke_state]; exact hsteps⟩
end Calls
theorem vx_cls {s : State} {T : State} {vm₁ : Vm} {E : String} {k : ClassId} (hW : s.WarmedH vm₁) (h : (T.setVm vm₁).vm.findClass E = some k) : s.vm.findClass E = some k := by
  have h1 : vm₁.findClass E = some k := h
  rw [hW.alike.findClass] at h1
  exact h1
/-- the method's frame g, with q thrown over it -/
def vx_W (p : Program) (l : Launch) (e : Env) (R : Room) (s : State) (m : MethodId) (args : Array Value) (below : List Frame) (meth : Method) (c : Code) (H : Heap) (locs : List Loc) (cells slots : Nat) (Q : State → Prop) (g : JFrame) (q : Addr) : Prop :=
  ∀ T : State, T.heap = H → Stand p l e R s m args below meth c T locs cells slots → ∃ t, Steps p.tables e below ((T.setTop g).pushFrame (.throwing q)) t ∧ Q t
def vx_Run (p : Program) (l : Launch) (e : Env) (R : Room) (s : State) (m : MethodId) (args : Array Value) (below : List Frame) (meth : Method) (c : Code) (H : Heap) (locs : List Loc) (cells slots mc ms : Nat) (g : JFrame) (rest : List Value) (Qa : State → Outcome → State → Prop) (XC : String → State → State → Prop) (free : Addr → Prop) : Prop :=
  ∀ T : State, T.heap = H → Stand p l e R s m args below meth c T locs cells slots →
    (∃ (v : Option Value) (st₀ t T' : State) (L : List Loc), st₀.heap = H ∧ Stand p l e R s m args below meth c T' (locs ++ L) (cells + mc) (slots + ms) ∧ (∀ q ∈ L, free q.base) ∧ T'.heap = t.heap ∧ T'.vm = t.vm ∧ Qa st₀ (.returned v) t ∧
      Goes p e below T g T' { g with pc := g.pc + 3, stack := v.toList ++ rest }) ∨
    (∃ (q : Addr) (st₀ t T' : State) (L : List Loc) (E : String) (ce : Cell), st₀.heap = H ∧ Stand p l e R s m args below meth c T' (locs ++ L) (cells + mc) (slots + ms) ∧ (∀ z ∈ L, free z.base) ∧ T'.heap = t.heap ∧ T'.vm = t.vm ∧ XC E st₀ t ∧ t.heap[q]? = some ce ∧ ce.vm = .none ∧ s.vm.findClass E = some ce.cls ∧
      Steps p.tables e below (T.setTop g) ((T'.setTop { g with stack := rest }).pushFrame (.throwing q)))
def vx_X {S : Type} (px : S → Prop) (B : String → S → State → Prop) (A : Nat → Prop) : String → State → State → Prop := fun E st t => ∃ u : S, px u ∧ B E u t ∧ va_F A st t
section Runs
variable {p : Program} {l : Launch} {e : Env} {R : Room} {s : State} {m : MethodId} {args : Array Value} {below : List Frame} {meth : Method} {c : Code} {H : Heap} {locs : List Loc} {cells slots : Nat}
variable {y : MethodName} {bytes cc : ByteArray} {maxL nL mc ms n index : Nat} {ret : Option FieldType} {ws : List Cond} {rm : Room} {Pc : Array Value → State → Prop} {Qc : Array Value → State → Outcome → State → Prop} {XC : String → State → State → Prop} {free : Addr → Prop} {Ts : List Cond} {own C : String} {b : Addr} {As rest : List Value} {g : JFrame}
theorem vx_callBack (cb : CallB R s args own index y bytes maxL ret ws rm mc ms n) (hM : vx_Met l y ws rm Pc Qc XC mc ms free) (hbl : FrameBlind Pc) : vx_Back l R p e below s args y 3 8 (PreOf R mc ms Pc) (PostOf Qc mc ms free) (vx_Post XC mc ms free) := by
  obtain ⟨hrc, hrs, hfr, hlo, hws, hcw, -, hini, -⟩ := cb
  exact vx_back (bytes := bytes) (maxL := maxL) (ret := ret) hM hbl hrc hrs hfr hlo hws hcw (fun a' U hW => word_at hW (Or.inl (by first | rfl | simp [Cond.onTables, Cond.keeps, Cond.steady])) hini)
theorem vx_runV (S : CallFix p m c cc nL s args Ts own) (hM : vx_Met l y ws rm Pc Qc XC mc ms free) (cw : CallW R s args own C index y bytes maxL ret ws rm mc ms n) (hp : PreV s H C b Pc As)
    (hg : g.method = m) (hn : As.length = n) (hsize : g.locals.size = nL) (hstack : g.stack = As.reverse ++ .ref b :: rest) (hW : 2 * g.monitorRoom + (rest.map fun v => v.category).sum ≤ 8) (hdg : decode cc g.pc = .ok (.invokevirtual index, 3)) (hf : cells + mc ≤ R.cells ∧ slots + ms ≤ R.slots) :
    vx_Run p l e R s m args below meth c H locs cells slots mc ms g rest (Qc (Value.ref b :: As).toArray) XC free := by
  have hK : vx_Back l R p e below s args y 3 8 (PreOf R mc ms Pc) (PostOf Qc mc ms free) (vx_Post XC mc ms free) := vx_callBack cw.1 hM hp.1
  obtain ⟨⟨-, -, -, -, -, -, hcode, -, hy, hlen, hl⟩, hin, hse⟩ := cw
  obtain ⟨hx, hb, hml, ho, -⟩ := S
  obtain ⟨-, ⟨cellB, hcB, hoB, hclB⟩, hPc⟩ := hp
  intro T hT X
  rcases vx_callV X hx (C := C) (bytes := bytes) (maxL := maxL) (ret := ret) ho hl hin hse hcode hy hK (by rw [hT]; exact hcB) hoB hclB hg (hsize.trans hml.symm) (argsL := As) (rest := rest) (fun sig h => hn.trans (hlen sig h)) hstack hW (by rw [hb]; exact hdg)
    (fun vm₁ hW₁ => ⟨hf.1, hf.2, hPc (T.setVm vm₁) hT hW₁⟩) with ⟨v, vm₁, ⟨U', l2, c2, s2⟩, hW₁, X', ⟨g', mk, t, L, e1, e2, hq, h1, hL, h2, h3⟩, st⟩ | ⟨q, vm₁, ⟨U', l2, c2, s2⟩, hW₁, X', ⟨g', mk, t, L, E, ce, e1, e2, hq, hce, hcv, hcl, h1, hL, h2, h3⟩, st⟩
  · dsimp only [Pt.U, Pt.locs, Pt.cells, Pt.slots] at X' e1 e2 h1 h2 h3 st
    subst h1; subst h2; subst h3
    exact Or.inl ⟨v, (T.setVm vm₁).calling g' mk (Value.ref b :: As).toArray, t, U', L, hT, X', hL, e1, e2, hq, st⟩
  · dsimp only [Pt.U, Pt.locs, Pt.cells, Pt.slots] at X' e1 e2 h1 h2 h3 st hcl
    subst h1; subst h2; subst h3
    exact Or.inr ⟨q, (T.setVm vm₁).calling g' mk (Value.ref b :: As).toArray, t, U', L, E, ce, hT, X', hL, e1, e2, hq, hce, hcv, vx_cls hW₁ hcl, st⟩
theorem vx_runS (S : CallFix p m c cc nL s args Ts own) (hM : vx_Met l y ws rm Pc Qc XC mc ms free) (cw : CallB R s args own index y bytes maxL ret ws rm mc ms n ∧ (Cond.static y).before args s = true) (hp : PreS s H Pc As)
    (hg : g.method = m) (hn : As.length = n) (hsize : g.locals.size = nL) (hstack : g.stack = As.reverse ++ rest) (hW : 2 * g.monitorRoom + (rest.map fun v => v.category).sum ≤ 8) (hdg : decode cc g.pc = .ok (.invokestatic index, 3)) (hf : cells + mc ≤ R.cells ∧ slots + ms ≤ R.slots) :
    vx_Run p l e R s m args below meth c H locs cells slots mc ms g rest (Qc As.toArray) XC free := by
  have hK : vx_Back l R p e below s args y 3 8 (PreOf R mc ms Pc) (PostOf Qc mc ms free) (vx_Post XC mc ms free) := vx_callBack cw.1 hM hp.1
  obtain ⟨⟨-, -, -, -, -, -, hcode, hini, hy, hlen, hl⟩, hstt⟩ := cw
  obtain ⟨hx, hb, hml, ho, -⟩ := S
  intro T hT X
  rcases vx_callS X hx (bytes := bytes) (maxL := maxL) (ret := ret) ho hl hstt hini hcode hy hK hg (hsize.trans hml.symm) (argsL := As) (rest := rest) (fun sig h => hn.trans (hlen sig h)) hstack hW (by rw [hb]; exact hdg)
    (fun vm₁ hW₁ => ⟨hf.1, hf.2, hp.2 (T.setVm vm₁) hT hW₁⟩) with ⟨v, vm₁, ⟨U', l2, c2, s2⟩, hW₁, X', ⟨g', mk, t, L, e1, e2, hq, h1, hL, h2, h3⟩, st⟩ | ⟨q, vm₁, ⟨U', l2, c2, s2⟩, hW₁, X', ⟨g', mk, t, L, E, ce, e1, e2, hq, hce, hcv, hcl, h1, hL, h2, h3⟩, st⟩
  · dsimp only [Pt.U, Pt.locs, Pt.cells, Pt.slots] at X' e1 e2 h1 h2 h3 st
    subst h1; subst h2; subst h3
    exact Or.inl ⟨v, (T.setVm vm₁).calling g' mk As.toArray, t, U', L, hT, X', hL, e1, e2, hq, st⟩
  · dsimp only [Pt.U, Pt.locs, Pt.cells, Pt.slots] at X' e1 e2 h1 h2 h3 st hcl
    subst h1; subst h2; subst h3
    exact Or.inr ⟨q, (T.setVm vm₁).calling g' mk As.toArray, t, U', L, E, ce, hT, X', hL, e1, e2, hq, hce, hcv, vx_cls hW₁ hcl, st⟩
end Runs
section Rows
variable {p : Program} {l : Launch} {e : Env} {R : Room} {s : State} {m : MethodId} {args : Array Value} {below : List Frame} {meth : Method} {c : Code} {H : Heap} {locs : List Loc} {cells slots : Nat} {Q : State → Prop}
variable {mc ms : Nat} {free : Addr → Prop} {A0 A1 : Nat → Prop} {H0 : Heap} {a : Array Value} {pc : Nat} {ls : Array Slot} {st0 rest : List Value}
theorem vx_keep {st₀ t T' : State} {L : List Loc} (h0 : st₀.heap = H) (e1 : T'.heap = t.heap) (hS : va_S A0 H0 H locs) (hA : ∀ q, q < H.size → A1 q → A0 q) (hf : ∀ q, free q → A0 q) (hL : ∀ q ∈ L, free q.base) (hF : va_F A1 st₀ t) :
    H.size ≤ T'.heap.size ∧ (∀ q : Nat, q < H.size → ¬ A1 q → T'.heap[q]? = H[q]?) ∧ va_S A0 H0 T'.heap (locs ++ L) := by
  obtain ⟨hz, hk⟩ := hF
  rw [h0] at hz hk
  exact ⟨by rw [e1]; exact hz, fun q h1 h2 => by rw [e1]; exact hk q h1 h2,
    ⟨Nat.le_trans hS.1 (by rw [e1]; exact hz), fun q h1 h2 => by rw [e1, hk q (Nat.lt_of_lt_of_le h1 hS.1) (fun z => h2 (hA q (Nat.lt_of_lt_of_le h1 hS.1) z))]; exact hS.2.1 q h1 h2, fun q hq => by
      rcases List.mem_append.mp hq with h | h
      · exact hS.2.2 q h
      · exact hf _ (hL q h)⟩⟩
theorem vx_calli {S SX : Type} {post : Int32 → S → Prop} {px : SX → Prop} {B : S → State → Prop} {BX : String → SX → State → Prop} {AX : Nat → Prop} (hr : vx_Run p l e R s m args below meth c H locs cells slots mc ms (F0 m pc ls st0) rest (va_Qi post B A1 a) (vx_X px BX AX) free) (hS : va_S A0 H0 H locs) (hA : ∀ q, q < H.size → A1 q → A0 q) (hf : ∀ q, free q → A0 q) (hAX : ∀ q, q < H.size → AX q → A0 q)
    (kx : ∀ (E : String) (ce : Cell) (q9 : Addr) (u : SX) (t : State) (H1 : Heap) (locs1 : List Loc), t.heap = H1 → s.vm.Alike t.vm → px u → BX E u t → H.size ≤ H1.size → (∀ q : Nat, q < H.size → ¬ AX q → H1[q]? = H[q]?) → va_S A0 H0 H1 locs1 → H1[q9]? = some ce → ce.vm = .none → s.vm.findClass E = some ce.cls → vx_W p l e R s m args below meth c H1 locs1 (cells + mc) (slots + ms) Q (F0 m pc ls rest) q9)
    (kk : ∀ (r : Int32) (u : S) (t : State) (H1 : Heap) (locs1 : List Loc), t.heap = H1 → s.vm.Alike t.vm → post r u → B u t → H.size ≤ H1.size → (∀ q : Nat, q < H.size → ¬ A1 q → H1[q]? = H[q]?) → va_S A0 H0 H1 locs1 → W p l e R s m args below meth c H1 locs1 (cells + mc) (slots + ms) Q (F0 m (pc + 3) ls (.int r :: rest))) : W p l e R s m args below meth c H locs cells slots Q (F0 m pc ls st0) := by
  intro T hT X
  rcases hr T hT X with ⟨v, st₀, t, T', L, h0, X', hL, e1, e2, ⟨⟨r, u, hv, hp, hb⟩, hF⟩, st⟩ | ⟨q, st₀, t, T', L, E, ce, h0, X', hL, e1, e2, ⟨u, hp, hb, hF⟩, hce, hcv, hcl, st⟩
  · cases hv
    obtain ⟨k1, k2, k3⟩ := vx_keep h0 e1 hS hA hf hL hF
    obtain ⟨t2, a1, b1⟩ := kk r u t T'.heap (locs ++ L) e1.symm (by rw [← e2]; exact X'.warmed.alike) hp hb k1 k2 k3 T' rfl X'
    exact ⟨t2, st t2 a1, b1⟩
  · obtain ⟨k1, k2, k3⟩ := vx_keep h0 e1 hS hAX hf hL hF
    obtain ⟨t2, a1, b1⟩ := kx E ce q u t T'.heap (locs ++ L) e1.symm (by rw [← e2]; exact X'.warmed.alike) hp hb k1 k2 k3 (by rw [e1]; exact hce) hcv hcl T' rfl X'
    exact ⟨t2, st.trans a1, b1⟩
theorem vx_calll {S SX : Type} {post : Int64 → S → Prop} {px : SX → Prop} {B : S → State → Prop} {BX : String → SX → State → Prop} {AX : Nat → Prop} (hr : vx_Run p l e R s m args below meth c H locs cells slots mc ms (F0 m pc ls st0) rest (va_Ql post B A1 a) (vx_X px BX AX) free) (hS : va_S A0 H0 H locs) (hA : ∀ q, q < H.size → A1 q → A0 q) (hf : ∀ q, free q → A0 q) (hAX : ∀ q, q < H.size → AX q → A0 q)
    (kx : ∀ (E : String) (ce : Cell) (q9 : Addr) (u : SX) (t : State) (H1 : Heap) (locs1 : List Loc), t.heap = H1 → s.vm.Alike t.vm → px u → BX E u t → H.size ≤ H1.size → (∀ q : Nat, q < H.size → ¬ AX q → H1[q]? = H[q]?) → va_S A0 H0 H1 locs1 → H1[q9]? = some ce → ce.vm = .none → s.vm.findClass E = some ce.cls → vx_W p l e R s m args below meth c H1 locs1 (cells + mc) (slots + ms) Q (F0 m pc ls rest) q9)
    (kk : ∀ (r : Int64) (u : S) (t : State) (H1 : Heap) (locs1 : List Loc), t.heap = H1 → s.vm.Alike t.vm → post r u → B u t → H.size ≤ H1.size → (∀ q : Nat, q < H.size → ¬ A1 q → H1[q]? = H[q]?) → va_S A0 H0 H1 locs1 → W p l e R s m args below meth c H1 locs1 (cells + mc) (slots + ms) Q (F0 m (pc + 3) ls (.long r :: rest))) : W p l e R s m args below meth c H locs cells slots Q (F0 m pc ls st0) := by
  intro T hT X
  rcases hr T hT X with ⟨v, st₀, t, T', L, h0, X', hL, e1, e2, ⟨⟨r, u, hv, hp, hb⟩, hF⟩, st⟩ | ⟨q, st₀, t, T', L, E, ce, h0, X', hL, e1, e2, ⟨u, hp, hb, hF⟩, hce, hcv, hcl, st⟩
  · cases hv
    obtain ⟨k1, k2, k3⟩ := vx_keep h0 e1 hS hA hf hL hF
    obtain ⟨t2, a1, b1⟩ := kk r u t T'.heap (locs ++ L) e1.symm (by rw [← e2]; exact X'.warmed.alike) hp hb k1 k2 k3 T' rfl X'
    exact ⟨t2, st t2 a1, b1⟩
  · obtain ⟨k1, k2, k3⟩ := vx_keep h0 e1 hS hAX hf hL hF
    obtain ⟨t2, a1, b1⟩ := kx E ce q u t T'.heap (locs ++ L) e1.symm (by rw [← e2]; exact X'.warmed.alike) hp hb k1 k2 k3 (by rw [e1]; exact hce) hcv hcl T' rfl X'
    exact ⟨t2, st.trans a1, b1⟩
theorem vx_callf {S SX : Type} {post : UInt32 → S → Prop} {px : SX → Prop} {B : S → State → Prop} {BX : String → SX → State → Prop} {AX : Nat → Prop} (hr : vx_Run p l e R s m args below meth c H locs cells slots mc ms (F0 m pc ls st0) rest (va_Qf post B A1 a) (vx_X px BX AX) free) (hS : va_S A0 H0 H locs) (hA : ∀ q, q < H.size → A1 q → A0 q) (hf : ∀ q, free q → A0 q) (hAX : ∀ q, q < H.size → AX q → A0 q)
    (kx : ∀ (E : String) (ce : Cell) (q9 : Addr) (u : SX) (t : State) (H1 : Heap) (locs1 : List Loc), t.heap = H1 → s.vm.Alike t.vm → px u → BX E u t → H.size ≤ H1.size → (∀ q : Nat, q < H.size → ¬ AX q → H1[q]? = H[q]?) → va_S A0 H0 H1 locs1 → H1[q9]? = some ce → ce.vm = .none → s.vm.findClass E = some ce.cls → vx_W p l e R s m args below meth c H1 locs1 (cells + mc) (slots + ms) Q (F0 m pc ls rest) q9)
    (kk : ∀ (r : UInt32) (u : S) (t : State) (H1 : Heap) (locs1 : List Loc), t.heap = H1 → s.vm.Alike t.vm → post r u → B u t → H.size ≤ H1.size → (∀ q : Nat, q < H.size → ¬ A1 q → H1[q]? = H[q]?) → va_S A0 H0 H1 locs1 → W p l e R s m args below meth c H1 locs1 (cells + mc) (slots + ms) Q (F0 m (pc + 3) ls (.float r :: rest))) : W p l e R s m args below meth c H locs cells slots Q (F0 m pc ls st0) := by
  intro T hT X
  rcases hr T hT X with ⟨v, st₀, t, T', L, h0, X', hL, e1, e2, ⟨⟨r, u, hv, hp, hb⟩, hF⟩, st⟩ | ⟨q, st₀, t, T', L, E, ce, h0, X', hL, e1, e2, ⟨u, hp, hb, hF⟩, hce, hcv, hcl, st⟩
  · cases hv
    obtain ⟨k1, k2, k3⟩ := vx_keep h0 e1 hS hA hf hL hF
    obtain ⟨t2, a1, b1⟩ := kk r u t T'.heap (locs ++ L) e1.symm (by rw [← e2]; exact X'.warmed.alike) hp hb k1 k2 k3 T' rfl X'
    exact ⟨t2, st t2 a1, b1⟩
  · obtain ⟨k1, k2, k3⟩ := vx_keep h0 e1 hS hAX hf hL hF
    obtain ⟨t2, a1, b1⟩ := kx E ce q u t T'.heap (locs ++ L) e1.symm (by rw [← e2]; exact X'.warmed.alike) hp hb k1 k2 k3 (by rw [e1]; exact hce) hcv hcl T' rfl X'
    exact ⟨t2, st.trans a1, b1⟩
theorem vx_calld {S SX : Type} {post : UInt64 → S → Prop} {px : SX → Prop} {B : S → State → Prop} {BX : String → SX → State → Prop} {AX : Nat → Prop} (hr : vx_Run p l e R s m args below meth c H locs cells slots mc ms (F0 m pc ls st0) rest (va_Qd post B A1 a) (vx_X px BX AX) free) (hS : va_S A0 H0 H locs) (hA : ∀ q, q < H.size → A1 q → A0 q) (hf : ∀ q, free q → A0 q) (hAX : ∀ q, q < H.size → AX q → A0 q)
    (kx : ∀ (E : String) (ce : Cell) (q9 : Addr) (u : SX) (t : State) (H1 : Heap) (locs1 : List Loc), t.heap = H1 → s.vm.Alike t.vm → px u → BX E u t → H.size ≤ H1.size → (∀ q : Nat, q < H.size → ¬ AX q → H1[q]? = H[q]?) → va_S A0 H0 H1 locs1 → H1[q9]? = some ce → ce.vm = .none → s.vm.findClass E = some ce.cls → vx_W p l e R s m args below meth c H1 locs1 (cells + mc) (slots + ms) Q (F0 m pc ls rest) q9)
    (kk : ∀ (r : UInt64) (u : S) (t : State) (H1 : Heap) (locs1 : List Loc), t.heap = H1 → s.vm.Alike t.vm → post r u → B u t → H.size ≤ H1.size → (∀ q : Nat, q < H.size → ¬ A1 q → H1[q]? = H[q]?) → va_S A0 H0 H1 locs1 → W p l e R s m args below meth c H1 locs1 (cells + mc) (slots + ms) Q (F0 m (pc + 3) ls (.double r :: rest))) : W p l e R s m args below meth c H locs cells slots Q (F0 m pc ls st0) := by
  intro T hT X
  rcases hr T hT X with ⟨v, st₀, t, T', L, h0, X', hL, e1, e2, ⟨⟨r, u, hv, hp, hb⟩, hF⟩, st⟩ | ⟨q, st₀, t, T', L, E, ce, h0, X', hL, e1, e2, ⟨u, hp, hb, hF⟩, hce, hcv, hcl, st⟩
  · cases hv
    obtain ⟨k1, k2, k3⟩ := vx_keep h0 e1 hS hA hf hL hF
    obtain ⟨t2, a1, b1⟩ := kk r u t T'.heap (locs ++ L) e1.symm (by rw [← e2]; exact X'.warmed.alike) hp hb k1 k2 k3 T' rfl X'
    exact ⟨t2, st t2 a1, b1⟩
  · obtain ⟨k1, k2, k3⟩ := vx_keep h0 e1 hS hAX hf hL hF
    obtain ⟨t2, a1, b1⟩ := kx E ce q u t T'.heap (locs ++ L) e1.symm (by rw [← e2]; exact X'.warmed.alike) hp hb k1 k2 k3 (by rw [e1]; exact hce) hcv hcl T' rfl X'
    exact ⟨t2, st.trans a1, b1⟩
theorem vx_callv {S SX : Type} {post : S → Prop} {px : SX → Prop} {B : S → State → Prop} {BX : String → SX → State → Prop} {AX : Nat → Prop} (hr : vx_Run p l e R s m args below meth c H locs cells slots mc ms (F0 m pc ls st0) rest (va_Qv post B A1 a) (vx_X px BX AX) free) (hS : va_S A0 H0 H locs) (hA : ∀ q, q < H.size → A1 q → A0 q) (hf : ∀ q, free q → A0 q) (hAX : ∀ q, q < H.size → AX q → A0 q)
    (kx : ∀ (E : String) (ce : Cell) (q9 : Addr) (u : SX) (t : State) (H1 : Heap) (locs1 : List Loc), t.heap = H1 → s.vm.Alike t.vm → px u → BX E u t → H.size ≤ H1.size → (∀ q : Nat, q < H.size → ¬ AX q → H1[q]? = H[q]?) → va_S A0 H0 H1 locs1 → H1[q9]? = some ce → ce.vm = .none → s.vm.findClass E = some ce.cls → vx_W p l e R s m args below meth c H1 locs1 (cells + mc) (slots + ms) Q (F0 m pc ls rest) q9)
    (kk : ∀ (u : S) (t : State) (H1 : Heap) (locs1 : List Loc), t.heap = H1 → s.vm.Alike t.vm → post u → B u t → H.size ≤ H1.size → (∀ q : Nat, q < H.size → ¬ A1 q → H1[q]? = H[q]?) → va_S A0 H0 H1 locs1 → W p l e R s m args below meth c H1 locs1 (cells + mc) (slots + ms) Q (F0 m (pc + 3) ls (rest))) : W p l e R s m args below meth c H locs cells slots Q (F0 m pc ls st0) := by
  intro T hT X
  rcases hr T hT X with ⟨v, st₀, t, T', L, h0, X', hL, e1, e2, ⟨⟨u, hv, hp, hb⟩, hF⟩, st⟩ | ⟨q, st₀, t, T', L, E, ce, h0, X', hL, e1, e2, ⟨u, hp, hb, hF⟩, hce, hcv, hcl, st⟩
  · cases hv
    obtain ⟨k1, k2, k3⟩ := vx_keep h0 e1 hS hA hf hL hF
    obtain ⟨t2, a1, b1⟩ := kk u t T'.heap (locs ++ L) e1.symm (by rw [← e2]; exact X'.warmed.alike) hp hb k1 k2 k3 T' rfl X'
    exact ⟨t2, st t2 a1, b1⟩
  · obtain ⟨k1, k2, k3⟩ := vx_keep h0 e1 hS hAX hf hL hF
    obtain ⟨t2, a1, b1⟩ := kx E ce q u t T'.heap (locs ++ L) e1.symm (by rw [← e2]; exact X'.warmed.alike) hp hb k1 k2 k3 (by rw [e1]; exact hce) hcv hcl T' rfl X'
    exact ⟨t2, st.trans a1, b1⟩
/-- caught by the row x of this method's table; the rows ahead don't take it -/
theorem vx_catch {own name : String} {E : String} {ce : Cell} {q : Addr} (hown : s.vm.findClass own = some m.cls) (pre : List ExceptionTableEntry) (x : ExceptionTableEntry) (suf : List ExceptionTableEntry) (hsplit : c.exceptionTable.toList = pre ++ x :: suf)
    (hpass : ∀ z ∈ pre, covers z pc = false ∨ (z.catchType ≠ 0 ∧ ∃ nm : String, (Cond.classLink own z.catchType nm).before args s = true ∧ va_Nc E nm s)) (hx : covers x pc = true) (h0 : x.catchType ≠ 0)
    (hlink : (Cond.classLink own x.catchType name).before args s = true) (hcast : (Cond.castable E name).before args s = true) (hcell : H[q]? = some ce) (hv : ce.vm = .none) (hcl : s.vm.findClass E = some ce.cls)
    (kk : W p l e R s m args below meth c H locs cells slots Q (F0 m x.handlerPc ls [.ref q])) : vx_W p l e R s m args below meth c H locs cells slots Q (F0 m pc ls rest) q := by
  intro T hT X
  have hpl : e.platform.magicAccessors = ({} : Platform).magicAccessors := by rw [X.admits.platform]
  obtain ⟨c3, c4, hc3, hc4, hasg⟩ := Cond.castable_spec hcast
  cases Option.some.inj (hc3.symm.trans hcl)
  obtain ⟨c5, hc5, hcl5⟩ := Cond.classLink_spec hown hlink e.platform hpl
  cases Option.some.inj (hc4.symm.trans hc5)
  obtain ⟨vm', X', st⟩ := X.thenCaughtThrough q (g := F0 m pc ls rest) rfl (Steps.refl _) (by rw [hT]; exact hcell) (by rw [hv]; rfl) (by obtain ⟨k9, h9, -⟩ := Vm.findClass_spec hcl; exact ⟨k9, h9⟩) pre x suf hsplit
    (fun z hz => by
      rcases hpass z hz with h | ⟨hz0, nm, hl1, hn1⟩
      · exact Or.inl h
      · obtain ⟨c6, hc6, hcl6⟩ := Cond.classLink_spec hown hl1 e.platform hpl
        obtain ⟨a8, b8, h1, h2, h3⟩ := hn1
        cases Option.some.inj (h1.symm.trans hcl)
        cases Option.some.inj (h2.symm.trans hc6)
        exact Or.inr ⟨hz0, _, hcl6, h3⟩) hx (Or.inr ⟨h0, c4, hcl5, hasg⟩)
  obtain ⟨t, a1, b1⟩ := kk (T.setVm vm') hT X'
  exact ⟨t, st.trans a1, b1⟩
end Rows
section Ends
variable {p : Program} {l : Launch} {e : Env} {R : Room} {s : State} {m : MethodId} {args : Array Value} {below : List Frame} {meth : Method} {c : Code} {H : Heap} {locs : List Loc} {cells slots : Nat} {Q : State → Prop}
variable {mc ms : Nat} {free : Addr → Prop} {A0 A1 : Nat → Prop} {H0 : Heap} {a : Array Value} {ls : Array Slot} {st0 rest : List Value}
variable {Qc : Array Value → State → Outcome → State → Prop} {XC : String → State → State → Prop}
/-- what a body that may throw owes at its end -/
def vx_MQ (below : List Frame) (Qc : Array Value → State → Outcome → State → Prop) (XC : String → State → State → Prop) (a : Array Value) (s : State) (mc ms : Nat) (free : Addr → Prop) : State → Prop := fun t =>
  ∃ o, t.status = .running ∧ Ended t below o ∧ vx_Q Qc XC mc ms free a s o t
theorem vx_ret {g : JFrame} {mc ms : Nat} (k : W p l e R s m args below meth c H locs cells slots (MQ below Qc args s mc ms free) g) : W p l e R s m args below meth c H locs cells slots (vx_MQ below Qc XC args s mc ms free) g := by
  intro T hT X
  obtain ⟨t, a1, o, b1, b2, b3, b4⟩ := k T hT X
  exact ⟨t, a1, o, b1, b2, Or.inl ⟨b3, b4⟩⟩
/-- not caught here: it goes on to the caller -/
theorem vx_widen {g : JFrame} {q : Addr} {k n : Nat} (h1 : cells ≤ k) (h2 : slots ≤ n) (kk : vx_W p l e R s m args below meth c H locs k n Q g q) : vx_W p l e R s m args below meth c H locs cells slots Q g q := fun T hT X => kk T hT (stand_widen X h1 h2)
theorem vx_out {pc : Nat} {E : String} {ce : Cell} {q : Addr} {mc ms : Nat} (hout : ∀ x ∈ c.exceptionTable.toList, covers x pc = false) (hlocks : meth.locks = false) (hcell : H[q]? = some ce) (hv : ce.vm = .none) (hcl : s.vm.findClass E = some ce.cls)
    (hx : ∀ t : State, t.heap = H → s.vm.Alike t.vm → XC E s t) (hf : ∀ z ∈ locs, free z.base) (hc : cells ≤ mc) (hs : slots ≤ ms) :
    vx_W p l e R s m args below meth c H locs cells slots (vx_MQ below Qc XC args s mc ms free) (F0 m pc ls rest) q := by
  intro T hT X
  obtain ⟨st1, hrun, hend, hW, hsm⟩ := X.leaveThrown q (g := F0 m pc ls rest) rfl rfl rfl hout hlocks
  have hcell9 : (T.setFrames (.throwing q :: below)).heap[q]? = some ce := by
    show T.heap[q]? = some ce
    rw [hT]; exact hcell
  exact ⟨_, st1, .threw q, hrun, hend, Or.inr ⟨q, rfl, E, ce, locs, hx _ hT hW.alike, hcell9, hv, hcl, hW, hsm.mono hc hs, hf⟩⟩
theorem vx_frame {U : State} {k n : Nat} (h : s.sameButNew ({ U with vm := s.vm } : State) locs k n) : s.heap.size ≤ U.heap.size ∧ ∀ q : Nat, q < s.heap.size → (∀ z ∈ locs, z.base ≠ q) → U.heap[q]? = s.heap[q]? := by
  obtain ⟨-, h2, -, -, -, h6⟩ := h
  refine ⟨h2, fun q hq hz => ?_⟩
  obtain ⟨c9, e1, e2, e3, e4⟩ := h6 q _ (Array.getElem?_eq_getElem hq)
  have hs : c9.slots = (s.heap[q]).slots := Array.ext_getElem? fun i => e4 i fun hm => hz _ hm rfl
  have h9 : c9 = s.heap[q] := by
    rw [hs] at e2
    exact e2
  have e5 : U.heap[q]? = some c9 := e1
  rw [e5, h9, Array.getElem?_eq_getElem hq]
/-- the words of a throw but the four that speak of the heap -/
def vx_no (w : Cond) : Bool := decide (w ≠ .isRef (.static Bundle.tN "UNASSIGNED_STACK" Bundle.steD)) && decide (w ≠ .isRef (.static Bundle.tN "SUPPRESSED_SENTINEL" Bundle.listD)) && decide (w ≠ .laysStatic Bundle.tN "UNASSIGNED_STACK" Bundle.steD) && decide (w ≠ .laysStatic Bundle.tN "SUPPRESSED_SENTINEL" Bundle.listD)
def vx_at0 (own : String) (ic : Nat) (X : String) (names : List String) : List Cond := (Bundle.ownAtoms0 own ic X names).filter vx_no
def vx_atS (own : String) (ic : Nat) (X : String) (names : List String) : List Cond := (Bundle.ownAtoms own ic X names).filter vx_no
/-- a word that the tables alone decide, or a good one -/
def vx_ot (w : Cond) : Bool := w.onTables || goodWord w
theorem vx_ot_at {args a' : Array Value} {s U : State} {w : Cond} (hW : s.WarmedH U.vm) (hvm : s.vm = U.vm) (hg : vx_ot w = true) (h : w.before args s = true) : w.before a' U = true := by
  simp only [vx_ot, Bool.or_eq_true] at hg
  rcases hg with hg | hg
  · exact va_tabs hg hvm h
  · exact word_at hW (good_of_word hg) h
/-- a list's words: the good ones out of the method's own list, the others by premises of their own -/
theorem vx_hat {args : Array Value} {s : State} {L B : List Cond} (h1 : ∀ w ∈ L.filter goodWord, w.before args s = true) (h2 : ∀ w ∈ L.filter (fun w => !goodWord w), w ∈ B) (h3 : ∀ w ∈ B, w.before args s = true) : ∀ w ∈ L, w.before args s = true := by
  intro w hw
  by_cases g : goodWord w = true
  · exact h1 w (List.mem_filter.mpr ⟨hw, g⟩)
  · refine h3 w (h2 w (List.mem_filter.mpr ⟨hw, ?_⟩))
    show (!goodWord w) = true
    cases hgw : goodWord w
    · rfl
    · exact absurd hgw g
theorem vx_c {args : Array Value} {s : State} {w : Cond} {B : List Cond} (h : w.before args s = true) (t : ∀ w ∈ B, w.before args s = true) : ∀ w' ∈ w :: B, w'.before args s = true := fun w' h' => (List.mem_cons.mp h').elim (fun e => by rw [e]; exact h) (t w')
theorem vx_n {args : Array Value} {s : State} : ∀ w ∈ ([] : List Cond), w.before args s = true := fun _ h => nomatch h
theorem vx_own {args : Array Value} {s : State} {L : List Cond} (h1 : ∀ w ∈ L.filter vx_no, w.before args s = true)
    (hU : (Cond.isRef (.static Bundle.tN "UNASSIGNED_STACK" Bundle.steD)).before args s = true) (hN : (Cond.isRef (.static Bundle.tN "SUPPRESSED_SENTINEL" Bundle.listD)).before args s = true)
    (lU : (Cond.laysStatic Bundle.tN "UNASSIGNED_STACK" Bundle.steD).before args s = true) (lN : (Cond.laysStatic Bundle.tN "SUPPRESSED_SENTINEL" Bundle.listD).before args s = true) : ∀ w ∈ L, w.before args s = true := by
  intro w hw
  by_cases e1 : w = .isRef (.static Bundle.tN "UNASSIGNED_STACK" Bundle.steD)
  · rw [e1]; exact hU
  · by_cases e2 : w = .isRef (.static Bundle.tN "SUPPRESSED_SENTINEL" Bundle.listD)
    · rw [e2]; exact hN
    · by_cases e3 : w = .laysStatic Bundle.tN "UNASSIGNED_STACK" Bundle.steD
      · rw [e3]; exact lU
      · by_cases e4 : w = .laysStatic Bundle.tN "SUPPRESSED_SENTINEL" Bundle.listD
        · rw [e4]; exact lN
        · exact h1 w (List.mem_filter.mpr ⟨hw, by unfold vx_no; rw [decide_eq_true e1, decide_eq_true e2, decide_eq_true e3, decide_eq_true e4]; rfl⟩)
/-- where a static field lies, its class's statics cell in H -/
def vx_L (C n d : String) (A : Nat → Prop) (U : State) (H : Heap) : Prop := ∃ (c : ClassId) (k : Class) (i : Nat) (f : Field) (a : Nat) (cell : Cell), U.vm.findClass C = some c ∧ U.fieldFound? C n d = some (c, k, i, f) ∧ f.isStatic = true ∧ k.statics = some a ∧ H[a]? = some cell ∧ cell.vm.isStatics = true ∧ cell.cls = c ∧ f.slot < cell.slots.size ∧ k.staticTypes[f.slot]? = some f.type ∧ ¬ A a
theorem vx_L.moved {C n d : String} {A : Nat → Prop} {u U : State} {H : Heap} (hvm : u.vm.Alike U.vm) (h : vx_L C n d A u H) : vx_L C n d A U H := by
  obtain ⟨c, k, i, f, a, cell, h1, h2, h3, h4, h5, h6, h7, h8, h9, h10⟩ := h
  obtain ⟨k', hi', he⟩ := State.fieldFound?_setVm hvm h2
  exact ⟨c, k', i, f, a, cell, by rw [hvm.findClass]; exact h1, hi', h3, by rw [he]; exact h4, h5, h6, h7, h8, by rw [he]; exact h9, h10⟩
theorem vx_L.kept {C n d : String} {A : Nat → Prop} {U : State} {H H1 : Heap} (h : vx_L C n d A U H) (hq : ∀ a : Nat, a < H.size → ¬ A a → H1[a]? = H[a]?) : vx_L C n d A U H1 := by
  obtain ⟨c, k, i, f, a, cell, h1, h2, h3, h4, h5, h6, h7, h8, h9, h10⟩ := h
  exact ⟨c, k, i, f, a, cell, h1, h2, h3, h4, by rw [hq a (Array.getElem?_eq_some_iff.mp h5).1 h10]; exact h5, h6, h7, h8, h9, h10⟩
theorem vx_L.narrow {C n d : String} {A B : Nat → Prop} {U : State} {H : Heap} (h : vx_L C n d A U H) (hAB : ∀ q, B q → A q) : vx_L C n d B U H := by
  obtain ⟨c, k, i, f, a, cell, h1, h2, h3, h4, h5, h6, h7, h8, h9, h10⟩ := h
  exact ⟨c, k, i, f, a, cell, h1, h2, h3, h4, h5, h6, h7, h8, h9, fun z => h10 (hAB _ z)⟩
theorem vx_L.word {C n d : String} {A : Nat → Prop} {s : State} {args : Array Value} (h : vx_L C n d A s s.heap) : (Cond.laysStatic C n d).before args s = true := by
  obtain ⟨c, k, i, f, a, cell, h1, h2, h3, h4, h5, h6, h7, h8, h9, -⟩ := h
  show (Cond.laysStatic C n d).holds args s none s [] = true
  exact Cond.laysStatic_of h1 h2 h3 h4 h5 h6 h7 h8 h9
/-- .. and what it holds: null or some reference -/
def vx_Zq (C n d : String) (A : Nat → Prop) (U : State) (H : Heap) : Prop := va_Zq C n d A U H ∧ vx_L C n d A U H
theorem vx_Zq.moved {C n d : String} {A : Nat → Prop} {u U : State} {H : Heap} (hvm : u.vm.Alike U.vm) (h : vx_Zq C n d A u H) : vx_Zq C n d A U H := ⟨va_Zq.moved hvm h.1, vx_L.moved hvm h.2⟩
theorem vx_Zq.kept {C n d : String} {A : Nat → Prop} {U : State} {H H1 : Heap} (h : vx_Zq C n d A U H) (hq : ∀ a : Nat, a < H.size → ¬ A a → H1[a]? = H[a]?) : vx_Zq C n d A U H1 := ⟨va_Zq.kept h.1 hq, vx_L.kept h.2 hq⟩
theorem vx_Zq.narrow {C n d : String} {A B : Nat → Prop} {U : State} {H : Heap} (h : vx_Zq C n d A U H) (hAB : ∀ q, B q → A q) : vx_Zq C n d B U H := ⟨va_Zq.narrow h.1 hAB, vx_L.narrow h.2 hAB⟩
theorem vx_Zqof {args : Array Value} {s : State} {C n d : String} {A : Nat → Prop} (hl : (Cond.laysStatic C n d).before args s = true) (hini : (Cond.initialized C).before args s = true) (h : (Cond.isRef (.static C n d)).before args s = true) (hA : ∀ a : Nat, a < s.heap.size → ¬ A a) : vx_Zq C n d A s s.heap := by
  refine ⟨va_Zqof hl hini h hA, ?_⟩
  obtain ⟨c, k, i, f, a, cell, h1, h2, h3, h4, h5, h6, h7, h8, h9⟩ := Cond.laysStatic_spec hl
  exact ⟨c, k, i, f, a, cell, h1, h2, h3, h4, h5, h6, h7, h8, h9, hA a (Array.getElem?_eq_some_iff.mp h5).1⟩
theorem vx_isRef {C n d : String} {v : Value} {A : Nat → Prop} {s : State} {args : Array Value} (h : va_Z C n d v A s s.heap) (hv : v.isRef = true) : (Cond.isRef (.static C n d)).before args s = true := by
  obtain ⟨cf, kf, fi, f, a, cell, h1, h2, h3, h4, h5, h6, h7, -⟩ := h
  have he : (Term.static C n d).eval args s none [] s = some v := by
    simp [Term.eval, State.fieldNamed?, h1, h2, h4, h5, h6, h7]
  simp only [Cond.before, Cond.holds, Cond.value, he]
  cases v <;> simp_all [Value.isRef]
theorem vx_isRefq {C n d : String} {A : Nat → Prop} {s : State} {args : Array Value} (h : va_Zq C n d A s s.heap) : (Cond.isRef (.static C n d)).before args s = true := by
  rcases h with h | ⟨t, h⟩
  · exact vx_isRef h rfl
  · exact vx_isRef h rfl
/-- the same frame, seen from here: as if the method were called anew in this heap -/
theorem vx_rebase {T : State} (X : Stand p l e R s m args below meth c T locs cells slots) {R' : Room} (hf : R'.frames ≤ R.frames) (hl : R'.locals ≤ R.locals) (hc : cells + R'.cells ≤ R.cells) (hs : slots + R'.slots ≤ R.slots) :
    Stand p l e R' ((T.setVm s.vm).setFrames (.invoking m args :: below)) m args below meth c T [] 0 0 := by
  have htop : (T.setVm s.vm).topJava?.isSome := X.here.top
  have hF : ((T.setVm s.vm).setFrames (.invoking m args :: below)).frames = .invoking m args :: below := State.frames_setFrames _ (State.cur_lt_of_top htop)
  obtain ⟨g₀, hg0⟩ := Option.isSome_iff_exists.mp htop
  obtain ⟨r, hr⟩ := State.topJava?_eq_some.mp hg0
  have hl9 : e.platform.stackLimits (T.setVm s.vm).me = e.platform.stackLimits s.me := X.limits
  have hb9 : (T.setVm s.vm).me.stackBytes = s.me.stackBytes := X.bytes
  refine ⟨X.admits, X.cas, X.clock, hF, ?_, X.hears, X.method, X.code, X.here, X.tail, X.warmed, ?_, ?_, ?_⟩
  · have h := X.room
    have hU : ((T.setVm s.vm).setFrames (.invoking m args :: below)).localsInUse = s.localsInUse := by
      rw [State.localsInUse_invoking hF (meth := meth) (c := c) X.method X.code, State.localsInUse_invoking X.frames X.method X.code]
    simp only [State.hasRoom, Bool.and_eq_true, decide_eq_true_eq] at h ⊢
    obtain ⟨⟨⟨⟨h1, h2, h3, h4, h5, h6⟩, h7⟩, h8⟩, h9⟩ := h
    rw [X.frames, List.length_cons] at h2 h3
    have q1 := X.heapSize
    have q2 := X.used
    simp only [hF, hU, List.length_cons, State.stackLimits_setFrames, State.stackBytes_setFrames, hl9, hb9]
    refine ⟨⟨⟨⟨by omega, by omega, by omega, by omega, by omega, h6⟩, ?_⟩, ?_⟩, X.book⟩
    · show T.heap.size + R'.cells ≤ e.platform.maxCells
      omega
    · show T.slotsUsed + R'.slots ≤ e.platform.maxSlots
      omega
  · rw [State.stackLimits_setFrames]; rfl
  · rw [State.stackBytes_setFrames]; rfl
  · refine ⟨?_, Nat.le_refl _, Nat.le_refl _, ?_, ?_, fun a c9 h9 => ⟨c9, h9, rfl, rfl, fun _ _ => rfl⟩⟩
    · obtain ⟨t, ht, -⟩ := State.frames_cons hr
      show T.setVm s.vm = { ((T.setVm s.vm).setFrames (.invoking m args :: below)).setFrames (T.setVm s.vm).frames with heap := T.heap, slotsUsed := T.slotsUsed }
      rw [State.setFrames_setFrames, State.setFrames_self ht]
      rfl
    · show T.slotsUsed = T.slotsUsed + ((T.heap.toList.drop T.heap.size).map (·.slots.size)).sum
      rw [List.drop_eq_nil_of_le (Nat.le_of_eq Array.length_toList)]
      rfl
    · show ((T.heap.toList.drop T.heap.size).map (·.slots.size)).sum ≤ 0
      rw [List.drop_eq_nil_of_le (Nat.le_of_eq Array.length_toList)]
      exact Nat.le_refl _
/-- 'throw new E()': new; dup; invokespecial; athrow -/
theorem vx_throw0 {cc : ByteArray} {pc : Nat} (hexec : p.tables.exec = Jvm.exec) (hb : c.code = cc) (hl : l.stackTraces = false) {own cls : String} {names : List String} {ik ic mc ms : Nat} {A : Nat → Prop}
    (hown : s.vm.findClass own = some m.cls) (hcls : Bundle.fit cls = true) (hnames : ∀ n ∈ names, Bundle.fit n = true)
    (hk : (Cond.classLink own ik cls).before args s = true) (hini : (Cond.initialized cls).before args s = true) (hat : ∀ w ∈ vx_at0 own ic cls names, w.before args s = true)
    (hgood : ∀ w ∈ Cond.classLink own ik cls :: Cond.initialized cls :: vx_at0 own ic cls names, vx_ot w = true)
    (hU : vx_Zq Bundle.tN "UNASSIGNED_STACK" Bundle.steD A s s.heap) (hN : vx_Zq Bundle.tN "SUPPRESSED_SENTINEL" Bundle.listD A s s.heap) (hS : va_S A s.heap H locs) (hsize : ls.size = c.maxLocals)
    (d0 : decode cc pc = .ok (.new ik, 3)) (d3 : decode cc (pc + 3) = .ok (.dup, 1)) (d4 : decode cc (pc + 4) = .ok (.invokespecial ic, 3)) (d7 : decode cc (pc + 7) = .ok (.athrow, 1))
    (hout : ∀ x ∈ c.exceptionTable.toList, covers x (pc + 7) = false)
    (hRframes : names.length + 3 < R.frames) (hRlocals : (rest.map fun v => v.category).sum + (13 * (names.length + 1) + 42) ≤ R.locals) (hRcells : cells + 1 ≤ R.cells) (hRslots : slots + 6 ≤ R.slots) (hlocks : meth.locks = false)
    (hx : ∀ t : State, s.vm.Alike t.vm → H.size ≤ t.heap.size → (∀ q : Nat, q < H.size → t.heap[q]? = H[q]?) → XC cls s t)
    (hf : ∀ z ∈ locs, free z.base) (hc : cells + 1 ≤ mc) (hs : slots + 6 ≤ ms) :
    W p l e R s m args below meth c H locs cells slots (vx_MQ below Qc XC args s mc ms free) (F0 m pc ls rest) := by
  intro T hT X
  have htr : e.platform.stackTraces = false := (show e.platform.stackTraces = l.stackTraces by rw [X.admits.platform]).trans hl
  have Y := vx_rebase X (R' := { frames := R.frames, locals := R.locals, cells := 1, slots := 6 }) (Nat.le_refl _) (Nat.le_refl _) hRcells hRslots
  obtain ⟨s', hA⟩ : ∃ z, z = (T.setVm s.vm).setFrames (.invoking m args :: below) := ⟨_, rfl⟩
  rw [← hA] at Y
  have hvm : s'.vm = s.vm := by rw [hA]; rfl
  have hhp : s'.heap = H := by rw [hA]; exact hT
  have hW0 : s.WarmedH s'.vm := by rw [hvm]; exact State.WarmedH.refl s
  have hat' : ∀ w ∈ vx_at0 own ic cls names, w.before args s' = true := fun w hw => vx_ot_at hW0 hvm.symm (hgood w (List.mem_cons_of_mem _ (List.mem_cons_of_mem _ hw))) (hat w hw)
  have hk' : (Cond.classLink own ik cls).before args s' = true := vx_ot_at hW0 hvm.symm (hgood _ List.mem_cons_self) hk
  have hini' : (Cond.initialized cls).before args s' = true := vx_ot_at hW0 hvm.symm (hgood _ (List.mem_cons_of_mem _ List.mem_cons_self)) hini
  have hU' : vx_Zq Bundle.tN "UNASSIGNED_STACK" Bundle.steD A s' s'.heap := by rw [hhp]; exact vx_Zq.moved hW0.alike (hU.kept hS.2.1)
  have hN' : vx_Zq Bundle.tN "SUPPRESSED_SENTINEL" Bundle.listD A s' s'.heap := by rw [hhp]; exact vx_Zq.moved hW0.alike (hN.kept hS.2.1)
  have h : ∀ w ∈ Bundle.ownAtoms0 own ic cls names, w.before args s' = true := vx_own hat' (vx_isRefq hU'.1) (vx_isRefq hN'.1) hU'.2.word hN'.2.word
  have hown' : s'.vm.findClass own = some m.cls := by rw [hvm]; exact hown
  have hins : (Cond.instantiable cls 6).before args s' = true := h _ (by simp [Bundle.ownAtoms0])
  obtain ⟨vm₁, cX, kX, hfX, hkX, -, -, X₁, st1⟩ := Y.newCold hexec (own := own) (C := cls) (index := ik) (n := 6) hown' hk' hins hini'
    (g := F0 m pc ls rest) rfl (by rw [hb]; exact d0) (Nat.le_refl _) (Nat.le_refl _)
  generalize hT1 : (T.setVm vm₁).pushCell { cls := cX, slots := kX.instanceTypes.map defaultValue, vm := .none } = T1 at X₁ st1
  have hcat : (Value.ref T.heap.size).category = 1 := rfl
  have hcellA : T1.heap[T.heap.size]? = some (freshCell cX kX) := by rw [← hT1]; exact State.heap_pushCell_size _ _
  have d3' : decode c.code (pc + 3) = .ok (.dup, 1) := by rw [hb]; exact d3
  obtain ⟨U, hsteps, hrun, hend, hW, hsame, ce, hce, hO⟩ := X₁.ctorThrow0 hexec htr (own := own) (cls := cls) (names := names) (ic := ic) hown' hcls hnames h (fun x hx => nomatch hx) hfX hkX hcellA (by rw [hhp, hT]; exact Nat.le_refl _)
    (g := { method := m, pc := pc + 4, locals := ls, stack := .ref T.heap.size :: .ref T.heap.size :: rest, locked := none }) rfl hsize rfl rfl (rest := rest) rfl
    (by rw [hb]; exact d4) (by rw [hb]; exact d7) hout hRframes (by simp only [List.map_cons, List.sum_cons, hcat]; omega) hlocks
  obtain ⟨f1, f2⟩ := vx_frame hsame
  rw [hhp] at f1 f2
  have hWs : s.WarmedH U.vm := State.WarmedH.trans hW0 hW
  have hcl : s.vm.findClass cls = some ce.cls := by
    have h9 := hO.cls
    rw [hvm] at h9
    exact h9
  have hall : s.sameButNew ({ U with vm := s.vm } : State) locs mc ms := by
    subst hA
    obtain ⟨e1, e2⟩ := hsame
    rw [State.setFrames_setFrames] at e1
    have h2 : (T.setVm s.vm).sameButNew ({ U with vm := s.vm } : State) [] (0 + 1) (0 + 6) := ⟨e1, e2⟩
    have h3 := X.same.trans h2
    rw [List.append_nil] at h3
    exact h3.mono hc hs
  refine ⟨U, ?_, .threw T.heap.size, hrun, hend, Or.inr ⟨T.heap.size, rfl, cls, ce, locs, hx U hWs.alike f1 (fun q hq => f2 q hq (fun z hz => nomatch hz)), hce, hO.vm, hcl, hWs, hall, hf⟩⟩
  refine st1 _ ?_
  show Steps p.tables e below (T1.setTop { method := m, pc := pc + 3, locals := ls, stack := .ref T.heap.size :: rest, locked := none }) _
  jvm_step X₁.here [X₁.here.top, hexec, d3', Value.category]
  exact hsteps
/-- 'throw new E("text")': new; dup; ldc; invokespecial; athrow -/
theorem vx_throwS {cc : ByteArray} {pc : Nat} (hexec : p.tables.exec = Jvm.exec) (hb : c.code = cc) (hl : l.stackTraces = false) {own cls text : String} {names : List String} {ik is ic mc ms sa : Nat} {A : Nat → Prop}
    (hown : s.vm.findClass own = some m.cls) (hcls : Bundle.fit cls = true) (hnames : ∀ n ∈ names, Bundle.fit n = true)
    (hk : (Cond.classLink own ik cls).before args s = true) (hini : (Cond.initialized cls).before args s = true) (hstr : vk_R own is text sa s) (hat : ∀ w ∈ vx_atS own ic cls names, w.before args s = true)
    (hgood : ∀ w ∈ Cond.classLink own ik cls :: Cond.initialized cls :: vx_atS own ic cls names, vx_ot w = true)
    (hU : vx_Zq Bundle.tN "UNASSIGNED_STACK" Bundle.steD A s s.heap) (hN : vx_Zq Bundle.tN "SUPPRESSED_SENTINEL" Bundle.listD A s s.heap) (hS : va_S A s.heap H locs) (hsize : ls.size = c.maxLocals)
    (d0 : decode cc pc = .ok (.new ik, 3)) (d3 : decode cc (pc + 3) = .ok (.dup, 1)) (d4 : decode cc (pc + 4) = .ok (.ldc is, 2)) (d6 : decode cc (pc + 6) = .ok (.invokespecial ic, 3)) (d9 : decode cc (pc + 9) = .ok (.athrow, 1))
    (hout : ∀ x ∈ c.exceptionTable.toList, covers x (pc + 9) = false)
    (hRframes : names.length + 3 < R.frames) (hRlocals : (rest.map fun v => v.category).sum + (13 * (names.length + 1) + 43) ≤ R.locals) (hRcells : cells + 1 ≤ R.cells) (hRslots : slots + 6 ≤ R.slots) (hlocks : meth.locks = false)
    (hx : ∀ t : State, s.vm.Alike t.vm → H.size ≤ t.heap.size → (∀ q : Nat, q < H.size → t.heap[q]? = H[q]?) → XC cls s t)
    (hf : ∀ z ∈ locs, free z.base) (hc : cells + 1 ≤ mc) (hs : slots + 6 ≤ ms) :
    W p l e R s m args below meth c H locs cells slots (vx_MQ below Qc XC args s mc ms free) (F0 m pc ls rest) := by
  intro T hT X
  have htr : e.platform.stackTraces = false := (show e.platform.stackTraces = l.stackTraces by rw [X.admits.platform]).trans hl
  have Y := vx_rebase X (R' := { frames := R.frames, locals := R.locals, cells := 1, slots := 6 }) (Nat.le_refl _) (Nat.le_refl _) hRcells hRslots
  obtain ⟨s', hA⟩ : ∃ z, z = (T.setVm s.vm).setFrames (.invoking m args :: below) := ⟨_, rfl⟩
  rw [← hA] at Y
  have hvm : s'.vm = s.vm := by rw [hA]; rfl
  have hhp : s'.heap = H := by rw [hA]; exact hT
  have hW0 : s.WarmedH s'.vm := by rw [hvm]; exact State.WarmedH.refl s
  have hat' : ∀ w ∈ vx_atS own ic cls names, w.before args s' = true := fun w hw => vx_ot_at hW0 hvm.symm (hgood w (List.mem_cons_of_mem _ (List.mem_cons_of_mem _ hw))) (hat w hw)
  have hk' : (Cond.classLink own ik cls).before args s' = true := vx_ot_at hW0 hvm.symm (hgood _ List.mem_cons_self) hk
  have hini' : (Cond.initialized cls).before args s' = true := vx_ot_at hW0 hvm.symm (hgood _ (List.mem_cons_of_mem _ List.mem_cons_self)) hini
  have hU' : vx_Zq Bundle.tN "UNASSIGNED_STACK" Bundle.steD A s' s'.heap := by rw [hhp]; exact vx_Zq.moved hW0.alike (hU.kept hS.2.1)
  have hN' : vx_Zq Bundle.tN "SUPPRESSED_SENTINEL" Bundle.listD A s' s'.heap := by rw [hhp]; exact vx_Zq.moved hW0.alike (hN.kept hS.2.1)
  have h : ∀ w ∈ Bundle.ownAtoms own ic cls names, w.before args s' = true := vx_own hat' (vx_isRefq hU'.1) (vx_isRefq hN'.1) hU'.2.word hN'.2.word
  have hown' : s'.vm.findClass own = some m.cls := by rw [hvm]; exact hown
  have hins : (Cond.instantiable cls 6).before args s' = true := h _ (by simp [Bundle.ownAtoms])
  obtain ⟨vm₁, cX, kX, hfX, hkX, -, -, X₁, st1⟩ := Y.newCold hexec (own := own) (C := cls) (index := ik) (n := 6) hown' hk' hins hini'
    (g := F0 m pc ls rest) rfl (by rw [hb]; exact d0) (Nat.le_refl _) (Nat.le_refl _)
  generalize hT1 : (T.setVm vm₁).pushCell { cls := cX, slots := kX.instanceTypes.map defaultValue, vm := .none } = T1 at X₁ st1
  have hcat : (Value.ref T.heap.size).category = 1 := rfl
  have hcellA : T1.heap[T.heap.size]? = some (freshCell cX kX) := by rw [← hT1]; exact State.heap_pushCell_size _ _
  have d3' : decode c.code (pc + 3) = .ok (.dup, 1) := by rw [hb]; exact d3
  have d4' : decode c.code (pc + 4) = .ok (.ldc is, 2) := by rw [hb]; exact d4
  have hstr' : vk_R own is text sa s' := vk_R.warm hW0 hstr
  obtain ⟨U, hsteps, hrun, hend, hW, hsame, ce, hce, hO⟩ := X₁.ctorThrowS hexec htr (own := own) (cls := cls) (names := names) (ic := ic) hown' hcls hnames h (fun x hx => nomatch hx) hfX hkX hcellA (by rw [hhp, hT]; exact Nat.le_refl _) (msg := .ref sa) rfl
    (g := { method := m, pc := pc + 6, locals := ls, stack := .ref sa :: .ref T.heap.size :: .ref T.heap.size :: rest, locked := none }) rfl hsize rfl rfl (rest := rest) rfl
    (by rw [hb]; exact d6) (by rw [hb]; exact d9) hout hRframes (by simp only [List.map_cons, List.sum_cons, hcat]; omega) hlocks
  obtain ⟨f1, f2⟩ := vx_frame hsame
  rw [hhp] at f1 f2
  have hWs : s.WarmedH U.vm := State.WarmedH.trans hW0 hW
  have hcl : s.vm.findClass cls = some ce.cls := by
    have h9 := hO.cls
    rw [hvm] at h9
    exact h9
  have hall : s.sameButNew ({ U with vm := s.vm } : State) locs mc ms := by
    subst hA
    obtain ⟨e1, e2⟩ := hsame
    rw [State.setFrames_setFrames] at e1
    have h2 : (T.setVm s.vm).sameButNew ({ U with vm := s.vm } : State) [] (0 + 1) (0 + 6) := ⟨e1, e2⟩
    have h3 := X.same.trans h2
    rw [List.append_nil] at h3
    exact h3.mono hc hs
  refine ⟨U, ?_, .threw T.heap.size, hrun, hend, Or.inr ⟨T.heap.size, rfl, cls, ce, locs, hx U hWs.alike f1 (fun q hq => f2 q hq (fun z hz => nomatch hz)), hce, hO.vm, hcl, hWs, hall, hf⟩⟩
  refine st1 _ ?_
  show Steps p.tables e below (T1.setTop { method := m, pc := pc + 3, locals := ls, stack := .ref T.heap.size :: rest, locked := none }) _
  jvm_step X₁.here [X₁.here.top, hexec, d3', Value.category]
  exact X₁.ldcString hexec (own := own) (text := text) (index := is) (a := sa) hown' hstr'.1 hstr'.2
    (g := { method := m, pc := pc + 4, locals := ls, stack := .ref T.heap.size :: .ref T.heap.size :: rest, locked := none }) rfl d4' _ hsteps
/-- 'throw new E("text")', the text by a wide index -/
theorem vx_throwSW {cc : ByteArray} {pc : Nat} (hexec : p.tables.exec = Jvm.exec) (hb : c.code = cc) (hl : l.stackTraces = false) {own cls text : String} {names : List String} {ik is ic mc ms sa : Nat} {A : Nat → Prop}
    (hown : s.vm.findClass own = some m.cls) (hcls : Bundle.fit cls = true) (hnames : ∀ n ∈ names, Bundle.fit n = true)
    (hk : (Cond.classLink own ik cls).before args s = true) (hini : (Cond.initialized cls).before args s = true) (hstr : vk_R own is text sa s) (hat : ∀ w ∈ vx_atS own ic cls names, w.before args s = true)
    (hgood : ∀ w ∈ Cond.classLink own ik cls :: Cond.initialized cls :: vx_atS own ic cls names, vx_ot w = true)
    (hU : vx_Zq Bundle.tN "UNASSIGNED_STACK" Bundle.steD A s s.heap) (hN : vx_Zq Bundle.tN "SUPPRESSED_SENTINEL" Bundle.listD A s s.heap) (hS : va_S A s.heap H locs) (hsize : ls.size = c.maxLocals)
    (d0 : decode cc pc = .ok (.new ik, 3)) (d3 : decode cc (pc + 3) = .ok (.dup, 1)) (d4 : decode cc (pc + 4) = .ok (.ldc_w is, 3)) (d7 : decode cc (pc + 7) = .ok (.invokespecial ic, 3)) (d10 : decode cc (pc + 10) = .ok (.athrow, 1))
    (hout : ∀ x ∈ c.exceptionTable.toList, covers x (pc + 10) = false)
    (hRframes : names.length + 3 < R.frames) (hRlocals : (rest.map fun v => v.category).sum + (13 * (names.length + 1) + 43) ≤ R.locals) (hRcells : cells + 1 ≤ R.cells) (hRslots : slots + 6 ≤ R.slots) (hlocks : meth.locks = false)
    (hx : ∀ t : State, s.vm.Alike t.vm → H.size ≤ t.heap.size → (∀ q : Nat, q < H.size → t.heap[q]? = H[q]?) → XC cls s t)
    (hf : ∀ z ∈ locs, free z.base) (hc : cells + 1 ≤ mc) (hs : slots + 6 ≤ ms) :
    W p l e R s m args below meth c H locs cells slots (vx_MQ below Qc XC args s mc ms free) (F0 m pc ls rest) := by
  intro T hT X
  have htr : e.platform.stackTraces = false := (show e.platform.stackTraces = l.stackTraces by rw [X.admits.platform]).trans hl
  have Y := vx_rebase X (R' := { frames := R.frames, locals := R.locals, cells := 1, slots := 6 }) (Nat.le_refl _) (Nat.le_refl _) hRcells hRslots
  obtain ⟨s', hA⟩ : ∃ z, z = (T.setVm s.vm).setFrames (.invoking m args :: below) := ⟨_, rfl⟩
  rw [← hA] at Y
  have hvm : s'.vm = s.vm := by rw [hA]; rfl
  have hhp : s'.heap = H := by rw [hA]; exact hT
  have hW0 : s.WarmedH s'.vm := by rw [hvm]; exact State.WarmedH.refl s
  have hat' : ∀ w ∈ vx_atS own ic cls names, w.before args s' = true := fun w hw => vx_ot_at hW0 hvm.symm (hgood w (List.mem_cons_of_mem _ (List.mem_cons_of_mem _ hw))) (hat w hw)
  have hk' : (Cond.classLink own ik cls).before args s' = true := vx_ot_at hW0 hvm.symm (hgood _ List.mem_cons_self) hk
  have hini' : (Cond.initialized cls).before args s' = true := vx_ot_at hW0 hvm.symm (hgood _ (List.mem_cons_of_mem _ List.mem_cons_self)) hini
  have hU' : vx_Zq Bundle.tN "UNASSIGNED_STACK" Bundle.steD A s' s'.heap := by rw [hhp]; exact vx_Zq.moved hW0.alike (hU.kept hS.2.1)
  have hN' : vx_Zq Bundle.tN "SUPPRESSED_SENTINEL" Bundle.listD A s' s'.heap := by rw [hhp]; exact vx_Zq.moved hW0.alike (hN.kept hS.2.1)
  have h : ∀ w ∈ Bundle.ownAtoms own ic cls names, w.before args s' = true := vx_own hat' (vx_isRefq hU'.1) (vx_isRefq hN'.1) hU'.2.word hN'.2.word
  have hown' : s'.vm.findClass own = some m.cls := by rw [hvm]; exact hown
  have hins : (Cond.instantiable cls 6).before args s' = true := h _ (by simp [Bundle.ownAtoms])
  obtain ⟨vm₁, cX, kX, hfX, hkX, -, -, X₁, st1⟩ := Y.newCold hexec (own := own) (C := cls) (index := ik) (n := 6) hown' hk' hins hini'
    (g := F0 m pc ls rest) rfl (by rw [hb]; exact d0) (Nat.le_refl _) (Nat.le_refl _)
  generalize hT1 : (T.setVm vm₁).pushCell { cls := cX, slots := kX.instanceTypes.map defaultValue, vm := .none } = T1 at X₁ st1
  have hcat : (Value.ref T.heap.size).category = 1 := rfl
  have hcellA : T1.heap[T.heap.size]? = some (freshCell cX kX) := by rw [← hT1]; exact State.heap_pushCell_size _ _
  have d3' : decode c.code (pc + 3) = .ok (.dup, 1) := by rw [hb]; exact d3
  have d4' : decode c.code (pc + 4) = .ok (.ldc_w is, 3) := by rw [hb]; exact d4
  have hstr' : vk_R own is text sa s' := vk_R.warm hW0 hstr
  obtain ⟨U, hsteps, hrun, hend, hW, hsame, ce, hce, hO⟩ := X₁.ctorThrowS hexec htr (own := own) (cls := cls) (names := names) (ic := ic) hown' hcls hnames h (fun x hx => nomatch hx) hfX hkX hcellA (by rw [hhp, hT]; exact Nat.le_refl _) (msg := .ref sa) rfl
    (g := { method := m, pc := pc + 7, locals := ls, stack := .ref sa :: .ref T.heap.size :: .ref T.heap.size :: rest, locked := none }) rfl hsize rfl rfl (rest := rest) rfl
    (by rw [hb]; exact d7) (by rw [hb]; exact d10) hout hRframes (by simp only [List.map_cons, List.sum_cons, hcat]; omega) hlocks
  obtain ⟨f1, f2⟩ := vx_frame hsame
  rw [hhp] at f1 f2
  have hWs : s.WarmedH U.vm := State.WarmedH.trans hW0 hW
  have hcl : s.vm.findClass cls = some ce.cls := by
    have h9 := hO.cls
    rw [hvm] at h9
    exact h9
  have hall : s.sameButNew ({ U with vm := s.vm } : State) locs mc ms := by
    subst hA
    obtain ⟨e1, e2⟩ := hsame
    rw [State.setFrames_setFrames] at e1
    have h2 : (T.setVm s.vm).sameButNew ({ U with vm := s.vm } : State) [] (0 + 1) (0 + 6) := ⟨e1, e2⟩
    have h3 := X.same.trans h2
    rw [List.append_nil] at h3
    exact h3.mono hc hs
  refine ⟨U, ?_, .threw T.heap.size, hrun, hend, Or.inr ⟨T.heap.size, rfl, cls, ce, locs, hx U hWs.alike f1 (fun q hq => f2 q hq (fun z hz => nomatch hz)), hce, hO.vm, hcl, hWs, hall, hf⟩⟩
  refine st1 _ ?_
  show Steps p.tables e below (T1.setTop { method := m, pc := pc + 3, locals := ls, stack := .ref T.heap.size :: rest, locked := none }) _
  jvm_step X₁.here [X₁.here.top, hexec, d3', Value.category]
  exact X₁.ldcStringW hexec (own := own) (text := text) (index := is) (a := sa) hown' hstr'.1 hstr'.2
    (g := { method := m, pc := pc + 4, locals := ls, stack := .ref T.heap.size :: .ref T.heap.size :: rest, locked := none }) rfl d4' _ hsteps
end Ends
section Bodies
variable {l : Launch}
theorem vx_ofW {y : MethodName} {ws ws' : List Cond} {rm : Room} {Pc : Array Value → State → Prop} {Qc : Array Value → State → Outcome → State → Prop} {XC : String → State → State → Prop} {mc ms : Nat} {free : Addr → Prop} {cc : ByteArray} {maxL : Nat} {ret : Option FieldType}
    (hy : plainName y.cls = true) (hw : ws = Cond.code y cc maxL ret :: ws')
    (body : ∀ p e s m args below meth c s₁, BodyLoose p l y (headSpec ws rm) cc maxL ret e s m args below meth c s₁ → c.maxLocals = maxL → (∀ x ∈ c.exceptionTable.toList, False) → Pc args s →
      W p l e (headSpec ws rm).room s m args below meth c s.heap [] 0 0 (vx_MQ below Qc XC args s mc ms free) (entryFrame m args maxL)) : vx_Met l y ws rm Pc Qc XC mc ms free := by
  refine MetFree.of_bodyS (code := cc) (maxLocals := maxL) (ret := ret) hy ?_ ?_
  · intro args s m h hn
    obtain ⟨meth, c, h1, h2, h3, h4, h5, h6, -, -⟩ := Cond.code_spec hn (atoms_spec (ws := ws) h _ (by rw [hw]; exact List.mem_cons_self))
    exact ⟨meth, c, h1, h2, h3, h4, h5, h6⟩
  · intro p e s m args below meth c s₁ B hml hP _
    have hh0 : s₁.heap = s.heap := by rw [B.state]; rfl
    have ht : ∀ x ∈ c.exceptionTable.toList, False := by
      obtain ⟨meth9, c9, h1, h2, -, -, -, -, h7, -⟩ := Cond.code_spec B.named (atoms_spec (ws := ws) B.pre _ (by rw [hw]; exact List.mem_cons_self))
      cases Option.some.inj (h1.symm.trans B.method)
      cases Option.some.inj (h2.symm.trans (Stand.of_body B).code)
      intro x hx
      rw [Array.isEmpty_iff.mp h7] at hx
      cases hx
    obtain ⟨t, a1, o, b1, b2, b3⟩ := body p e s m args below meth c s₁ B hml ht hP s₁ hh0 (Stand.of_body B)
    exact ⟨t, o, a1, b1, b2, b3⟩
/-- the table of a body with handlers -/
theorem vx_table {p : Program} {x y : MethodName} {S : Spec} {cc bytes : ByteArray} {maxL maxL' : Nat} {ret ret' : Option FieldType} {e : Env} {s s₁ : State} {m : MethodId} {args : Array Value} {below : List Frame} {meth : Method} {c : Code} {hh : List (Nat × Nat × Nat × Nat)}
    (B : BodyLoose p l y S cc maxL ret e s m args below meth c s₁) (h : (Cond.codeWith y bytes maxL' ret' hh).before args s = true) : c.exceptionTable.toList = tableOf hh := by
  obtain ⟨m9, meth9, c9, hn9, h1, h2, -, -, h6, -⟩ := Cond.codeWith_spec h
  cases Option.some.inj (hn9.symm.trans B.named)
  cases Option.some.inj (h1.symm.trans B.method)
  cases Option.some.inj (h2.symm.trans (Stand.of_body B).code)
  rw [← h6, table_eq]
end Bodies
end VXA
/-! ===== END ===== -/
/-! ===== BEGIN a static call of a method with an exception table ===== -/
section VXS
variable {p : Program} {l : Launch} {e : Env} {R : Room} {s : State} {m : MethodId} {args : Array Value} {below : List Frame} {meth : Method} {c : Code} {T : State} {H : Heap} {locs : List Loc} {cells slots : Nat}
abbrev vx_CSW (R : Room) (s : State) (args : Array Value) (own : String) (index : Nat) (y : MethodName) (bytes : ByteArray) (maxL : Nat) (ret : Option FieldType) (hh : List (Nat × Nat × Nat × Nat)) (ws : List Cond) (rm : Room) (mc ms n : Nat) : Prop :=
  (rm.cells = mc ∧ rm.slots = ms ∧ rm.frames + 1 ≤ R.frames ∧ 8 + (maxL + 11) + rm.locals ≤ R.locals ∧ (∀ w ∈ ws, ∀ (a' : Array Value) (U : State), s.WarmedH U.vm → w.before a' U = true) ∧ Cond.codeWith y bytes maxL ret hh ∈ ws) ∧
  (Cond.codeWith y bytes maxL ret hh).before args s = true ∧ (Cond.initialized y.cls).before args s = true ∧ (y.cls ≠ "java/lang/invoke/MethodHandle" ∧ y.cls ≠ "java/lang/invoke/VarHandle") ∧
  (∀ sig, parseMethodDescriptor y.desc = some sig → n = sig.parameters.length) ∧ (Cond.methodLink own index y).before args s = true ∧ (Cond.static y).before args s = true
theorem vx_cwSW {own : String} {index maxL mc ms : Nat} {y : MethodName} {bytes : ByteArray} {ret : Option FieldType} {hh : List (Nat × Nat × Nat × Nat)} {Ts ws ws' : List Cond} {rm : Room} (n : Nat) (ht : ∀ w ∈ Ts, w.before args s = true) (hT : GoodIn Ts (va_wsS own index y ws)) (hw : ws = Cond.codeWith y bytes maxL ret hh :: ws') (hrc : rm.cells = mc) (hrs : rm.slots = ms)
    (hd : y.cls ≠ "java/lang/invoke/MethodHandle" ∧ y.cls ≠ "java/lang/invoke/VarHandle" ∧ (parseMethodDescriptor y.desc).map (fun d => d.parameters.length) = some n) (hR : rm.frames + 1 ≤ R.frames ∧ 8 + (maxL + 11) + rm.locals ≤ R.locals) :
    vx_CSW R s args own index y bytes maxL ret hh ws rm mc ms n := by
  have ok : ∀ w ∈ va_wsS own index y ws, w.before args s = true := fun w h => ht w (hT w h).1
  have hG : GoodIn Ts ws := fun w h => hT w (by unfold va_wsS; exact List.mem_append_right _ h)
  have hc : Cond.codeWith y bytes maxL ret hh ∈ ws := by rw [hw]; exact List.mem_cons_self
  refine ⟨⟨hrc, hrs, hR.1, hR.2, pay_in ht hG, hc⟩, ht _ (hG _ hc).1, ok _ (by simp [va_wsS]), ⟨hd.1, hd.2.1⟩, fun sig h => ?_, ok _ (by simp [va_wsS]), ok _ (by simp [va_wsS])⟩
  have h2 := hd.2.2
  rw [h] at h2
  exact (Option.some.inj h2).symm
theorem vx_callSW (X : Stand p l e R s m args below meth c T locs cells slots) (hexec : p.tables.exec = Jvm.exec) {own : String} {index : Nat} {y : MethodName} {bytes : ByteArray} {maxL : Nat} {ret : Option FieldType} {hh : List (Nat × Nat × Nat × Nat)}
    (hown : s.vm.findClass own = some m.cls) (hlink : (Cond.methodLink own index y).before args s = true) (hstat : (Cond.static y).before args s = true) (hinit : (Cond.initialized y.cls).before args s = true)
    (hcode : (Cond.codeWith y bytes maxL ret hh).before args s = true) (hy : y.cls ≠ "java/lang/invoke/MethodHandle" ∧ y.cls ≠ "java/lang/invoke/VarHandle")
    {W9 : Nat} {Pre : Pt → Array Value → Prop} {Post : Pt → Array Value → Option Value → Pt → Prop} (hK : Back l R p e below s args y 3 W9 Pre Post)
    {g : JFrame} (hg : g.method = m) (hsize : g.locals.size = c.maxLocals) {argsL rest : List Value} (hlen : ∀ sig, parseMethodDescriptor y.desc = some sig → argsL.length = sig.parameters.length)
    (hstack : g.stack = argsL.reverse ++ rest) (hW : 2 * g.monitorRoom + (rest.map fun v => v.category).sum ≤ W9) (hdg : decode c.code g.pc = .ok (.invokestatic index, 3))
    (hpre : ∀ vm₁, s.WarmedH vm₁ → Pre ⟨T.setVm vm₁, locs, cells, slots⟩ argsL.toArray) :
    ∃ (v : Option Value) (vm₁ : Vm) (B : Pt), s.WarmedH vm₁ ∧ Stand p l e R s m args below meth c B.U B.locs B.cells B.slots ∧ Post ⟨T.setVm vm₁, locs, cells, slots⟩ argsL.toArray v B ∧
      ∀ target, Steps p.tables e below (B.U.setTop { g with pc := g.pc + 3, stack := v.toList ++ rest }) target → Steps p.tables e below (T.setTop g) target := by
  obtain ⟨mk, methM, cM, hnamed, hmethM, -, -, -, -, -, -, hsigM⟩ := Cond.codeWith_spec hcode
  have hstatic : methM.isStatic = true := Cond.static_spec hnamed hmethM hstat
  obtain ⟨kP, hkP, -⟩ := className_of_methodNamed hnamed
  have hinitP : kP.init = .initialized := Cond.initialized_spec (findClass_of_methodNamed hnamed) hkP hinit
  obtain ⟨vm₁, X₁, hstep₁⟩ := X.invokestatic hexec hown hlink hnamed hmethM hstatic hkP hinitP hy (g := g) hg (argsL := argsL) (rest := rest) (hlen _ hsigM) hstack hdg
  obtain ⟨v, B, X', hpost, hsteps⟩ := hK m meth c ⟨T.setVm vm₁, locs, cells, slots⟩ { g with stack := rest } (.invokestatic index) mk argsL.toArray X₁ hg hsize hdg hW (X₁.named hnamed) (hpre vm₁ X₁.warmed)
  exact ⟨v, vm₁, B, X₁.warmed, X', hpost, fun target h => hstep₁ _ fun acts => by rw [doInvoke_state]; exact hsteps.trans h⟩
theorem vx_runSW {y : MethodName} {bytes cc : ByteArray} {maxL nL mc ms n index : Nat} {ret : Option FieldType} {hh : List (Nat × Nat × Nat × Nat)} {ws : List Cond} {rm : Room} {Pc : Array Value → State → Prop} {Qc : Array Value → State → Outcome → State → Prop} {free : Addr → Prop} {Ts : List Cond} {own : String} {As rest : List Value} {g : JFrame}
    (S : CallFix p m c cc nL s args Ts own) (hM : Met l y ws rm Pc Qc mc ms free) (cw : vx_CSW R s args own index y bytes maxL ret hh ws rm mc ms n) (hp : PreS s H Pc As)
    (hg : g.method = m) (hn : As.length = n) (hsize : g.locals.size = nL) (hstack : g.stack = As.reverse ++ rest) (hW : 2 * g.monitorRoom + (rest.map fun v => v.category).sum ≤ 8) (hdg : decode cc g.pc = .ok (.invokestatic index, 3)) (hf : cells + mc ≤ R.cells ∧ slots + ms ≤ R.slots) :
    va_Run p l e R s m args below meth c H locs cells slots mc ms g rest (Qc As.toArray) (free) := by
  obtain ⟨⟨hrc, hrs, hfr, hlo, hws, hcw⟩, hcode, hini, hy, hlen, hl, hstt⟩ := cw
  have hK : Back l R p e below s args y 3 8 (PreOf R mc ms Pc) (PostOf Qc mc ms free) := va_backW (hh := hh) (bytes := bytes) (maxL := maxL) (ret := ret) hM hp.1 hrc hrs hfr hlo hws hcw (fun a' U hW => word_at hW (Or.inl (by first | rfl | simp [Cond.onTables, Cond.keeps, Cond.steady])) hini)
  obtain ⟨hx, hb, hml, ho, -⟩ := S
  intro T hT X
  obtain ⟨v, vm₁, ⟨U', l2, c2, s2⟩, hW₁, X', ⟨g', mk, t, L, e1, e2, hq, h1, hL, h2, h3⟩, st⟩ := vx_callSW X hx (hh := hh) (bytes := bytes) (maxL := maxL) (ret := ret) ho hl hstt hini hcode hy hK hg (hsize.trans hml.symm) (argsL := As) (rest := rest) (fun sig h => hn.trans (hlen sig h)) hstack hW (by rw [hb]; exact hdg)
    (fun vm₁ hW₁ => ⟨hf.1, hf.2, hp.2 (T.setVm vm₁) hT hW₁⟩)
  dsimp only [Pt.U, Pt.locs, Pt.cells, Pt.slots] at X' e1 e2 h1 h2 h3 st
  subst h1; subst h2; subst h3
  exact ⟨v, (T.setVm vm₁).calling g' mk As.toArray, t, U', L, hT, X', hL, e1, e2, hq, st⟩
/-- not caught here, past rows that name other classes: it goes on to the caller -/
theorem vx_outP {p : Program} {l : Launch} {e : Env} {R : Room} {s : State} {m : MethodId} {args : Array Value} {below : List Frame} {meth : Method} {c : Code} {H : Heap} {locs : List Loc} {cells slots : Nat} {free : Addr → Prop} {ls : Array Slot} {rest : List Value} {Qc : Array Value → State → Outcome → State → Prop} {XC : String → State → State → Prop}
    {pc : Nat} {own E : String} {ce : Cell} {q : Addr} {mc ms : Nat} (hown : s.vm.findClass own = some m.cls) (hlocks : meth.locks = false)
    (hpass : ∀ z ∈ c.exceptionTable.toList, covers z pc = false ∨ (z.catchType ≠ 0 ∧ ∃ nm : String, (Cond.classLink own z.catchType nm).before args s = true ∧ va_Nc E nm s)) (hcell : H[q]? = some ce) (hv : ce.vm = .none) (hcl : s.vm.findClass E = some ce.cls)
    (hx : ∀ t : State, t.heap = H → s.vm.Alike t.vm → XC E s t) (hf : ∀ z ∈ locs, free z.base) (hc : cells ≤ mc) (hs : slots ≤ ms) :
    vx_W p l e R s m args below meth c H locs cells slots (vx_MQ below Qc XC args s mc ms free) (F0 m pc ls rest) q := by
  intro T hT X
  have hpl : e.platform.magicAccessors = ({} : Platform).magicAccessors := by rw [X.admits.platform]
  obtain ⟨vm', hW', X', st⟩ := X.outThrough hlocks q (g := F0 m pc ls rest) rfl rfl rfl (cell := ce) (by rw [hT]; exact hcell) (by rw [hv]; rfl)
    (by obtain ⟨k9, h9, -⟩ := Vm.findClass_spec hcl; exact ⟨k9, h9⟩) (fun z hz => by
      rcases hpass z hz with h | ⟨hz0, nm, hl1, hn1⟩
      · exact Or.inl h
      · obtain ⟨c6, hc6, hcl6⟩ := Cond.classLink_spec hown hl1 e.platform hpl
        obtain ⟨a8, b8, h1, h2, h3⟩ := hn1
        cases Option.some.inj (h1.symm.trans hcl)
        cases Option.some.inj (h2.symm.trans hc6)
        exact Or.inr ⟨hz0, _, hcl6, h3⟩)
  obtain ⟨g₀, hfr⟩ := X'.frames_eq
  have hcell9 : ((T.setVm vm').setFrames (.throwing q :: below)).heap[q]? = some ce := by
    show T.heap[q]? = some ce
    rw [hT]; exact hcell
  have hend : Ended ((T.setVm vm').setFrames (.throwing q :: below)) below (.threw q) := State.frames_setFrames _ (State.cur_lt_of_frames hfr)
  refine ⟨(T.setVm vm').setFrames (.throwing q :: below), ?_, .threw q, X'.here.running, hend, Or.inr ⟨q, rfl, E, ce, locs, hx _ hT (X'.ends _).1.alike, hcell9, hv, hcl, (X'.ends _).1, (X'.ends _).2.mono hc hs, hf⟩⟩
  rw [X.pushThrowing_eq]
  exact st
/-- a thing of a world lies in the heap -/
theorem vx_lt {D : va_G} {cl : List vw_C} {ws : va_W} {H1 : Heap} (h : va_P D cl ws H1) {k : Nat} {q : Nat × va_E} (hk : ws[k]? = some q) : q.1 < H1.size := (h k q hk).lt
end VXS
/-! ===== END ===== -/
/-! ===== BEGIN methods with a table of their own: called by a name, returning or throwing ===== -/
section VXH
/-! vx_backW, vx_callVX, vx_callSX, vx_callVW, vx_runVW, vx_runVX, vx_runSX, vx_ofWH follow the same proofs as their sisters above (Free/Laws.lean, Shelf42/LK1.lean); vx_outP calls Shelf42/NT130.lean (outThrough). -/
section
variable {l : Launch} {R : Room} {p : Program} {e : Env} {below : List Frame} {s : State} {sargs : Array Value} {y : MethodName} {len W9 : Nat}
theorem vx_backW {ws : List Cond} {rm : Room} {Pc : Array Value → State → Prop} {Qc : Array Value → State → Outcome → State → Prop} {XC : String → State → State → Prop} {mc ms : Nat} {free : Addr → Prop} {bytes : ByteArray} {maxL : Nat} {ret : Option FieldType} {hh : List (Nat × Nat × Nat × Nat)}
    (hM : vx_Met l y ws rm Pc Qc XC mc ms free) (hblind : FrameBlind Pc) (hrc : rm.cells = mc) (hrs : rm.slots = ms)
    (hframes : rm.frames + 1 ≤ R.frames) (hlocals : W9 + (maxL + 11) + rm.locals ≤ R.locals)
    (hws : ∀ w ∈ ws, ∀ a' U, s.WarmedH U.vm → w.before a' U = true) (hcode : Cond.codeWith y bytes maxL ret hh ∈ ws) (hinit : ∀ a' U, s.WarmedH U.vm → (Cond.initialized y.cls).before a' U = true) :
    vx_Back l R p e below s sargs y len W9 (PreOf R mc ms Pc) (PostOf Qc mc ms free) (vx_Post XC mc ms free) := by
  intro m meth c A g ig mk a X hg hsize hdg hW hn hp
  have h1 : (headSpec ws rm).pre.before a A.U = true := atoms_intro fun w hw => hws w hw _ _ X.warmed
  have h2 : (Cond.codeWith y bytes maxL ret hh).before a A.U = true := hws _ hcode _ _ X.warmed
  have h3 : (Cond.initialized y.cls).before a A.U = true := hinit _ _ X.warmed
  have h4 : A.cells + (headSpec ws rm).room.cells ≤ R.cells := by rw [show (headSpec ws rm).room.cells = mc from hrc]; exact hp.1
  have h5 : A.slots + (headSpec ws rm).room.slots ≤ R.slots := by rw [show (headSpec ws rm).room.slots = ms from hrs]; exact hp.2.1
  have hPc : Pc a (A.U.calling g mk a) := hblind _ _ _ _ hp.2.2
  obtain ⟨U, Ls, c0, s0⟩ := A
  dsimp only [Pt.U, Pt.locs, Pt.cells, Pt.slots] at h1 h2 h3 h4 h5 X hn hPc ⊢
  obtain ⟨m9, methY, cY, hn9, hmY, hcY, -, hlY, -⟩ := Cond.codeWith_spec h2
  cases Option.some.inj (hn9.symm.trans hn)
  obtain ⟨kY, hkY, -⟩ := className_of_methodNamed hn
  have hinitY : kY.init = .initialized := Cond.initialized_spec (findClass_of_methodNamed hn) hkY h3
  have h : At U g.method c below := by rw [hg]; exact X.here
  have hlocals9 : W9 + (maxL + 11) + (headSpec ws rm).room.locals ≤ R.locals := hlocals
  have happ : (headSpec ws rm).appliesLoose y e.platform (U.calling g mk a) = true :=
    Spec.appliesLoose_calling (g := g) h hdg hn hkY hinitY
      (X.room_calling (g := g) (R' := (headSpec ws rm).room) hsize hmY hcY hframes (by rw [hlY]; omega) h4 h5) h1
  obtain ⟨mid, hmid⟩ := h.above
  have hfr : (U.setTop g).frames = (.java g :: mid) ++ below := by rw [State.frames_setTop' g h.top, hmid]; rfl
  obtain ⟨o, s₂, hsteps, -, hend, hq⟩ := Steps.callFree hM p X.admits X.cas X.clock (acts := []) hfr happ hPc trivial
  have hq' : vx_Q Qc XC mc ms free a (U.calling g mk a) o s₂ := hq
  rw [State.frames_setTop' g h.top] at hend
  obtain ⟨g₀, hg0⟩ := Option.isSome_iff_exists.mp h.top
  obtain ⟨r, hr⟩ := State.topJava?_eq_some.mp hg0
  have hr' : (({ U with heap := s₂.heap, slotsUsed := s₂.slotsUsed } : State).setVm s₂.vm).frames = .java g₀ :: r := hr
  rcases hq' with ⟨hqc, L, hfe, hL⟩ | ⟨q, rfl, E, ce, L, hx, hce, hcv, hcl, hW₂, hsm, hL⟩
  · obtain ⟨⟨v, rfl⟩, hW₂, e2, q2, q3, q4, q5, q6⟩ := id hfe
    have e3 : s₂ = ({ (U.calling g mk a).setFrames s₂.frames with heap := s₂.heap, slotsUsed := s₂.slotsUsed } : State).setVm s₂.vm := by
      have : s₂ = ({ s₂ with vm := (U.calling g mk a).vm } : State).setVm s₂.vm := rfl
      rw [e2] at this
      exact this
    obtain ⟨c₂, i₂, len₂, hc₂, hd₂, hf₂⟩ := hend
    have hW' : U.WarmedH s₂.vm := hW₂
    have hcc : c₂ = c := by
      have h1 : s₂.code? g.method = U.code? g.method := by
        rw [State.code?_eq, State.code?_eq, hW'.alike.method?]
      exact Option.some.inj (hc₂.symm.trans (h1.trans h.code))
    subst hcc
    have hlen : len₂ = len := by rw [hdg] at hd₂; cases hd₂; rfl
    subst hlen
    have hs₂ : s₂ = (({ U with heap := s₂.heap, slotsUsed := s₂.slotsUsed } : State).setVm s₂.vm).setTop { g with pc := g.pc + len₂, stack := v.toList ++ g.stack } := by
      refine e3.trans ?_
      rw [hf₂, State.calling_eq h.top, State.setFrames_setFrames, State.setTop_of_frames _ hr', hr]
      rfl
    have hsame : U.sameButNew ({ U with heap := s₂.heap, slotsUsed := s₂.slotsUsed } : State) L mc ms := by
      refine ⟨?_, q2, q3, q4, q5, q6⟩
      obtain ⟨t, ht, -⟩ := State.frames_cons hr
      show ({ U with heap := s₂.heap, slotsUsed := s₂.slotsUsed } : State) = { U.setFrames U.frames with heap := s₂.heap, slotsUsed := s₂.slotsUsed }
      rw [State.setFrames_self ht]
    subst hg
    refine Or.inl ⟨v, ⟨(({ U with heap := s₂.heap, slotsUsed := s₂.slotsUsed } : State).setVm s₂.vm), Ls ++ L, c0 + mc, s0 + ms⟩,
      ⟨X.admits, X.cas, X.clock, X.frames, X.room, X.hears, X.method, X.code, (X.here.setHeapUsed s₂.heap s₂.slotsUsed).setVm hW'.alike, X.tail, State.WarmedH.trans X.warmed hW', X.limits, X.bytes, X.same.trans (hsame.setVm s.vm)⟩,
      ⟨g, mk, s₂, L, rfl, rfl, hqc, rfl, hL, rfl, rfl⟩, ?_⟩
    show Steps p.tables e below _ ((({ U with heap := s₂.heap, slotsUsed := s₂.slotsUsed } : State).setVm s₂.vm).setTop { g with pc := g.pc + len₂, stack := v.toList ++ g.stack })
    rw [← hs₂]
    exact hsteps
  · obtain ⟨e2, q2, q3, q4, q5, q6⟩ := id hsm
    have e3 : s₂ = ({ (U.calling g mk a).setFrames s₂.frames with heap := s₂.heap, slotsUsed := s₂.slotsUsed } : State).setVm s₂.vm := by
      have : s₂ = ({ s₂ with vm := (U.calling g mk a).vm } : State).setVm s₂.vm := rfl
      rw [e2] at this
      exact this
    have hf₂ : s₂.frames = .throwing q :: .java g :: U.frames.tail := hend
    have hW' : U.WarmedH s₂.vm := hW₂
    have hs₂ : s₂ = ((({ U with heap := s₂.heap, slotsUsed := s₂.slotsUsed } : State).setVm s₂.vm).setTop g).pushFrame (.throwing q) := by
      refine e3.trans ?_
      rw [hf₂, State.calling_eq h.top, State.setFrames_setFrames, State.pushFrame, State.frames_setTop _ hr', State.setTop_of_frames _ hr', State.setFrames_setFrames, hr]
      rfl
    have hsame : U.sameButNew ({ U with heap := s₂.heap, slotsUsed := s₂.slotsUsed } : State) L mc ms := by
      refine ⟨?_, q2, q3, q4, q5, q6⟩
      obtain ⟨t, ht, -⟩ := State.frames_cons hr
      show ({ U with heap := s₂.heap, slotsUsed := s₂.slotsUsed } : State) = { U.setFrames U.frames with heap := s₂.heap, slotsUsed := s₂.slotsUsed }
      rw [State.setFrames_self ht]
    subst hg
    refine Or.inr ⟨q, ⟨(({ U with heap := s₂.heap, slotsUsed := s₂.slotsUsed } : State).setVm s₂.vm), Ls ++ L, c0 + mc, s0 + ms⟩,
      ⟨X.admits, X.cas, X.clock, X.frames, X.room, X.hears, X.method, X.code, (X.here.setHeapUsed s₂.heap s₂.slotsUsed).setVm hW'.alike, X.tail, State.WarmedH.trans X.warmed hW', X.limits, X.bytes, X.same.trans (hsame.setVm s.vm)⟩,
      ⟨g, mk, s₂, L, E, ce, rfl, rfl, hx, hce, hcv, hcl, rfl, hL, rfl, rfl⟩, ?_⟩
    show Steps p.tables e below _ (((({ U with heap := s₂.heap, slotsUsed := s₂.slotsUsed } : State).setVm s₂.vm).setTop g).pushFrame (.throwing q))
    rw [← hs₂]
    exact hsteps
end
variable {p : Program} {l : Launch} {e : Env} {R : Room} {s : State} {m : MethodId} {args : Array Value} {below : List Frame} {meth : Method} {c : Code} {T : State} {H : Heap} {locs : List Loc} {cells slots : Nat}
theorem vx_callVX (X : Stand p l e R s m args below meth c T locs cells slots) (hexec : p.tables.exec = Jvm.exec) {own C : String} {index : Nat} {y : MethodName} {bytes : ByteArray} {maxL : Nat} {ret : Option FieldType} {hh : List (Nat × Nat × Nat × Nat)}
    (hown : s.vm.findClass own = some m.cls) (hlink : (Cond.methodLink own index y).before args s = true) (hinst : (Cond.instanceMethod y).before args s = true) (hsel : (Cond.selects C y y).before args s = true)
    (hcode : (Cond.codeWith y bytes maxL ret hh).before args s = true) (hy : y.cls ≠ "java/lang/invoke/MethodHandle" ∧ y.cls ≠ "java/lang/invoke/VarHandle")
    {W9 : Nat} {Pre : Pt → Array Value → Prop} {Post : Pt → Array Value → Option Value → Pt → Prop} {PostX : Pt → Array Value → Addr → Pt → Prop} (hK : vx_Back l R p e below s args y 3 W9 Pre Post PostX)
    {b : Addr} {cellB : Cell} (hcell : T.heap[b]? = some cellB) (hobj : cellB.vm.isStatics = false) (hcls : s.vm.findClass C = some cellB.cls)
    {g : JFrame} (hg : g.method = m) (hsize : g.locals.size = c.maxLocals) {argsL rest : List Value} (hlen : ∀ sig, parseMethodDescriptor y.desc = some sig → argsL.length = sig.parameters.length)
    (hstack : g.stack = argsL.reverse ++ .ref b :: rest) (hW : 2 * g.monitorRoom + (rest.map fun v => v.category).sum ≤ W9) (hdg : decode c.code g.pc = .ok (.invokevirtual index, 3))
    (hpre : ∀ vm₁, s.WarmedH vm₁ → Pre ⟨T.setVm vm₁, locs, cells, slots⟩ (Value.ref b :: argsL).toArray) :
    (∃ (v : Option Value) (vm₁ : Vm) (B : Pt), s.WarmedH vm₁ ∧ Stand p l e R s m args below meth c B.U B.locs B.cells B.slots ∧ Post ⟨T.setVm vm₁, locs, cells, slots⟩ (Value.ref b :: argsL).toArray v B ∧
      ∀ target, Steps p.tables e below (B.U.setTop { g with pc := g.pc + 3, stack := v.toList ++ rest }) target → Steps p.tables e below (T.setTop g) target) ∨
    (∃ (q : Addr) (vm₁ : Vm) (B : Pt), s.WarmedH vm₁ ∧ Stand p l e R s m args below meth c B.U B.locs B.cells B.slots ∧ PostX ⟨T.setVm vm₁, locs, cells, slots⟩ (Value.ref b :: argsL).toArray q B ∧
      Steps p.tables e below (T.setTop g) ((B.U.setTop { g with stack := rest }).pushFrame (.throwing q))) := by
  obtain ⟨mk, methM, hnamed, hmethM, hstM, habM⟩ := Cond.instanceMethod_spec hinst
  obtain ⟨m8, methM', cM, hn8, hmethM', -, -, -, -, -, -, hsigM⟩ := Cond.codeWith_spec hcode
  cases Option.some.inj (hn8.symm.trans hnamed)
  cases hmethM.symm.trans hmethM'
  obtain ⟨c2, r2, m2, q1, q2, q3, q4, kP, hkP, hkPi⟩ := Cond.selects_spec hsel
  cases hcls.symm.trans q1
  cases (State.methodFound?_of_named hnamed hy).symm.trans q2
  cases hnamed.symm.trans q3
  have hselP : selectMethod e.platform s.vm cellB.cls mk = .method mk := by rw [Launch.admits_selectMethod X.admits]; exact q4
  obtain ⟨vm₁, X₁, hstep₁⟩ := X.invokevirtual hexec hown hlink hnamed hmethM hstM hkP hkPi hy (a := b) (cell := cellB) hcell
    (fun z h => by rw [h] at hobj; cases hobj) hselP hmethM habM hkP hkPi (g := g) hg (argsL := argsL) (rest := rest) (hlen _ hsigM) hstack hdg
  rcases hK m meth c ⟨T.setVm vm₁, locs, cells, slots⟩ { g with stack := rest } (.invokevirtual index) mk (Value.ref b :: argsL).toArray X₁ hg hsize hdg hW (X₁.named hnamed) (hpre vm₁ X₁.warmed) with ⟨v, B, X', hpost, hsteps⟩ | ⟨q, B, X', hpost, hsteps⟩
  · exact Or.inl ⟨v, vm₁, B, X₁.warmed, X', hpost, fun target h => hstep₁ _ fun acts => by rw [doInvoke_state]; exact hsteps.trans h⟩
  · exact Or.inr ⟨q, vm₁, B, X₁.warmed, X', hpost, hstep₁ _ fun acts => by rw [doInvoke_state]; exact hsteps⟩
theorem vx_callSX (X : Stand p l e R s m args below meth c T locs cells slots) (hexec : p.tables.exec = Jvm.exec) {own : String} {index : Nat} {y : MethodName} {bytes : ByteArray} {maxL : Nat} {ret : Option FieldType} {hh : List (Nat × Nat × Nat × Nat)}
    (hown : s.vm.findClass own = some m.cls) (hlink : (Cond.methodLink own index y).before args s = true) (hstat : (Cond.static y).before args s = true) (hinit : (Cond.initialized y.cls).before args s = true)
    (hcode : (Cond.codeWith y bytes maxL ret hh).before args s = true) (hy : y.cls ≠ "java/lang/invoke/MethodHandle" ∧ y.cls ≠ "java/lang/invoke/VarHandle")
    {W9 : Nat} {Pre : Pt → Array Value → Prop} {Post : Pt → Array Value → Option Value → Pt → Prop} {PostX : Pt → Array Value → Addr → Pt → Prop} (hK : vx_Back l R p e below s args y 3 W9 Pre Post PostX)
    {g : JFrame} (hg : g.method = m) (hsize : g.locals.size = c.maxLocals) {argsL rest : List Value} (hlen : ∀ sig, parseMethodDescriptor y.desc = some sig → argsL.length = sig.parameters.length)
    (hstack : g.stack = argsL.reverse ++ rest) (hW : 2 * g.monitorRoom + (rest.map fun v => v.category).sum ≤ W9) (hdg : decode c.code g.pc = .ok (.invokestatic index, 3))
    (hpre : ∀ vm₁, s.WarmedH vm₁ → Pre ⟨T.setVm vm₁, locs, cells, slots⟩ argsL.toArray) :
    (∃ (v : Option Value) (vm₁ : Vm) (B : Pt), s.WarmedH vm₁ ∧ Stand p l e R s m args below meth c B.U B.locs B.cells B.slots ∧ Post ⟨T.setVm vm₁, locs, cells, slots⟩ argsL.toArray v B ∧
      ∀ target, Steps p.tables e below (B.U.setTop { g with pc := g.pc + 3, stack := v.toList ++ rest }) target → Steps p.tables e below (T.setTop g) target) ∨
    (∃ (q : Addr) (vm₁ : Vm) (B : Pt), s.WarmedH vm₁ ∧ Stand p l e R s m args below meth c B.U B.locs B.cells B.slots ∧ PostX ⟨T.setVm vm₁, locs, cells, slots⟩ argsL.toArray q B ∧
      Steps p.tables e below (T.setTop g) ((B.U.setTop { g with stack := rest }).pushFrame (.throwing q))) := by
  obtain ⟨mk, methM, cM, hnamed, hmethM, -, -, -, -, -, -, hsigM⟩ := Cond.codeWith_spec hcode
  have hstatic : methM.isStatic = true := Cond.static_spec hnamed hmethM hstat
  obtain ⟨kP, hkP, -⟩ := className_of_methodNamed hnamed
  have hinitP : kP.init = .initialized := Cond.initialized_spec (findClass_of_methodNamed hnamed) hkP hinit
  obtain ⟨vm₁, X₁, hstep₁⟩ := X.invokestatic hexec hown hlink hnamed hmethM hstatic hkP hinitP hy (g := g) hg (argsL := argsL) (rest := rest) (hlen _ hsigM) hstack hdg
  rcases hK m meth c ⟨T.setVm vm₁, locs, cells, slots⟩ { g with stack := rest } (.invokestatic index) mk argsL.toArray X₁ hg hsize hdg hW (X₁.named hnamed) (hpre vm₁ X₁.warmed) with ⟨v, B, X', hpost, hsteps⟩ | ⟨q, B, X', hpost, hsteps⟩
  · exact Or.inl ⟨v, vm₁, B, X₁.warmed, X', hpost, fun target h => hstep₁ _ fun acts => by rw [doInvoke_state]; exact hsteps.trans h⟩
  · exact Or.inr ⟨q, vm₁, B, X₁.warmed, X', hpost, hstep₁ _ fun acts => by rw [doInvoke_state]; exact hsteps⟩
theorem vx_callVW (X : Stand p l e R s m args below meth c T locs cells slots) (hexec : p.tables.exec = Jvm.exec) {own C : String} {index : Nat} {y : MethodName} {bytes : ByteArray} {maxL : Nat} {ret : Option FieldType} {hh : List (Nat × Nat × Nat × Nat)}
    (hown : s.vm.findClass own = some m.cls) (hlink : (Cond.methodLink own index y).before args s = true) (hinst : (Cond.instanceMethod y).before args s = true) (hsel : (Cond.selects C y y).before args s = true)
    (hcode : (Cond.codeWith y bytes maxL ret hh).before args s = true) (hy : y.cls ≠ "java/lang/invoke/MethodHandle" ∧ y.cls ≠ "java/lang/invoke/VarHandle")
    {W9 : Nat} {Pre : Pt → Array Value → Prop} {Post : Pt → Array Value → Option Value → Pt → Prop} (hK : Back l R p e below s args y 3 W9 Pre Post)
    {b : Addr} {cellB : Cell} (hcell : T.heap[b]? = some cellB) (hobj : cellB.vm.isStatics = false) (hcls : s.vm.findClass C = some cellB.cls)
    {g : JFrame} (hg : g.method = m) (hsize : g.locals.size = c.maxLocals) {argsL rest : List Value} (hlen : ∀ sig, parseMethodDescriptor y.desc = some sig → argsL.length = sig.parameters.length)
    (hstack : g.stack = argsL.reverse ++ .ref b :: rest) (hW : 2 * g.monitorRoom + (rest.map fun v => v.category).sum ≤ W9) (hdg : decode c.code g.pc = .ok (.invokevirtual index, 3))
    (hpre : ∀ vm₁, s.WarmedH vm₁ → Pre ⟨T.setVm vm₁, locs, cells, slots⟩ (Value.ref b :: argsL).toArray) :
    ∃ (v : Option Value) (vm₁ : Vm) (B : Pt), s.WarmedH vm₁ ∧ Stand p l e R s m args below meth c B.U B.locs B.cells B.slots ∧ Post ⟨T.setVm vm₁, locs, cells, slots⟩ (Value.ref b :: argsL).toArray v B ∧
      ∀ target, Steps p.tables e below (B.U.setTop { g with pc := g.pc + 3, stack := v.toList ++ rest }) target → Steps p.tables e below (T.setTop g) target := by
  obtain ⟨mk, methM, hnamed, hmethM, hstM, habM⟩ := Cond.instanceMethod_spec hinst
  obtain ⟨m8, methM', cM, hn8, hmethM', -, -, -, -, -, -, hsigM⟩ := Cond.codeWith_spec hcode
  cases Option.some.inj (hn8.symm.trans hnamed)
  cases hmethM.symm.trans hmethM'
  obtain ⟨c2, r2, m2, q1, q2, q3, q4, kP, hkP, hkPi⟩ := Cond.selects_spec hsel
  cases hcls.symm.trans q1
  cases (State.methodFound?_of_named hnamed hy).symm.trans q2
  cases hnamed.symm.trans q3
  have hselP : selectMethod e.platform s.vm cellB.cls mk = .method mk := by rw [Launch.admits_selectMethod X.admits]; exact q4
  obtain ⟨vm₁, X₁, hstep₁⟩ := X.invokevirtual hexec hown hlink hnamed hmethM hstM hkP hkPi hy (a := b) (cell := cellB) hcell
    (fun z h => by rw [h] at hobj; cases hobj) hselP hmethM habM hkP hkPi (g := g) hg (argsL := argsL) (rest := rest) (hlen _ hsigM) hstack hdg
  obtain ⟨v, B, X', hpost, hsteps⟩ := hK m meth c ⟨T.setVm vm₁, locs, cells, slots⟩ { g with stack := rest } (.invokevirtual index) mk (Value.ref b :: argsL).toArray X₁ hg hsize hdg hW (X₁.named hnamed) (hpre vm₁ X₁.warmed)
  exact ⟨v, vm₁, B, X₁.warmed, X', hpost, fun target h => hstep₁ _ fun acts => by rw [doInvoke_state]; exact hsteps.trans h⟩
abbrev vx_CVW (R : Room) (s : State) (args : Array Value) (own C : String) (index : Nat) (y : MethodName) (bytes : ByteArray) (maxL : Nat) (ret : Option FieldType) (hh : List (Nat × Nat × Nat × Nat)) (ws : List Cond) (rm : Room) (mc ms n : Nat) : Prop :=
  (rm.cells = mc ∧ rm.slots = ms ∧ rm.frames + 1 ≤ R.frames ∧ 8 + (maxL + 11) + rm.locals ≤ R.locals ∧ (∀ w ∈ ws, ∀ (a' : Array Value) (U : State), s.WarmedH U.vm → w.before a' U = true) ∧ Cond.codeWith y bytes maxL ret hh ∈ ws) ∧
  (Cond.codeWith y bytes maxL ret hh).before args s = true ∧ (Cond.initialized y.cls).before args s = true ∧ (y.cls ≠ "java/lang/invoke/MethodHandle" ∧ y.cls ≠ "java/lang/invoke/VarHandle") ∧
  (∀ sig, parseMethodDescriptor y.desc = some sig → n = sig.parameters.length) ∧ (Cond.methodLink own index y).before args s = true ∧ (Cond.instanceMethod y).before args s = true ∧ (Cond.selects C y y).before args s = true
theorem vx_cwVW {own C : String} {index maxL mc ms : Nat} {y : MethodName} {bytes : ByteArray} {ret : Option FieldType} {hh : List (Nat × Nat × Nat × Nat)} {Ts ws ws' : List Cond} {rm : Room} (n : Nat) (ht : ∀ w ∈ Ts, w.before args s = true) (hT : GoodIn Ts (wsV own index C y ws)) (hw : ws = Cond.codeWith y bytes maxL ret hh :: ws') (hrc : rm.cells = mc) (hrs : rm.slots = ms)
    (hd : y.cls = C ∧ y.cls ≠ "java/lang/invoke/MethodHandle" ∧ y.cls ≠ "java/lang/invoke/VarHandle" ∧ (parseMethodDescriptor y.desc).map (fun d => d.parameters.length) = some n) (hR : rm.frames + 1 ≤ R.frames ∧ 8 + (maxL + 11) + rm.locals ≤ R.locals) :
    vx_CVW R s args own C index y bytes maxL ret hh ws rm mc ms n := by
  obtain ⟨hC, hd⟩ := hd
  subst hC
  have ok : ∀ w ∈ wsV own index y.cls y ws, w.before args s = true := fun w h => ht w (hT w h).1
  have hG : GoodIn Ts ws := fun w h => hT w (by unfold wsV; exact List.mem_append_right _ h)
  have hc : Cond.codeWith y bytes maxL ret hh ∈ ws := by rw [hw]; exact List.mem_cons_self
  refine ⟨⟨hrc, hrs, hR.1, hR.2, pay_in ht hG, hc⟩, ht _ (hG _ hc).1, ok _ (by simp [wsV]), ⟨hd.1, hd.2.1⟩, fun sig h => ?_, ok _ (by simp [wsV]), ok _ (by simp [wsV]), ok _ (by simp [wsV])⟩
  have h2 := hd.2.2
  rw [h] at h2
  exact (Option.some.inj h2).symm
theorem vx_runVW {y : MethodName} {bytes cc : ByteArray} {maxL nL mc ms n index : Nat} {ret : Option FieldType} {hh : List (Nat × Nat × Nat × Nat)} {ws : List Cond} {rm : Room} {Pc : Array Value → State → Prop} {Qc : Array Value → State → Outcome → State → Prop} {free : Addr → Prop} {Ts : List Cond} {own C : String} {b : Addr} {As rest : List Value} {g : JFrame}
    (S : CallFix p m c cc nL s args Ts own) (hM : Met l y ws rm Pc Qc mc ms free) (cw : vx_CVW R s args own C index y bytes maxL ret hh ws rm mc ms n) (hp : PreV s H C b Pc As)
    (hg : g.method = m) (hn : As.length = n) (hsize : g.locals.size = nL) (hstack : g.stack = As.reverse ++ .ref b :: rest) (hW : 2 * g.monitorRoom + (rest.map fun v => v.category).sum ≤ 8) (hdg : decode cc g.pc = .ok (.invokevirtual index, 3)) (hf : cells + mc ≤ R.cells ∧ slots + ms ≤ R.slots) :
    va_Run p l e R s m args below meth c H locs cells slots mc ms g rest (Qc (Value.ref b :: As).toArray) free := by
  obtain ⟨⟨hrc, hrs, hfr, hlo, hws, hcw⟩, hcode, hini, hy, hlen, hl, hin, hse⟩ := cw
  have hK : Back l R p e below s args y 3 8 (PreOf R mc ms Pc) (PostOf Qc mc ms free) := va_backW (hh := hh) (bytes := bytes) (maxL := maxL) (ret := ret) hM hp.1 hrc hrs hfr hlo hws hcw (fun a' U hW => word_at hW (Or.inl (by first | rfl | simp [Cond.onTables, Cond.keeps, Cond.steady])) hini)
  obtain ⟨hx, hb, hml, ho, -⟩ := S
  obtain ⟨-, ⟨cellB, hcB, hoB, hclB⟩, hPc⟩ := hp
  intro T hT X
  obtain ⟨v, vm₁, ⟨U', l2, c2, s2⟩, hW₁, X', ⟨g', mk, t, L, e1, e2, hq, h1, hL, h2, h3⟩, st⟩ := vx_callVW X hx (C := C) (hh := hh) (bytes := bytes) (maxL := maxL) (ret := ret) ho hl hin hse hcode hy hK (by rw [hT]; exact hcB) hoB hclB hg (hsize.trans hml.symm) (argsL := As) (rest := rest) (fun sig h => hn.trans (hlen sig h)) hstack hW (by rw [hb]; exact hdg)
    (fun vm₁ hW₁ => ⟨hf.1, hf.2, hPc (T.setVm vm₁) hT hW₁⟩)
  dsimp only [Pt.U, Pt.locs, Pt.cells, Pt.slots] at X' e1 e2 h1 h2 h3 st
  subst h1; subst h2; subst h3
  exact ⟨v, (T.setVm vm₁).calling g' mk (Value.ref b :: As).toArray, t, U', L, hT, X', hL, e1, e2, hq, st⟩
section
variable {y : MethodName} {bytes cc : ByteArray} {maxL nL mc ms n index : Nat} {ret : Option FieldType} {ws : List Cond} {rm : Room} {Pc : Array Value → State → Prop} {Qc : Array Value → State → Outcome → State → Prop} {XC : String → State → State → Prop} {free : Addr → Prop} {Ts : List Cond} {own C : String} {b : Addr} {As rest : List Value} {g : JFrame}
theorem vx_runVX {hh : List (Nat × Nat × Nat × Nat)} (S : CallFix p m c cc nL s args Ts own) (hM : vx_Met l y ws rm Pc Qc XC mc ms free) (cw : vx_CVW R s args own C index y bytes maxL ret hh ws rm mc ms n) (hp : PreV s H C b Pc As)
    (hg : g.method = m) (hn : As.length = n) (hsize : g.locals.size = nL) (hstack : g.stack = As.reverse ++ .ref b :: rest) (hW : 2 * g.monitorRoom + (rest.map fun v => v.category).sum ≤ 8) (hdg : decode cc g.pc = .ok (.invokevirtual index, 3)) (hf : cells + mc ≤ R.cells ∧ slots + ms ≤ R.slots) :
    vx_Run p l e R s m args below meth c H locs cells slots mc ms g rest (Qc (Value.ref b :: As).toArray) XC free := by
  obtain ⟨⟨hrc, hrs, hfr, hlo, hws, hcw⟩, hcode, hini, hy, hlen, hl, hin, hse⟩ := cw
  have hK : vx_Back l R p e below s args y 3 8 (PreOf R mc ms Pc) (PostOf Qc mc ms free) (vx_Post XC mc ms free) := vx_backW (hh := hh) (bytes := bytes) (maxL := maxL) (ret := ret) hM hp.1 hrc hrs hfr hlo hws hcw (fun a' U hW => word_at hW (Or.inl (by first | rfl | simp [Cond.onTables, Cond.keeps, Cond.steady])) hini)
  obtain ⟨hx, hb, hml, ho, -⟩ := S
  obtain ⟨-, ⟨cellB, hcB, hoB, hclB⟩, hPc⟩ := hp
  intro T hT X
  rcases vx_callVX X hx (C := C) (hh := hh) (bytes := bytes) (maxL := maxL) (ret := ret) ho hl hin hse hcode hy hK (by rw [hT]; exact hcB) hoB hclB hg (hsize.trans hml.symm) (argsL := As) (rest := rest) (fun sig h => hn.trans (hlen sig h)) hstack hW (by rw [hb]; exact hdg)
    (fun vm₁ hW₁ => ⟨hf.1, hf.2, hPc (T.setVm vm₁) hT hW₁⟩) with ⟨v, vm₁, ⟨U', l2, c2, s2⟩, hW₁, X', ⟨g', mk, t, L, e1, e2, hq, h1, hL, h2, h3⟩, st⟩ | ⟨q, vm₁, ⟨U', l2, c2, s2⟩, hW₁, X', ⟨g', mk, t, L, E, ce, e1, e2, hq, hce, hcv, hcl, h1, hL, h2, h3⟩, st⟩
  · dsimp only [Pt.U, Pt.locs, Pt.cells, Pt.slots] at X' e1 e2 h1 h2 h3 st
    subst h1; subst h2; subst h3
    exact Or.inl ⟨v, (T.setVm vm₁).calling g' mk (Value.ref b :: As).toArray, t, U', L, hT, X', hL, e1, e2, hq, st⟩
  · dsimp only [Pt.U, Pt.locs, Pt.cells, Pt.slots] at X' e1 e2 h1 h2 h3 st hcl
    subst h1; subst h2; subst h3
    exact Or.inr ⟨q, (T.setVm vm₁).calling g' mk (Value.ref b :: As).toArray, t, U', L, E, ce, hT, X', hL, e1, e2, hq, hce, hcv, vx_cls hW₁ hcl, st⟩
theorem vx_runSX {hh : List (Nat × Nat × Nat × Nat)} (S : CallFix p m c cc nL s args Ts own) (hM : vx_Met l y ws rm Pc Qc XC mc ms free) (cw : vx_CSW R s args own index y bytes maxL ret hh ws rm mc ms n) (hp : PreS s H Pc As)
    (hg : g.method = m) (hn : As.length = n) (hsize : g.locals.size = nL) (hstack : g.stack = As.reverse ++ rest) (hW : 2 * g.monitorRoom + (rest.map fun v => v.category).sum ≤ 8) (hdg : decode cc g.pc = .ok (.invokestatic index, 3)) (hf : cells + mc ≤ R.cells ∧ slots + ms ≤ R.slots) :
    vx_Run p l e R s m args below meth c H locs cells slots mc ms g rest (Qc As.toArray) XC free := by
  obtain ⟨⟨hrc, hrs, hfr, hlo, hws, hcw⟩, hcode, hini, hy, hlen, hl, hstt⟩ := cw
  have hK : vx_Back l R p e below s args y 3 8 (PreOf R mc ms Pc) (PostOf Qc mc ms free) (vx_Post XC mc ms free) := vx_backW (hh := hh) (bytes := bytes) (maxL := maxL) (ret := ret) hM hp.1 hrc hrs hfr hlo hws hcw (fun a' U hW => word_at hW (Or.inl (by first | rfl | simp [Cond.onTables, Cond.keeps, Cond.steady])) hini)
  obtain ⟨hx, hb, hml, ho, -⟩ := S
  intro T hT X
  rcases vx_callSX X hx (hh := hh) (bytes := bytes) (maxL := maxL) (ret := ret) ho hl hstt hini hcode hy hK hg (hsize.trans hml.symm) (argsL := As) (rest := rest) (fun sig h => hn.trans (hlen sig h)) hstack hW (by rw [hb]; exact hdg)
    (fun vm₁ hW₁ => ⟨hf.1, hf.2, hp.2 (T.setVm vm₁) hT hW₁⟩) with ⟨v, vm₁, ⟨U', l2, c2, s2⟩, hW₁, X', ⟨g', mk, t, L, e1, e2, hq, h1, hL, h2, h3⟩, st⟩ | ⟨q, vm₁, ⟨U', l2, c2, s2⟩, hW₁, X', ⟨g', mk, t, L, E, ce, e1, e2, hq, hce, hcv, hcl, h1, hL, h2, h3⟩, st⟩
  · dsimp only [Pt.U, Pt.locs, Pt.cells, Pt.slots] at X' e1 e2 h1 h2 h3 st
    subst h1; subst h2; subst h3
    exact Or.inl ⟨v, (T.setVm vm₁).calling g' mk As.toArray, t, U', L, hT, X', hL, e1, e2, hq, st⟩
  · dsimp only [Pt.U, Pt.locs, Pt.cells, Pt.slots] at X' e1 e2 h1 h2 h3 st hcl
    subst h1; subst h2; subst h3
    exact Or.inr ⟨q, (T.setVm vm₁).calling g' mk As.toArray, t, U', L, E, ce, hT, X', hL, e1, e2, hq, hce, hcv, vx_cls hW₁ hcl, st⟩
end
end VXH
theorem vx_ofWH {l : Launch} {y : MethodName} {ws ws' : List Cond} {rm : Room} {Pc : Array Value → State → Prop} {Qc : Array Value → State → Outcome → State → Prop} {XC : String → State → State → Prop} {mc ms : Nat} {free : Addr → Prop} {cc : ByteArray} {maxL : Nat} {ret : Option FieldType} {hh : List (Nat × Nat × Nat × Nat)}
    (hy : plainName y.cls = true) (hw : ws = Cond.codeWith y cc maxL ret hh :: ws')
    (body : ∀ p e s m args below meth c s₁, BodyLoose p l y (headSpec ws rm) cc maxL ret e s m args below meth c s₁ → c.maxLocals = maxL → Pc args s →
      W p l e (headSpec ws rm).room s m args below meth c s.heap [] 0 0 (vx_MQ below Qc XC args s mc ms free) (entryFrame m args maxL)) : vx_Met l y ws rm Pc Qc XC mc ms free := by
  refine MetFree.of_bodyS (code := cc) (maxLocals := maxL) (ret := ret) hy ?_ ?_
  · intro args s m h hn
    obtain ⟨m9, meth, c, hn9, h1, h2, h3, h4, -, h5, h6, -⟩ := Cond.codeWith_spec (atoms_spec (ws := ws) h _ (by rw [hw]; exact List.mem_cons_self))
    cases hn.symm.trans hn9
    exact ⟨meth, c, h1, h2, h3, h4, h5, h6⟩
  · intro p e s m args below meth c s₁ B hml hP _
    have hh0 : s₁.heap = s.heap := by rw [B.state]; rfl
    obtain ⟨t, a1, o, b1, b2, b3⟩ := body p e s m args below meth c s₁ B hml hP s₁ hh0 (Stand.of_body B)
    exact ⟨t, o, a1, b1, b2, b3⟩
/-! ===== END ===== -/
end
section
/-! ===== BEGIN printed: names, fields, word lists, decode rows ===== -/
def RX0 : String := "SewingFrames$Book"
def TX0 : u_T := fun k => match k with
  | 0 => ("SewingFrames$Book", "number", "I", true)
  | 1 => ("SewingFrames$Book", "signatures", "I", false)
  | 2 => ("SewingFrames$Book", "sheets", "I", false)
  | 3 => ("SewingFrames$Book", "edges", "I", false)
  | 4 => ("SewingFrames$Book", "stage", "I", false)
  | 5 => ("SewingFrames$Book", "frame", "I", false)
  | 6 => ("SewingFrames$Book", "cords", "I", false)
  | 7 => ("SewingFrames$Book", "stitches", "I", false)
  | 8 => ("SewingFrames$Book", "wholeSignatures", "I", false)
  | 9 => ("SewingFrames$Book", "stitchesOfNext", "I", false)
  | 10 => ("SewingFrames$Book", "loose", "I", false)
  | 11 => ("SewingFrames$Book", "hoursToDry", "I", false)
  | _ => ("SewingFrames$Book", "gilt", "I", false)
def tyX0 : Nat → FieldType := fun k => match k with
  | 0 => .int
  | 1 => .int
  | 2 => .int
  | 3 => .int
  | 4 => .int
  | 5 => .int
  | 6 => .int
  | 7 => .int
  | 8 => .int
  | 9 => .int
  | 10 => .int
  | 11 => .int
  | _ => .int
abbrev wsX00 : List Cond := u_ws RX0 TX0 13
theorem nmX0 : ∀ a, a < 13 → ∀ b, b < 13 → a ≠ b → (TX0 a).2.1 ≠ (TX0 b).2.1 := by decide +kernel
theorem tyX0_ok : ∀ k, k < 13 → parseFieldDescriptor (TX0 k).2.2.1 = some (tyX0 k) := by decide +kernel
abbrev cX0_init : ByteArray := prog_2_method_1_code
def yX0_init : MethodName := ⟨RX0, "<init>", "(I)V"⟩
abbrev cX0_setTo : ByteArray := prog_2_method_2_code
def yX0_setTo : MethodName := ⟨RX0, "setTo", "(LSewingFrames$Book;)V"⟩
abbrev cX0_begin : ByteArray := prog_2_method_3_code
def yX0_begin : MethodName := ⟨RX0, "begin", "(III)V"⟩
abbrev cX0_mount : ByteArray := prog_2_method_4_code
def yX0_mount : MethodName := ⟨RX0, "mount", "(II)V"⟩
abbrev cX0_undo : ByteArray := prog_2_method_5_code
def yX0_undo : MethodName := ⟨RX0, "undo", "()V"⟩
abbrev cX0_thickness : ByteArray := prog_2_method_6_code
def yX0_thickness : MethodName := ⟨RX0, "thickness", "()I"⟩
abbrev cX0_leavesForAnEdge : ByteArray := prog_2_method_7_code
def yX0_leavesForAnEdge : MethodName := ⟨RX0, "leavesForAnEdge", "()I"⟩
abbrev cX0_stitchesOfSignature : ByteArray := prog_2_method_8_code
def yX0_stitchesOfSignature : MethodName := ⟨RX0, "stitchesOfSignature", "(I)I"⟩
abbrev cX0_stitchesToSew : ByteArray := prog_2_method_9_code
def yX0_stitchesToSew : MethodName := ⟨RX0, "stitchesToSew", "()I"⟩
abbrev cX0_addStitch : ByteArray := prog_2_method_10_code
def yX0_addStitch : MethodName := ⟨RX0, "addStitch", "()Z"⟩
abbrev cX0_isSewn : ByteArray := prog_2_method_11_code
def yX0_isSewn : MethodName := ⟨RX0, "isSewn", "()Z"⟩
abbrev cX0_beginToDry : ByteArray := prog_2_method_12_code
def yX0_beginToDry : MethodName := ⟨RX0, "beginToDry", "()V"⟩
abbrev cX0_dryForAnHour : ByteArray := prog_2_method_13_code
def yX0_dryForAnHour : MethodName := ⟨RX0, "dryForAnHour", "()V"⟩
abbrev cX0_bind : ByteArray := prog_2_method_14_code
def yX0_bind : MethodName := ⟨RX0, "bind", "()V"⟩
abbrev cX0_gildAnEdge : ByteArray := prog_2_method_15_code
def yX0_gildAnEdge : MethodName := ⟨RX0, "gildAnEdge", "()V"⟩
abbrev cX0_value : ByteArray := prog_2_method_16_code
def yX0_value : MethodName := ⟨RX0, "value", "()I"⟩
abbrev cX0_tell : ByteArray := prog_2_method_17_code
def yX0_tell : MethodName := ⟨RX0, "tell", "(I)I"⟩
def RX1 : String := "SewingFrames$Frame"
def TX1 : u_T := fun k => match k with
  | 0 => ("SewingFrames$Frame", "number", "I", true)
  | 1 => ("SewingFrames$Frame", "cords", "I", false)
  | 2 => ("SewingFrames$Frame", "book", "I", false)
  | _ => ("SewingFrames$Frame", "sewn", "I", false)
def tyX1 : Nat → FieldType := fun k => match k with
  | 0 => .int
  | 1 => .int
  | 2 => .int
  | _ => .int
abbrev wsX10 : List Cond := u_ws RX1 TX1 4
theorem nmX1 : ∀ a, a < 4 → ∀ b, b < 4 → a ≠ b → (TX1 a).2.1 ≠ (TX1 b).2.1 := by decide +kernel
theorem tyX1_ok : ∀ k, k < 4 → parseFieldDescriptor (TX1 k).2.2.1 = some (tyX1 k) := by decide +kernel
abbrev cX1_init : ByteArray := prog_3_method_1_code
def yX1_init : MethodName := ⟨RX1, "<init>", "(I)V"⟩
abbrev cX1_setTo : ByteArray := prog_3_method_2_code
def yX1_setTo : MethodName := ⟨RX1, "setTo", "(LSewingFrames$Frame;)V"⟩
def RX2 : String := "SewingFrames$Sewer"
def TX2 : u_T := fun k => match k with
  | 0 => ("SewingFrames$Sewer", "number", "I", true)
  | 1 => ("SewingFrames$Sewer", "speed", "I", false)
  | _ => ("SewingFrames$Sewer", "frame", "I", false)
def tyX2 : Nat → FieldType := fun k => match k with
  | 0 => .int
  | 1 => .int
  | _ => .int
abbrev wsX20 : List Cond := u_ws RX2 TX2 3
theorem nmX2 : ∀ a, a < 3 → ∀ b, b < 3 → a ≠ b → (TX2 a).2.1 ≠ (TX2 b).2.1 := by decide +kernel
theorem tyX2_ok : ∀ k, k < 3 → parseFieldDescriptor (TX2 k).2.2.1 = some (tyX2 k) := by decide +kernel
abbrev cX2_init : ByteArray := prog_4_method_1_code
def yX2_init : MethodName := ⟨RX2, "<init>", "(I)V"⟩
abbrev cX2_setTo : ByteArray := prog_4_method_2_code
def yX2_setTo : MethodName := ⟨RX2, "setTo", "(LSewingFrames$Sewer;)V"⟩
abbrev cX2_tell : ByteArray := prog_4_method_3_code
def yX2_tell : MethodName := ⟨RX2, "tell", "(I)I"⟩
def RX3 : String := "SewingFrames$Workshop"
def TX3 : u_T := fun k => match k with
  | 0 => ("SewingFrames$Workshop", "books", "[LSewingFrames$Book;", true)
  | 1 => ("SewingFrames$Workshop", "sewers", "[LSewingFrames$Sewer;", true)
  | 2 => ("SewingFrames$Workshop", "frames", "[LSewingFrames$Frame;", true)
  | 3 => ("SewingFrames$Workshop", "bookCount", "I", false)
  | 4 => ("SewingFrames$Workshop", "sewerCount", "I", false)
  | 5 => ("SewingFrames$Workshop", "hour", "I", false)
  | 6 => ("SewingFrames$Workshop", "coins", "I", false)
  | 7 => ("SewingFrames$Workshop", "thread", "I", false)
  | 8 => ("SewingFrames$Workshop", "boards", "I", false)
  | 9 => ("SewingFrames$Workshop", "gold", "I", false)
  | 10 => ("SewingFrames$Workshop", "sewn", "I", false)
  | _ => ("SewingFrames$Workshop", "loose", "I", false)
def tyX3 : Nat → FieldType := fun k => match k with
  | 0 => .array (.object "SewingFrames$Book")
  | 1 => .array (.object "SewingFrames$Sewer")
  | 2 => .array (.object "SewingFrames$Frame")
  | 3 => .int
  | 4 => .int
  | 5 => .int
  | 6 => .int
  | 7 => .int
  | 8 => .int
  | 9 => .int
  | 10 => .int
  | _ => .int
abbrev wsX30 : List Cond := u_ws RX3 TX3 12
theorem nmX3 : ∀ a, a < 12 → ∀ b, b < 12 → a ≠ b → (TX3 a).2.1 ≠ (TX3 b).2.1 := by decide +kernel
theorem tyX3_ok : ∀ k, k < 12 → parseFieldDescriptor (TX3 k).2.2.1 = some (tyX3 k) := by decide +kernel
abbrev cX3_init : ByteArray := prog_5_method_1_code
def yX3_init : MethodName := ⟨RX3, "<init>", "()V"⟩
abbrev cX3_setTo : ByteArray := prog_5_method_2_code
def yX3_setTo : MethodName := ⟨RX3, "setTo", "(LSewingFrames$Workshop;)V"⟩
abbrev cX3_bookNumbered : ByteArray := prog_5_method_3_code
def yX3_bookNumbered : MethodName := ⟨RX3, "bookNumbered", "(I)LSewingFrames$Book;"⟩
abbrev cX3_sewerNumbered : ByteArray := prog_5_method_4_code
def yX3_sewerNumbered : MethodName := ⟨RX3, "sewerNumbered", "(I)LSewingFrames$Sewer;"⟩
abbrev cX3_freeBook : ByteArray := prog_5_method_5_code
def yX3_freeBook : MethodName := ⟨RX3, "freeBook", "()LSewingFrames$Book;"⟩
abbrev cX3_freeSewer : ByteArray := prog_5_method_6_code
def yX3_freeSewer : MethodName := ⟨RX3, "freeSewer", "()LSewingFrames$Sewer;"⟩
abbrev cX3_clearFrameOf : ByteArray := prog_5_method_7_code
def yX3_clearFrameOf : MethodName := ⟨RX3, "clearFrameOf", "(LSewingFrames$Book;)V"⟩
abbrev cX3_othersAt : ByteArray := prog_5_method_8_code
def yX3_othersAt : MethodName := ⟨RX3, "othersAt", "(II)I"⟩
abbrev cX3_sittersAt : ByteArray := prog_5_method_9_code
def yX3_sittersAt : MethodName := ⟨RX3, "sittersAt", "(I)I"⟩
abbrev cX3_stitchesAnHour : ByteArray := prog_5_method_10_code
def yX3_stitchesAnHour : MethodName := ⟨RX3, "stitchesAnHour", "(I)I"⟩
abbrev cX3_store : ByteArray := prog_5_method_11_code
def yX3_store : MethodName := ⟨RX3, "store", "(II)I"⟩
abbrev cX3_letHoursGo : ByteArray := prog_5_method_12_code
def yX3_letHoursGo : MethodName := ⟨RX3, "letHoursGo", "(I)I"⟩
abbrev cX3_letAnHourGo : ByteArray := prog_5_method_13_code
def yX3_letAnHourGo : MethodName := ⟨RX3, "letAnHourGo", "()I"⟩
abbrev cX3_gild : ByteArray := prog_5_method_14_code
def yX3_gild : MethodName := ⟨RX3, "gild", "()V"⟩
abbrev cX3_giveBoards : ByteArray := prog_5_method_15_code
def yX3_giveBoards : MethodName := ⟨RX3, "giveBoards", "()V"⟩
abbrev cX3_dry : ByteArray := prog_5_method_16_code
def yX3_dry : MethodName := ⟨RX3, "dry", "()V"⟩
abbrev cX3_sewAt : ByteArray := prog_5_method_17_code
def yX3_sewAt : MethodName := ⟨RX3, "sewAt", "(LSewingFrames$Frame;)V"⟩
abbrev cX3_mountOn : ByteArray := prog_5_method_18_code
def yX3_mountOn : MethodName := ⟨RX3, "mountOn", "(LSewingFrames$Frame;)V"⟩
abbrev cX3_booksAt : ByteArray := prog_5_method_19_code
def yX3_booksAt : MethodName := ⟨RX3, "booksAt", "(I)I"⟩
abbrev cX3_tellOfFrame : ByteArray := prog_5_method_20_code
def yX3_tellOfFrame : MethodName := ⟨RX3, "tellOfFrame", "(LSewingFrames$Frame;I)I"⟩
abbrev cX3_tellOfAll : ByteArray := prog_5_method_21_code
def yX3_tellOfAll : MethodName := ⟨RX3, "tellOfAll", "(I)I"⟩
def RX4 : String := "SewingFrames"
def TX4 : u_T := fun k => match k with
  | 0 => ("SewingFrames", "now", "LSewingFrames$Workshop;", true)
  | _ => ("SewingFrames", "ahead", "LSewingFrames$Workshop;", true)
def tyX4 : Nat → FieldType := fun k => match k with
  | 0 => .object "SewingFrames$Workshop"
  | _ => .object "SewingFrames$Workshop"
abbrev wsX40 : List Cond := u_ws RX4 TX4 2
theorem nmX4 : ∀ a, a < 2 → ∀ b, b < 2 → a ≠ b → (TX4 a).2.1 ≠ (TX4 b).2.1 := by decide +kernel
theorem tyX4_ok : ∀ k, k < 2 → parseFieldDescriptor (TX4 k).2.2.1 = some (tyX4 k) := by decide +kernel
abbrev cX4_init : ByteArray := prog_1_method_1_code
def yX4_init : MethodName := ⟨RX4, "<init>", "()V"⟩
abbrev cX4_order : ByteArray := prog_1_method_2_code
def yX4_order : MethodName := ⟨RX4, "order", "(III)I"⟩
abbrev cX4_unpick : ByteArray := prog_1_method_3_code
def yX4_unpick : MethodName := ⟨RX4, "unpick", "(I)I"⟩
abbrev cX4_sell : ByteArray := prog_1_method_4_code
def yX4_sell : MethodName := ⟨RX4, "sell", "(I)I"⟩
abbrev cX4_told : ByteArray := prog_1_method_5_code
def yX4_told : MethodName := ⟨RX4, "told", "(II)I"⟩
abbrev cX4_hire : ByteArray := prog_1_method_6_code
def yX4_hire : MethodName := ⟨RX4, "hire", "(I)I"⟩
abbrev cX4_seat : ByteArray := prog_1_method_7_code
def yX4_seat : MethodName := ⟨RX4, "seat", "(II)I"⟩
abbrev cX4_sewer : ByteArray := prog_1_method_8_code
def yX4_sewer : MethodName := ⟨RX4, "sewer", "(II)I"⟩
abbrev cX4_string : ByteArray := prog_1_method_9_code
def yX4_string : MethodName := ⟨RX4, "string", "(II)I"⟩
abbrev cX4_frame : ByteArray := prog_1_method_10_code
def yX4_frame : MethodName := ⟨RX4, "frame", "(II)I"⟩
abbrev cX4_buy : ByteArray := prog_1_method_11_code
def yX4_buy : MethodName := ⟨RX4, "buy", "(II)I"⟩
abbrev cX4_count : ByteArray := prog_1_method_12_code
def yX4_count : MethodName := ⟨RX4, "count", "(I)I"⟩
abbrev cX4_pass : ByteArray := prog_1_method_13_code
def yX4_pass : MethodName := ⟨RX4, "pass", "(I)I"⟩
abbrev cX4_foresee : ByteArray := prog_1_method_14_code
def yX4_foresee : MethodName := ⟨RX4, "foresee", "(II)I"⟩
abbrev cX4_until : ByteArray := prog_1_method_15_code
def yX4_until : MethodName := ⟨RX4, "until", "(I)I"⟩
abbrev cX4_next : ByteArray := prog_1_method_16_code
def yX4_next : MethodName := ⟨RX4, "next", "()I"⟩
abbrev cX4_advise : ByteArray := prog_1_method_17_code
def yX4_advise : MethodName := ⟨RX4, "advise", "(I)I"⟩
abbrev cX4_worth : ByteArray := prog_1_method_18_code
def yX4_worth : MethodName := ⟨RX4, "worth", "()I"⟩
abbrev cX4_mean : ByteArray := prog_1_method_19_code
def yX4_mean : MethodName := ⟨RX4, "mean", "()D"⟩
abbrev cX4_digest : ByteArray := prog_1_method_20_code
def yX4_digest : MethodName := ⟨RX4, "digest", "()J"⟩
abbrev cX4_knownBook : ByteArray := prog_1_method_21_code
def yX4_knownBook : MethodName := ⟨RX4, "knownBook", "(I)LSewingFrames$Book;"⟩
abbrev cX4_knownSewer : ByteArray := prog_1_method_22_code
def yX4_knownSewer : MethodName := ⟨RX4, "knownSewer", "(I)LSewingFrames$Sewer;"⟩
abbrev cX4_knownFrame : ByteArray := prog_1_method_23_code
def yX4_knownFrame : MethodName := ⟨RX4, "knownFrame", "(I)LSewingFrames$Frame;"⟩
abbrev cX4_checkKind : ByteArray := prog_1_method_24_code
def yX4_checkKind : MethodName := ⟨RX4, "checkKind", "(II)V"⟩
abbrev cX4_checkHours : ByteArray := prog_1_method_25_code
def yX4_checkHours : MethodName := ⟨RX4, "checkHours", "(I)V"⟩
abbrev cX4_priceOf : ByteArray := prog_1_method_26_code
def yX4_priceOf : MethodName := ⟨RX4, "priceOf", "(II)I"⟩
abbrev cX4_firstDoneAhead : ByteArray := prog_1_method_27_code
def yX4_firstDoneAhead : MethodName := ⟨RX4, "firstDoneAhead", "()I"⟩
abbrev cX4_sewnAheadWith : ByteArray := prog_1_method_28_code
def yX4_sewnAheadWith : MethodName := ⟨RX4, "sewnAheadWith", "(II)I"⟩
def RX5 : String := "SewingFramesModel"
def TX5 : u_T := fun k => match k with
  | 0 => ("SewingFramesModel", "thrown", "I", false)
  | 1 => ("SewingFramesModel", "now", "[I", true)
  | _ => ("SewingFramesModel", "ahead", "[I", true)
def tyX5 : Nat → FieldType := fun k => match k with
  | 0 => .int
  | 1 => .array .int
  | _ => .array .int
abbrev wsX50 : List Cond := u_ws RX5 TX5 3
theorem nmX5 : ∀ a, a < 3 → ∀ b, b < 3 → a ≠ b → (TX5 a).2.1 ≠ (TX5 b).2.1 := by decide +kernel
theorem tyX5_ok : ∀ k, k < 3 → parseFieldDescriptor (TX5 k).2.2.1 = some (tyX5 k) := by decide +kernel
abbrev cX5_thrown : ByteArray := prog_7_method_1_code
def yX5_thrown : MethodName := ⟨RX5, "thrown", "()I"⟩
abbrev cX5_no : ByteArray := prog_7_method_2_code
def yX5_no : MethodName := ⟨RX5, "no", "(I)I"⟩
abbrev cX5_isIn : ByteArray := prog_7_method_3_code
def yX5_isIn : MethodName := ⟨RX5, "isIn", "(III)Z"⟩
abbrev cX5_init : ByteArray := prog_7_method_4_code
def yX5_init : MethodName := ⟨RX5, "<init>", "()V"⟩
abbrev cX5_isBook : ByteArray := prog_7_method_5_code
def yX5_isBook : MethodName := ⟨RX5, "isBook", "(I)Z"⟩
abbrev cX5_isSewer : ByteArray := prog_7_method_6_code
def yX5_isSewer : MethodName := ⟨RX5, "isSewer", "(I)Z"⟩
abbrev cX5_isFrame : ByteArray := prog_7_method_7_code
def yX5_isFrame : MethodName := ⟨RX5, "isFrame", "(I)Z"⟩
abbrev cX5_thick : ByteArray := prog_7_method_8_code
def yX5_thick : MethodName := ⟨RX5, "thick", "([II)I"⟩
abbrev cX5_stitches : ByteArray := prog_7_method_9_code
def yX5_stitches : MethodName := ⟨RX5, "stitches", "([III)I"⟩
abbrev cX5_worthOf : ByteArray := prog_7_method_10_code
def yX5_worthOf : MethodName := ⟨RX5, "worthOf", "([II)I"⟩
abbrev cX5_upTo : ByteArray := prog_7_method_11_code
def yX5_upTo : MethodName := ⟨RX5, "upTo", "([III)I"⟩
abbrev cX5_inBook : ByteArray := prog_7_method_12_code
def yX5_inBook : MethodName := ⟨RX5, "inBook", "([II)I"⟩
abbrev cX5_order : ByteArray := prog_7_method_13_code
def yX5_order : MethodName := ⟨RX5, "order", "(III)I"⟩
abbrev cX5_unpick : ByteArray := prog_7_method_14_code
def yX5_unpick : MethodName := ⟨RX5, "unpick", "(I)I"⟩
abbrev cX5_sell : ByteArray := prog_7_method_15_code
def yX5_sell : MethodName := ⟨RX5, "sell", "(I)I"⟩
abbrev cX5_bookTold : ByteArray := prog_7_method_16_code
def yX5_bookTold : MethodName := ⟨RX5, "bookTold", "(II)I"⟩
abbrev cX5_told : ByteArray := prog_7_method_17_code
def yX5_told : MethodName := ⟨RX5, "told", "(II)I"⟩
abbrev cX5_hire : ByteArray := prog_7_method_18_code
def yX5_hire : MethodName := ⟨RX5, "hire", "(I)I"⟩
abbrev cX5_others : ByteArray := prog_7_method_19_code
def yX5_others : MethodName := ⟨RX5, "others", "(II)I"⟩
abbrev cX5_seat : ByteArray := prog_7_method_20_code
def yX5_seat : MethodName := ⟨RX5, "seat", "(II)I"⟩
abbrev cX5_sewer : ByteArray := prog_7_method_21_code
def yX5_sewer : MethodName := ⟨RX5, "sewer", "(II)I"⟩
abbrev cX5_string : ByteArray := prog_7_method_22_code
def yX5_string : MethodName := ⟨RX5, "string", "(II)I"⟩
abbrev cX5_rate : ByteArray := prog_7_method_23_code
def yX5_rate : MethodName := ⟨RX5, "rate", "([II)I"⟩
abbrev cX5_left : ByteArray := prog_7_method_24_code
def yX5_left : MethodName := ⟨RX5, "left", "(I)I"⟩
abbrev cX5_frameTold : ByteArray := prog_7_method_25_code
def yX5_frameTold : MethodName := ⟨RX5, "frameTold", "(II)I"⟩
abbrev cX5_frame : ByteArray := prog_7_method_26_code
def yX5_frame : MethodName := ⟨RX5, "frame", "(II)I"⟩
abbrev cX5_buy : ByteArray := prog_7_method_27_code
def yX5_buy : MethodName := ⟨RX5, "buy", "(II)I"⟩
abbrev cX5_like : ByteArray := prog_7_method_28_code
def yX5_like : MethodName := ⟨RX5, "like", "([II)I"⟩
abbrev cX5_counted : ByteArray := prog_7_method_29_code
def yX5_counted : MethodName := ⟨RX5, "counted", "([II)I"⟩
abbrev cX5_count : ByteArray := prog_7_method_30_code
def yX5_count : MethodName := ⟨RX5, "count", "(I)I"⟩
abbrev cX5_first : ByteArray := prog_7_method_31_code
def yX5_first : MethodName := ⟨RX5, "first", "([II)I"⟩
abbrev cX5_gild : ByteArray := prog_7_method_32_code
def yX5_gild : MethodName := ⟨RX5, "gild", "([I)V"⟩
abbrev cX5_board : ByteArray := prog_7_method_33_code
def yX5_board : MethodName := ⟨RX5, "board", "([II)V"⟩
abbrev cX5_dry : ByteArray := prog_7_method_34_code
def yX5_dry : MethodName := ⟨RX5, "dry", "([II)V"⟩
abbrev cX5_sew : ByteArray := prog_7_method_35_code
def yX5_sew : MethodName := ⟨RX5, "sew", "([II)V"⟩
abbrev cX5_mount : ByteArray := prog_7_method_36_code
def yX5_mount : MethodName := ⟨RX5, "mount", "([II)V"⟩
abbrev cX5_pass : ByteArray := prog_7_method_37_code
def yX5_pass : MethodName := ⟨RX5, "pass", "([I)V"⟩
abbrev cX5_passAll : ByteArray := prog_7_method_38_code
def yX5_passAll : MethodName := ⟨RX5, "passAll", "([II)V"⟩
abbrev cX5_lookAhead : ByteArray := prog_7_method_39_code
def yX5_lookAhead : MethodName := ⟨RX5, "lookAhead", "()V"⟩
abbrev cX5_pass_ : ByteArray := prog_7_method_40_code
def yX5_pass_ : MethodName := ⟨RX5, "pass", "(I)I"⟩
abbrev cX5_foresee : ByteArray := prog_7_method_41_code
def yX5_foresee : MethodName := ⟨RX5, "foresee", "(II)I"⟩
abbrev cX5_doneIn : ByteArray := prog_7_method_42_code
def yX5_doneIn : MethodName := ⟨RX5, "doneIn", "(I)I"⟩
abbrev cX5_until : ByteArray := prog_7_method_43_code
def yX5_until : MethodName := ⟨RX5, "until", "(I)I"⟩
abbrev cX5_next : ByteArray := prog_7_method_44_code
def yX5_next : MethodName := ⟨RX5, "next", "()I"⟩
abbrev cX5_stitchesWith : ByteArray := prog_7_method_45_code
def yX5_stitchesWith : MethodName := ⟨RX5, "stitchesWith", "(II)I"⟩
abbrev cX5_advise : ByteArray := prog_7_method_46_code
def yX5_advise : MethodName := ⟨RX5, "advise", "(I)I"⟩
abbrev cX5_worth : ByteArray := prog_7_method_47_code
def yX5_worth : MethodName := ⟨RX5, "worth", "()I"⟩
abbrev cX5_mean : ByteArray := prog_7_method_48_code
def yX5_mean : MethodName := ⟨RX5, "mean", "()D"⟩
abbrev cX5_digest : ByteArray := prog_7_method_49_code
def yX5_digest : MethodName := ⟨RX5, "digest", "()J"⟩
def RJ9 : String := "java/lang/Math"
def TJ9 : u_T := fun k => match k with
  | _ => ("", "", "", false)
def tyJ9 : Nat → FieldType := fun k => match k with
  | _ => .int
abbrev wsJ90 : List Cond := u_ws RJ9 TJ9 0
theorem nmJ9 : ∀ a, a < 0 → ∀ b, b < 0 → a ≠ b → (TJ9 a).2.1 ≠ (TJ9 b).2.1 := by decide +kernel
theorem tyJ9_ok : ∀ k, k < 0 → parseFieldDescriptor (TJ9 k).2.2.1 = some (tyJ9 k) := by decide +kernel
abbrev cJ9_max_7cf53 : ByteArray := prog_12_method_65_code
def yJ9_max_7cf53 : MethodName := ⟨RJ9, "max", "(II)I"⟩
abbrev cJ9_min_7cf53 : ByteArray := prog_12_method_69_code
def yJ9_min_7cf53 : MethodName := ⟨RJ9, "min", "(II)I"⟩
def RJ0 : String := "java/lang/String"
def TJ0 : u_T := fun k => match k with
  | _ => ("", "", "", false)
def tyJ0 : Nat → FieldType := fun k => match k with
  | _ => .int
abbrev wsJ00 : List Cond := u_ws RJ0 TJ0 0
theorem nmJ0 : ∀ a, a < 0 → ∀ b, b < 0 → a ≠ b → (TJ0 a).2.1 ≠ (TJ0 b).2.1 := by decide +kernel
theorem tyJ0_ok : ∀ k, k < 0 → parseFieldDescriptor (TJ0 k).2.2.1 = some (tyJ0 k) := by decide +kernel
def RJ10 : String := "java/lang/System"
def TJ10 : u_T := fun k => match k with
  | _ => ("", "", "", false)
def tyJ10 : Nat → FieldType := fun k => match k with
  | _ => .int
abbrev wsJ100 : List Cond := u_ws RJ10 TJ10 0
theorem nmJ10 : ∀ a, a < 0 → ∀ b, b < 0 → a ≠ b → (TJ10 a).2.1 ≠ (TJ10 b).2.1 := by decide +kernel
theorem tyJ10_ok : ∀ k, k < 0 → parseFieldDescriptor (TJ10 k).2.2.1 = some (tyJ10 k) := by decide +kernel
def RL : String := "SewingFramesLaw"
def wsJ9_max_7cf53 : List Cond := .code yJ9_max_7cf53 cJ9_max_7cf53 2 (some .int) :: ([])
def wsJ9_min_7cf53 : List Cond := .code yJ9_min_7cf53 cJ9_min_7cf53 2 (some .int) :: ([])
theorem inJ9 : ∀ w ∈ wsJ90, w ∈ lw_tbl := by decide +kernel
theorem inJ0 : ∀ w ∈ wsJ00, w ∈ lw_tbl := by decide +kernel
theorem inJ10 : ∀ w ∈ wsJ100, w ∈ lw_tbl := by decide +kernel
abbrev vwCl : List vw_C := [(RX0, TX0, 13), (RX1, TX1, 4), (RX2, TX2, 3), (RX3, TX3, 12), (RX4, TX4, 2), (RX5, TX5, 3)]

theorem dJ9_max_7cf53_0 : decode cJ9_max_7cf53 0 = .ok (.iload_n 0, 1) := by decide +kernel
theorem dJ9_max_7cf53_1 : decode cJ9_max_7cf53 1 = .ok (.iload_n 1, 1) := by decide +kernel
theorem dJ9_max_7cf53_2 : decode cJ9_max_7cf53 2 = .ok (.if_icmp .lt 7, 3) := by decide +kernel
theorem dJ9_max_7cf53_5 : decode cJ9_max_7cf53 5 = .ok (.iload_n 0, 1) := by decide +kernel
theorem dJ9_max_7cf53_6 : decode cJ9_max_7cf53 6 = .ok (.goto 4, 3) := by decide +kernel
theorem dJ9_max_7cf53_9 : decode cJ9_max_7cf53 9 = .ok (.iload_n 1, 1) := by decide +kernel
theorem dJ9_max_7cf53_10 : decode cJ9_max_7cf53 10 = .ok (.ireturn, 1) := by decide +kernel
theorem dJ9_min_7cf53_0 : decode cJ9_min_7cf53 0 = .ok (.iload_n 0, 1) := by decide +kernel
theorem dJ9_min_7cf53_1 : decode cJ9_min_7cf53 1 = .ok (.iload_n 1, 1) := by decide +kernel
theorem dJ9_min_7cf53_2 : decode cJ9_min_7cf53 2 = .ok (.if_icmp .gt 7, 3) := by decide +kernel
theorem dJ9_min_7cf53_5 : decode cJ9_min_7cf53 5 = .ok (.iload_n 0, 1) := by decide +kernel
theorem dJ9_min_7cf53_6 : decode cJ9_min_7cf53 6 = .ok (.goto 4, 3) := by decide +kernel
theorem dJ9_min_7cf53_9 : decode cJ9_min_7cf53 9 = .ok (.iload_n 1, 1) := by decide +kernel
theorem dJ9_min_7cf53_10 : decode cJ9_min_7cf53 10 = .ok (.ireturn, 1) := by decide +kernel
end
section
section YB
/-! The memory: object j (0 .. 57) holds the ints M j k; its references are fixed. Objects: now = 0 (its arrays 1 2 3, books 4.., sewers 19.., frames 24..), ahead = 27 (likewise), the class's object 54, the model's 55, its rows 56 57. -/
abbrev yM : Type := Nat → Nat → Int32
def ykd (j : Nat) : Nat := if j < 54 then (if j % 27 = 0 then 3 else if j % 27 < 4 then 6 + j % 27 else if j % 27 < 19 then 0 else if j % 27 < 24 then 2 else 1) else if j = 54 then 4 else if j = 55 then 5 else if j < 58 then 6 else 10
def ynf : Nat → Nat := fun c => match c with | 0 => 13 | 1 => 4 | 2 => 3 | 3 => 12 | 4 => 2 | _ => 3
def yln : Nat → Nat := fun c => match c with | 7 => 15 | 8 => 5 | _ => 3
def yrf (j k : Nat) : Option Nat := if ykd j = 3 then (if k < 3 then some (j + 1 + k) else none) else if ykd j = 4 then (if k = 0 then some 0 else some 27) else if ykd j = 5 then (if k = 0 then none else some (55 + k)) else none
def yel (j i : Nat) : Nat := if ykd j = 7 then j + 3 + i else if ykd j = 8 then j + 17 + i else j + 21 + i
def yvl (adr : Nat → Nat) (M : yM) (j k : Nat) : Value := match yrf j k with | some t => .ref (adr t) | none => .int (M j k)
def yfs (adr : Nat → Nat) (M : yM) (j n : Nat) : List Value := (List.range n).map (yvl adr M j)
def ycl (adr : Nat → Nat) (cy : Nat → ClassId) (M : yM) (j : Nat) : va_E :=
  if ykd j < 6 then .inr (ykd j, yfs adr M j (ynf (ykd j)))
  else if ykd j = 6 then .inl (cy 0, 193, .inl (M j))
  else .inl (cy (ykd j - 6), yln (ykd j), .inr (.inr (.inr (.inr (fun i => some (adr (yel j i)))))))
def ypl (adr : Nat → Nat) (cy : Nat → ClassId) (M : yM) : va_W := (List.range 58).map (fun j => (adr j, ycl adr cy M j))
def yst (M : yM) (j k : Nat) (v : Int32) : yM := fun a b => if a = j ∧ b = k then v else M a b
abbrev ytys (cy : Nat → ClassId) : List (ClassId × FieldType) := [(cy 0, .int), (cy 1, .object "SewingFrames$Book"), (cy 2, .object "SewingFrames$Sewer"), (cy 3, .object "SewingFrames$Frame")]
theorem ykd_lt {j : Nat} (h : ykd j < 10) : j < 58 := by
  unfold ykd at h
  split at h
  · omega
  · split at h
    · omega
    · split at h
      · omega
      · split at h
        · omega
        · omega
theorem yst_same {M : yM} {j k : Nat} {v : Int32} : yst M j k v j k = v := by simp [yst]
theorem yst_row {M : yM} {j k i : Nat} {v : Int32} (h : i ≠ j) : yst M j k v i = M i := by funext b; simp [yst, h]
theorem yst_at {M : yM} {j k b : Nat} {v : Int32} : yst M j k v j b = if b = k then v else M j b := by simp [yst]
theorem ypl_get {adr : Nat → Nat} {cy : Nat → ClassId} {M : yM} {E : va_W} {j : Nat} (hj : j < 58) : (ypl adr cy M ++ E)[j]? = some (adr j, ycl adr cy M j) := by
  rw [List.getElem?_append_left (by simp [ypl]; exact hj)]
  simp [ypl, hj]
theorem ypl_len {adr : Nat → Nat} {cy : Nat → ClassId} {M : yM} : (ypl adr cy M).length = 58 := by simp [ypl]
theorem ypl_E {adr : Nat → Nat} {cy : Nat → ClassId} {M : yM} {E : va_W} {k : Nat} : (ypl adr cy M ++ E)[58 + k]? = E[k]? := by
  rw [List.getElem?_append_right (by rw [ypl_len]; omega), ypl_len]
  congr 1
  omega
theorem ypl_upd {adr : Nat → Nat} {cy : Nat → ClassId} {M M' : yM} {E : va_W} {j : Nat} {e : va_E} (hj : j < 58) (he : ycl adr cy M' j = e) (ho : ∀ i, i ≠ j → ycl adr cy M' i = ycl adr cy M i) : (ypl adr cy M ++ E).set j (adr j, e) = ypl adr cy M' ++ E := by
  apply List.ext_getElem?
  intro i
  rw [List.getElem?_set]
  by_cases hi : j = i
  · subst hi
    rw [if_pos rfl, if_pos (by rw [List.length_append, ypl_len]; omega), ypl_get hj, he]
  · rw [if_neg hi]
    by_cases hl : i < 58
    · rw [ypl_get hl, ypl_get hl, ho i (fun q => hi q.symm)]
    · obtain ⟨k, rfl⟩ : ∃ k, i = 58 + k := ⟨i - 58, by omega⟩
      rw [ypl_E, ypl_E]
theorem ycl_row {adr : Nat → Nat} {cy : Nat → ClassId} {M M' : yM} {j : Nat} (h : M' j = M j) : ycl adr cy M' j = ycl adr cy M j := by
  have hv : ∀ n, yfs adr M' j n = yfs adr M j n := by
    intro n
    unfold yfs
    congr 1
    funext k
    unfold yvl
    rw [h]
  unfold ycl
  rw [hv, h]
theorem yfs_get {adr : Nat → Nat} {M : yM} {j n k : Nat} (hk : k < n) : (yfs adr M j n)[k]? = some (yvl adr M j k) := by simp [yfs, hk]
theorem yfs_len {adr : Nat → Nat} {M : yM} {j n : Nat} : (yfs adr M j n).length = n := by simp [yfs]
theorem yfs_set {adr : Nat → Nat} {M : yM} {j n k : Nat} {v : Int32} (hr : yrf j k = none) : (yfs adr M j n).set k (.int v) = yfs adr (yst M j k v) j n := by
  apply List.ext_getElem?
  intro i
  rw [List.getElem?_set]
  by_cases hi : k = i
  · subst hi
    rw [if_pos rfl, yfs_len]
    by_cases hn : k < n
    · rw [if_pos hn, yfs_get hn]; simp [yvl, hr, yst]
    · rw [if_neg hn]; simp [yfs, hn]
  · rw [if_neg hi]
    by_cases hn : i < n
    · rw [yfs_get hn, yfs_get hn]
      unfold yvl
      rw [yst_at, if_neg (fun q => hi q.symm)]
    · simp [yfs, hn]
theorem ypl_setf {adr : Nat → Nat} {cy : Nat → ClassId} {M : yM} {E : va_W} {j k ci : Nat} {v : Int32} (hkd : ykd j = ci) (hci : ci < 6) (hr : yrf j k = none) : (ypl adr cy M ++ E).set j (adr j, .inr (ci, (yfs adr M j (ynf ci)).set k (.int v))) = ypl adr cy (yst M j k v) ++ E := by
  subst hkd
  refine ypl_upd (ykd_lt (by omega)) ?_ (fun i hi => ycl_row (yst_row hi))
  unfold ycl
  rw [if_pos hci, yfs_set hr]
theorem ypl_seti {adr : Nat → Nat} {cy : Nat → ClassId} {M : yM} {E : va_W} {j k : Nat} {v : Int32} (hkd : ykd j = 6) : (ypl adr cy M ++ E).set j (adr j, .inl (cy 0, 193, .inl (upd (M j) k v))) = ypl adr cy (yst M j k v) ++ E := by
  refine ypl_upd (ykd_lt (by omega)) ?_ (fun i hi => ycl_row (yst_row hi))
  unfold ycl
  rw [if_neg (by omega), if_pos hkd]
  congr 4
  funext b
  rw [yst_at]
  by_cases hb : b = k
  · subst hb; rw [if_pos rfl, pk_us]
  · rw [if_neg hb, pk_un hb]
theorem ypl_D {adr : Nat → Nat} {cy : Nat → ClassId} {M M' : yM} {E : va_W} {A : Nat → Prop} (h : va_D A (ypl adr cy M ++ E)) : va_D A (ypl adr cy M' ++ E) := by
  have key : ∀ (i : Nat) (p : Nat × va_E), (ypl adr cy M' ++ E)[i]? = some p → ∃ q, (ypl adr cy M ++ E)[i]? = some q ∧ q.1 = p.1 := by
    intro i p hp
    by_cases hl : i < 58
    · rw [ypl_get hl] at hp
      cases hp
      exact ⟨_, ypl_get hl, rfl⟩
    · obtain ⟨k, rfl⟩ : ∃ k, i = 58 + k := ⟨i - 58, by omega⟩
      rw [ypl_E] at hp
      exact ⟨p, by rw [ypl_E]; exact hp, rfl⟩
  refine ⟨fun i j p q hp hq e => ?_, fun k q hq => ?_⟩
  · obtain ⟨p', h1, h2⟩ := key i p hp
    obtain ⟨q', h3, h4⟩ := key j q hq
    exact h.1 i j p' q' h1 h3 (by rw [h2, h4, e])
  · obtain ⟨q', h1, h2⟩ := key k q hq
    rw [← h2]
    exact h.2 k q' h1
/-- which cells a method may change: the objects, and what it makes -/
def yAA (adr : Nat → Nat) (sz : Nat) : Nat → Prop := fun q => (∃ j, j < 58 ∧ q = adr j) ∨ sz ≤ q
/-- the standing of a walk: what the rows don't look at -/
abbrev yK : Type := Program × Env × State × MethodId × Array Value × List Frame × Method × Code × (Nat → Prop)
def Cx (K : yK) (cc : ByteArray) (own : String) (Ts : List Cond) (nL : Nat) (ret : Option FieldType) (D : va_G) (cy : Nat → ClassId) : Prop := match K with
  | (p, _, s, m, args, _, meth, c, A) => p.tables.exec = Jvm.exec ∧ c.code = cc ∧ c.maxLocals = nL ∧ s.vm.findClass own = some m.cls ∧ (∀ w ∈ Ts, w.before args s = true) ∧ va_K D vwCl (ytys cy) s ∧ (∀ q, s.heap.size ≤ q → A q) ∧ meth.sig.returnType = ret ∧ meth.locks = false
def Y (K : yK) (l : Launch) (R : Room) (D : va_G) (cy : Nat → ClassId) (adr : Nat → Nat) (nL cells slots : Nat) (Q : State → Prop) (M : yM) (E : va_W) (lv : List (Nat × Value)) (pc : Nat) (st : List Value) : Prop := match K with
  | (p, e, s, m, args, below, meth, c, A) => ∀ (H : Heap) (locs : List Loc) (ls : Array Slot), va_P D vwCl (ypl adr cy M ++ E) H → va_D A (ypl adr cy M ++ E) → va_S A s.heap H locs → lv_has ls nL lv → W p l e R s m args below meth c H locs cells slots Q (F0 m pc ls st)
section Rows
variable {K : yK} {l : Launch} {R : Room} {D : va_G} {cy : Nat → ClassId} {adr : Nat → Nat} {nL cells slots : Nat} {Q : State → Prop} {M : yM} {E : va_W} {lv : List (Nat × Value)} {pc : Nat} {st : List Value} {cc : ByteArray} {own : String} {Ts : List Cond} {ret : Option FieldType}
theorem y_iconst (C0 : Cx K cc own Ts nL ret D cy) {n : Int} {v : Int32} (d : decode cc pc = .ok (.iconst n, 1)) (hv : Int32.ofInt n = v) (k : Y K l R D cy adr nL cells slots Q M E lv (pc + 1) (.int v :: st)) : Y K l R D cy adr nL cells slots Q M E lv pc st := by
  obtain ⟨p, e, s, m, args, below, meth, c, A⟩ := K
  exact fun H locs ls hP hD hS hl => lv_iconst C0.1 C0.2.1 d hv (k H locs ls hP hD hS hl)
theorem y_bipush (C0 : Cx K cc own Ts nL ret D cy) {n : Int} {v : Int32} (d : decode cc pc = .ok (.bipush n, 2)) (hv : (Int8.ofInt n).toInt32 = v) (k : Y K l R D cy adr nL cells slots Q M E lv (pc + 2) (.int v :: st)) : Y K l R D cy adr nL cells slots Q M E lv pc st := by
  obtain ⟨p, e, s, m, args, below, meth, c, A⟩ := K
  exact fun H locs ls hP hD hS hl => lv_bipush C0.1 C0.2.1 d hv (k H locs ls hP hD hS hl)
theorem y_sipush (C0 : Cx K cc own Ts nL ret D cy) {n : Int} {v : Int32} (d : decode cc pc = .ok (.sipush n, 3)) (hv : (Int16.ofInt n).toInt32 = v) (k : Y K l R D cy adr nL cells slots Q M E lv (pc + 3) (.int v :: st)) : Y K l R D cy adr nL cells slots Q M E lv pc st := by
  obtain ⟨p, e, s, m, args, below, meth, c, A⟩ := K
  exact fun H locs ls hP hD hS hl => lv_sipush C0.1 C0.2.1 d hv (k H locs ls hP hD hS hl)
theorem y_ldc2 (C0 : Cx K cc own Ts nL ret D cy) {index : Nat} {v : Int64} (hw : Jvm.Cond.constantLong own index v ∈ Ts) (d : decode cc pc = .ok (.ldc2_w index, 3)) (k : Y K l R D cy adr nL cells slots Q M E lv (pc + 3) (.long v :: st)) : Y K l R D cy adr nL cells slots Q M E lv pc st := by
  obtain ⟨p, e, s, m, args, below, meth, c, A⟩ := K
  exact fun H locs ls hP hD hS hl => lv_ldc2 C0.1 C0.2.1 C0.2.2.2.1 (C0.2.2.2.2.1 _ hw) d (k H locs ls hP hD hS hl)
theorem y_dconst0 (C0 : Cx K cc own Ts nL ret D cy) (d : decode cc pc = .ok (.dconst 0, 1)) (k : Y K l R D cy adr nL cells slots Q M E lv (pc + 1) (.double 0 :: st)) : Y K l R D cy adr nL cells slots Q M E lv pc st := by
  obtain ⟨p, e, s, m, args, below, meth, c, A⟩ := K
  exact fun H locs ls hP hD hS hl => lv_dconst0 C0.1 C0.2.1 d (k H locs ls hP hD hS hl)
theorem y_iload_n (C0 : Cx K cc own Ts nL ret D cy) (k : Nat) {q : Fin 4} {i : Nat} {x : Int32} (d : decode cc pc = .ok (.iload_n q, 1)) (hi : (q : Nat) = i) (hk : lv[k]? = some (i, .int x)) (kk : Y K l R D cy adr nL cells slots Q M E lv (pc + 1) (.int x :: st)) : Y K l R D cy adr nL cells slots Q M E lv pc st := by
  obtain ⟨p, e, s, m, args, below, meth, c, A⟩ := K
  exact fun H locs ls hP hD hS hl => lv_iload_n C0.1 C0.2.1 d hi (lv_at hl k hk) (kk H locs ls hP hD hS hl)
theorem y_iload (C0 : Cx K cc own Ts nL ret D cy) (k : Nat) {i : Nat} {x : Int32} (d : decode cc pc = .ok (.iload i, 2)) (hk : lv[k]? = some (i, .int x)) (kk : Y K l R D cy adr nL cells slots Q M E lv (pc + 2) (.int x :: st)) : Y K l R D cy adr nL cells slots Q M E lv pc st := by
  obtain ⟨p, e, s, m, args, below, meth, c, A⟩ := K
  exact fun H locs ls hP hD hS hl => lv_iload C0.1 C0.2.1 d (lv_at hl k hk) (kk H locs ls hP hD hS hl)
theorem y_lload_n (C0 : Cx K cc own Ts nL ret D cy) (k : Nat) {q : Fin 4} {i : Nat} {x : Int64} (d : decode cc pc = .ok (.lload_n q, 1)) (hi : (q : Nat) = i) (hk : lv[k]? = some (i, .long x)) (kk : Y K l R D cy adr nL cells slots Q M E lv (pc + 1) (.long x :: st)) : Y K l R D cy adr nL cells slots Q M E lv pc st := by
  obtain ⟨p, e, s, m, args, below, meth, c, A⟩ := K
  exact fun H locs ls hP hD hS hl => lv_lload_n C0.1 C0.2.1 d hi (lv_at hl k hk) (kk H locs ls hP hD hS hl)
theorem y_aload_n (C0 : Cx K cc own Ts nL ret D cy) (k : Nat) {q : Fin 4} {i : Nat} {x : Nat} (d : decode cc pc = .ok (.aload_n q, 1)) (hi : (q : Nat) = i) (hk : lv[k]? = some (i, .ref x)) (kk : Y K l R D cy adr nL cells slots Q M E lv (pc + 1) (.ref x :: st)) : Y K l R D cy adr nL cells slots Q M E lv pc st := by
  obtain ⟨p, e, s, m, args, below, meth, c, A⟩ := K
  exact fun H locs ls hP hD hS hl => lv_aload_n C0.1 C0.2.1 d hi (lv_at hl k hk) (kk H locs ls hP hD hS hl)
theorem y_aload (C0 : Cx K cc own Ts nL ret D cy) (k : Nat) {i : Nat} {x : Nat} (d : decode cc pc = .ok (.aload i, 2)) (hk : lv[k]? = some (i, .ref x)) (kk : Y K l R D cy adr nL cells slots Q M E lv (pc + 2) (.ref x :: st)) : Y K l R D cy adr nL cells slots Q M E lv pc st := by
  obtain ⟨p, e, s, m, args, below, meth, c, A⟩ := K
  exact fun H locs ls hP hD hS hl => lv_aload C0.1 C0.2.1 d (lv_at hl k hk) (kk H locs ls hP hD hS hl)
theorem y_istore_n (C0 : Cx K cc own Ts nL ret D cy) {q : Fin 4} {i : Nat} {x : Int32} (lv' : List (Nat × Value)) (d : decode cc pc = .ok (.istore_n q, 1)) (hi : (q : Nat) = i) (hn : i < nL) (hl' : (i, Value.int x) :: lv.filter (fun q => !(q.1 == i) && !(q.1 + 1 == i && q.2.category == 2)) = lv') (kk : Y K l R D cy adr nL cells slots Q M E lv' (pc + 1) st) : Y K l R D cy adr nL cells slots Q M E lv pc (.int x :: st) := by
  obtain ⟨p, e, s, m, args, below, meth, c, A⟩ := K
  exact fun H locs ls hP hD hS hl => lv_istore_n C0.1 C0.2.1 d hi hl hn hl' (fun ls hl => kk H locs ls hP hD hS hl)
theorem y_istore (C0 : Cx K cc own Ts nL ret D cy) {i : Nat} {x : Int32} (lv' : List (Nat × Value)) (d : decode cc pc = .ok (.istore i, 2)) (hn : i < nL) (hl' : (i, Value.int x) :: lv.filter (fun q => !(q.1 == i) && !(q.1 + 1 == i && q.2.category == 2)) = lv') (kk : Y K l R D cy adr nL cells slots Q M E lv' (pc + 2) st) : Y K l R D cy adr nL cells slots Q M E lv pc (.int x :: st) := by
  obtain ⟨p, e, s, m, args, below, meth, c, A⟩ := K
  exact fun H locs ls hP hD hS hl => lv_istore C0.1 C0.2.1 d hl hn hl' (fun ls hl => kk H locs ls hP hD hS hl)
theorem y_astore_n (C0 : Cx K cc own Ts nL ret D cy) {q : Fin 4} {i : Nat} {x : Nat} (lv' : List (Nat × Value)) (d : decode cc pc = .ok (.astore_n q, 1)) (hi : (q : Nat) = i) (hn : i < nL) (hl' : (i, Value.ref x) :: lv.filter (fun q => !(q.1 == i) && !(q.1 + 1 == i && q.2.category == 2)) = lv') (kk : Y K l R D cy adr nL cells slots Q M E lv' (pc + 1) st) : Y K l R D cy adr nL cells slots Q M E lv pc (.ref x :: st) := by
  obtain ⟨p, e, s, m, args, below, meth, c, A⟩ := K
  exact fun H locs ls hP hD hS hl => lv_astore_n C0.1 C0.2.1 d hi hl hn hl' (fun ls hl => kk H locs ls hP hD hS hl)
theorem y_astore (C0 : Cx K cc own Ts nL ret D cy) {i : Nat} {x : Nat} (lv' : List (Nat × Value)) (d : decode cc pc = .ok (.astore i, 2)) (hn : i < nL) (hl' : (i, Value.ref x) :: lv.filter (fun q => !(q.1 == i) && !(q.1 + 1 == i && q.2.category == 2)) = lv') (kk : Y K l R D cy adr nL cells slots Q M E lv' (pc + 2) st) : Y K l R D cy adr nL cells slots Q M E lv pc (.ref x :: st) := by
  obtain ⟨p, e, s, m, args, below, meth, c, A⟩ := K
  exact fun H locs ls hP hD hS hl => lv_astore C0.1 C0.2.1 d hl hn hl' (fun ls hl => kk H locs ls hP hD hS hl)
theorem y_lstore_n (C0 : Cx K cc own Ts nL ret D cy) {q : Fin 4} {i : Nat} {x : Int64} (lv' : List (Nat × Value)) (d : decode cc pc = .ok (.lstore_n q, 1)) (hi : (q : Nat) = i) (hn : i + 1 < nL) (hl' : (i, Value.long x) :: lv.filter (fun q => !(q.1 == i) && (!(q.1 == i + 1) && !(q.1 + 1 == i && q.2.category == 2))) = lv') (kk : Y K l R D cy adr nL cells slots Q M E lv' (pc + 1) st) : Y K l R D cy adr nL cells slots Q M E lv pc (.long x :: st) := by
  obtain ⟨p, e, s, m, args, below, meth, c, A⟩ := K
  exact fun H locs ls hP hD hS hl => lv_lstore_n C0.1 C0.2.1 d hi hl hn hl' (fun ls hl => kk H locs ls hP hD hS hl)
theorem y_iinc (C0 : Cx K cc own Ts nL ret D cy) (k : Nat) {i : Nat} {n : Int} {x v : Int32} (lv' : List (Nat × Value)) (d : decode cc pc = .ok (.iinc i n, 3)) (hk : lv[k]? = some (i, .int x)) (hv : x + Int32.ofInt n = v) (hn : i < nL) (hl' : (i, Value.int v) :: lv.filter (fun q => !(q.1 == i) && !(q.1 + 1 == i && q.2.category == 2)) = lv') (kk : Y K l R D cy adr nL cells slots Q M E lv' (pc + 3) st) : Y K l R D cy adr nL cells slots Q M E lv pc st := by
  obtain ⟨p, e, s, m, args, below, meth, c, A⟩ := K
  exact fun H locs ls hP hD hS hl => lv_iinc C0.1 C0.2.1 d hl hk hv hn hl' (fun ls hl => kk H locs ls hP hD hS hl)
theorem y_sub (ks : List Nat) (lv' : List (Nat × Value)) (h : lv_pick lv ks = lv') (k : Y K l R D cy adr nL cells slots Q M E lv' pc st) : Y K l R D cy adr nL cells slots Q M E lv pc st := by
  obtain ⟨p, e, s, m, args, below, meth, c, A⟩ := K
  exact fun H locs ls hP hD hS hl => k H locs ls hP hD hS (lv_sub hl ks h)
theorem y_eq {M' : yM} {lv' : List (Nat × Value)} {st' : List Value} (h1 : M' = M) (h2 : lv' = lv) (h3 : st' = st) (k : Y K l R D cy adr nL cells slots Q M' E lv' pc st') : Y K l R D cy adr nL cells slots Q M E lv pc st := by
  subst h1; subst h2; subst h3; exact k
theorem y_iadd (C0 : Cx K cc own Ts nL ret D cy) {x y : Int32} (d : decode cc pc = .ok (.iadd, 1)) (k : Y K l R D cy adr nL cells slots Q M E lv (pc + 1) (.int (x + y) :: st)) : Y K l R D cy adr nL cells slots Q M E lv pc (.int y :: .int x :: st) := by
  obtain ⟨p, e, s, m, args, below, meth, c, A⟩ := K
  exact fun H locs ls hP hD hS hl => lv_iadd C0.1 C0.2.1 d (k H locs ls hP hD hS hl)
theorem y_isub (C0 : Cx K cc own Ts nL ret D cy) {x y : Int32} (d : decode cc pc = .ok (.isub, 1)) (k : Y K l R D cy adr nL cells slots Q M E lv (pc + 1) (.int (x - y) :: st)) : Y K l R D cy adr nL cells slots Q M E lv pc (.int y :: .int x :: st) := by
  obtain ⟨p, e, s, m, args, below, meth, c, A⟩ := K
  exact fun H locs ls hP hD hS hl => lv_isub C0.1 C0.2.1 d (k H locs ls hP hD hS hl)
theorem y_imul (C0 : Cx K cc own Ts nL ret D cy) {x y : Int32} (d : decode cc pc = .ok (.imul, 1)) (k : Y K l R D cy adr nL cells slots Q M E lv (pc + 1) (.int (x * y) :: st)) : Y K l R D cy adr nL cells slots Q M E lv pc (.int y :: .int x :: st) := by
  obtain ⟨p, e, s, m, args, below, meth, c, A⟩ := K
  exact fun H locs ls hP hD hS hl => lv_imul C0.1 C0.2.1 d (k H locs ls hP hD hS hl)
theorem y_idiv (C0 : Cx K cc own Ts nL ret D cy) {x y : Int32} (d : decode cc pc = .ok (.idiv, 1)) (hne : ¬ y = 0) (k : Y K l R D cy adr nL cells slots Q M E lv (pc + 1) (.int (x / y) :: st)) : Y K l R D cy adr nL cells slots Q M E lv pc (.int y :: .int x :: st) := by
  obtain ⟨p, e, s, m, args, below, meth, c, A⟩ := K
  exact fun H locs ls hP hD hS hl => lv_idiv C0.1 C0.2.1 d hne (k H locs ls hP hD hS hl)
theorem y_irem (C0 : Cx K cc own Ts nL ret D cy) {x y v : Int32} (d : decode cc pc = .ok (.irem, 1)) (hne : ¬ y = 0) (hv : x - x / y * y = v) (k : Y K l R D cy adr nL cells slots Q M E lv (pc + 1) (.int v :: st)) : Y K l R D cy adr nL cells slots Q M E lv pc (.int y :: .int x :: st) := by
  subst hv
  obtain ⟨p, e, s, m, args, below, meth, c, A⟩ := K
  exact fun H locs ls hP hD hS hl => lv_irem C0.1 C0.2.1 d hne (k H locs ls hP hD hS hl)
theorem y_iand (C0 : Cx K cc own Ts nL ret D cy) {x y : Int32} (d : decode cc pc = .ok (.iand, 1)) (k : Y K l R D cy adr nL cells slots Q M E lv (pc + 1) (.int (x &&& y) :: st)) : Y K l R D cy adr nL cells slots Q M E lv pc (.int y :: .int x :: st) := by
  obtain ⟨p, e, s, m, args, below, meth, c, A⟩ := K
  exact fun H locs ls hP hD hS hl => lv_iand C0.1 C0.2.1 d (k H locs ls hP hD hS hl)
theorem y_ladd (C0 : Cx K cc own Ts nL ret D cy) {x y : Int64} (d : decode cc pc = .ok (.ladd, 1)) (k : Y K l R D cy adr nL cells slots Q M E lv (pc + 1) (.long (x + y) :: st)) : Y K l R D cy adr nL cells slots Q M E lv pc (.long y :: .long x :: st) := by
  obtain ⟨p, e, s, m, args, below, meth, c, A⟩ := K
  exact fun H locs ls hP hD hS hl => lv_ladd C0.1 C0.2.1 d (k H locs ls hP hD hS hl)
theorem y_lmul (C0 : Cx K cc own Ts nL ret D cy) {x y : Int64} (d : decode cc pc = .ok (.lmul, 1)) (k : Y K l R D cy adr nL cells slots Q M E lv (pc + 1) (.long (x * y) :: st)) : Y K l R D cy adr nL cells slots Q M E lv pc (.long y :: .long x :: st) := by
  obtain ⟨p, e, s, m, args, below, meth, c, A⟩ := K
  exact fun H locs ls hP hD hS hl => lv_lmul C0.1 C0.2.1 d (k H locs ls hP hD hS hl)
theorem y_i2l (C0 : Cx K cc own Ts nL ret D cy) {x : Int32} (d : decode cc pc = .ok (.i2l, 1)) (k : Y K l R D cy adr nL cells slots Q M E lv (pc + 1) (.long x.toInt64 :: st)) : Y K l R D cy adr nL cells slots Q M E lv pc (.int x :: st) := by
  obtain ⟨p, e, s, m, args, below, meth, c, A⟩ := K
  exact fun H locs ls hP hD hS hl => lv_i2l C0.1 C0.2.1 d rfl (k H locs ls hP hD hS hl)
theorem y_dup (C0 : Cx K cc own Ts nL ret D cy) {va : Value} (d : decode cc pc = .ok (.dup, 1)) (hva : va.category = 1) (k : Y K l R D cy adr nL cells slots Q M E lv (pc + 1) (va :: va :: st)) : Y K l R D cy adr nL cells slots Q M E lv pc (va :: st) := by
  obtain ⟨p, e, s, m, args, below, meth, c, A⟩ := K
  exact fun H locs ls hP hD hS hl => lv_dup C0.1 C0.2.1 d hva (k H locs ls hP hD hS hl)
theorem y_dup2 (C0 : Cx K cc own Ts nL ret D cy) {va vb : Value} (d : decode cc pc = .ok (.dup2, 1)) (hva : va.category = 1) (hvb : vb.category = 1) (k : Y K l R D cy adr nL cells slots Q M E lv (pc + 1) (va :: vb :: va :: vb :: st)) : Y K l R D cy adr nL cells slots Q M E lv pc (va :: vb :: st) := by
  obtain ⟨p, e, s, m, args, below, meth, c, A⟩ := K
  exact fun H locs ls hP hD hS hl => lv_dup2_11 C0.1 C0.2.1 d hva hvb (k H locs ls hP hD hS hl)
theorem y_pop (C0 : Cx K cc own Ts nL ret D cy) {va : Value} (d : decode cc pc = .ok (.pop, 1)) (hva : va.category = 1) (k : Y K l R D cy adr nL cells slots Q M E lv (pc + 1) st) : Y K l R D cy adr nL cells slots Q M E lv pc (va :: st) := by
  obtain ⟨p, e, s, m, args, below, meth, c, A⟩ := K
  exact fun H locs ls hP hD hS hl => lv_pop C0.1 C0.2.1 d hva (k H locs ls hP hD hS hl)
theorem y_goto (C0 : Cx K cc own Ts nL ret D cy) {off : Int} (tgt : Nat) (d : decode cc pc = .ok (.goto off, 3)) (ht : (pc : Int) + off = (tgt : Int)) (k : Y K l R D cy adr nL cells slots Q M E lv tgt st) : Y K l R D cy adr nL cells slots Q M E lv pc st := by
  obtain ⟨p, e, s, m, args, below, meth, c, A⟩ := K
  exact fun H locs ls hP hD hS hl => lv_goto C0.1 C0.2.1 d ht (k H locs ls hP hD hS hl)
theorem y_if_eq (C0 : Cx K cc own Ts nL ret D cy) {x : Int32} {off : Int} (tgt : Nat) (d : decode cc pc = .ok (.ifCond .eq off, 3)) (ht : (pc : Int) + off = (tgt : Int)) (kt : x = 0 → Y K l R D cy adr nL cells slots Q M E lv tgt st) (kf : ¬ x = 0 → Y K l R D cy adr nL cells slots Q M E lv (pc + 3) st) : Y K l R D cy adr nL cells slots Q M E lv pc (.int x :: st) := by
  obtain ⟨p, e, s, m, args, below, meth, c, A⟩ := K
  exact fun H locs ls hP hD hS hl => lv_if_eq C0.1 C0.2.1 d ht (fun q => kt q H locs ls hP hD hS hl) (fun q => kf q H locs ls hP hD hS hl)
theorem y_icmp_eq (C0 : Cx K cc own Ts nL ret D cy) {x y : Int32} {off : Int} (tgt : Nat) (d : decode cc pc = .ok (.if_icmp .eq off, 3)) (ht : (pc : Int) + off = (tgt : Int)) (kt : x = y → Y K l R D cy adr nL cells slots Q M E lv tgt st) (kf : ¬ x = y → Y K l R D cy adr nL cells slots Q M E lv (pc + 3) st) : Y K l R D cy adr nL cells slots Q M E lv pc (.int y :: .int x :: st) := by
  obtain ⟨p, e, s, m, args, below, meth, c, A⟩ := K
  exact fun H locs ls hP hD hS hl => lv_icmp_eq C0.1 C0.2.1 d ht (fun q => kt q H locs ls hP hD hS hl) (fun q => kf q H locs ls hP hD hS hl)
theorem y_if_ne (C0 : Cx K cc own Ts nL ret D cy) {x : Int32} {off : Int} (tgt : Nat) (d : decode cc pc = .ok (.ifCond .ne off, 3)) (ht : (pc : Int) + off = (tgt : Int)) (kt : ¬ x = 0 → Y K l R D cy adr nL cells slots Q M E lv tgt st) (kf : x = 0 → Y K l R D cy adr nL cells slots Q M E lv (pc + 3) st) : Y K l R D cy adr nL cells slots Q M E lv pc (.int x :: st) := by
  obtain ⟨p, e, s, m, args, below, meth, c, A⟩ := K
  exact fun H locs ls hP hD hS hl => lv_if_ne C0.1 C0.2.1 d ht (fun q => kt q H locs ls hP hD hS hl) (fun q => kf q H locs ls hP hD hS hl)
theorem y_icmp_ne (C0 : Cx K cc own Ts nL ret D cy) {x y : Int32} {off : Int} (tgt : Nat) (d : decode cc pc = .ok (.if_icmp .ne off, 3)) (ht : (pc : Int) + off = (tgt : Int)) (kt : ¬ x = y → Y K l R D cy adr nL cells slots Q M E lv tgt st) (kf : x = y → Y K l R D cy adr nL cells slots Q M E lv (pc + 3) st) : Y K l R D cy adr nL cells slots Q M E lv pc (.int y :: .int x :: st) := by
  obtain ⟨p, e, s, m, args, below, meth, c, A⟩ := K
  exact fun H locs ls hP hD hS hl => lv_icmp_ne C0.1 C0.2.1 d ht (fun q => kt q H locs ls hP hD hS hl) (fun q => kf q H locs ls hP hD hS hl)
theorem y_if_lt (C0 : Cx K cc own Ts nL ret D cy) {x : Int32} {off : Int} (tgt : Nat) (d : decode cc pc = .ok (.ifCond .lt off, 3)) (ht : (pc : Int) + off = (tgt : Int)) (kt : x < 0 → Y K l R D cy adr nL cells slots Q M E lv tgt st) (kf : ¬ x < 0 → Y K l R D cy adr nL cells slots Q M E lv (pc + 3) st) : Y K l R D cy adr nL cells slots Q M E lv pc (.int x :: st) := by
  obtain ⟨p, e, s, m, args, below, meth, c, A⟩ := K
  exact fun H locs ls hP hD hS hl => lv_if_lt C0.1 C0.2.1 d ht (fun q => kt q H locs ls hP hD hS hl) (fun q => kf q H locs ls hP hD hS hl)
theorem y_icmp_lt (C0 : Cx K cc own Ts nL ret D cy) {x y : Int32} {off : Int} (tgt : Nat) (d : decode cc pc = .ok (.if_icmp .lt off, 3)) (ht : (pc : Int) + off = (tgt : Int)) (kt : x < y → Y K l R D cy adr nL cells slots Q M E lv tgt st) (kf : ¬ x < y → Y K l R D cy adr nL cells slots Q M E lv (pc + 3) st) : Y K l R D cy adr nL cells slots Q M E lv pc (.int y :: .int x :: st) := by
  obtain ⟨p, e, s, m, args, below, meth, c, A⟩ := K
  exact fun H locs ls hP hD hS hl => lv_icmp_lt C0.1 C0.2.1 d ht (fun q => kt q H locs ls hP hD hS hl) (fun q => kf q H locs ls hP hD hS hl)
theorem y_if_ge (C0 : Cx K cc own Ts nL ret D cy) {x : Int32} {off : Int} (tgt : Nat) (d : decode cc pc = .ok (.ifCond .ge off, 3)) (ht : (pc : Int) + off = (tgt : Int)) (kt : 0 ≤ x → Y K l R D cy adr nL cells slots Q M E lv tgt st) (kf : ¬ 0 ≤ x → Y K l R D cy adr nL cells slots Q M E lv (pc + 3) st) : Y K l R D cy adr nL cells slots Q M E lv pc (.int x :: st) := by
  obtain ⟨p, e, s, m, args, below, meth, c, A⟩ := K
  exact fun H locs ls hP hD hS hl => lv_if_ge C0.1 C0.2.1 d ht (fun q => kt q H locs ls hP hD hS hl) (fun q => kf q H locs ls hP hD hS hl)
theorem y_icmp_ge (C0 : Cx K cc own Ts nL ret D cy) {x y : Int32} {off : Int} (tgt : Nat) (d : decode cc pc = .ok (.if_icmp .ge off, 3)) (ht : (pc : Int) + off = (tgt : Int)) (kt : y ≤ x → Y K l R D cy adr nL cells slots Q M E lv tgt st) (kf : ¬ y ≤ x → Y K l R D cy adr nL cells slots Q M E lv (pc + 3) st) : Y K l R D cy adr nL cells slots Q M E lv pc (.int y :: .int x :: st) := by
  obtain ⟨p, e, s, m, args, below, meth, c, A⟩ := K
  exact fun H locs ls hP hD hS hl => lv_icmp_ge C0.1 C0.2.1 d ht (fun q => kt q H locs ls hP hD hS hl) (fun q => kf q H locs ls hP hD hS hl)
theorem y_if_gt (C0 : Cx K cc own Ts nL ret D cy) {x : Int32} {off : Int} (tgt : Nat) (d : decode cc pc = .ok (.ifCond .gt off, 3)) (ht : (pc : Int) + off = (tgt : Int)) (kt : 0 < x → Y K l R D cy adr nL cells slots Q M E lv tgt st) (kf : ¬ 0 < x → Y K l R D cy adr nL cells slots Q M E lv (pc + 3) st) : Y K l R D cy adr nL cells slots Q M E lv pc (.int x :: st) := by
  obtain ⟨p, e, s, m, args, below, meth, c, A⟩ := K
  exact fun H locs ls hP hD hS hl => lv_if_gt C0.1 C0.2.1 d ht (fun q => kt q H locs ls hP hD hS hl) (fun q => kf q H locs ls hP hD hS hl)
theorem y_icmp_gt (C0 : Cx K cc own Ts nL ret D cy) {x y : Int32} {off : Int} (tgt : Nat) (d : decode cc pc = .ok (.if_icmp .gt off, 3)) (ht : (pc : Int) + off = (tgt : Int)) (kt : y < x → Y K l R D cy adr nL cells slots Q M E lv tgt st) (kf : ¬ y < x → Y K l R D cy adr nL cells slots Q M E lv (pc + 3) st) : Y K l R D cy adr nL cells slots Q M E lv pc (.int y :: .int x :: st) := by
  obtain ⟨p, e, s, m, args, below, meth, c, A⟩ := K
  exact fun H locs ls hP hD hS hl => lv_icmp_gt C0.1 C0.2.1 d ht (fun q => kt q H locs ls hP hD hS hl) (fun q => kf q H locs ls hP hD hS hl)
theorem y_if_le (C0 : Cx K cc own Ts nL ret D cy) {x : Int32} {off : Int} (tgt : Nat) (d : decode cc pc = .ok (.ifCond .le off, 3)) (ht : (pc : Int) + off = (tgt : Int)) (kt : x ≤ 0 → Y K l R D cy adr nL cells slots Q M E lv tgt st) (kf : ¬ x ≤ 0 → Y K l R D cy adr nL cells slots Q M E lv (pc + 3) st) : Y K l R D cy adr nL cells slots Q M E lv pc (.int x :: st) := by
  obtain ⟨p, e, s, m, args, below, meth, c, A⟩ := K
  exact fun H locs ls hP hD hS hl => lv_if_le C0.1 C0.2.1 d ht (fun q => kt q H locs ls hP hD hS hl) (fun q => kf q H locs ls hP hD hS hl)
theorem y_icmp_le (C0 : Cx K cc own Ts nL ret D cy) {x y : Int32} {off : Int} (tgt : Nat) (d : decode cc pc = .ok (.if_icmp .le off, 3)) (ht : (pc : Int) + off = (tgt : Int)) (kt : x ≤ y → Y K l R D cy adr nL cells slots Q M E lv tgt st) (kf : ¬ x ≤ y → Y K l R D cy adr nL cells slots Q M E lv (pc + 3) st) : Y K l R D cy adr nL cells slots Q M E lv pc (.int y :: .int x :: st) := by
  obtain ⟨p, e, s, m, args, below, meth, c, A⟩ := K
  exact fun H locs ls hP hD hS hl => lv_icmp_le C0.1 C0.2.1 d ht (fun q => kt q H locs ls hP hD hS hl) (fun q => kf q H locs ls hP hD hS hl)
theorem y_ifnonnull (C0 : Cx K cc own Ts nL ret D cy) {x : Nat} {off : Int} (tgt : Nat) (d : decode cc pc = .ok (.ifnonnull off, 3)) (ht : (pc : Int) + off = (tgt : Int)) (k : Y K l R D cy adr nL cells slots Q M E lv tgt st) : Y K l R D cy adr nL cells slots Q M E lv pc (.ref x :: st) := by
  obtain ⟨p, e, s, m, args, below, meth, c, A⟩ := K
  exact fun H locs ls hP hD hS hl => lv_ifnonnull C0.1 C0.2.1 d ht (k H locs ls hP hD hS hl)
theorem y_ifnonnullN (C0 : Cx K cc own Ts nL ret D cy) {off : Int} (d : decode cc pc = .ok (.ifnonnull off, 3)) (k : Y K l R D cy adr nL cells slots Q M E lv (pc + 3) st) : Y K l R D cy adr nL cells slots Q M E lv pc (.null :: st) := by
  obtain ⟨p, e, s, m, args, below, meth, c, A⟩ := K
  exact fun H locs ls hP hD hS hl => lv_ifnonnullN C0.1 C0.2.1 d (k H locs ls hP hD hS hl)
theorem y_ifnull (C0 : Cx K cc own Ts nL ret D cy) {x : Nat} {off : Int} (d : decode cc pc = .ok (.ifnull off, 3)) (k : Y K l R D cy adr nL cells slots Q M E lv (pc + 3) st) : Y K l R D cy adr nL cells slots Q M E lv pc (.ref x :: st) := by
  obtain ⟨p, e, s, m, args, below, meth, c, A⟩ := K
  exact fun H locs ls hP hD hS hl => lv_ifnull C0.1 C0.2.1 d (k H locs ls hP hD hS hl)
theorem y_ifnullN (C0 : Cx K cc own Ts nL ret D cy) {off : Int} (tgt : Nat) (d : decode cc pc = .ok (.ifnull off, 3)) (ht : (pc : Int) + off = (tgt : Int)) (k : Y K l R D cy adr nL cells slots Q M E lv tgt st) : Y K l R D cy adr nL cells slots Q M E lv pc (.null :: st) := by
  obtain ⟨p, e, s, m, args, below, meth, c, A⟩ := K
  exact fun H locs ls hP hD hS hl => lv_ifnullN C0.1 C0.2.1 d ht (k H locs ls hP hD hS hl)
theorem y_get (C0 : Cx K cc own Ts nL ret D cy) (ci : Nat) {C : String} {T : u_T} {N : Nat} (hc : vwCl[ci]? = some (C, T, N)) (hN : ynf ci = N) (hci : ci < 6) (hin : ∀ w ∈ u_ws C T N, w ∈ Ts) {index j : Nat} (k : Nat) (hkd : ykd j = ci) (hk : k < N) (hw : Cond.fieldLink own index (T k).1 (T k).2.1 (T k).2.2.1 ∈ Ts) {v : Value} (hv : yvl adr M j k = v) (d : decode cc pc = .ok (.getfield index, 3)) (kk : Y K l R D cy adr nL cells slots Q M E lv (pc + 3) (v :: st)) : Y K l R D cy adr nL cells slots Q M E lv pc (.ref (adr j) :: st) := by
  obtain ⟨p, e, s, m, args, below, meth, c, A⟩ := K
  obtain ⟨hx, hb, hml, hown, hts, hK, hA, hr, hlk⟩ := C0
  intro H locs ls hP hD hS hl
  have he : (ypl adr cy M ++ E)[j]? = some (adr j, .inr (ci, yfs adr M j N)) := by
    rw [ypl_get (ykd_lt (by omega))]
    unfold ycl
    rw [if_pos (by omega), hkd, hN]
  exact va_get (D := D) (ci := ci) (v := v) (C := C) (T := T) (N := N) hx hb hts hin hown hK hP j he hc k hk (hts _ hw) (fun _ h9 => h9) (by rw [yfs_get hk, hv]) d (kk H locs ls hP hD hS hl)
theorem y_put (C0 : Cx K cc own Ts nL ret D cy) (ci : Nat) {C : String} {T : u_T} {N : Nat} (hc : vwCl[ci]? = some (C, T, N)) (hN : ynf ci = N) (hci : ci < 6) (hin : ∀ w ∈ u_ws C T N, w ∈ Ts) (ty0 : Nat → FieldType) (hty : ∀ k, k < N → parseFieldDescriptor (T k).2.2.1 = some (ty0 k)) (hnm : ∀ a, a < N → ∀ b, b < N → a ≠ b → (T a).2.1 ≠ (T b).2.1) {index j : Nat} (k : Nat) (hkd : ykd j = ci) (hk : k < N) (hw : Cond.fieldLink own index (T k).1 (T k).2.1 (T k).2.2.1 ∈ Ts) (hrf : yrf j k = none) (hfin : (T k).2.2.2 = false) (hdsc : parseFieldDescriptor (T k).2.2.1 = some .int) {x : Int32} (d : decode cc pc = .ok (.putfield index, 3)) (kk : Y K l R D cy adr nL cells slots Q (yst M j k x) E lv (pc + 3) st) : Y K l R D cy adr nL cells slots Q M E lv pc (.int x :: .ref (adr j) :: st) := by
  obtain ⟨p, e, s, m, args, below, meth, c, A⟩ := K
  obtain ⟨hx, hb, hml, hown, hts, hK, hA, hr, hlk⟩ := C0
  intro H locs ls hP hD hS hl
  have he : (ypl adr cy M ++ E)[j]? = some (adr j, .inr (ci, yfs adr M j N)) := by
    rw [ypl_get (ykd_lt (by omega))]
    unfold ycl
    rw [if_pos (by omega), hkd, hN]
  refine va_put (D := D) (ci := ci) (v := .int x) (ty := .int) (C := C) (T := T) (N := N) hx hb hts hin ty0 hty hnm hown hK hP hD hS j he hc k hk (hts _ hw) (fun _ h9 => h9) hfin hdsc rfl rfl (by rw [yfs_len]; exact hk) d (fun H locs hP hD hS => ?_)
  subst hN
  rw [ypl_setf hkd hci hrf] at hP hD
  exact kk H locs ls hP hD hS hl
theorem y_iald (C0 : Cx K cc own Ts nL ret D cy) {j : Nat} (k : Nat) (hkd : ykd j = 6) {i : Int32} (hi : i = nI k) (hk : k < 193) (d : decode cc pc = .ok (.iaload, 1)) (kk : Y K l R D cy adr nL cells slots Q M E lv (pc + 1) (.int (M j k) :: st)) : Y K l R D cy adr nL cells slots Q M E lv pc (.int i :: .ref (adr j) :: st) := by
  obtain ⟨p, e, s, m, args, below, meth, c, A⟩ := K
  obtain ⟨hx, hb, hml, hown, hts, hK, hA, hr, hlk⟩ := C0
  intro H locs ls hP hD hS hl
  subst hi
  have he : (ypl adr cy M ++ E)[j]? = some (adr j, .inl (cy 0, 193, .inl (M j))) := by
    rw [ypl_get (ykd_lt (by omega))]
    unfold ycl
    rw [if_neg (by omega), if_pos hkd]
  have h := kk H locs ls hP hD hS hl
  rw [← nI_clamp (n := k) (by omega)] at h
  exact va_iald hx hb hK hP j 0 he rfl (vp_in_nI hk (by decide)) d h
theorem y_iast (C0 : Cx K cc own Ts nL ret D cy) {j : Nat} (k : Nat) (hkd : ykd j = 6) {i x : Int32} (hi : i = nI k) (hk : k < 193) (d : decode cc pc = .ok (.iastore, 1)) (kk : Y K l R D cy adr nL cells slots Q (yst M j k x) E lv (pc + 1) st) : Y K l R D cy adr nL cells slots Q M E lv pc (.int x :: .int i :: .ref (adr j) :: st) := by
  obtain ⟨p, e, s, m, args, below, meth, c, A⟩ := K
  obtain ⟨hx, hb, hml, hown, hts, hK, hA, hr, hlk⟩ := C0
  intro H locs ls hP hD hS hl
  subst hi
  have he : (ypl adr cy M ++ E)[j]? = some (adr j, .inl (cy 0, 193, .inl (M j))) := by
    rw [ypl_get (ykd_lt (by omega))]
    unfold ycl
    rw [if_neg (by omega), if_pos hkd]
  refine va_iast hx hb hK hP hD hS j 0 he rfl (vp_in_nI hk (by decide)) d (fun H locs hP hD hS => ?_)
  rw [nI_clamp (n := k) (by omega), ypl_seti hkd] at hP hD
  exact kk H locs ls hP hD hS hl
theorem y_aald (C0 : Cx K cc own Ts nL ret D cy) {j : Nat} (k ci : Nat) (hkd : ykd j = ci) (h7 : 6 < ci) (h10 : ci < 10) {i : Int32} (hi : i = nI k) (hk : k < yln ci) {t : Nat} (ht : yel j k = t) (d : decode cc pc = .ok (.aaload, 1)) (kk : Y K l R D cy adr nL cells slots Q M E lv (pc + 1) (.ref (adr t) :: st)) : Y K l R D cy adr nL cells slots Q M E lv pc (.int i :: .ref (adr j) :: st) := by
  obtain ⟨p, e, s, m, args, below, meth, c, A⟩ := K
  obtain ⟨hx, hb, hml, hown, hts, hK, hA, hr, hlk⟩ := C0
  intro H locs ls hP hD hS hl
  subst hi
  have he : (ypl adr cy M ++ E)[j]? = some (adr j, .inl (cy (ci - 6), yln ci, .inr (.inr (.inr (.inr (fun i => some (adr (yel j i)))))))) := by
    rw [ypl_get (ykd_lt (by omega))]
    unfold ycl
    rw [if_neg (by omega), if_neg (by omega), hkd]
  have hl15 : yln ci ≤ 15 := by unfold yln; split <;> omega
  have h := kk H locs ls hP hD hS hl
  subst ht
  rw [← nI_clamp (n := k) (by omega)] at h
  rcases (show ci = 7 ∨ ci = 8 ∨ ci = 9 by omega) with h7 | h7 | h7 <;> subst h7
  · exact va_aldq hx hb hK hP j 1 he rfl (vp_in_nI hk (by omega)) d h
  · exact va_aldq hx hb hK hP j 2 he rfl (vp_in_nI hk (by omega)) d h
  · exact va_aldq hx hb hK hP j 3 he rfl (vp_in_nI hk (by omega)) d h
theorem y_alen (C0 : Cx K cc own Ts nL ret D cy) {j : Nat} (ci : Nat) (hkd : ykd j = ci) (h7 : 6 < ci) (h10 : ci < 10) (d : decode cc pc = .ok (.arraylength, 1)) (kk : Y K l R D cy adr nL cells slots Q M E lv (pc + 1) (.int (nI (yln ci)) :: st)) : Y K l R D cy adr nL cells slots Q M E lv pc (.ref (adr j) :: st) := by
  obtain ⟨p, e, s, m, args, below, meth, c, A⟩ := K
  obtain ⟨hx, hb, hml, hown, hts, hK, hA, hr, hlk⟩ := C0
  intro H locs ls hP hD hS hl
  have he : (ypl adr cy M ++ E)[j]? = some (adr j, .inl (cy (ci - 6), yln ci, .inr (.inr (.inr (.inr (fun i => some (adr (yel j i)))))))) := by
    rw [ypl_get (ykd_lt (by omega))]
    unfold ycl
    rw [if_neg (by omega), if_neg (by omega), hkd]
  have h := kk H locs ls hP hD hS hl
  rcases (show ci = 7 ∨ ci = 8 ∨ ci = 9 by omega) with h7 | h7 | h7 <;> subst h7
  · exact va_alen hx hb hK hP j 1 he rfl rfl d h
  · exact va_alen hx hb hK hP j 2 he rfl rfl d h
  · exact va_alen hx hb hK hP j 3 he rfl rfl d h
theorem y_alen6 (C0 : Cx K cc own Ts nL ret D cy) {j : Nat} (hkd : ykd j = 6) (d : decode cc pc = .ok (.arraylength, 1)) (kk : Y K l R D cy adr nL cells slots Q M E lv (pc + 1) (.int 193 :: st)) : Y K l R D cy adr nL cells slots Q M E lv pc (.ref (adr j) :: st) := by
  obtain ⟨p, e, s, m, args, below, meth, c, A⟩ := K
  obtain ⟨hx, hb, hml, hown, hts, hK, hA, hr, hlk⟩ := C0
  intro H locs ls hP hD hS hl
  have he : (ypl adr cy M ++ E)[j]? = some (adr j, .inl (cy 0, 193, .inl (M j))) := by
    rw [ypl_get (ykd_lt (by omega))]
    unfold ycl
    rw [if_neg (by omega), if_pos hkd]
  exact va_alen hx hb hK hP j 0 he rfl rfl d (kk H locs ls hP hD hS hl)
theorem y_mmax (C0 : Cx K cc own Ts nL ret D cy) {index : Nat} (hw1 : Cond.methodLink own index Lib.Math.max.name ∈ Ts) (hw2 : Cond.static Lib.Math.max.name ∈ Ts) (hw3 : Cond.initialized "java/lang/Math" ∈ Ts) (hw4 : Cond.code Lib.Math.max.name Lib.Math.max.code 2 (some .int) ∈ Ts) (hf : 1 ≤ R.frames) (hlo : (st.map fun v => v.category).sum + 13 ≤ R.locals) (hc : cells ≤ R.cells) (hs : slots ≤ R.slots) {x y : Int32} (d : decode cc pc = .ok (.invokestatic index, 3)) (kk : Y K l R D cy adr nL cells slots Q M E lv (pc + 3) (.int (if x < y then y else x) :: st)) : Y K l R D cy adr nL cells slots Q M E lv pc (.int y :: .int x :: st) := by
  obtain ⟨p, e, s, m, args, below, meth, c, A⟩ := K
  obtain ⟨hx, hb, hml, hown, hts, hK, hA, hr, hlk⟩ := C0
  exact fun H locs ls hP hD hS hl => va_mmax hx hb (hml.trans hl.1.symm) hown (hts _ hw1) (hts _ hw2) (hts _ hw3) (hts _ hw4) hf hlo hc hs d (kk H locs ls hP hD hS hl)
theorem y_mmin (C0 : Cx K cc own Ts nL ret D cy) {index : Nat} (hw1 : Cond.methodLink own index Lib.Math.min.name ∈ Ts) (hw2 : Cond.static Lib.Math.min.name ∈ Ts) (hw3 : Cond.initialized "java/lang/Math" ∈ Ts) (hw4 : Cond.code Lib.Math.min.name Lib.Math.min.code 2 (some .int) ∈ Ts) (hf : 1 ≤ R.frames) (hlo : (st.map fun v => v.category).sum + 13 ≤ R.locals) (hc : cells ≤ R.cells) (hs : slots ≤ R.slots) {x y : Int32} (d : decode cc pc = .ok (.invokestatic index, 3)) (kk : Y K l R D cy adr nL cells slots Q M E lv (pc + 3) (.int (if y < x then y else x) :: st)) : Y K l R D cy adr nL cells slots Q M E lv pc (.int y :: .int x :: st) := by
  obtain ⟨p, e, s, m, args, below, meth, c, A⟩ := K
  obtain ⟨hx, hb, hml, hown, hts, hK, hA, hr, hlk⟩ := C0
  exact fun H locs ls hP hD hS hl => va_mmin hx hb (hml.trans hl.1.symm) hown (hts _ hw1) (hts _ hw2) (hts _ hw3) (hts _ hw4) hf hlo hc hs d (kk H locs ls hP hD hS hl)
theorem y_widen {k n : Nat} (h1 : cells ≤ k) (h2 : slots ≤ n) (kk : Y K l R D cy adr nL k n Q M E lv pc st) : Y K l R D cy adr nL cells slots Q M E lv pc st := by
  obtain ⟨p, e, s, m, args, below, meth, c, A⟩ := K
  exact fun H locs ls hP hD hS hl => W.widen h1 h2 (kk H locs ls hP hD hS hl)
end Rows
/-- a method's end: its answer, and the memory -/
def Qy (D : va_G) (cy : Nat → ClassId) (adr : Nat → Nat) (A : Nat → Prop) (r : Option Value) (M' : yM) : Array Value → State → Outcome → State → Prop := fun _ st oc t => oc = .returned r ∧ va_P D vwCl (ypl adr cy M') t.heap ∧ va_F A st t
/-- a method's start -/
def Py (D : va_G) (cy : Nat → ClassId) (adr : Nat → Nat) (sz : Nat) (As : List Value) (M : yM) : Array Value → State → Prop := va_Pc As (fun U => U.heap.size = sz ∧ va_P D vwCl (ypl adr cy M) U.heap ∧ va_K D vwCl (ytys cy) U ∧ va_D (fun _ => True) (ypl adr cy M))
/-- THE CONTRACT: called with As over the memory M, y answers r, and the memory is M' -/
def Ct (l : Launch) (y : MethodName) (ws : List Cond) (rm : Room) (D : va_G) (cy : Nat → ClassId) (adr : Nat → Nat) (As : List Value) (M : yM) (r : Option Value) (M' : yM) (mc ms : Nat) : Prop := ∀ sz, Met l y ws rm (Py D cy adr sz As M) (Qy D cy adr (yAA adr sz) r M') mc ms (yAA adr sz)
def QT (K : yK) (D : va_G) (cy : Nat → ClassId) (adr : Nat → Nat) (r : Option Value) (M' : yM) (mc ms : Nat) : State → Prop := match K with
  | (_, _, s, _, args, below, _, _, A) => MQ below (Qy D cy adr A r M') args s mc ms A
theorem Py_blind {D : va_G} {cy : Nat → ClassId} {adr : Nat → Nat} {sz : Nat} {As : List Value} {M : yM} : FrameBlind (Py D cy adr sz As M) := fun a U g mk q => by
  obtain ⟨q0, q1, qP, qK, qD⟩ := q
  exact ⟨q0, q1, qP, va_K.moved (u := U) (U := U.calling g mk a) (Vm.Alike.refl U.vm) qK, qD⟩
theorem Ct.mk {l : Launch} {y : MethodName} {ws ws' : List Cond} {rm : Room} {D : va_G} {cy : Nat → ClassId} {adr : Nat → Nat} {As : List Value} {M : yM} {r : Option Value} {M' : yM} {mc ms : Nat} (cc : ByteArray) (maxL : Nat) (ret : Option FieldType) (own : String)
    (hy : plainName y.cls = true) (hw : ws = Cond.code y cc maxL ret :: ws') (ho : y.cls = own) (hn : (lg_sl As).length ≤ maxL)
    (body : ∀ K : yK, Cx K cc own ws maxL ret D cy → Y K l rm D cy adr maxL 0 0 (QT K D cy adr r M' mc ms) M [] (lv_args 0 As) 0 []) : Ct l y ws rm D cy adr As M r M' mc ms := by
  intro sz
  refine Met.ofW (cc := cc) (maxL := maxL) (ret := ret) hy hw ?_
  intro p e s m args below meth c s₁ B hml hv
  obtain ⟨rfl, hsz, hP, hK, hD0⟩ := hv
  have hts := atoms_spec (ws := ws) B.pre
  have hown : s.vm.findClass own = some m.cls := by rw [← ho]; exact findClass_of_methodNamed B.named
  subst hsz
  have hl := lv_entry As (n := maxL) hn
  rw [lg_entry_eq]
  refine body (p, e, s, m, As.toArray, below, meth, c, yAA adr s.heap.size) ⟨B.exec, B.bytes, hml, hown, hts, hK, fun q h => Or.inr h, B.returns, B.notSynchronized⟩ s.heap [] _ (by rw [List.append_nil]; exact hP) ?_ va_S.rf hl
  rw [List.append_nil]
  refine ⟨hD0.1, fun k q hq => ?_⟩
  have hk : k < 58 := by
    have := (List.getElem?_eq_some_iff.mp hq).1
    rwa [ypl_len] at this
  have hq' := ypl_get (adr := adr) (cy := cy) (M := M) (E := []) hk
  rw [List.append_nil, hq] at hq'
  cases hq'
  exact Or.inl ⟨k, hk, rfl⟩
section Ends
variable {K : yK} {l : Launch} {R : Room} {D : va_G} {cy : Nat → ClassId} {adr : Nat → Nat} {nL cells slots mc ms : Nat} {Q : State → Prop} {M M' : yM} {E : va_W} {lv : List (Nat × Value)} {pc : Nat} {st : List Value} {cc : ByteArray} {own : String} {Ts : List Cond} {ret : Option FieldType} {r : Option Value}
theorem ypl_P {H : Heap} (h : va_P D vwCl (ypl adr cy M ++ E) H) : va_P D vwCl (ypl adr cy M) H := fun k q hq => by
  have hk : k < 58 := by
    have := (List.getElem?_eq_some_iff.mp hq).1
    rwa [ypl_len] at this
  refine h k q ?_
  rw [List.getElem?_append_left (by rw [ypl_len]; exact hk)]
  exact hq
theorem y_iret (C0 : Cx K cc own Ts nL (some .int) D cy) {v : Int32} (d : decode cc pc = .ok (.ireturn, 1)) (e1 : some (Value.int v) = r) (e2 : M = M') : Y K l R D cy adr nL mc ms (QT K D cy adr r M' mc ms) M E lv pc [.int v] := by
  subst e1; subst e2
  obtain ⟨p, e, s, m, args, below, meth, c, A⟩ := K
  obtain ⟨hx, hb, hml, hown, hts, hK, hA, hr, hlk⟩ := C0
  exact fun H locs ls hP hD hS hl => W.iret hx hb hr (fun t ht hW => ⟨rfl, by rw [ht]; exact ypl_P hP, hS.F ht⟩) hS.2.2 d hlk
theorem y_zret (C0 : Cx K cc own Ts nL (some .boolean) D cy) {v : Int32} (hn : narrow .boolean (.int v) = .int v) (d : decode cc pc = .ok (.ireturn, 1)) (e1 : some (Value.int v) = r) (e2 : M = M') : Y K l R D cy adr nL mc ms (QT K D cy adr r M' mc ms) M E lv pc [.int v] := by
  subst e1; subst e2
  obtain ⟨p, e, s, m, args, below, meth, c, A⟩ := K
  obtain ⟨hx, hb, hml, hown, hts, hK, hA, hr, hlk⟩ := C0
  exact fun H locs ls hP hD hS hl => W.zret hx hb hr hn (fun t ht hW => ⟨rfl, by rw [ht]; exact ypl_P hP, hS.F ht⟩) hS.2.2 d hlk
theorem y_lret (C0 : Cx K cc own Ts nL (some .long) D cy) {v : Int64} (d : decode cc pc = .ok (.lreturn, 1)) (e1 : some (Value.long v) = r) (e2 : M = M') : Y K l R D cy adr nL mc ms (QT K D cy adr r M' mc ms) M E lv pc [.long v] := by
  subst e1; subst e2
  obtain ⟨p, e, s, m, args, below, meth, c, A⟩ := K
  obtain ⟨hx, hb, hml, hown, hts, hK, hA, hr, hlk⟩ := C0
  exact fun H locs ls hP hD hS hl => W.lret hx hb hr (fun t ht hW => ⟨rfl, by rw [ht]; exact ypl_P hP, hS.F ht⟩) hS.2.2 d hlk
theorem y_vret (C0 : Cx K cc own Ts nL none D cy) (d : decode cc pc = .ok (.return_, 1)) (e1 : none = r) (e2 : M = M') : Y K l R D cy adr nL mc ms (QT K D cy adr r M' mc ms) M E lv pc [] := by
  subst e1; subst e2
  obtain ⟨p, e, s, m, args, below, meth, c, A⟩ := K
  obtain ⟨hx, hb, hml, hown, hts, hK, hA, hr, hlk⟩ := C0
  exact fun H locs ls hP hD hS hl => W.vret hx hb hr (fun t ht hW => ⟨rfl, by rw [ht]; exact ypl_P hP, hS.F ht⟩) hS.2.2 d hlk
theorem y_aret {nm : String} (C0 : Cx K cc own Ts nL (some (.object nm)) D cy) {v : Value} (hv : v = .null ∨ ∃ a, v = .ref a) (d : decode cc pc = .ok (.areturn, 1)) (e1 : some v = r) (e2 : M = M') : Y K l R D cy adr nL mc ms (QT K D cy adr r M' mc ms) M E lv pc [v] := by
  subst e1; subst e2
  obtain ⟨p, e, s, m, args, below, meth, c, A⟩ := K
  obtain ⟨hx, hb, hml, hown, hts, hK, hA, hr, hlk⟩ := C0
  exact fun H locs ls hP hD hS hl => W.aret hx hb hr (Or.inl ⟨_, rfl⟩) hv (fun t ht hW => ⟨rfl, by rw [ht]; exact ypl_P hP, hS.F ht⟩) hS.2.2 d hlk
/-- behind a call over the whole memory: the other cells stay -/
theorem y_join {p : Program} {e : Env} {s : State} {m : MethodId} {args : Array Value} {below : List Frame} {meth : Method} {c : Code} {A : Nat → Prop} {H : Heap} {locs : List Loc} {ls : Array Slot} {st0 rest : List Value} {a : Array Value}
    (hA : ∀ q, s.heap.size ≤ q → A q) (hP : va_P D vwCl (ypl adr cy M ++ E) H) (hD : va_D A (ypl adr cy M ++ E)) (hS : va_S A s.heap H locs) (hl : lv_has ls nL lv)
    (hr : va_Run p l e R s m args below meth c H locs cells slots mc ms (F0 m pc ls st0) rest (Qy D cy adr (yAA adr H.size) r M' a) (yAA adr H.size))
    (kk : Y (p, e, s, m, args, below, meth, c, A) l R D cy adr nL (cells + mc) (slots + ms) Q M' E lv (pc + 3) (r.toList ++ rest)) : W p l e R s m args below meth c H locs cells slots Q (F0 m pc ls st0) := by
  have hF : ∀ q, yAA adr H.size q → A q := by
    intro q h
    rcases h with ⟨j, hj, rfl⟩ | h
    · exact hD.2 j _ (ypl_get hj)
    · exact hA q (Nat.le_trans hS.1 h)
  intro T hT X
  obtain ⟨v, st₀, t, T', L, h0, X', hL, e1, e2, ⟨hv, hp, hz, hk⟩, sg⟩ := hr T hT X
  cases hv
  rw [h0] at hz hk
  have hE : ∀ (k : Nat) (q : Nat × va_E), E[k]? = some q → va_at D vwCl q H ∧ q.1 < H.size ∧ ¬ yAA adr H.size q.1 := by
    intro k q hq
    have hq' : (ypl adr cy M ++ E)[58 + k]? = some q := by rw [ypl_E]; exact hq
    refine ⟨hP _ _ hq', (hP _ _ hq').lt, fun h => ?_⟩
    rcases h with ⟨j, hj, h⟩ | h
    · have := hD.1 _ _ _ _ hq' (ypl_get (M := M) (cy := cy) (adr := adr) hj) h
      omega
    · have := (hP _ _ hq').lt
      omega
  have hP1 : va_P D vwCl (ypl adr cy M' ++ E) T'.heap := by
    rw [e1]
    exact va_P.app hp (fun k q hq => (hE k q hq).1.kept (hk q.1 (hE k q hq).2.1 (hE k q hq).2.2))
  have hS1 : va_S A s.heap T'.heap (locs ++ L) := by
    refine ⟨Nat.le_trans hS.1 (by rw [e1]; exact hz), fun q h1 h2 => ?_, fun q hq => ?_⟩
    · rw [e1, hk q (Nat.lt_of_lt_of_le h1 hS.1) (fun z => h2 (hF q z))]
      exact hS.2.1 q h1 h2
    · rcases List.mem_append.mp hq with h | h
      · exact hS.2.2 q h
      · exact hF _ (hL q h)
  obtain ⟨t2, a1, b1⟩ := kk T'.heap (locs ++ L) ls hP1 (ypl_D hD) hS1 hl T' rfl X'
  exact ⟨t2, sg t2 a1, b1⟩
theorem y_callV (C0 : Cx K cc own Ts nL ret D cy) {y : MethodName} {bytes : ByteArray} {maxL index : Nat} {rety : Option FieldType} {ws ws' : List Cond} {rm : Room} {C : String} {T : u_T} {N jb n : Nat} {As rest st0 : List Value}
    (hM : Ct l y ws rm D cy adr (.ref (adr jb) :: As) M r M' mc ms) (ci : Nat) (hc : vwCl[ci]? = some (C, T, N)) (hci : ci < 6) (hkd : ykd jb = ci)
    (hG : GoodIn Ts (wsV own index C y ws)) (hw : ws = Cond.code y bytes maxL rety :: ws') (hrc : rm.cells = mc) (hrs : rm.slots = ms)
    (hd : y.cls = C ∧ y.cls ≠ "java/lang/invoke/MethodHandle" ∧ y.cls ≠ "java/lang/invoke/VarHandle" ∧ (parseMethodDescriptor y.desc).map (fun d => d.parameters.length) = some n) (hR : rm.frames + 1 ≤ R.frames ∧ 8 + (maxL + 11) + rm.locals ≤ R.locals)
    (hn : As.length = n) (hst : st0 = As.reverse ++ .ref (adr jb) :: rest) (hcat : (rest.map fun v => v.category).sum ≤ 8) (d : decode cc pc = .ok (.invokevirtual index, 3)) (hf : cells + mc ≤ R.cells ∧ slots + ms ≤ R.slots)
    (kk : Y K l R D cy adr nL (cells + mc) (slots + ms) Q M' E lv (pc + 3) (r.toList ++ rest)) : Y K l R D cy adr nL cells slots Q M E lv pc st0 := by
  obtain ⟨p, e, s, m, args, below, meth, c, A⟩ := K
  obtain ⟨hx, hb, hml, hown, hts, hK, hA, hr, hlk⟩ := C0
  intro H locs ls hP hD hS hl
  have he : (ypl adr cy M ++ E)[jb]? = some (adr jb, .inr (ci, yfs adr M jb (ynf ci))) := by
    rw [ypl_get (ykd_lt (by omega))]
    unfold ycl
    rw [if_pos (by omega), hkd]
  refine y_join hA hP hD hS hl (va_runV (As := As) (rest := rest) ⟨hx, hb, hml, hown, hts⟩ (hM H.size) (cwV n hts hG hw hrc hrs hd hR) ⟨Py_blind, va_recv hK hP hc he, fun U hU hW => ⟨rfl, by rw [hU], by rw [hU]; exact ypl_P hP, va_K.moved hW.alike hK, ?_⟩⟩ rfl hn hl.1 hst (lv_room (Nat.le_trans hcat (Nat.le_refl 8))) d hf) kk
  have h9 := hD.sub (A := A) (ws' := ypl adr cy M) (List.range 58) (by decide +kernel) (by
    apply List.ext_getElem?
    intro i
    by_cases hi : i < 58
    · have := ypl_get (adr := adr) (cy := cy) (M := M) (E := []) hi
      rw [List.append_nil] at this
      simp [hi, ypl_get, this]
    · have h2 : (ypl adr cy M)[i]? = none := by rw [List.getElem?_eq_none_iff, ypl_len]; omega
      simp [hi, h2])
  exact h9.weaken (fun _ _ _ _ => trivial)
theorem y_callS (C0 : Cx K cc own Ts nL ret D cy) {y : MethodName} {bytes : ByteArray} {maxL index : Nat} {rety : Option FieldType} {ws ws' : List Cond} {rm : Room} {n : Nat} {As rest st0 : List Value}
    (hM : Ct l y ws rm D cy adr As M r M' mc ms)
    (hG : GoodIn Ts (va_wsS own index y ws)) (hw : ws = Cond.code y bytes maxL rety :: ws') (hrc : rm.cells = mc) (hrs : rm.slots = ms)
    (hd : y.cls ≠ "java/lang/invoke/MethodHandle" ∧ y.cls ≠ "java/lang/invoke/VarHandle" ∧ (parseMethodDescriptor y.desc).map (fun d => d.parameters.length) = some n) (hR : rm.frames + 1 ≤ R.frames ∧ 8 + (maxL + 11) + rm.locals ≤ R.locals)
    (hn : As.length = n) (hst : st0 = As.reverse ++ rest) (hcat : (rest.map fun v => v.category).sum ≤ 8) (d : decode cc pc = .ok (.invokestatic index, 3)) (hf : cells + mc ≤ R.cells ∧ slots + ms ≤ R.slots)
    (kk : Y K l R D cy adr nL (cells + mc) (slots + ms) Q M' E lv (pc + 3) (r.toList ++ rest)) : Y K l R D cy adr nL cells slots Q M E lv pc st0 := by
  obtain ⟨p, e, s, m, args, below, meth, c, A⟩ := K
  obtain ⟨hx, hb, hml, hown, hts, hK, hA, hr, hlk⟩ := C0
  intro H locs ls hP hD hS hl
  refine y_join hA hP hD hS hl (va_runS (As := As) (rest := rest) ⟨hx, hb, hml, hown, hts⟩ (hM H.size) (va_cwS n hts hG hw hrc hrs hd hR) ⟨Py_blind, fun U hU hW => ⟨rfl, by rw [hU], by rw [hU]; exact ypl_P hP, va_K.moved hW.alike hK, ?_⟩⟩ rfl hn hl.1 hst (lv_room (Nat.le_trans hcat (Nat.le_refl 8))) d hf) kk
  have h9 := hD.sub (A := A) (ws' := ypl adr cy M) (List.range 58) (by decide +kernel) (by
    apply List.ext_getElem?
    intro i
    by_cases hi : i < 58
    · have := ypl_get (adr := adr) (cy := cy) (M := M) (E := []) hi
      rw [List.append_nil] at this
      simp [hi, ypl_get, this]
    · have h2 : (ypl adr cy M)[i]? = none := by rw [List.getElem?_eq_none_iff, ypl_len]; omega
      simp [hi, h2])
  exact h9.weaken (fun _ _ _ _ => trivial)
end Ends
end YB
end
section
def wsX0_init : List Cond := .code yX0_init cX0_init 2 none :: ([.methodLink RX0 3 objectInit, .instanceMethod objectInit, .code objectInit ⟨#[0xb1]⟩ 1 none, .fieldLink RX0 9 "SewingFrames$Book" "number" "I", .fieldLink RX0 15 "SewingFrames$Book" "stage" "I", .fieldLink RX0 18 "SewingFrames$Book" "frame" "I"] ++ wsX00)
def wsX0_setTo : List Cond := .code yX0_setTo cX0_setTo 2 none :: ([.fieldLink RX0 21 "SewingFrames$Book" "signatures" "I", .fieldLink RX0 24 "SewingFrames$Book" "sheets" "I", .fieldLink RX0 27 "SewingFrames$Book" "edges" "I", .fieldLink RX0 15 "SewingFrames$Book" "stage" "I", .fieldLink RX0 18 "SewingFrames$Book" "frame" "I", .fieldLink RX0 30 "SewingFrames$Book" "cords" "I", .fieldLink RX0 33 "SewingFrames$Book" "stitches" "I", .fieldLink RX0 36 "SewingFrames$Book" "wholeSignatures" "I", .fieldLink RX0 39 "SewingFrames$Book" "stitchesOfNext" "I", .fieldLink RX0 42 "SewingFrames$Book" "loose" "I", .fieldLink RX0 45 "SewingFrames$Book" "hoursToDry" "I", .fieldLink RX0 48 "SewingFrames$Book" "gilt" "I"] ++ wsX00)
def wsX0_begin : List Cond := .code yX0_begin cX0_begin 4 none :: ([.fieldLink RX0 21 "SewingFrames$Book" "signatures" "I", .fieldLink RX0 24 "SewingFrames$Book" "sheets" "I", .fieldLink RX0 27 "SewingFrames$Book" "edges" "I", .fieldLink RX0 15 "SewingFrames$Book" "stage" "I"] ++ wsX00)
def wsX0_mount : List Cond := .code yX0_mount cX0_mount 3 none :: ([.fieldLink RX0 15 "SewingFrames$Book" "stage" "I", .fieldLink RX0 18 "SewingFrames$Book" "frame" "I", .fieldLink RX0 30 "SewingFrames$Book" "cords" "I"] ++ wsX00)
def wsX0_undo : List Cond := .code yX0_undo cX0_undo 1 none :: ([.fieldLink RX0 15 "SewingFrames$Book" "stage" "I", .fieldLink RX0 18 "SewingFrames$Book" "frame" "I", .fieldLink RX0 30 "SewingFrames$Book" "cords" "I", .fieldLink RX0 33 "SewingFrames$Book" "stitches" "I", .fieldLink RX0 36 "SewingFrames$Book" "wholeSignatures" "I", .fieldLink RX0 39 "SewingFrames$Book" "stitchesOfNext" "I", .fieldLink RX0 42 "SewingFrames$Book" "loose" "I"] ++ wsX00)
def wsX0_thickness : List Cond := .code yX0_thickness cX0_thickness 1 (some .int) :: ([.fieldLink RX0 21 "SewingFrames$Book" "signatures" "I", .fieldLink RX0 24 "SewingFrames$Book" "sheets" "I"] ++ wsX00)
def wsX0_leavesForAnEdge : List Cond := .code yX0_leavesForAnEdge cX0_leavesForAnEdge 1 (some .int) :: ([.methodLink RX0 51 yX0_thickness, .instanceMethod yX0_thickness, .selects RX0 yX0_thickness yX0_thickness, .initialized RX0, .code yX0_thickness cX0_thickness 1 (some .int), .fieldLink RX0 21 "SewingFrames$Book" "signatures" "I", .fieldLink RX0 24 "SewingFrames$Book" "sheets" "I"] ++ wsX00)
def wsX0_stitchesOfSignature : List Cond := .code yX0_stitchesOfSignature cX0_stitchesOfSignature 3 (some .int) :: ([.fieldLink RX0 30 "SewingFrames$Book" "cords" "I", .fieldLink RX0 21 "SewingFrames$Book" "signatures" "I"] ++ wsX00)
def wsX0_stitchesToSew : List Cond := .code yX0_stitchesToSew cX0_stitchesToSew 3 (some .int) :: ([.fieldLink RX0 21 "SewingFrames$Book" "signatures" "I", .fieldLink RX0 33 "SewingFrames$Book" "stitches" "I", .methodLink RX0 55 yX0_stitchesOfSignature, .instanceMethod yX0_stitchesOfSignature, .selects RX0 yX0_stitchesOfSignature yX0_stitchesOfSignature, .initialized RX0, .code yX0_stitchesOfSignature cX0_stitchesOfSignature 3 (some .int), .fieldLink RX0 30 "SewingFrames$Book" "cords" "I"] ++ wsX00)
def wsX0_addStitch : List Cond := .code yX0_addStitch cX0_addStitch 1 (some .boolean) :: ([.fieldLink RX0 33 "SewingFrames$Book" "stitches" "I", .fieldLink RX0 39 "SewingFrames$Book" "stitchesOfNext" "I", .fieldLink RX0 36 "SewingFrames$Book" "wholeSignatures" "I", .methodLink RX0 55 yX0_stitchesOfSignature, .instanceMethod yX0_stitchesOfSignature, .selects RX0 yX0_stitchesOfSignature yX0_stitchesOfSignature, .initialized RX0, .code yX0_stitchesOfSignature cX0_stitchesOfSignature 3 (some .int), .fieldLink RX0 30 "SewingFrames$Book" "cords" "I", .fieldLink RX0 21 "SewingFrames$Book" "signatures" "I"] ++ wsX00)
def wsX0_isSewn : List Cond := .code yX0_isSewn cX0_isSewn 1 (some .boolean) :: ([.fieldLink RX0 36 "SewingFrames$Book" "wholeSignatures" "I", .fieldLink RX0 21 "SewingFrames$Book" "signatures" "I"] ++ wsX00)
def wsX0_beginToDry : List Cond := .code yX0_beginToDry cX0_beginToDry 1 none :: ([.fieldLink RX0 15 "SewingFrames$Book" "stage" "I", .fieldLink RX0 18 "SewingFrames$Book" "frame" "I", .fieldLink RX0 45 "SewingFrames$Book" "hoursToDry" "I", .methodLink RX0 51 yX0_thickness, .instanceMethod yX0_thickness, .selects RX0 yX0_thickness yX0_thickness, .initialized RX0, .code yX0_thickness cX0_thickness 1 (some .int), .fieldLink RX0 21 "SewingFrames$Book" "signatures" "I", .fieldLink RX0 24 "SewingFrames$Book" "sheets" "I"] ++ wsX00)
def wsX0_dryForAnHour : List Cond := .code yX0_dryForAnHour cX0_dryForAnHour 1 none :: ([.fieldLink RX0 45 "SewingFrames$Book" "hoursToDry" "I", .fieldLink RX0 15 "SewingFrames$Book" "stage" "I"] ++ wsX00)
def wsX0_bind : List Cond := .code yX0_bind cX0_bind 1 none :: ([.fieldLink RX0 27 "SewingFrames$Book" "edges" "I", .fieldLink RX0 15 "SewingFrames$Book" "stage" "I"] ++ wsX00)
def wsX0_gildAnEdge : List Cond := .code yX0_gildAnEdge cX0_gildAnEdge 1 none :: ([.fieldLink RX0 48 "SewingFrames$Book" "gilt" "I", .fieldLink RX0 27 "SewingFrames$Book" "edges" "I", .fieldLink RX0 15 "SewingFrames$Book" "stage" "I"] ++ wsX00)
def wsX0_value : List Cond := .code yX0_value cX0_value 1 (some .int) :: ([.fieldLink RX0 21 "SewingFrames$Book" "signatures" "I", .fieldLink RX0 30 "SewingFrames$Book" "cords" "I", .fieldLink RX0 48 "SewingFrames$Book" "gilt" "I", .fieldLink RX0 42 "SewingFrames$Book" "loose" "I", .methodLink RX0 59 Lib.Math.max.name, .static Lib.Math.max.name, .initialized "java/lang/Math", .code Lib.Math.max.name Lib.Math.max.code 2 (some .int)] ++ wsX00)
def wsX0_tell : List Cond := .code yX0_tell cX0_tell 2 (some .int) :: ([.fieldLink RX0 21 "SewingFrames$Book" "signatures" "I", .fieldLink RX0 24 "SewingFrames$Book" "sheets" "I", .fieldLink RX0 27 "SewingFrames$Book" "edges" "I", .fieldLink RX0 15 "SewingFrames$Book" "stage" "I", .fieldLink RX0 18 "SewingFrames$Book" "frame" "I", .fieldLink RX0 36 "SewingFrames$Book" "wholeSignatures" "I", .fieldLink RX0 39 "SewingFrames$Book" "stitchesOfNext" "I", .fieldLink RX0 42 "SewingFrames$Book" "loose" "I", .fieldLink RX0 45 "SewingFrames$Book" "hoursToDry" "I", .fieldLink RX0 48 "SewingFrames$Book" "gilt" "I", .methodLink RX0 65 yX0_value, .instanceMethod yX0_value, .selects RX0 yX0_value yX0_value, .initialized RX0, .code yX0_value cX0_value 1 (some .int), .fieldLink RX0 30 "SewingFrames$Book" "cords" "I", .methodLink RX0 59 Lib.Math.max.name, .static Lib.Math.max.name, .initialized "java/lang/Math", .code Lib.Math.max.name Lib.Math.max.code 2 (some .int)] ++ wsX00)
def wsX1_init : List Cond := .code yX1_init cX1_init 2 none :: ([.methodLink RX1 3 objectInit, .instanceMethod objectInit, .code objectInit ⟨#[0xb1]⟩ 1 none, .fieldLink RX1 9 "SewingFrames$Frame" "number" "I", .fieldLink RX1 15 "SewingFrames$Frame" "cords" "I", .fieldLink RX1 18 "SewingFrames$Frame" "book" "I"] ++ wsX10)
def wsX1_setTo : List Cond := .code yX1_setTo cX1_setTo 2 none :: ([.fieldLink RX1 15 "SewingFrames$Frame" "cords" "I", .fieldLink RX1 18 "SewingFrames$Frame" "book" "I", .fieldLink RX1 21 "SewingFrames$Frame" "sewn" "I"] ++ wsX10)
def wsX2_init : List Cond := .code yX2_init cX2_init 2 none :: ([.methodLink RX2 3 objectInit, .instanceMethod objectInit, .code objectInit ⟨#[0xb1]⟩ 1 none, .fieldLink RX2 9 "SewingFrames$Sewer" "number" "I", .fieldLink RX2 15 "SewingFrames$Sewer" "frame" "I"] ++ wsX20)
def wsX2_setTo : List Cond := .code yX2_setTo cX2_setTo 2 none :: ([.fieldLink RX2 18 "SewingFrames$Sewer" "speed" "I", .fieldLink RX2 15 "SewingFrames$Sewer" "frame" "I"] ++ wsX20)
def wsX2_tell : List Cond := .code yX2_tell cX2_tell 2 (some .int) :: ([.fieldLink RX2 18 "SewingFrames$Sewer" "speed" "I", .fieldLink RX2 15 "SewingFrames$Sewer" "frame" "I"] ++ wsX20)
def wsX3_init_r1 : List Cond := [Cond.methodLink RX3 3 objectInit, Cond.instanceMethod objectInit, Cond.code objectInit ⟨#[0xb1]⟩ 1 none, Cond.classLink RX3 9 RX0, Cond.fieldLink RX3 11 "SewingFrames$Workshop" "books" "[LSewingFrames$Book;", Cond.instantiable RX0 13, Cond.initialized RX0, Cond.classLink RX3 20 RX2, Cond.fieldLink RX3 22 "SewingFrames$Workshop" "sewers" "[LSewingFrames$Sewer;", Cond.instantiable RX2 3, Cond.initialized RX2, Cond.classLink RX3 27 RX1, Cond.fieldLink RX3 29 "SewingFrames$Workshop" "frames" "[LSewingFrames$Frame;", Cond.instantiable RX1 4, Cond.initialized RX1, Cond.fieldLink RX3 34 "SewingFrames$Workshop" "thread" "I", Cond.fieldLink RX3 38 "SewingFrames$Workshop" "boards" "I", Cond.fieldLink RX3 41 "SewingFrames$Workshop" "gold" "I", Cond.fieldLink RX3 44 "SewingFrames$Workshop" "coins" "I", Cond.methodLink RX3 17 yX0_init, Cond.instanceMethod yX0_init, Cond.code yX0_init cX0_init 2 none, Cond.methodLink RX0 3 objectInit, Cond.fieldLink RX0 9 "SewingFrames$Book" "number" "I"]
def wsX3_init_r2 : List Cond := [Cond.fieldLink RX0 15 "SewingFrames$Book" "stage" "I", Cond.fieldLink RX0 18 "SewingFrames$Book" "frame" "I", Cond.methodLink RX3 26 yX2_init, Cond.instanceMethod yX2_init, Cond.code yX2_init cX2_init 2 none, Cond.methodLink RX2 3 objectInit, Cond.fieldLink RX2 9 "SewingFrames$Sewer" "number" "I", Cond.fieldLink RX2 15 "SewingFrames$Sewer" "frame" "I", Cond.methodLink RX3 33 yX1_init, Cond.instanceMethod yX1_init, Cond.code yX1_init cX1_init 2 none, Cond.methodLink RX1 3 objectInit, Cond.fieldLink RX1 9 "SewingFrames$Frame" "number" "I", Cond.fieldLink RX1 15 "SewingFrames$Frame" "cords" "I", Cond.fieldLink RX1 18 "SewingFrames$Frame" "book" "I"]
def wsX3_init : List Cond := .code yX3_init cX3_init 2 none :: ((wsX3_init_r1 ++ wsX3_init_r2) ++ wsX30 ++ wsX00 ++ wsX20 ++ wsX10)
def wsX3_setTo_r1 : List Cond := [Cond.fieldLink RX3 11 "SewingFrames$Workshop" "books" "[LSewingFrames$Book;", Cond.fieldLink RX3 22 "SewingFrames$Workshop" "sewers" "[LSewingFrames$Sewer;", Cond.fieldLink RX3 29 "SewingFrames$Workshop" "frames" "[LSewingFrames$Frame;", Cond.fieldLink RX3 57 "SewingFrames$Workshop" "bookCount" "I", Cond.fieldLink RX3 60 "SewingFrames$Workshop" "sewerCount" "I", Cond.fieldLink RX3 63 "SewingFrames$Workshop" "hour" "I", Cond.fieldLink RX3 44 "SewingFrames$Workshop" "coins" "I", Cond.fieldLink RX3 34 "SewingFrames$Workshop" "thread" "I", Cond.fieldLink RX3 38 "SewingFrames$Workshop" "boards" "I", Cond.fieldLink RX3 41 "SewingFrames$Workshop" "gold" "I", Cond.fieldLink RX3 66 "SewingFrames$Workshop" "sewn" "I", Cond.fieldLink RX3 69 "SewingFrames$Workshop" "loose" "I", Cond.methodLink RX3 47 yX0_setTo, Cond.instanceMethod yX0_setTo, Cond.selects RX0 yX0_setTo yX0_setTo, Cond.initialized RX0, Cond.code yX0_setTo cX0_setTo 2 none, Cond.fieldLink RX0 21 "SewingFrames$Book" "signatures" "I", Cond.fieldLink RX0 24 "SewingFrames$Book" "sheets" "I", Cond.fieldLink RX0 27 "SewingFrames$Book" "edges" "I", Cond.fieldLink RX0 15 "SewingFrames$Book" "stage" "I", Cond.fieldLink RX0 18 "SewingFrames$Book" "frame" "I", Cond.fieldLink RX0 30 "SewingFrames$Book" "cords" "I", Cond.fieldLink RX0 33 "SewingFrames$Book" "stitches" "I"]
def wsX3_setTo_r2 : List Cond := [Cond.fieldLink RX0 36 "SewingFrames$Book" "wholeSignatures" "I", Cond.fieldLink RX0 39 "SewingFrames$Book" "stitchesOfNext" "I", Cond.fieldLink RX0 42 "SewingFrames$Book" "loose" "I", Cond.fieldLink RX0 45 "SewingFrames$Book" "hoursToDry" "I", Cond.fieldLink RX0 48 "SewingFrames$Book" "gilt" "I", Cond.methodLink RX3 51 yX2_setTo, Cond.instanceMethod yX2_setTo, Cond.selects RX2 yX2_setTo yX2_setTo, Cond.initialized RX2, Cond.code yX2_setTo cX2_setTo 2 none, Cond.fieldLink RX2 18 "SewingFrames$Sewer" "speed" "I", Cond.fieldLink RX2 15 "SewingFrames$Sewer" "frame" "I", Cond.methodLink RX3 54 yX1_setTo, Cond.instanceMethod yX1_setTo, Cond.selects RX1 yX1_setTo yX1_setTo, Cond.initialized RX1, Cond.code yX1_setTo cX1_setTo 2 none, Cond.fieldLink RX1 15 "SewingFrames$Frame" "cords" "I", Cond.fieldLink RX1 18 "SewingFrames$Frame" "book" "I", Cond.fieldLink RX1 21 "SewingFrames$Frame" "sewn" "I"]
def wsX3_setTo : List Cond := .code yX3_setTo cX3_setTo 3 none :: ((wsX3_setTo_r1 ++ wsX3_setTo_r2) ++ wsX30 ++ wsX00 ++ wsX20 ++ wsX10)
def wsX3_bookNumbered : List Cond := .code yX3_bookNumbered cX3_bookNumbered 2 (some (.object "SewingFrames$Book")) :: ([.fieldLink RX3 57 "SewingFrames$Workshop" "bookCount" "I", .fieldLink RX3 11 "SewingFrames$Workshop" "books" "[LSewingFrames$Book;"] ++ wsX30)
def wsX3_sewerNumbered : List Cond := .code yX3_sewerNumbered cX3_sewerNumbered 2 (some (.object "SewingFrames$Sewer")) :: ([.fieldLink RX3 60 "SewingFrames$Workshop" "sewerCount" "I", .fieldLink RX3 22 "SewingFrames$Workshop" "sewers" "[LSewingFrames$Sewer;"] ++ wsX30)
def wsX3_freeBook : List Cond := .code yX3_freeBook cX3_freeBook 1 (some (.object "SewingFrames$Book")) :: ([.fieldLink RX3 57 "SewingFrames$Workshop" "bookCount" "I", .fieldLink RX3 11 "SewingFrames$Workshop" "books" "[LSewingFrames$Book;"] ++ wsX30)
def wsX3_freeSewer : List Cond := .code yX3_freeSewer cX3_freeSewer 1 (some (.object "SewingFrames$Sewer")) :: ([.fieldLink RX3 60 "SewingFrames$Workshop" "sewerCount" "I", .fieldLink RX3 22 "SewingFrames$Workshop" "sewers" "[LSewingFrames$Sewer;"] ++ wsX30)
def wsX3_clearFrameOf : List Cond := .code yX3_clearFrameOf cX3_clearFrameOf 6 none :: ([.fieldLink RX3 29 "SewingFrames$Workshop" "frames" "[LSewingFrames$Frame;", .fieldLink RX3 72 "SewingFrames$Frame" "book" "I", .fieldLink RX3 75 "SewingFrames$Book" "number" "I"] ++ wsX30 ++ wsX10 ++ wsX00)
def wsX3_othersAt : List Cond := .code yX3_othersAt cX3_othersAt 8 (some .int) :: ([.fieldLink RX3 22 "SewingFrames$Workshop" "sewers" "[LSewingFrames$Sewer;", .fieldLink RX3 78 "SewingFrames$Sewer" "frame" "I", .fieldLink RX3 81 "SewingFrames$Sewer" "number" "I"] ++ wsX30 ++ wsX20)
def wsX3_sittersAt : List Cond := .code yX3_sittersAt cX3_sittersAt 2 (some .int) :: ([.methodLink RX3 82 yX3_othersAt, .instanceMethod yX3_othersAt, .selects RX3 yX3_othersAt yX3_othersAt, .initialized RX3, .code yX3_othersAt cX3_othersAt 8 (some .int), .fieldLink RX3 22 "SewingFrames$Workshop" "sewers" "[LSewingFrames$Sewer;", .fieldLink RX3 78 "SewingFrames$Sewer" "frame" "I", .fieldLink RX3 81 "SewingFrames$Sewer" "number" "I"] ++ wsX30 ++ wsX20)
def wsX3_stitchesAnHour : List Cond := .code yX3_stitchesAnHour cX3_stitchesAnHour 8 (some .int) :: ([.fieldLink RX3 22 "SewingFrames$Workshop" "sewers" "[LSewingFrames$Sewer;", .fieldLink RX3 78 "SewingFrames$Sewer" "frame" "I", .fieldLink RX3 90 "SewingFrames$Sewer" "speed" "I", .methodLink RX3 93 Lib.Math.max.name, .static Lib.Math.max.name, .initialized "java/lang/Math", .code Lib.Math.max.name Lib.Math.max.code 2 (some .int), .methodLink RX3 86 yX3_sittersAt, .instanceMethod yX3_sittersAt, .selects RX3 yX3_sittersAt yX3_sittersAt, .initialized RX3, .code yX3_sittersAt cX3_sittersAt 2 (some .int), .methodLink RX3 82 yX3_othersAt, .instanceMethod yX3_othersAt, .selects RX3 yX3_othersAt yX3_othersAt, .code yX3_othersAt cX3_othersAt 8 (some .int), .fieldLink RX3 81 "SewingFrames$Sewer" "number" "I"] ++ wsX30 ++ wsX20)
def wsX3_store : List Cond := .code yX3_store cX3_store 3 (some .int) :: ([.fieldLink RX3 34 "SewingFrames$Workshop" "thread" "I", .fieldLink RX3 38 "SewingFrames$Workshop" "boards" "I", .fieldLink RX3 41 "SewingFrames$Workshop" "gold" "I"] ++ wsX30)
def wsX3_booksAt : List Cond := .code yX3_booksAt cX3_booksAt 7 (some .int) :: ([.fieldLink RX3 11 "SewingFrames$Workshop" "books" "[LSewingFrames$Book;", .fieldLink RX3 120 "SewingFrames$Book" "stage" "I"] ++ wsX30 ++ wsX00)
def wsX3_gild : List Cond := .code yX3_gild cX3_gild 6 none :: ([.fieldLink RX3 11 "SewingFrames$Workshop" "books" "[LSewingFrames$Book;", .fieldLink RX3 120 "SewingFrames$Book" "stage" "I", .fieldLink RX3 41 "SewingFrames$Workshop" "gold" "I", .methodLink RX3 123 yX0_leavesForAnEdge, .instanceMethod yX0_leavesForAnEdge, .selects RX0 yX0_leavesForAnEdge yX0_leavesForAnEdge, .initialized RX0, .code yX0_leavesForAnEdge cX0_leavesForAnEdge 1 (some .int), .methodLink RX0 51 yX0_thickness, .instanceMethod yX0_thickness, .selects RX0 yX0_thickness yX0_thickness, .code yX0_thickness cX0_thickness 1 (some .int), .fieldLink RX0 21 "SewingFrames$Book" "signatures" "I", .fieldLink RX0 24 "SewingFrames$Book" "sheets" "I", .methodLink RX3 126 yX0_gildAnEdge, .instanceMethod yX0_gildAnEdge, .selects RX0 yX0_gildAnEdge yX0_gildAnEdge, .code yX0_gildAnEdge cX0_gildAnEdge 1 none, .fieldLink RX0 48 "SewingFrames$Book" "gilt" "I", .fieldLink RX0 27 "SewingFrames$Book" "edges" "I", .fieldLink RX0 15 "SewingFrames$Book" "stage" "I"] ++ wsX30 ++ wsX00)
def wsX3_giveBoards : List Cond := .code yX3_giveBoards cX3_giveBoards 5 none :: ([.fieldLink RX3 11 "SewingFrames$Workshop" "books" "[LSewingFrames$Book;", .fieldLink RX3 120 "SewingFrames$Book" "stage" "I", .fieldLink RX3 38 "SewingFrames$Workshop" "boards" "I", .methodLink RX3 129 yX0_bind, .instanceMethod yX0_bind, .selects RX0 yX0_bind yX0_bind, .initialized RX0, .code yX0_bind cX0_bind 1 none, .fieldLink RX0 27 "SewingFrames$Book" "edges" "I", .fieldLink RX0 15 "SewingFrames$Book" "stage" "I"] ++ wsX30 ++ wsX00)
def wsX3_dry : List Cond := .code yX3_dry cX3_dry 5 none :: ([.fieldLink RX3 11 "SewingFrames$Workshop" "books" "[LSewingFrames$Book;", .fieldLink RX3 120 "SewingFrames$Book" "stage" "I", .methodLink RX3 132 yX0_dryForAnHour, .instanceMethod yX0_dryForAnHour, .selects RX0 yX0_dryForAnHour yX0_dryForAnHour, .initialized RX0, .code yX0_dryForAnHour cX0_dryForAnHour 1 none, .fieldLink RX0 45 "SewingFrames$Book" "hoursToDry" "I", .fieldLink RX0 15 "SewingFrames$Book" "stage" "I"] ++ wsX30 ++ wsX00)
def wsX3_sewAt_r1 : List Cond := [Cond.fieldLink RX3 72 "SewingFrames$Frame" "book" "I", Cond.fieldLink RX3 139 "SewingFrames$Frame" "number" "I", Cond.fieldLink RX3 34 "SewingFrames$Workshop" "thread" "I", Cond.methodLink RX3 143 Lib.Math.min.name, Cond.static Lib.Math.min.name, Cond.initialized "java/lang/Math", Cond.code Lib.Math.min.name Lib.Math.min.code 2 (some .int), Cond.fieldLink RX3 66 "SewingFrames$Workshop" "sewn" "I", Cond.fieldLink RX3 150 "SewingFrames$Frame" "sewn" "I", Cond.fieldLink RX3 154 "SewingFrames$Book" "loose" "I", Cond.fieldLink RX3 69 "SewingFrames$Workshop" "loose" "I", Cond.methodLink RX3 135 yX3_bookNumbered, Cond.instanceMethod yX3_bookNumbered, Cond.selects RX3 yX3_bookNumbered yX3_bookNumbered, Cond.initialized RX3, Cond.code yX3_bookNumbered cX3_bookNumbered 2 (some (.object "SewingFrames$Book")), Cond.fieldLink RX3 57 "SewingFrames$Workshop" "bookCount" "I", Cond.fieldLink RX3 11 "SewingFrames$Workshop" "books" "[LSewingFrames$Book;", Cond.methodLink RX3 140 yX3_stitchesAnHour, Cond.instanceMethod yX3_stitchesAnHour, Cond.selects RX3 yX3_stitchesAnHour yX3_stitchesAnHour, Cond.code yX3_stitchesAnHour cX3_stitchesAnHour 8 (some .int), Cond.fieldLink RX3 22 "SewingFrames$Workshop" "sewers" "[LSewingFrames$Sewer;", Cond.fieldLink RX3 78 "SewingFrames$Sewer" "frame" "I"]
def wsX3_sewAt_r2 : List Cond := [Cond.fieldLink RX3 90 "SewingFrames$Sewer" "speed" "I", Cond.methodLink RX3 93 Lib.Math.max.name, Cond.static Lib.Math.max.name, Cond.code Lib.Math.max.name Lib.Math.max.code 2 (some .int), Cond.methodLink RX3 86 yX3_sittersAt, Cond.instanceMethod yX3_sittersAt, Cond.selects RX3 yX3_sittersAt yX3_sittersAt, Cond.code yX3_sittersAt cX3_sittersAt 2 (some .int), Cond.methodLink RX3 82 yX3_othersAt, Cond.instanceMethod yX3_othersAt, Cond.selects RX3 yX3_othersAt yX3_othersAt, Cond.code yX3_othersAt cX3_othersAt 8 (some .int), Cond.fieldLink RX3 81 "SewingFrames$Sewer" "number" "I", Cond.methodLink RX3 146 yX0_isSewn, Cond.instanceMethod yX0_isSewn, Cond.selects RX0 yX0_isSewn yX0_isSewn, Cond.initialized RX0, Cond.code yX0_isSewn cX0_isSewn 1 (some .boolean), Cond.fieldLink RX0 36 "SewingFrames$Book" "wholeSignatures" "I", Cond.fieldLink RX0 21 "SewingFrames$Book" "signatures" "I", Cond.methodLink RX3 151 yX0_addStitch, Cond.instanceMethod yX0_addStitch, Cond.selects RX0 yX0_addStitch yX0_addStitch, Cond.code yX0_addStitch cX0_addStitch 1 (some .boolean)]
def wsX3_sewAt_r3 : List Cond := [Cond.fieldLink RX0 33 "SewingFrames$Book" "stitches" "I", Cond.fieldLink RX0 39 "SewingFrames$Book" "stitchesOfNext" "I", Cond.methodLink RX0 55 yX0_stitchesOfSignature, Cond.instanceMethod yX0_stitchesOfSignature, Cond.selects RX0 yX0_stitchesOfSignature yX0_stitchesOfSignature, Cond.code yX0_stitchesOfSignature cX0_stitchesOfSignature 3 (some .int), Cond.fieldLink RX0 30 "SewingFrames$Book" "cords" "I", Cond.methodLink RX3 155 yX0_beginToDry, Cond.instanceMethod yX0_beginToDry, Cond.selects RX0 yX0_beginToDry yX0_beginToDry, Cond.code yX0_beginToDry cX0_beginToDry 1 none, Cond.fieldLink RX0 15 "SewingFrames$Book" "stage" "I", Cond.fieldLink RX0 18 "SewingFrames$Book" "frame" "I", Cond.fieldLink RX0 45 "SewingFrames$Book" "hoursToDry" "I", Cond.methodLink RX0 51 yX0_thickness, Cond.instanceMethod yX0_thickness, Cond.selects RX0 yX0_thickness yX0_thickness, Cond.code yX0_thickness cX0_thickness 1 (some .int), Cond.fieldLink RX0 24 "SewingFrames$Book" "sheets" "I"]
def wsX3_sewAt : List Cond := .code yX3_sewAt cX3_sewAt 6 none :: ((wsX3_sewAt_r1 ++ (wsX3_sewAt_r2 ++ wsX3_sewAt_r3)) ++ wsX10 ++ wsX30 ++ wsX00 ++ wsX20)
def wsX3_mountOn : List Cond := .code yX3_mountOn cX3_mountOn 6 none :: ([.fieldLink RX3 11 "SewingFrames$Workshop" "books" "[LSewingFrames$Book;", .fieldLink RX3 120 "SewingFrames$Book" "stage" "I", .fieldLink RX3 139 "SewingFrames$Frame" "number" "I", .fieldLink RX3 158 "SewingFrames$Frame" "cords" "I", .fieldLink RX3 75 "SewingFrames$Book" "number" "I", .fieldLink RX3 72 "SewingFrames$Frame" "book" "I", .methodLink RX3 161 yX0_mount, .instanceMethod yX0_mount, .selects RX0 yX0_mount yX0_mount, .initialized RX0, .code yX0_mount cX0_mount 3 none, .fieldLink RX0 15 "SewingFrames$Book" "stage" "I", .fieldLink RX0 18 "SewingFrames$Book" "frame" "I", .fieldLink RX0 30 "SewingFrames$Book" "cords" "I"] ++ wsX30 ++ wsX00 ++ wsX10)
def wsX3_letAnHourGo_r1 : List Cond := [Cond.fieldLink RX3 29 "SewingFrames$Workshop" "frames" "[LSewingFrames$Frame;", Cond.fieldLink RX3 72 "SewingFrames$Frame" "book" "I", Cond.fieldLink RX3 63 "SewingFrames$Workshop" "hour" "I", Cond.methodLink RX3 102 yX3_booksAt, Cond.instanceMethod yX3_booksAt, Cond.selects RX3 yX3_booksAt yX3_booksAt, Cond.initialized RX3, Cond.code yX3_booksAt cX3_booksAt 7 (some .int), Cond.fieldLink RX3 11 "SewingFrames$Workshop" "books" "[LSewingFrames$Book;", Cond.fieldLink RX3 120 "SewingFrames$Book" "stage" "I", Cond.methodLink RX3 105 yX3_gild, Cond.instanceMethod yX3_gild, Cond.selects RX3 yX3_gild yX3_gild, Cond.code yX3_gild cX3_gild 6 none, Cond.fieldLink RX3 41 "SewingFrames$Workshop" "gold" "I", Cond.methodLink RX3 123 yX0_leavesForAnEdge, Cond.instanceMethod yX0_leavesForAnEdge, Cond.selects RX0 yX0_leavesForAnEdge yX0_leavesForAnEdge, Cond.initialized RX0, Cond.code yX0_leavesForAnEdge cX0_leavesForAnEdge 1 (some .int), Cond.methodLink RX0 51 yX0_thickness, Cond.instanceMethod yX0_thickness, Cond.selects RX0 yX0_thickness yX0_thickness, Cond.code yX0_thickness cX0_thickness 1 (some .int)]
def wsX3_letAnHourGo_r2 : List Cond := [Cond.fieldLink RX0 21 "SewingFrames$Book" "signatures" "I", Cond.fieldLink RX0 24 "SewingFrames$Book" "sheets" "I", Cond.methodLink RX3 126 yX0_gildAnEdge, Cond.instanceMethod yX0_gildAnEdge, Cond.selects RX0 yX0_gildAnEdge yX0_gildAnEdge, Cond.code yX0_gildAnEdge cX0_gildAnEdge 1 none, Cond.fieldLink RX0 48 "SewingFrames$Book" "gilt" "I", Cond.fieldLink RX0 27 "SewingFrames$Book" "edges" "I", Cond.fieldLink RX0 15 "SewingFrames$Book" "stage" "I", Cond.methodLink RX3 108 yX3_giveBoards, Cond.instanceMethod yX3_giveBoards, Cond.selects RX3 yX3_giveBoards yX3_giveBoards, Cond.code yX3_giveBoards cX3_giveBoards 5 none, Cond.fieldLink RX3 38 "SewingFrames$Workshop" "boards" "I", Cond.methodLink RX3 129 yX0_bind, Cond.instanceMethod yX0_bind, Cond.selects RX0 yX0_bind yX0_bind, Cond.code yX0_bind cX0_bind 1 none, Cond.methodLink RX3 111 yX3_dry, Cond.instanceMethod yX3_dry, Cond.selects RX3 yX3_dry yX3_dry, Cond.code yX3_dry cX3_dry 5 none, Cond.methodLink RX3 132 yX0_dryForAnHour, Cond.instanceMethod yX0_dryForAnHour]
def wsX3_letAnHourGo_r3 : List Cond := [Cond.selects RX0 yX0_dryForAnHour yX0_dryForAnHour, Cond.code yX0_dryForAnHour cX0_dryForAnHour 1 none, Cond.fieldLink RX0 45 "SewingFrames$Book" "hoursToDry" "I", Cond.methodLink RX3 114 yX3_sewAt, Cond.instanceMethod yX3_sewAt, Cond.selects RX3 yX3_sewAt yX3_sewAt, Cond.code yX3_sewAt cX3_sewAt 6 none, Cond.fieldLink RX3 139 "SewingFrames$Frame" "number" "I", Cond.fieldLink RX3 34 "SewingFrames$Workshop" "thread" "I", Cond.methodLink RX3 143 Lib.Math.min.name, Cond.static Lib.Math.min.name, Cond.initialized "java/lang/Math", Cond.code Lib.Math.min.name Lib.Math.min.code 2 (some .int), Cond.fieldLink RX3 66 "SewingFrames$Workshop" "sewn" "I", Cond.fieldLink RX3 150 "SewingFrames$Frame" "sewn" "I", Cond.fieldLink RX3 154 "SewingFrames$Book" "loose" "I", Cond.fieldLink RX3 69 "SewingFrames$Workshop" "loose" "I", Cond.methodLink RX3 135 yX3_bookNumbered, Cond.instanceMethod yX3_bookNumbered, Cond.selects RX3 yX3_bookNumbered yX3_bookNumbered, Cond.code yX3_bookNumbered cX3_bookNumbered 2 (some (.object "SewingFrames$Book")), Cond.fieldLink RX3 57 "SewingFrames$Workshop" "bookCount" "I", Cond.methodLink RX3 140 yX3_stitchesAnHour, Cond.instanceMethod yX3_stitchesAnHour]
def wsX3_letAnHourGo_r4 : List Cond := [Cond.selects RX3 yX3_stitchesAnHour yX3_stitchesAnHour, Cond.code yX3_stitchesAnHour cX3_stitchesAnHour 8 (some .int), Cond.fieldLink RX3 22 "SewingFrames$Workshop" "sewers" "[LSewingFrames$Sewer;", Cond.fieldLink RX3 78 "SewingFrames$Sewer" "frame" "I", Cond.fieldLink RX3 90 "SewingFrames$Sewer" "speed" "I", Cond.methodLink RX3 93 Lib.Math.max.name, Cond.static Lib.Math.max.name, Cond.code Lib.Math.max.name Lib.Math.max.code 2 (some .int), Cond.methodLink RX3 86 yX3_sittersAt, Cond.instanceMethod yX3_sittersAt, Cond.selects RX3 yX3_sittersAt yX3_sittersAt, Cond.code yX3_sittersAt cX3_sittersAt 2 (some .int), Cond.methodLink RX3 82 yX3_othersAt, Cond.instanceMethod yX3_othersAt, Cond.selects RX3 yX3_othersAt yX3_othersAt, Cond.code yX3_othersAt cX3_othersAt 8 (some .int), Cond.fieldLink RX3 81 "SewingFrames$Sewer" "number" "I", Cond.methodLink RX3 146 yX0_isSewn, Cond.instanceMethod yX0_isSewn, Cond.selects RX0 yX0_isSewn yX0_isSewn, Cond.code yX0_isSewn cX0_isSewn 1 (some .boolean), Cond.fieldLink RX0 36 "SewingFrames$Book" "wholeSignatures" "I", Cond.methodLink RX3 151 yX0_addStitch, Cond.instanceMethod yX0_addStitch]
def wsX3_letAnHourGo_r5 : List Cond := [Cond.selects RX0 yX0_addStitch yX0_addStitch, Cond.code yX0_addStitch cX0_addStitch 1 (some .boolean), Cond.fieldLink RX0 33 "SewingFrames$Book" "stitches" "I", Cond.fieldLink RX0 39 "SewingFrames$Book" "stitchesOfNext" "I", Cond.methodLink RX0 55 yX0_stitchesOfSignature, Cond.instanceMethod yX0_stitchesOfSignature, Cond.selects RX0 yX0_stitchesOfSignature yX0_stitchesOfSignature, Cond.code yX0_stitchesOfSignature cX0_stitchesOfSignature 3 (some .int), Cond.fieldLink RX0 30 "SewingFrames$Book" "cords" "I", Cond.methodLink RX3 155 yX0_beginToDry, Cond.instanceMethod yX0_beginToDry, Cond.selects RX0 yX0_beginToDry yX0_beginToDry, Cond.code yX0_beginToDry cX0_beginToDry 1 none, Cond.fieldLink RX0 18 "SewingFrames$Book" "frame" "I", Cond.methodLink RX3 117 yX3_mountOn, Cond.instanceMethod yX3_mountOn, Cond.selects RX3 yX3_mountOn yX3_mountOn, Cond.code yX3_mountOn cX3_mountOn 6 none, Cond.fieldLink RX3 158 "SewingFrames$Frame" "cords" "I", Cond.fieldLink RX3 75 "SewingFrames$Book" "number" "I", Cond.methodLink RX3 161 yX0_mount, Cond.instanceMethod yX0_mount, Cond.selects RX0 yX0_mount yX0_mount, Cond.code yX0_mount cX0_mount 3 none]
def wsX3_letAnHourGo : List Cond := .code yX3_letAnHourGo cX3_letAnHourGo 6 (some .int) :: ((wsX3_letAnHourGo_r1 ++ (wsX3_letAnHourGo_r2 ++ (wsX3_letAnHourGo_r3 ++ (wsX3_letAnHourGo_r4 ++ wsX3_letAnHourGo_r5)))) ++ wsX30 ++ wsX10 ++ wsX00 ++ wsX20)
def wsX3_letHoursGo_r1 : List Cond := [Cond.methodLink RX3 98 yX3_letAnHourGo, Cond.instanceMethod yX3_letAnHourGo, Cond.selects RX3 yX3_letAnHourGo yX3_letAnHourGo, Cond.initialized RX3, Cond.code yX3_letAnHourGo cX3_letAnHourGo 6 (some .int), Cond.fieldLink RX3 29 "SewingFrames$Workshop" "frames" "[LSewingFrames$Frame;", Cond.fieldLink RX3 72 "SewingFrames$Frame" "book" "I", Cond.fieldLink RX3 63 "SewingFrames$Workshop" "hour" "I", Cond.methodLink RX3 102 yX3_booksAt, Cond.instanceMethod yX3_booksAt, Cond.selects RX3 yX3_booksAt yX3_booksAt, Cond.code yX3_booksAt cX3_booksAt 7 (some .int), Cond.fieldLink RX3 11 "SewingFrames$Workshop" "books" "[LSewingFrames$Book;", Cond.fieldLink RX3 120 "SewingFrames$Book" "stage" "I", Cond.methodLink RX3 105 yX3_gild, Cond.instanceMethod yX3_gild, Cond.selects RX3 yX3_gild yX3_gild, Cond.code yX3_gild cX3_gild 6 none, Cond.fieldLink RX3 41 "SewingFrames$Workshop" "gold" "I", Cond.methodLink RX3 123 yX0_leavesForAnEdge, Cond.instanceMethod yX0_leavesForAnEdge, Cond.selects RX0 yX0_leavesForAnEdge yX0_leavesForAnEdge, Cond.initialized RX0, Cond.code yX0_leavesForAnEdge cX0_leavesForAnEdge 1 (some .int)]
def wsX3_letHoursGo_r2 : List Cond := [Cond.methodLink RX0 51 yX0_thickness, Cond.instanceMethod yX0_thickness, Cond.selects RX0 yX0_thickness yX0_thickness, Cond.code yX0_thickness cX0_thickness 1 (some .int), Cond.fieldLink RX0 21 "SewingFrames$Book" "signatures" "I", Cond.fieldLink RX0 24 "SewingFrames$Book" "sheets" "I", Cond.methodLink RX3 126 yX0_gildAnEdge, Cond.instanceMethod yX0_gildAnEdge, Cond.selects RX0 yX0_gildAnEdge yX0_gildAnEdge, Cond.code yX0_gildAnEdge cX0_gildAnEdge 1 none, Cond.fieldLink RX0 48 "SewingFrames$Book" "gilt" "I", Cond.fieldLink RX0 27 "SewingFrames$Book" "edges" "I", Cond.fieldLink RX0 15 "SewingFrames$Book" "stage" "I", Cond.methodLink RX3 108 yX3_giveBoards, Cond.instanceMethod yX3_giveBoards, Cond.selects RX3 yX3_giveBoards yX3_giveBoards, Cond.code yX3_giveBoards cX3_giveBoards 5 none, Cond.fieldLink RX3 38 "SewingFrames$Workshop" "boards" "I", Cond.methodLink RX3 129 yX0_bind, Cond.instanceMethod yX0_bind, Cond.selects RX0 yX0_bind yX0_bind, Cond.code yX0_bind cX0_bind 1 none, Cond.methodLink RX3 111 yX3_dry, Cond.instanceMethod yX3_dry]
def wsX3_letHoursGo_r3 : List Cond := [Cond.selects RX3 yX3_dry yX3_dry, Cond.code yX3_dry cX3_dry 5 none, Cond.methodLink RX3 132 yX0_dryForAnHour, Cond.instanceMethod yX0_dryForAnHour, Cond.selects RX0 yX0_dryForAnHour yX0_dryForAnHour, Cond.code yX0_dryForAnHour cX0_dryForAnHour 1 none, Cond.fieldLink RX0 45 "SewingFrames$Book" "hoursToDry" "I", Cond.methodLink RX3 114 yX3_sewAt, Cond.instanceMethod yX3_sewAt, Cond.selects RX3 yX3_sewAt yX3_sewAt, Cond.code yX3_sewAt cX3_sewAt 6 none, Cond.fieldLink RX3 139 "SewingFrames$Frame" "number" "I", Cond.fieldLink RX3 34 "SewingFrames$Workshop" "thread" "I", Cond.methodLink RX3 143 Lib.Math.min.name, Cond.static Lib.Math.min.name, Cond.initialized "java/lang/Math", Cond.code Lib.Math.min.name Lib.Math.min.code 2 (some .int), Cond.fieldLink RX3 66 "SewingFrames$Workshop" "sewn" "I", Cond.fieldLink RX3 150 "SewingFrames$Frame" "sewn" "I", Cond.fieldLink RX3 154 "SewingFrames$Book" "loose" "I", Cond.fieldLink RX3 69 "SewingFrames$Workshop" "loose" "I", Cond.methodLink RX3 135 yX3_bookNumbered, Cond.instanceMethod yX3_bookNumbered, Cond.selects RX3 yX3_bookNumbered yX3_bookNumbered]
def wsX3_letHoursGo_r4 : List Cond := [Cond.code yX3_bookNumbered cX3_bookNumbered 2 (some (.object "SewingFrames$Book")), Cond.fieldLink RX3 57 "SewingFrames$Workshop" "bookCount" "I", Cond.methodLink RX3 140 yX3_stitchesAnHour, Cond.instanceMethod yX3_stitchesAnHour, Cond.selects RX3 yX3_stitchesAnHour yX3_stitchesAnHour, Cond.code yX3_stitchesAnHour cX3_stitchesAnHour 8 (some .int), Cond.fieldLink RX3 22 "SewingFrames$Workshop" "sewers" "[LSewingFrames$Sewer;", Cond.fieldLink RX3 78 "SewingFrames$Sewer" "frame" "I", Cond.fieldLink RX3 90 "SewingFrames$Sewer" "speed" "I", Cond.methodLink RX3 93 Lib.Math.max.name, Cond.static Lib.Math.max.name, Cond.code Lib.Math.max.name Lib.Math.max.code 2 (some .int), Cond.methodLink RX3 86 yX3_sittersAt, Cond.instanceMethod yX3_sittersAt, Cond.selects RX3 yX3_sittersAt yX3_sittersAt, Cond.code yX3_sittersAt cX3_sittersAt 2 (some .int), Cond.methodLink RX3 82 yX3_othersAt, Cond.instanceMethod yX3_othersAt, Cond.selects RX3 yX3_othersAt yX3_othersAt, Cond.code yX3_othersAt cX3_othersAt 8 (some .int), Cond.fieldLink RX3 81 "SewingFrames$Sewer" "number" "I", Cond.methodLink RX3 146 yX0_isSewn, Cond.instanceMethod yX0_isSewn, Cond.selects RX0 yX0_isSewn yX0_isSewn]
def wsX3_letHoursGo_r5 : List Cond := [Cond.code yX0_isSewn cX0_isSewn 1 (some .boolean), Cond.fieldLink RX0 36 "SewingFrames$Book" "wholeSignatures" "I", Cond.methodLink RX3 151 yX0_addStitch, Cond.instanceMethod yX0_addStitch, Cond.selects RX0 yX0_addStitch yX0_addStitch, Cond.code yX0_addStitch cX0_addStitch 1 (some .boolean), Cond.fieldLink RX0 33 "SewingFrames$Book" "stitches" "I", Cond.fieldLink RX0 39 "SewingFrames$Book" "stitchesOfNext" "I", Cond.methodLink RX0 55 yX0_stitchesOfSignature, Cond.instanceMethod yX0_stitchesOfSignature, Cond.selects RX0 yX0_stitchesOfSignature yX0_stitchesOfSignature, Cond.code yX0_stitchesOfSignature cX0_stitchesOfSignature 3 (some .int), Cond.fieldLink RX0 30 "SewingFrames$Book" "cords" "I", Cond.methodLink RX3 155 yX0_beginToDry, Cond.instanceMethod yX0_beginToDry, Cond.selects RX0 yX0_beginToDry yX0_beginToDry, Cond.code yX0_beginToDry cX0_beginToDry 1 none, Cond.fieldLink RX0 18 "SewingFrames$Book" "frame" "I", Cond.methodLink RX3 117 yX3_mountOn, Cond.instanceMethod yX3_mountOn, Cond.selects RX3 yX3_mountOn yX3_mountOn, Cond.code yX3_mountOn cX3_mountOn 6 none, Cond.fieldLink RX3 158 "SewingFrames$Frame" "cords" "I", Cond.fieldLink RX3 75 "SewingFrames$Book" "number" "I"]
def wsX3_letHoursGo_r6 : List Cond := [Cond.methodLink RX3 161 yX0_mount, Cond.instanceMethod yX0_mount, Cond.selects RX0 yX0_mount yX0_mount, Cond.code yX0_mount cX0_mount 3 none]
def wsX3_letHoursGo : List Cond := .code yX3_letHoursGo cX3_letHoursGo 4 (some .int) :: ((wsX3_letHoursGo_r1 ++ (wsX3_letHoursGo_r2 ++ (wsX3_letHoursGo_r3 ++ (wsX3_letHoursGo_r4 ++ (wsX3_letHoursGo_r5 ++ wsX3_letHoursGo_r6))))) ++ wsX30 ++ wsX10 ++ wsX00 ++ wsX20)
def wsX3_tellOfFrame_r1 : List Cond := [Cond.fieldLink RX3 72 "SewingFrames$Frame" "book" "I", Cond.fieldLink RX3 158 "SewingFrames$Frame" "cords" "I", Cond.fieldLink RX3 139 "SewingFrames$Frame" "number" "I", Cond.fieldLink RX3 150 "SewingFrames$Frame" "sewn" "I", Cond.methodLink RX3 135 yX3_bookNumbered, Cond.instanceMethod yX3_bookNumbered, Cond.selects RX3 yX3_bookNumbered yX3_bookNumbered, Cond.initialized RX3, Cond.code yX3_bookNumbered cX3_bookNumbered 2 (some (.object "SewingFrames$Book")), Cond.fieldLink RX3 57 "SewingFrames$Workshop" "bookCount" "I", Cond.fieldLink RX3 11 "SewingFrames$Workshop" "books" "[LSewingFrames$Book;", Cond.methodLink RX3 86 yX3_sittersAt, Cond.instanceMethod yX3_sittersAt, Cond.selects RX3 yX3_sittersAt yX3_sittersAt, Cond.code yX3_sittersAt cX3_sittersAt 2 (some .int), Cond.methodLink RX3 82 yX3_othersAt, Cond.instanceMethod yX3_othersAt, Cond.selects RX3 yX3_othersAt yX3_othersAt, Cond.code yX3_othersAt cX3_othersAt 8 (some .int), Cond.fieldLink RX3 22 "SewingFrames$Workshop" "sewers" "[LSewingFrames$Sewer;", Cond.fieldLink RX3 78 "SewingFrames$Sewer" "frame" "I", Cond.fieldLink RX3 81 "SewingFrames$Sewer" "number" "I", Cond.methodLink RX3 140 yX3_stitchesAnHour, Cond.instanceMethod yX3_stitchesAnHour]
def wsX3_tellOfFrame_r2 : List Cond := [Cond.selects RX3 yX3_stitchesAnHour yX3_stitchesAnHour, Cond.code yX3_stitchesAnHour cX3_stitchesAnHour 8 (some .int), Cond.fieldLink RX3 90 "SewingFrames$Sewer" "speed" "I", Cond.methodLink RX3 93 Lib.Math.max.name, Cond.static Lib.Math.max.name, Cond.initialized "java/lang/Math", Cond.code Lib.Math.max.name Lib.Math.max.code 2 (some .int), Cond.methodLink RX3 165 yX0_stitchesToSew, Cond.instanceMethod yX0_stitchesToSew, Cond.selects RX0 yX0_stitchesToSew yX0_stitchesToSew, Cond.initialized RX0, Cond.code yX0_stitchesToSew cX0_stitchesToSew 3 (some .int), Cond.fieldLink RX0 21 "SewingFrames$Book" "signatures" "I", Cond.fieldLink RX0 33 "SewingFrames$Book" "stitches" "I", Cond.methodLink RX0 55 yX0_stitchesOfSignature, Cond.instanceMethod yX0_stitchesOfSignature, Cond.selects RX0 yX0_stitchesOfSignature yX0_stitchesOfSignature, Cond.code yX0_stitchesOfSignature cX0_stitchesOfSignature 3 (some .int), Cond.fieldLink RX0 30 "SewingFrames$Book" "cords" "I"]
def wsX3_tellOfFrame : List Cond := .code yX3_tellOfFrame cX3_tellOfFrame 4 (some .int) :: ((wsX3_tellOfFrame_r1 ++ wsX3_tellOfFrame_r2) ++ wsX10 ++ wsX30 ++ wsX20 ++ wsX00)
def wsX3_tellOfAll : List Cond := .code yX3_tellOfAll cX3_tellOfAll 2 (some .int) :: ([.fieldLink RX3 63 "SewingFrames$Workshop" "hour" "I", .fieldLink RX3 57 "SewingFrames$Workshop" "bookCount" "I", .fieldLink RX3 44 "SewingFrames$Workshop" "coins" "I", .fieldLink RX3 34 "SewingFrames$Workshop" "thread" "I", .fieldLink RX3 38 "SewingFrames$Workshop" "boards" "I", .fieldLink RX3 41 "SewingFrames$Workshop" "gold" "I", .fieldLink RX3 66 "SewingFrames$Workshop" "sewn" "I", .fieldLink RX3 69 "SewingFrames$Workshop" "loose" "I", .methodLink RX3 102 yX3_booksAt, .instanceMethod yX3_booksAt, .selects RX3 yX3_booksAt yX3_booksAt, .initialized RX3, .code yX3_booksAt cX3_booksAt 7 (some .int), .fieldLink RX3 11 "SewingFrames$Workshop" "books" "[LSewingFrames$Book;", .fieldLink RX3 120 "SewingFrames$Book" "stage" "I"] ++ wsX30 ++ wsX00)
def wsX4_init_r1 : List Cond := [Cond.methodLink RX4 1 objectInit, Cond.instanceMethod objectInit, Cond.code objectInit ⟨#[0xb1]⟩ 1 none, Cond.classLink RX4 7 RX3, Cond.instantiable RX3 12, Cond.initialized RX3, Cond.fieldLink RX4 10 "SewingFrames" "now" "LSewingFrames$Workshop;", Cond.fieldLink RX4 16 "SewingFrames" "ahead" "LSewingFrames$Workshop;", Cond.methodLink RX4 9 yX3_init, Cond.instanceMethod yX3_init, Cond.code yX3_init cX3_init 2 none, Cond.methodLink RX3 3 objectInit, Cond.classLink RX3 9 RX0, Cond.fieldLink RX3 11 "SewingFrames$Workshop" "books" "[LSewingFrames$Book;", Cond.instantiable RX0 13, Cond.initialized RX0, Cond.classLink RX3 20 RX2, Cond.fieldLink RX3 22 "SewingFrames$Workshop" "sewers" "[LSewingFrames$Sewer;", Cond.instantiable RX2 3, Cond.initialized RX2, Cond.classLink RX3 27 RX1, Cond.fieldLink RX3 29 "SewingFrames$Workshop" "frames" "[LSewingFrames$Frame;", Cond.instantiable RX1 4, Cond.initialized RX1]
def wsX4_init_r2 : List Cond := [Cond.fieldLink RX3 34 "SewingFrames$Workshop" "thread" "I", Cond.fieldLink RX3 38 "SewingFrames$Workshop" "boards" "I", Cond.fieldLink RX3 41 "SewingFrames$Workshop" "gold" "I", Cond.fieldLink RX3 44 "SewingFrames$Workshop" "coins" "I", Cond.methodLink RX3 17 yX0_init, Cond.instanceMethod yX0_init, Cond.code yX0_init cX0_init 2 none, Cond.methodLink RX0 3 objectInit, Cond.fieldLink RX0 9 "SewingFrames$Book" "number" "I", Cond.fieldLink RX0 15 "SewingFrames$Book" "stage" "I", Cond.fieldLink RX0 18 "SewingFrames$Book" "frame" "I", Cond.methodLink RX3 26 yX2_init, Cond.instanceMethod yX2_init, Cond.code yX2_init cX2_init 2 none, Cond.methodLink RX2 3 objectInit, Cond.fieldLink RX2 9 "SewingFrames$Sewer" "number" "I", Cond.fieldLink RX2 15 "SewingFrames$Sewer" "frame" "I", Cond.methodLink RX3 33 yX1_init, Cond.instanceMethod yX1_init, Cond.code yX1_init cX1_init 2 none, Cond.methodLink RX1 3 objectInit, Cond.fieldLink RX1 9 "SewingFrames$Frame" "number" "I", Cond.fieldLink RX1 15 "SewingFrames$Frame" "cords" "I", Cond.fieldLink RX1 18 "SewingFrames$Frame" "book" "I"]
def wsX4_init : List Cond := .code yX4_init cX4_init 1 none :: ((wsX4_init_r1 ++ wsX4_init_r2) ++ wsX30 ++ wsX40 ++ wsX00 ++ wsX20 ++ wsX10)
def wsX4_order : List Cond := .code yX4_order cX4_order 5 (some .int) :: ([.classLink RX4 19 "java/lang/IllegalArgumentException", .initialized "java/lang/IllegalArgumentException", .classLink RX4 34 "java/lang/IllegalStateException", .initialized "java/lang/IllegalStateException", .fieldLink RX4 10 "SewingFrames" "now" "LSewingFrames$Workshop;", .fieldLink RX4 45 "SewingFrames$Workshop" "bookCount" "I", .fieldLink RX4 49 "SewingFrames$Book" "number" "I", .methodLink RX4 30 yX3_freeBook, .instanceMethod yX3_freeBook, .selects RX3 yX3_freeBook yX3_freeBook, .initialized RX3, .code yX3_freeBook cX3_freeBook 1 (some (.object "SewingFrames$Book")), .fieldLink RX3 57 "SewingFrames$Workshop" "bookCount" "I", .fieldLink RX3 11 "SewingFrames$Workshop" "books" "[LSewingFrames$Book;", .methodLink RX4 39 yX0_begin, .instanceMethod yX0_begin, .selects RX0 yX0_begin yX0_begin, .initialized RX0, .code yX0_begin cX0_begin 4 none, .fieldLink RX0 21 "SewingFrames$Book" "signatures" "I", .fieldLink RX0 24 "SewingFrames$Book" "sheets" "I", .fieldLink RX0 27 "SewingFrames$Book" "edges" "I", .fieldLink RX0 15 "SewingFrames$Book" "stage" "I"] ++ wsX40 ++ wsX30 ++ wsX00 ++ (vx_atS RX4 23 "java/lang/IllegalArgumentException" ["java/lang/RuntimeException", "java/lang/Exception"]).filter goodWord ++ (vx_atS RX4 38 "java/lang/IllegalStateException" ["java/lang/RuntimeException", "java/lang/Exception"]).filter goodWord)
def wsX4_knownBook : List Cond := .code yX4_knownBook cX4_knownBook 3 (some (.object "SewingFrames$Book")) :: ([.classLink RX4 109 "java/lang/IndexOutOfBoundsException", .initialized "java/lang/IndexOutOfBoundsException", .fieldLink RX4 10 "SewingFrames" "now" "LSewingFrames$Workshop;", .methodLink RX4 172 yX3_bookNumbered, .instanceMethod yX3_bookNumbered, .selects RX3 yX3_bookNumbered yX3_bookNumbered, .initialized RX3, .code yX3_bookNumbered cX3_bookNumbered 2 (some (.object "SewingFrames$Book")), .fieldLink RX3 57 "SewingFrames$Workshop" "bookCount" "I", .fieldLink RX3 11 "SewingFrames$Workshop" "books" "[LSewingFrames$Book;"] ++ wsX40 ++ wsX30 ++ (vx_atS RX4 113 "java/lang/IndexOutOfBoundsException" ["java/lang/RuntimeException", "java/lang/Exception"]).filter goodWord)
def wsX4_unpick_r1 : List Cond := [Cond.classLink RX4 34 "java/lang/IllegalStateException", Cond.initialized "java/lang/IllegalStateException", Cond.fieldLink RX4 56 "SewingFrames$Book" "stage" "I", Cond.fieldLink RX4 61 "SewingFrames$Book" "stitches" "I", Cond.fieldLink RX4 10 "SewingFrames" "now" "LSewingFrames$Workshop;", Cond.methodLink RX4 52 yX4_knownBook, Cond.instanceMethod yX4_knownBook, Cond.selects RX4 yX4_knownBook yX4_knownBook, Cond.initialized RX4, Cond.code yX4_knownBook cX4_knownBook 3 (some (.object "SewingFrames$Book")), Cond.classLink RX4 109 "java/lang/IndexOutOfBoundsException", Cond.initialized "java/lang/IndexOutOfBoundsException", Cond.methodLink RX4 172 yX3_bookNumbered, Cond.instanceMethod yX3_bookNumbered, Cond.selects RX3 yX3_bookNumbered yX3_bookNumbered, Cond.initialized RX3, Cond.code yX3_bookNumbered cX3_bookNumbered 2 (some (.object "SewingFrames$Book")), Cond.fieldLink RX3 57 "SewingFrames$Workshop" "bookCount" "I", Cond.fieldLink RX3 11 "SewingFrames$Workshop" "books" "[LSewingFrames$Book;", Cond.methodLink RX4 64 yX3_clearFrameOf, Cond.instanceMethod yX3_clearFrameOf, Cond.selects RX3 yX3_clearFrameOf yX3_clearFrameOf, Cond.code yX3_clearFrameOf cX3_clearFrameOf 6 none, Cond.fieldLink RX3 29 "SewingFrames$Workshop" "frames" "[LSewingFrames$Frame;"]
def wsX4_unpick_r2 : List Cond := [Cond.fieldLink RX3 72 "SewingFrames$Frame" "book" "I", Cond.fieldLink RX3 75 "SewingFrames$Book" "number" "I", Cond.methodLink RX4 68 yX0_undo, Cond.instanceMethod yX0_undo, Cond.selects RX0 yX0_undo yX0_undo, Cond.initialized RX0, Cond.code yX0_undo cX0_undo 1 none, Cond.fieldLink RX0 15 "SewingFrames$Book" "stage" "I", Cond.fieldLink RX0 18 "SewingFrames$Book" "frame" "I", Cond.fieldLink RX0 30 "SewingFrames$Book" "cords" "I", Cond.fieldLink RX0 33 "SewingFrames$Book" "stitches" "I", Cond.fieldLink RX0 36 "SewingFrames$Book" "wholeSignatures" "I", Cond.fieldLink RX0 39 "SewingFrames$Book" "stitchesOfNext" "I", Cond.fieldLink RX0 42 "SewingFrames$Book" "loose" "I"]
def wsX4_unpick : List Cond := .code yX4_unpick cX4_unpick 4 (some .int) :: ((wsX4_unpick_r1 ++ wsX4_unpick_r2) ++ wsX00 ++ wsX40 ++ wsX30 ++ wsX10 ++ (vx_atS RX4 38 "java/lang/IllegalStateException" ["java/lang/RuntimeException", "java/lang/Exception"]).filter goodWord ++ (vx_atS RX4 113 "java/lang/IndexOutOfBoundsException" ["java/lang/RuntimeException", "java/lang/Exception"]).filter goodWord)
def wsX4_sell_r1 : List Cond := [Cond.classLink RX4 34 "java/lang/IllegalStateException", Cond.initialized "java/lang/IllegalStateException", Cond.fieldLink RX4 56 "SewingFrames$Book" "stage" "I", Cond.fieldLink RX4 10 "SewingFrames" "now" "LSewingFrames$Workshop;", Cond.fieldLink RX4 73 "SewingFrames$Workshop" "coins" "I", Cond.methodLink RX4 52 yX4_knownBook, Cond.instanceMethod yX4_knownBook, Cond.selects RX4 yX4_knownBook yX4_knownBook, Cond.initialized RX4, Cond.code yX4_knownBook cX4_knownBook 3 (some (.object "SewingFrames$Book")), Cond.classLink RX4 109 "java/lang/IndexOutOfBoundsException", Cond.initialized "java/lang/IndexOutOfBoundsException", Cond.methodLink RX4 172 yX3_bookNumbered, Cond.instanceMethod yX3_bookNumbered, Cond.selects RX3 yX3_bookNumbered yX3_bookNumbered, Cond.initialized RX3, Cond.code yX3_bookNumbered cX3_bookNumbered 2 (some (.object "SewingFrames$Book")), Cond.fieldLink RX3 57 "SewingFrames$Workshop" "bookCount" "I", Cond.fieldLink RX3 11 "SewingFrames$Workshop" "books" "[LSewingFrames$Book;", Cond.methodLink RX4 76 yX0_value, Cond.instanceMethod yX0_value, Cond.selects RX0 yX0_value yX0_value, Cond.initialized RX0, Cond.code yX0_value cX0_value 1 (some .int)]
def wsX4_sell_r2 : List Cond := [Cond.fieldLink RX0 21 "SewingFrames$Book" "signatures" "I", Cond.fieldLink RX0 30 "SewingFrames$Book" "cords" "I", Cond.fieldLink RX0 48 "SewingFrames$Book" "gilt" "I", Cond.fieldLink RX0 42 "SewingFrames$Book" "loose" "I", Cond.methodLink RX0 59 Lib.Math.max.name, Cond.static Lib.Math.max.name, Cond.initialized "java/lang/Math", Cond.code Lib.Math.max.name Lib.Math.max.code 2 (some .int)]
def wsX4_sell : List Cond := .code yX4_sell cX4_sell 3 (some .int) :: ((wsX4_sell_r1 ++ wsX4_sell_r2) ++ wsX00 ++ wsX40 ++ wsX30 ++ (vx_atS RX4 38 "java/lang/IllegalStateException" ["java/lang/RuntimeException", "java/lang/Exception"]).filter goodWord ++ (vx_atS RX4 113 "java/lang/IndexOutOfBoundsException" ["java/lang/RuntimeException", "java/lang/Exception"]).filter goodWord)
def wsX4_checkKind : List Cond := .code yX4_checkKind cX4_checkKind 2 none :: ([.classLink RX4 109 "java/lang/IndexOutOfBoundsException", .initialized "java/lang/IndexOutOfBoundsException"] ++ (vx_atS RX4 113 "java/lang/IndexOutOfBoundsException" ["java/lang/RuntimeException", "java/lang/Exception"]).filter goodWord)
def wsX4_told_r1 : List Cond := [Cond.methodLink RX4 52 yX4_knownBook, Cond.instanceMethod yX4_knownBook, Cond.selects RX4 yX4_knownBook yX4_knownBook, Cond.initialized RX4, Cond.code yX4_knownBook cX4_knownBook 3 (some (.object "SewingFrames$Book")), Cond.classLink RX4 109 "java/lang/IndexOutOfBoundsException", Cond.initialized "java/lang/IndexOutOfBoundsException", Cond.fieldLink RX4 10 "SewingFrames" "now" "LSewingFrames$Workshop;", Cond.methodLink RX4 172 yX3_bookNumbered, Cond.instanceMethod yX3_bookNumbered, Cond.selects RX3 yX3_bookNumbered yX3_bookNumbered, Cond.initialized RX3, Cond.code yX3_bookNumbered cX3_bookNumbered 2 (some (.object "SewingFrames$Book")), Cond.fieldLink RX3 57 "SewingFrames$Workshop" "bookCount" "I", Cond.fieldLink RX3 11 "SewingFrames$Workshop" "books" "[LSewingFrames$Book;", Cond.methodLink RX4 80 yX4_checkKind, Cond.static yX4_checkKind, Cond.code yX4_checkKind cX4_checkKind 2 none, Cond.methodLink RX4 84 yX0_tell, Cond.instanceMethod yX0_tell, Cond.selects RX0 yX0_tell yX0_tell, Cond.initialized RX0, Cond.code yX0_tell cX0_tell 2 (some .int), Cond.fieldLink RX0 21 "SewingFrames$Book" "signatures" "I"]
def wsX4_told_r2 : List Cond := [Cond.fieldLink RX0 24 "SewingFrames$Book" "sheets" "I", Cond.fieldLink RX0 27 "SewingFrames$Book" "edges" "I", Cond.fieldLink RX0 15 "SewingFrames$Book" "stage" "I", Cond.fieldLink RX0 18 "SewingFrames$Book" "frame" "I", Cond.fieldLink RX0 36 "SewingFrames$Book" "wholeSignatures" "I", Cond.fieldLink RX0 39 "SewingFrames$Book" "stitchesOfNext" "I", Cond.fieldLink RX0 42 "SewingFrames$Book" "loose" "I", Cond.fieldLink RX0 45 "SewingFrames$Book" "hoursToDry" "I", Cond.fieldLink RX0 48 "SewingFrames$Book" "gilt" "I", Cond.methodLink RX0 65 yX0_value, Cond.instanceMethod yX0_value, Cond.selects RX0 yX0_value yX0_value, Cond.code yX0_value cX0_value 1 (some .int), Cond.fieldLink RX0 30 "SewingFrames$Book" "cords" "I", Cond.methodLink RX0 59 Lib.Math.max.name, Cond.static Lib.Math.max.name, Cond.initialized "java/lang/Math", Cond.code Lib.Math.max.name Lib.Math.max.code 2 (some .int)]
def wsX4_told : List Cond := .code yX4_told cX4_told 4 (some .int) :: ((wsX4_told_r1 ++ wsX4_told_r2) ++ wsX40 ++ wsX30 ++ wsX00 ++ (vx_atS RX4 113 "java/lang/IndexOutOfBoundsException" ["java/lang/RuntimeException", "java/lang/Exception"]).filter goodWord)
def wsX4_hire : List Cond := .code yX4_hire cX4_hire 3 (some .int) :: ([.classLink RX4 19 "java/lang/IllegalArgumentException", .initialized "java/lang/IllegalArgumentException", .classLink RX4 34 "java/lang/IllegalStateException", .initialized "java/lang/IllegalStateException", .fieldLink RX4 10 "SewingFrames" "now" "LSewingFrames$Workshop;", .fieldLink RX4 96 "SewingFrames$Sewer" "speed" "I", .fieldLink RX4 101 "SewingFrames$Workshop" "sewerCount" "I", .fieldLink RX4 104 "SewingFrames$Sewer" "number" "I", .methodLink RX4 90 yX3_freeSewer, .instanceMethod yX3_freeSewer, .selects RX3 yX3_freeSewer yX3_freeSewer, .initialized RX3, .code yX3_freeSewer cX3_freeSewer 1 (some (.object "SewingFrames$Sewer")), .fieldLink RX3 60 "SewingFrames$Workshop" "sewerCount" "I", .fieldLink RX3 22 "SewingFrames$Workshop" "sewers" "[LSewingFrames$Sewer;"] ++ wsX40 ++ wsX20 ++ wsX30 ++ (vx_atS RX4 23 "java/lang/IllegalArgumentException" ["java/lang/RuntimeException", "java/lang/Exception"]).filter goodWord ++ (vx_atS RX4 38 "java/lang/IllegalStateException" ["java/lang/RuntimeException", "java/lang/Exception"]).filter goodWord)
def wsX4_knownSewer : List Cond := .code yX4_knownSewer cX4_knownSewer 3 (some (.object "SewingFrames$Sewer")) :: ([.classLink RX4 109 "java/lang/IndexOutOfBoundsException", .initialized "java/lang/IndexOutOfBoundsException", .fieldLink RX4 10 "SewingFrames" "now" "LSewingFrames$Workshop;", .methodLink RX4 202 yX3_sewerNumbered, .instanceMethod yX3_sewerNumbered, .selects RX3 yX3_sewerNumbered yX3_sewerNumbered, .initialized RX3, .code yX3_sewerNumbered cX3_sewerNumbered 2 (some (.object "SewingFrames$Sewer")), .fieldLink RX3 60 "SewingFrames$Workshop" "sewerCount" "I", .fieldLink RX3 22 "SewingFrames$Workshop" "sewers" "[LSewingFrames$Sewer;"] ++ wsX40 ++ wsX30 ++ (vx_atS RX4 113 "java/lang/IndexOutOfBoundsException" ["java/lang/RuntimeException", "java/lang/Exception"]).filter goodWord)
def wsX4_seat : List Cond := .code yX4_seat cX4_seat 5 (some .int) :: ([.classLink RX4 109 "java/lang/IndexOutOfBoundsException", .initialized "java/lang/IndexOutOfBoundsException", .classLink RX4 34 "java/lang/IllegalStateException", .initialized "java/lang/IllegalStateException", .fieldLink RX4 10 "SewingFrames" "now" "LSewingFrames$Workshop;", .fieldLink RX4 120 "SewingFrames$Sewer" "frame" "I", .methodLink RX4 105 yX4_knownSewer, .instanceMethod yX4_knownSewer, .selects RX4 yX4_knownSewer yX4_knownSewer, .initialized RX4, .code yX4_knownSewer cX4_knownSewer 3 (some (.object "SewingFrames$Sewer")), .methodLink RX4 202 yX3_sewerNumbered, .instanceMethod yX3_sewerNumbered, .selects RX3 yX3_sewerNumbered yX3_sewerNumbered, .initialized RX3, .code yX3_sewerNumbered cX3_sewerNumbered 2 (some (.object "SewingFrames$Sewer")), .fieldLink RX3 60 "SewingFrames$Workshop" "sewerCount" "I", .fieldLink RX3 22 "SewingFrames$Workshop" "sewers" "[LSewingFrames$Sewer;", .methodLink RX4 114 yX3_othersAt, .instanceMethod yX3_othersAt, .selects RX3 yX3_othersAt yX3_othersAt, .code yX3_othersAt cX3_othersAt 8 (some .int), .fieldLink RX3 78 "SewingFrames$Sewer" "frame" "I", .fieldLink RX3 81 "SewingFrames$Sewer" "number" "I"] ++ wsX40 ++ wsX20 ++ wsX30 ++ (vx_atS RX4 113 "java/lang/IndexOutOfBoundsException" ["java/lang/RuntimeException", "java/lang/Exception"]).filter goodWord ++ (vx_atS RX4 38 "java/lang/IllegalStateException" ["java/lang/RuntimeException", "java/lang/Exception"]).filter goodWord)
def wsX4_sewer_r1 : List Cond := [Cond.methodLink RX4 105 yX4_knownSewer, Cond.instanceMethod yX4_knownSewer, Cond.selects RX4 yX4_knownSewer yX4_knownSewer, Cond.initialized RX4, Cond.code yX4_knownSewer cX4_knownSewer 3 (some (.object "SewingFrames$Sewer")), Cond.classLink RX4 109 "java/lang/IndexOutOfBoundsException", Cond.initialized "java/lang/IndexOutOfBoundsException", Cond.fieldLink RX4 10 "SewingFrames" "now" "LSewingFrames$Workshop;", Cond.methodLink RX4 202 yX3_sewerNumbered, Cond.instanceMethod yX3_sewerNumbered, Cond.selects RX3 yX3_sewerNumbered yX3_sewerNumbered, Cond.initialized RX3, Cond.code yX3_sewerNumbered cX3_sewerNumbered 2 (some (.object "SewingFrames$Sewer")), Cond.fieldLink RX3 60 "SewingFrames$Workshop" "sewerCount" "I", Cond.fieldLink RX3 22 "SewingFrames$Workshop" "sewers" "[LSewingFrames$Sewer;", Cond.methodLink RX4 80 yX4_checkKind, Cond.static yX4_checkKind, Cond.code yX4_checkKind cX4_checkKind 2 none, Cond.methodLink RX4 123 yX2_tell, Cond.instanceMethod yX2_tell, Cond.selects RX2 yX2_tell yX2_tell, Cond.initialized RX2, Cond.code yX2_tell cX2_tell 2 (some .int), Cond.fieldLink RX2 18 "SewingFrames$Sewer" "speed" "I"]
def wsX4_sewer_r2 : List Cond := [Cond.fieldLink RX2 15 "SewingFrames$Sewer" "frame" "I"]
def wsX4_sewer : List Cond := .code yX4_sewer cX4_sewer 4 (some .int) :: ((wsX4_sewer_r1 ++ wsX4_sewer_r2) ++ wsX40 ++ wsX30 ++ wsX20 ++ (vx_atS RX4 113 "java/lang/IndexOutOfBoundsException" ["java/lang/RuntimeException", "java/lang/Exception"]).filter goodWord)
def wsX4_knownFrame : List Cond := .code yX4_knownFrame cX4_knownFrame 2 (some (.object "SewingFrames$Frame")) :: ([.classLink RX4 109 "java/lang/IndexOutOfBoundsException", .initialized "java/lang/IndexOutOfBoundsException", .fieldLink RX4 10 "SewingFrames" "now" "LSewingFrames$Workshop;", .fieldLink RX4 192 "SewingFrames$Workshop" "frames" "[LSewingFrames$Frame;"] ++ wsX40 ++ wsX30 ++ (vx_atS RX4 113 "java/lang/IndexOutOfBoundsException" ["java/lang/RuntimeException", "java/lang/Exception"]).filter goodWord)
def wsX4_string : List Cond := .code yX4_string cX4_string 5 (some .int) :: ([.classLink RX4 19 "java/lang/IllegalArgumentException", .initialized "java/lang/IllegalArgumentException", .classLink RX4 34 "java/lang/IllegalStateException", .initialized "java/lang/IllegalStateException", .fieldLink RX4 130 "SewingFrames$Frame" "book" "I", .fieldLink RX4 137 "SewingFrames$Frame" "cords" "I", .methodLink RX4 124 yX4_knownFrame, .instanceMethod yX4_knownFrame, .selects RX4 yX4_knownFrame yX4_knownFrame, .initialized RX4, .code yX4_knownFrame cX4_knownFrame 2 (some (.object "SewingFrames$Frame")), .classLink RX4 109 "java/lang/IndexOutOfBoundsException", .initialized "java/lang/IndexOutOfBoundsException", .fieldLink RX4 10 "SewingFrames" "now" "LSewingFrames$Workshop;", .fieldLink RX4 192 "SewingFrames$Workshop" "frames" "[LSewingFrames$Frame;"] ++ wsX10 ++ wsX40 ++ wsX30 ++ (vx_atS RX4 23 "java/lang/IllegalArgumentException" ["java/lang/RuntimeException", "java/lang/Exception"]).filter goodWord ++ (vx_atS RX4 38 "java/lang/IllegalStateException" ["java/lang/RuntimeException", "java/lang/Exception"]).filter goodWord ++ (vx_atS RX4 113 "java/lang/IndexOutOfBoundsException" ["java/lang/RuntimeException", "java/lang/Exception"]).filter goodWord)
def wsX4_frame_r1 : List Cond := [Cond.fieldLink RX4 10 "SewingFrames" "now" "LSewingFrames$Workshop;", Cond.methodLink RX4 124 yX4_knownFrame, Cond.instanceMethod yX4_knownFrame, Cond.selects RX4 yX4_knownFrame yX4_knownFrame, Cond.initialized RX4, Cond.code yX4_knownFrame cX4_knownFrame 2 (some (.object "SewingFrames$Frame")), Cond.classLink RX4 109 "java/lang/IndexOutOfBoundsException", Cond.initialized "java/lang/IndexOutOfBoundsException", Cond.fieldLink RX4 192 "SewingFrames$Workshop" "frames" "[LSewingFrames$Frame;", Cond.methodLink RX4 80 yX4_checkKind, Cond.static yX4_checkKind, Cond.code yX4_checkKind cX4_checkKind 2 none, Cond.methodLink RX4 140 yX3_tellOfFrame, Cond.instanceMethod yX3_tellOfFrame, Cond.selects RX3 yX3_tellOfFrame yX3_tellOfFrame, Cond.initialized RX3, Cond.code yX3_tellOfFrame cX3_tellOfFrame 4 (some .int), Cond.fieldLink RX3 72 "SewingFrames$Frame" "book" "I", Cond.fieldLink RX3 158 "SewingFrames$Frame" "cords" "I", Cond.fieldLink RX3 139 "SewingFrames$Frame" "number" "I", Cond.fieldLink RX3 150 "SewingFrames$Frame" "sewn" "I", Cond.methodLink RX3 135 yX3_bookNumbered, Cond.instanceMethod yX3_bookNumbered, Cond.selects RX3 yX3_bookNumbered yX3_bookNumbered]
def wsX4_frame_r2 : List Cond := [Cond.code yX3_bookNumbered cX3_bookNumbered 2 (some (.object "SewingFrames$Book")), Cond.fieldLink RX3 57 "SewingFrames$Workshop" "bookCount" "I", Cond.fieldLink RX3 11 "SewingFrames$Workshop" "books" "[LSewingFrames$Book;", Cond.methodLink RX3 86 yX3_sittersAt, Cond.instanceMethod yX3_sittersAt, Cond.selects RX3 yX3_sittersAt yX3_sittersAt, Cond.code yX3_sittersAt cX3_sittersAt 2 (some .int), Cond.methodLink RX3 82 yX3_othersAt, Cond.instanceMethod yX3_othersAt, Cond.selects RX3 yX3_othersAt yX3_othersAt, Cond.code yX3_othersAt cX3_othersAt 8 (some .int), Cond.fieldLink RX3 22 "SewingFrames$Workshop" "sewers" "[LSewingFrames$Sewer;", Cond.fieldLink RX3 78 "SewingFrames$Sewer" "frame" "I", Cond.fieldLink RX3 81 "SewingFrames$Sewer" "number" "I", Cond.methodLink RX3 140 yX3_stitchesAnHour, Cond.instanceMethod yX3_stitchesAnHour, Cond.selects RX3 yX3_stitchesAnHour yX3_stitchesAnHour, Cond.code yX3_stitchesAnHour cX3_stitchesAnHour 8 (some .int), Cond.fieldLink RX3 90 "SewingFrames$Sewer" "speed" "I", Cond.methodLink RX3 93 Lib.Math.max.name, Cond.static Lib.Math.max.name, Cond.initialized "java/lang/Math", Cond.code Lib.Math.max.name Lib.Math.max.code 2 (some .int), Cond.methodLink RX3 165 yX0_stitchesToSew]
def wsX4_frame_r3 : List Cond := [Cond.instanceMethod yX0_stitchesToSew, Cond.selects RX0 yX0_stitchesToSew yX0_stitchesToSew, Cond.initialized RX0, Cond.code yX0_stitchesToSew cX0_stitchesToSew 3 (some .int), Cond.fieldLink RX0 21 "SewingFrames$Book" "signatures" "I", Cond.fieldLink RX0 33 "SewingFrames$Book" "stitches" "I", Cond.methodLink RX0 55 yX0_stitchesOfSignature, Cond.instanceMethod yX0_stitchesOfSignature, Cond.selects RX0 yX0_stitchesOfSignature yX0_stitchesOfSignature, Cond.code yX0_stitchesOfSignature cX0_stitchesOfSignature 3 (some .int), Cond.fieldLink RX0 30 "SewingFrames$Book" "cords" "I"]
def wsX4_frame : List Cond := .code yX4_frame cX4_frame 4 (some .int) :: ((wsX4_frame_r1 ++ (wsX4_frame_r2 ++ wsX4_frame_r3)) ++ wsX40 ++ wsX30 ++ wsX10 ++ wsX20 ++ wsX00 ++ (vx_atS RX4 113 "java/lang/IndexOutOfBoundsException" ["java/lang/RuntimeException", "java/lang/Exception"]).filter goodWord)
def wsX4_priceOf : List Cond := .code yX4_priceOf cX4_priceOf 2 (some .int) :: ([])
def wsX4_buy : List Cond := .code yX4_buy cX4_buy 4 (some .int) :: ([.classLink RX4 109 "java/lang/IndexOutOfBoundsException", .initialized "java/lang/IndexOutOfBoundsException", .classLink RX4 19 "java/lang/IllegalArgumentException", .initialized "java/lang/IllegalArgumentException", .classLink RX4 34 "java/lang/IllegalStateException", .initialized "java/lang/IllegalStateException", .fieldLink RX4 10 "SewingFrames" "now" "LSewingFrames$Workshop;", .fieldLink RX4 73 "SewingFrames$Workshop" "coins" "I", .methodLink RX4 148 yX4_priceOf, .static yX4_priceOf, .initialized RX4, .code yX4_priceOf cX4_priceOf 2 (some .int), .methodLink RX4 153 yX3_store, .instanceMethod yX3_store, .selects RX3 yX3_store yX3_store, .initialized RX3, .code yX3_store cX3_store 3 (some .int), .fieldLink RX3 34 "SewingFrames$Workshop" "thread" "I", .fieldLink RX3 38 "SewingFrames$Workshop" "boards" "I", .fieldLink RX3 41 "SewingFrames$Workshop" "gold" "I"] ++ wsX40 ++ wsX30 ++ (vx_atS RX4 113 "java/lang/IndexOutOfBoundsException" ["java/lang/RuntimeException", "java/lang/Exception"]).filter goodWord ++ (vx_atS RX4 23 "java/lang/IllegalArgumentException" ["java/lang/RuntimeException", "java/lang/Exception"]).filter goodWord ++ (vx_atS RX4 38 "java/lang/IllegalStateException" ["java/lang/RuntimeException", "java/lang/Exception"]).filter goodWord)
def wsX4_count_r1 : List Cond := [Cond.fieldLink RX4 10 "SewingFrames" "now" "LSewingFrames$Workshop;", Cond.methodLink RX4 80 yX4_checkKind, Cond.static yX4_checkKind, Cond.initialized RX4, Cond.code yX4_checkKind cX4_checkKind 2 none, Cond.classLink RX4 109 "java/lang/IndexOutOfBoundsException", Cond.initialized "java/lang/IndexOutOfBoundsException", Cond.methodLink RX4 156 yX3_tellOfAll, Cond.instanceMethod yX3_tellOfAll, Cond.selects RX3 yX3_tellOfAll yX3_tellOfAll, Cond.initialized RX3, Cond.code yX3_tellOfAll cX3_tellOfAll 2 (some .int), Cond.fieldLink RX3 63 "SewingFrames$Workshop" "hour" "I", Cond.fieldLink RX3 57 "SewingFrames$Workshop" "bookCount" "I", Cond.fieldLink RX3 44 "SewingFrames$Workshop" "coins" "I", Cond.fieldLink RX3 34 "SewingFrames$Workshop" "thread" "I", Cond.fieldLink RX3 38 "SewingFrames$Workshop" "boards" "I", Cond.fieldLink RX3 41 "SewingFrames$Workshop" "gold" "I", Cond.fieldLink RX3 66 "SewingFrames$Workshop" "sewn" "I", Cond.fieldLink RX3 69 "SewingFrames$Workshop" "loose" "I", Cond.methodLink RX3 102 yX3_booksAt, Cond.instanceMethod yX3_booksAt, Cond.selects RX3 yX3_booksAt yX3_booksAt, Cond.code yX3_booksAt cX3_booksAt 7 (some .int)]
def wsX4_count_r2 : List Cond := [Cond.fieldLink RX3 11 "SewingFrames$Workshop" "books" "[LSewingFrames$Book;", Cond.fieldLink RX3 120 "SewingFrames$Book" "stage" "I"]
def wsX4_count : List Cond := .code yX4_count cX4_count 2 (some .int) :: ((wsX4_count_r1 ++ wsX4_count_r2) ++ wsX40 ++ wsX30 ++ wsX00 ++ (vx_atS RX4 113 "java/lang/IndexOutOfBoundsException" ["java/lang/RuntimeException", "java/lang/Exception"]).filter goodWord)
def wsX4_checkHours : List Cond := .code yX4_checkHours cX4_checkHours 1 none :: ([.classLink RX4 19 "java/lang/IllegalArgumentException", .initialized "java/lang/IllegalArgumentException"] ++ (vx_atS RX4 23 "java/lang/IllegalArgumentException" ["java/lang/RuntimeException", "java/lang/Exception"]).filter goodWord)
def wsX4_pass_r1 : List Cond := [Cond.fieldLink RX4 10 "SewingFrames" "now" "LSewingFrames$Workshop;", Cond.methodLink RX4 159 yX4_checkHours, Cond.static yX4_checkHours, Cond.initialized RX4, Cond.code yX4_checkHours cX4_checkHours 1 none, Cond.classLink RX4 19 "java/lang/IllegalArgumentException", Cond.initialized "java/lang/IllegalArgumentException", Cond.methodLink RX4 163 yX3_letHoursGo, Cond.instanceMethod yX3_letHoursGo, Cond.selects RX3 yX3_letHoursGo yX3_letHoursGo, Cond.initialized RX3, Cond.code yX3_letHoursGo cX3_letHoursGo 4 (some .int), Cond.methodLink RX3 98 yX3_letAnHourGo, Cond.instanceMethod yX3_letAnHourGo, Cond.selects RX3 yX3_letAnHourGo yX3_letAnHourGo, Cond.code yX3_letAnHourGo cX3_letAnHourGo 6 (some .int), Cond.fieldLink RX3 29 "SewingFrames$Workshop" "frames" "[LSewingFrames$Frame;", Cond.fieldLink RX3 72 "SewingFrames$Frame" "book" "I", Cond.fieldLink RX3 63 "SewingFrames$Workshop" "hour" "I", Cond.methodLink RX3 102 yX3_booksAt, Cond.instanceMethod yX3_booksAt, Cond.selects RX3 yX3_booksAt yX3_booksAt, Cond.code yX3_booksAt cX3_booksAt 7 (some .int), Cond.fieldLink RX3 11 "SewingFrames$Workshop" "books" "[LSewingFrames$Book;"]
def wsX4_pass_r2 : List Cond := [Cond.fieldLink RX3 120 "SewingFrames$Book" "stage" "I", Cond.methodLink RX3 105 yX3_gild, Cond.instanceMethod yX3_gild, Cond.selects RX3 yX3_gild yX3_gild, Cond.code yX3_gild cX3_gild 6 none, Cond.fieldLink RX3 41 "SewingFrames$Workshop" "gold" "I", Cond.methodLink RX3 123 yX0_leavesForAnEdge, Cond.instanceMethod yX0_leavesForAnEdge, Cond.selects RX0 yX0_leavesForAnEdge yX0_leavesForAnEdge, Cond.initialized RX0, Cond.code yX0_leavesForAnEdge cX0_leavesForAnEdge 1 (some .int), Cond.methodLink RX0 51 yX0_thickness, Cond.instanceMethod yX0_thickness, Cond.selects RX0 yX0_thickness yX0_thickness, Cond.code yX0_thickness cX0_thickness 1 (some .int), Cond.fieldLink RX0 21 "SewingFrames$Book" "signatures" "I", Cond.fieldLink RX0 24 "SewingFrames$Book" "sheets" "I", Cond.methodLink RX3 126 yX0_gildAnEdge, Cond.instanceMethod yX0_gildAnEdge, Cond.selects RX0 yX0_gildAnEdge yX0_gildAnEdge, Cond.code yX0_gildAnEdge cX0_gildAnEdge 1 none, Cond.fieldLink RX0 48 "SewingFrames$Book" "gilt" "I", Cond.fieldLink RX0 27 "SewingFrames$Book" "edges" "I", Cond.fieldLink RX0 15 "SewingFrames$Book" "stage" "I"]
def wsX4_pass_r3 : List Cond := [Cond.methodLink RX3 108 yX3_giveBoards, Cond.instanceMethod yX3_giveBoards, Cond.selects RX3 yX3_giveBoards yX3_giveBoards, Cond.code yX3_giveBoards cX3_giveBoards 5 none, Cond.fieldLink RX3 38 "SewingFrames$Workshop" "boards" "I", Cond.methodLink RX3 129 yX0_bind, Cond.instanceMethod yX0_bind, Cond.selects RX0 yX0_bind yX0_bind, Cond.code yX0_bind cX0_bind 1 none, Cond.methodLink RX3 111 yX3_dry, Cond.instanceMethod yX3_dry, Cond.selects RX3 yX3_dry yX3_dry, Cond.code yX3_dry cX3_dry 5 none, Cond.methodLink RX3 132 yX0_dryForAnHour, Cond.instanceMethod yX0_dryForAnHour, Cond.selects RX0 yX0_dryForAnHour yX0_dryForAnHour, Cond.code yX0_dryForAnHour cX0_dryForAnHour 1 none, Cond.fieldLink RX0 45 "SewingFrames$Book" "hoursToDry" "I", Cond.methodLink RX3 114 yX3_sewAt, Cond.instanceMethod yX3_sewAt, Cond.selects RX3 yX3_sewAt yX3_sewAt, Cond.code yX3_sewAt cX3_sewAt 6 none, Cond.fieldLink RX3 139 "SewingFrames$Frame" "number" "I", Cond.fieldLink RX3 34 "SewingFrames$Workshop" "thread" "I"]
def wsX4_pass_r4 : List Cond := [Cond.methodLink RX3 143 Lib.Math.min.name, Cond.static Lib.Math.min.name, Cond.initialized "java/lang/Math", Cond.code Lib.Math.min.name Lib.Math.min.code 2 (some .int), Cond.fieldLink RX3 66 "SewingFrames$Workshop" "sewn" "I", Cond.fieldLink RX3 150 "SewingFrames$Frame" "sewn" "I", Cond.fieldLink RX3 154 "SewingFrames$Book" "loose" "I", Cond.fieldLink RX3 69 "SewingFrames$Workshop" "loose" "I", Cond.methodLink RX3 135 yX3_bookNumbered, Cond.instanceMethod yX3_bookNumbered, Cond.selects RX3 yX3_bookNumbered yX3_bookNumbered, Cond.code yX3_bookNumbered cX3_bookNumbered 2 (some (.object "SewingFrames$Book")), Cond.fieldLink RX3 57 "SewingFrames$Workshop" "bookCount" "I", Cond.methodLink RX3 140 yX3_stitchesAnHour, Cond.instanceMethod yX3_stitchesAnHour, Cond.selects RX3 yX3_stitchesAnHour yX3_stitchesAnHour, Cond.code yX3_stitchesAnHour cX3_stitchesAnHour 8 (some .int), Cond.fieldLink RX3 22 "SewingFrames$Workshop" "sewers" "[LSewingFrames$Sewer;", Cond.fieldLink RX3 78 "SewingFrames$Sewer" "frame" "I", Cond.fieldLink RX3 90 "SewingFrames$Sewer" "speed" "I", Cond.methodLink RX3 93 Lib.Math.max.name, Cond.static Lib.Math.max.name, Cond.code Lib.Math.max.name Lib.Math.max.code 2 (some .int), Cond.methodLink RX3 86 yX3_sittersAt]
def wsX4_pass_r5 : List Cond := [Cond.instanceMethod yX3_sittersAt, Cond.selects RX3 yX3_sittersAt yX3_sittersAt, Cond.code yX3_sittersAt cX3_sittersAt 2 (some .int), Cond.methodLink RX3 82 yX3_othersAt, Cond.instanceMethod yX3_othersAt, Cond.selects RX3 yX3_othersAt yX3_othersAt, Cond.code yX3_othersAt cX3_othersAt 8 (some .int), Cond.fieldLink RX3 81 "SewingFrames$Sewer" "number" "I", Cond.methodLink RX3 146 yX0_isSewn, Cond.instanceMethod yX0_isSewn, Cond.selects RX0 yX0_isSewn yX0_isSewn, Cond.code yX0_isSewn cX0_isSewn 1 (some .boolean), Cond.fieldLink RX0 36 "SewingFrames$Book" "wholeSignatures" "I", Cond.methodLink RX3 151 yX0_addStitch, Cond.instanceMethod yX0_addStitch, Cond.selects RX0 yX0_addStitch yX0_addStitch, Cond.code yX0_addStitch cX0_addStitch 1 (some .boolean), Cond.fieldLink RX0 33 "SewingFrames$Book" "stitches" "I", Cond.fieldLink RX0 39 "SewingFrames$Book" "stitchesOfNext" "I", Cond.methodLink RX0 55 yX0_stitchesOfSignature, Cond.instanceMethod yX0_stitchesOfSignature, Cond.selects RX0 yX0_stitchesOfSignature yX0_stitchesOfSignature, Cond.code yX0_stitchesOfSignature cX0_stitchesOfSignature 3 (some .int), Cond.fieldLink RX0 30 "SewingFrames$Book" "cords" "I"]
def wsX4_pass_r6 : List Cond := [Cond.methodLink RX3 155 yX0_beginToDry, Cond.instanceMethod yX0_beginToDry, Cond.selects RX0 yX0_beginToDry yX0_beginToDry, Cond.code yX0_beginToDry cX0_beginToDry 1 none, Cond.fieldLink RX0 18 "SewingFrames$Book" "frame" "I", Cond.methodLink RX3 117 yX3_mountOn, Cond.instanceMethod yX3_mountOn, Cond.selects RX3 yX3_mountOn yX3_mountOn, Cond.code yX3_mountOn cX3_mountOn 6 none, Cond.fieldLink RX3 158 "SewingFrames$Frame" "cords" "I", Cond.fieldLink RX3 75 "SewingFrames$Book" "number" "I", Cond.methodLink RX3 161 yX0_mount, Cond.instanceMethod yX0_mount, Cond.selects RX0 yX0_mount yX0_mount, Cond.code yX0_mount cX0_mount 3 none]
def wsX4_pass : List Cond := .code yX4_pass cX4_pass 2 (some .int) :: ((wsX4_pass_r1 ++ (wsX4_pass_r2 ++ (wsX4_pass_r3 ++ (wsX4_pass_r4 ++ (wsX4_pass_r5 ++ wsX4_pass_r6))))) ++ wsX40 ++ wsX30 ++ wsX10 ++ wsX00 ++ wsX20 ++ (vx_atS RX4 23 "java/lang/IllegalArgumentException" ["java/lang/RuntimeException", "java/lang/Exception"]).filter goodWord)
def wsX4_foresee_r1 : List Cond := [Cond.classLink RX4 109 "java/lang/IndexOutOfBoundsException", Cond.initialized "java/lang/IndexOutOfBoundsException", Cond.fieldLink RX4 16 "SewingFrames" "ahead" "LSewingFrames$Workshop;", Cond.fieldLink RX4 10 "SewingFrames" "now" "LSewingFrames$Workshop;", Cond.methodLink RX4 159 yX4_checkHours, Cond.static yX4_checkHours, Cond.initialized RX4, Cond.code yX4_checkHours cX4_checkHours 1 none, Cond.classLink RX4 19 "java/lang/IllegalArgumentException", Cond.initialized "java/lang/IllegalArgumentException", Cond.methodLink RX4 168 yX3_setTo, Cond.instanceMethod yX3_setTo, Cond.selects RX3 yX3_setTo yX3_setTo, Cond.initialized RX3, Cond.code yX3_setTo cX3_setTo 3 none, Cond.fieldLink RX3 11 "SewingFrames$Workshop" "books" "[LSewingFrames$Book;", Cond.fieldLink RX3 22 "SewingFrames$Workshop" "sewers" "[LSewingFrames$Sewer;", Cond.fieldLink RX3 29 "SewingFrames$Workshop" "frames" "[LSewingFrames$Frame;", Cond.fieldLink RX3 57 "SewingFrames$Workshop" "bookCount" "I", Cond.fieldLink RX3 60 "SewingFrames$Workshop" "sewerCount" "I", Cond.fieldLink RX3 63 "SewingFrames$Workshop" "hour" "I", Cond.fieldLink RX3 44 "SewingFrames$Workshop" "coins" "I", Cond.fieldLink RX3 34 "SewingFrames$Workshop" "thread" "I", Cond.fieldLink RX3 38 "SewingFrames$Workshop" "boards" "I"]
def wsX4_foresee_r2 : List Cond := [Cond.fieldLink RX3 41 "SewingFrames$Workshop" "gold" "I", Cond.fieldLink RX3 66 "SewingFrames$Workshop" "sewn" "I", Cond.fieldLink RX3 69 "SewingFrames$Workshop" "loose" "I", Cond.methodLink RX3 47 yX0_setTo, Cond.instanceMethod yX0_setTo, Cond.selects RX0 yX0_setTo yX0_setTo, Cond.initialized RX0, Cond.code yX0_setTo cX0_setTo 2 none, Cond.fieldLink RX0 21 "SewingFrames$Book" "signatures" "I", Cond.fieldLink RX0 24 "SewingFrames$Book" "sheets" "I", Cond.fieldLink RX0 27 "SewingFrames$Book" "edges" "I", Cond.fieldLink RX0 15 "SewingFrames$Book" "stage" "I", Cond.fieldLink RX0 18 "SewingFrames$Book" "frame" "I", Cond.fieldLink RX0 30 "SewingFrames$Book" "cords" "I", Cond.fieldLink RX0 33 "SewingFrames$Book" "stitches" "I", Cond.fieldLink RX0 36 "SewingFrames$Book" "wholeSignatures" "I", Cond.fieldLink RX0 39 "SewingFrames$Book" "stitchesOfNext" "I", Cond.fieldLink RX0 42 "SewingFrames$Book" "loose" "I", Cond.fieldLink RX0 45 "SewingFrames$Book" "hoursToDry" "I", Cond.fieldLink RX0 48 "SewingFrames$Book" "gilt" "I", Cond.methodLink RX3 51 yX2_setTo, Cond.instanceMethod yX2_setTo, Cond.selects RX2 yX2_setTo yX2_setTo, Cond.initialized RX2]
def wsX4_foresee_r3 : List Cond := [Cond.code yX2_setTo cX2_setTo 2 none, Cond.fieldLink RX2 18 "SewingFrames$Sewer" "speed" "I", Cond.fieldLink RX2 15 "SewingFrames$Sewer" "frame" "I", Cond.methodLink RX3 54 yX1_setTo, Cond.instanceMethod yX1_setTo, Cond.selects RX1 yX1_setTo yX1_setTo, Cond.initialized RX1, Cond.code yX1_setTo cX1_setTo 2 none, Cond.fieldLink RX1 15 "SewingFrames$Frame" "cords" "I", Cond.fieldLink RX1 18 "SewingFrames$Frame" "book" "I", Cond.fieldLink RX1 21 "SewingFrames$Frame" "sewn" "I", Cond.methodLink RX4 163 yX3_letHoursGo, Cond.instanceMethod yX3_letHoursGo, Cond.selects RX3 yX3_letHoursGo yX3_letHoursGo, Cond.code yX3_letHoursGo cX3_letHoursGo 4 (some .int), Cond.methodLink RX3 98 yX3_letAnHourGo, Cond.instanceMethod yX3_letAnHourGo, Cond.selects RX3 yX3_letAnHourGo yX3_letAnHourGo, Cond.code yX3_letAnHourGo cX3_letAnHourGo 6 (some .int), Cond.fieldLink RX3 72 "SewingFrames$Frame" "book" "I", Cond.methodLink RX3 102 yX3_booksAt, Cond.instanceMethod yX3_booksAt, Cond.selects RX3 yX3_booksAt yX3_booksAt, Cond.code yX3_booksAt cX3_booksAt 7 (some .int)]
def wsX4_foresee_r4 : List Cond := [Cond.fieldLink RX3 120 "SewingFrames$Book" "stage" "I", Cond.methodLink RX3 105 yX3_gild, Cond.instanceMethod yX3_gild, Cond.selects RX3 yX3_gild yX3_gild, Cond.code yX3_gild cX3_gild 6 none, Cond.methodLink RX3 123 yX0_leavesForAnEdge, Cond.instanceMethod yX0_leavesForAnEdge, Cond.selects RX0 yX0_leavesForAnEdge yX0_leavesForAnEdge, Cond.code yX0_leavesForAnEdge cX0_leavesForAnEdge 1 (some .int), Cond.methodLink RX0 51 yX0_thickness, Cond.instanceMethod yX0_thickness, Cond.selects RX0 yX0_thickness yX0_thickness, Cond.code yX0_thickness cX0_thickness 1 (some .int), Cond.methodLink RX3 126 yX0_gildAnEdge, Cond.instanceMethod yX0_gildAnEdge, Cond.selects RX0 yX0_gildAnEdge yX0_gildAnEdge, Cond.code yX0_gildAnEdge cX0_gildAnEdge 1 none, Cond.methodLink RX3 108 yX3_giveBoards, Cond.instanceMethod yX3_giveBoards, Cond.selects RX3 yX3_giveBoards yX3_giveBoards, Cond.code yX3_giveBoards cX3_giveBoards 5 none, Cond.methodLink RX3 129 yX0_bind, Cond.instanceMethod yX0_bind, Cond.selects RX0 yX0_bind yX0_bind]
def wsX4_foresee_r5 : List Cond := [Cond.code yX0_bind cX0_bind 1 none, Cond.methodLink RX3 111 yX3_dry, Cond.instanceMethod yX3_dry, Cond.selects RX3 yX3_dry yX3_dry, Cond.code yX3_dry cX3_dry 5 none, Cond.methodLink RX3 132 yX0_dryForAnHour, Cond.instanceMethod yX0_dryForAnHour, Cond.selects RX0 yX0_dryForAnHour yX0_dryForAnHour, Cond.code yX0_dryForAnHour cX0_dryForAnHour 1 none, Cond.methodLink RX3 114 yX3_sewAt, Cond.instanceMethod yX3_sewAt, Cond.selects RX3 yX3_sewAt yX3_sewAt, Cond.code yX3_sewAt cX3_sewAt 6 none, Cond.fieldLink RX3 139 "SewingFrames$Frame" "number" "I", Cond.methodLink RX3 143 Lib.Math.min.name, Cond.static Lib.Math.min.name, Cond.initialized "java/lang/Math", Cond.code Lib.Math.min.name Lib.Math.min.code 2 (some .int), Cond.fieldLink RX3 150 "SewingFrames$Frame" "sewn" "I", Cond.fieldLink RX3 154 "SewingFrames$Book" "loose" "I", Cond.methodLink RX3 135 yX3_bookNumbered, Cond.instanceMethod yX3_bookNumbered, Cond.selects RX3 yX3_bookNumbered yX3_bookNumbered, Cond.code yX3_bookNumbered cX3_bookNumbered 2 (some (.object "SewingFrames$Book"))]
def wsX4_foresee_r6 : List Cond := [Cond.methodLink RX3 140 yX3_stitchesAnHour, Cond.instanceMethod yX3_stitchesAnHour, Cond.selects RX3 yX3_stitchesAnHour yX3_stitchesAnHour, Cond.code yX3_stitchesAnHour cX3_stitchesAnHour 8 (some .int), Cond.fieldLink RX3 78 "SewingFrames$Sewer" "frame" "I", Cond.fieldLink RX3 90 "SewingFrames$Sewer" "speed" "I", Cond.methodLink RX3 93 Lib.Math.max.name, Cond.static Lib.Math.max.name, Cond.code Lib.Math.max.name Lib.Math.max.code 2 (some .int), Cond.methodLink RX3 86 yX3_sittersAt, Cond.instanceMethod yX3_sittersAt, Cond.selects RX3 yX3_sittersAt yX3_sittersAt, Cond.code yX3_sittersAt cX3_sittersAt 2 (some .int), Cond.methodLink RX3 82 yX3_othersAt, Cond.instanceMethod yX3_othersAt, Cond.selects RX3 yX3_othersAt yX3_othersAt, Cond.code yX3_othersAt cX3_othersAt 8 (some .int), Cond.fieldLink RX3 81 "SewingFrames$Sewer" "number" "I", Cond.methodLink RX3 146 yX0_isSewn, Cond.instanceMethod yX0_isSewn, Cond.selects RX0 yX0_isSewn yX0_isSewn, Cond.code yX0_isSewn cX0_isSewn 1 (some .boolean), Cond.methodLink RX3 151 yX0_addStitch, Cond.instanceMethod yX0_addStitch]
def wsX4_foresee_r7 : List Cond := [Cond.selects RX0 yX0_addStitch yX0_addStitch, Cond.code yX0_addStitch cX0_addStitch 1 (some .boolean), Cond.methodLink RX0 55 yX0_stitchesOfSignature, Cond.instanceMethod yX0_stitchesOfSignature, Cond.selects RX0 yX0_stitchesOfSignature yX0_stitchesOfSignature, Cond.code yX0_stitchesOfSignature cX0_stitchesOfSignature 3 (some .int), Cond.methodLink RX3 155 yX0_beginToDry, Cond.instanceMethod yX0_beginToDry, Cond.selects RX0 yX0_beginToDry yX0_beginToDry, Cond.code yX0_beginToDry cX0_beginToDry 1 none, Cond.methodLink RX3 117 yX3_mountOn, Cond.instanceMethod yX3_mountOn, Cond.selects RX3 yX3_mountOn yX3_mountOn, Cond.code yX3_mountOn cX3_mountOn 6 none, Cond.fieldLink RX3 158 "SewingFrames$Frame" "cords" "I", Cond.fieldLink RX3 75 "SewingFrames$Book" "number" "I", Cond.methodLink RX3 161 yX0_mount, Cond.instanceMethod yX0_mount, Cond.selects RX0 yX0_mount yX0_mount, Cond.code yX0_mount cX0_mount 3 none, Cond.methodLink RX4 156 yX3_tellOfAll, Cond.instanceMethod yX3_tellOfAll, Cond.selects RX3 yX3_tellOfAll yX3_tellOfAll, Cond.code yX3_tellOfAll cX3_tellOfAll 2 (some .int)]
def wsX4_foresee : List Cond := .code yX4_foresee cX4_foresee 3 (some .int) :: ((wsX4_foresee_r1 ++ (wsX4_foresee_r2 ++ (wsX4_foresee_r3 ++ (wsX4_foresee_r4 ++ (wsX4_foresee_r5 ++ (wsX4_foresee_r6 ++ wsX4_foresee_r7)))))) ++ wsX40 ++ wsX30 ++ wsX00 ++ wsX20 ++ wsX10 ++ (vx_atS RX4 113 "java/lang/IndexOutOfBoundsException" ["java/lang/RuntimeException", "java/lang/Exception"]).filter goodWord ++ (vx_atS RX4 23 "java/lang/IllegalArgumentException" ["java/lang/RuntimeException", "java/lang/Exception"]).filter goodWord)
def wsX4_until_r1 : List Cond := [Cond.fieldLink RX4 56 "SewingFrames$Book" "stage" "I", Cond.fieldLink RX4 16 "SewingFrames" "ahead" "LSewingFrames$Workshop;", Cond.fieldLink RX4 10 "SewingFrames" "now" "LSewingFrames$Workshop;", Cond.methodLink RX4 52 yX4_knownBook, Cond.instanceMethod yX4_knownBook, Cond.selects RX4 yX4_knownBook yX4_knownBook, Cond.initialized RX4, Cond.code yX4_knownBook cX4_knownBook 3 (some (.object "SewingFrames$Book")), Cond.classLink RX4 109 "java/lang/IndexOutOfBoundsException", Cond.initialized "java/lang/IndexOutOfBoundsException", Cond.methodLink RX4 172 yX3_bookNumbered, Cond.instanceMethod yX3_bookNumbered, Cond.selects RX3 yX3_bookNumbered yX3_bookNumbered, Cond.initialized RX3, Cond.code yX3_bookNumbered cX3_bookNumbered 2 (some (.object "SewingFrames$Book")), Cond.fieldLink RX3 57 "SewingFrames$Workshop" "bookCount" "I", Cond.fieldLink RX3 11 "SewingFrames$Workshop" "books" "[LSewingFrames$Book;", Cond.methodLink RX4 168 yX3_setTo, Cond.instanceMethod yX3_setTo, Cond.selects RX3 yX3_setTo yX3_setTo, Cond.code yX3_setTo cX3_setTo 3 none, Cond.fieldLink RX3 22 "SewingFrames$Workshop" "sewers" "[LSewingFrames$Sewer;", Cond.fieldLink RX3 29 "SewingFrames$Workshop" "frames" "[LSewingFrames$Frame;", Cond.fieldLink RX3 60 "SewingFrames$Workshop" "sewerCount" "I"]
def wsX4_until_r2 : List Cond := [Cond.fieldLink RX3 63 "SewingFrames$Workshop" "hour" "I", Cond.fieldLink RX3 44 "SewingFrames$Workshop" "coins" "I", Cond.fieldLink RX3 34 "SewingFrames$Workshop" "thread" "I", Cond.fieldLink RX3 38 "SewingFrames$Workshop" "boards" "I", Cond.fieldLink RX3 41 "SewingFrames$Workshop" "gold" "I", Cond.fieldLink RX3 66 "SewingFrames$Workshop" "sewn" "I", Cond.fieldLink RX3 69 "SewingFrames$Workshop" "loose" "I", Cond.methodLink RX3 47 yX0_setTo, Cond.instanceMethod yX0_setTo, Cond.selects RX0 yX0_setTo yX0_setTo, Cond.initialized RX0, Cond.code yX0_setTo cX0_setTo 2 none, Cond.fieldLink RX0 21 "SewingFrames$Book" "signatures" "I", Cond.fieldLink RX0 24 "SewingFrames$Book" "sheets" "I", Cond.fieldLink RX0 27 "SewingFrames$Book" "edges" "I", Cond.fieldLink RX0 15 "SewingFrames$Book" "stage" "I", Cond.fieldLink RX0 18 "SewingFrames$Book" "frame" "I", Cond.fieldLink RX0 30 "SewingFrames$Book" "cords" "I", Cond.fieldLink RX0 33 "SewingFrames$Book" "stitches" "I", Cond.fieldLink RX0 36 "SewingFrames$Book" "wholeSignatures" "I", Cond.fieldLink RX0 39 "SewingFrames$Book" "stitchesOfNext" "I", Cond.fieldLink RX0 42 "SewingFrames$Book" "loose" "I", Cond.fieldLink RX0 45 "SewingFrames$Book" "hoursToDry" "I", Cond.fieldLink RX0 48 "SewingFrames$Book" "gilt" "I"]
def wsX4_until_r3 : List Cond := [Cond.methodLink RX3 51 yX2_setTo, Cond.instanceMethod yX2_setTo, Cond.selects RX2 yX2_setTo yX2_setTo, Cond.initialized RX2, Cond.code yX2_setTo cX2_setTo 2 none, Cond.fieldLink RX2 18 "SewingFrames$Sewer" "speed" "I", Cond.fieldLink RX2 15 "SewingFrames$Sewer" "frame" "I", Cond.methodLink RX3 54 yX1_setTo, Cond.instanceMethod yX1_setTo, Cond.selects RX1 yX1_setTo yX1_setTo, Cond.initialized RX1, Cond.code yX1_setTo cX1_setTo 2 none, Cond.fieldLink RX1 15 "SewingFrames$Frame" "cords" "I", Cond.fieldLink RX1 18 "SewingFrames$Frame" "book" "I", Cond.fieldLink RX1 21 "SewingFrames$Frame" "sewn" "I", Cond.methodLink RX4 175 yX3_letAnHourGo, Cond.instanceMethod yX3_letAnHourGo, Cond.selects RX3 yX3_letAnHourGo yX3_letAnHourGo, Cond.code yX3_letAnHourGo cX3_letAnHourGo 6 (some .int), Cond.fieldLink RX3 72 "SewingFrames$Frame" "book" "I", Cond.methodLink RX3 102 yX3_booksAt, Cond.instanceMethod yX3_booksAt, Cond.selects RX3 yX3_booksAt yX3_booksAt, Cond.code yX3_booksAt cX3_booksAt 7 (some .int)]
def wsX4_until_r4 : List Cond := [Cond.fieldLink RX3 120 "SewingFrames$Book" "stage" "I", Cond.methodLink RX3 105 yX3_gild, Cond.instanceMethod yX3_gild, Cond.selects RX3 yX3_gild yX3_gild, Cond.code yX3_gild cX3_gild 6 none, Cond.methodLink RX3 123 yX0_leavesForAnEdge, Cond.instanceMethod yX0_leavesForAnEdge, Cond.selects RX0 yX0_leavesForAnEdge yX0_leavesForAnEdge, Cond.code yX0_leavesForAnEdge cX0_leavesForAnEdge 1 (some .int), Cond.methodLink RX0 51 yX0_thickness, Cond.instanceMethod yX0_thickness, Cond.selects RX0 yX0_thickness yX0_thickness, Cond.code yX0_thickness cX0_thickness 1 (some .int), Cond.methodLink RX3 126 yX0_gildAnEdge, Cond.instanceMethod yX0_gildAnEdge, Cond.selects RX0 yX0_gildAnEdge yX0_gildAnEdge, Cond.code yX0_gildAnEdge cX0_gildAnEdge 1 none, Cond.methodLink RX3 108 yX3_giveBoards, Cond.instanceMethod yX3_giveBoards, Cond.selects RX3 yX3_giveBoards yX3_giveBoards, Cond.code yX3_giveBoards cX3_giveBoards 5 none, Cond.methodLink RX3 129 yX0_bind, Cond.instanceMethod yX0_bind, Cond.selects RX0 yX0_bind yX0_bind]
def wsX4_until_r5 : List Cond := [Cond.code yX0_bind cX0_bind 1 none, Cond.methodLink RX3 111 yX3_dry, Cond.instanceMethod yX3_dry, Cond.selects RX3 yX3_dry yX3_dry, Cond.code yX3_dry cX3_dry 5 none, Cond.methodLink RX3 132 yX0_dryForAnHour, Cond.instanceMethod yX0_dryForAnHour, Cond.selects RX0 yX0_dryForAnHour yX0_dryForAnHour, Cond.code yX0_dryForAnHour cX0_dryForAnHour 1 none, Cond.methodLink RX3 114 yX3_sewAt, Cond.instanceMethod yX3_sewAt, Cond.selects RX3 yX3_sewAt yX3_sewAt, Cond.code yX3_sewAt cX3_sewAt 6 none, Cond.fieldLink RX3 139 "SewingFrames$Frame" "number" "I", Cond.methodLink RX3 143 Lib.Math.min.name, Cond.static Lib.Math.min.name, Cond.initialized "java/lang/Math", Cond.code Lib.Math.min.name Lib.Math.min.code 2 (some .int), Cond.fieldLink RX3 150 "SewingFrames$Frame" "sewn" "I", Cond.fieldLink RX3 154 "SewingFrames$Book" "loose" "I", Cond.methodLink RX3 135 yX3_bookNumbered, Cond.methodLink RX3 140 yX3_stitchesAnHour, Cond.instanceMethod yX3_stitchesAnHour, Cond.selects RX3 yX3_stitchesAnHour yX3_stitchesAnHour]
def wsX4_until_r6 : List Cond := [Cond.code yX3_stitchesAnHour cX3_stitchesAnHour 8 (some .int), Cond.fieldLink RX3 78 "SewingFrames$Sewer" "frame" "I", Cond.fieldLink RX3 90 "SewingFrames$Sewer" "speed" "I", Cond.methodLink RX3 93 Lib.Math.max.name, Cond.static Lib.Math.max.name, Cond.code Lib.Math.max.name Lib.Math.max.code 2 (some .int), Cond.methodLink RX3 86 yX3_sittersAt, Cond.instanceMethod yX3_sittersAt, Cond.selects RX3 yX3_sittersAt yX3_sittersAt, Cond.code yX3_sittersAt cX3_sittersAt 2 (some .int), Cond.methodLink RX3 82 yX3_othersAt, Cond.instanceMethod yX3_othersAt, Cond.selects RX3 yX3_othersAt yX3_othersAt, Cond.code yX3_othersAt cX3_othersAt 8 (some .int), Cond.fieldLink RX3 81 "SewingFrames$Sewer" "number" "I", Cond.methodLink RX3 146 yX0_isSewn, Cond.instanceMethod yX0_isSewn, Cond.selects RX0 yX0_isSewn yX0_isSewn, Cond.code yX0_isSewn cX0_isSewn 1 (some .boolean), Cond.methodLink RX3 151 yX0_addStitch, Cond.instanceMethod yX0_addStitch, Cond.selects RX0 yX0_addStitch yX0_addStitch, Cond.code yX0_addStitch cX0_addStitch 1 (some .boolean), Cond.methodLink RX0 55 yX0_stitchesOfSignature]
def wsX4_until_r7 : List Cond := [Cond.instanceMethod yX0_stitchesOfSignature, Cond.selects RX0 yX0_stitchesOfSignature yX0_stitchesOfSignature, Cond.code yX0_stitchesOfSignature cX0_stitchesOfSignature 3 (some .int), Cond.methodLink RX3 155 yX0_beginToDry, Cond.instanceMethod yX0_beginToDry, Cond.selects RX0 yX0_beginToDry yX0_beginToDry, Cond.code yX0_beginToDry cX0_beginToDry 1 none, Cond.methodLink RX3 117 yX3_mountOn, Cond.instanceMethod yX3_mountOn, Cond.selects RX3 yX3_mountOn yX3_mountOn, Cond.code yX3_mountOn cX3_mountOn 6 none, Cond.fieldLink RX3 158 "SewingFrames$Frame" "cords" "I", Cond.fieldLink RX3 75 "SewingFrames$Book" "number" "I", Cond.methodLink RX3 161 yX0_mount, Cond.instanceMethod yX0_mount, Cond.selects RX0 yX0_mount yX0_mount, Cond.code yX0_mount cX0_mount 3 none]
def wsX4_until : List Cond := .code yX4_until cX4_until 4 (some .int) :: ((wsX4_until_r1 ++ (wsX4_until_r2 ++ (wsX4_until_r3 ++ (wsX4_until_r4 ++ (wsX4_until_r5 ++ (wsX4_until_r6 ++ wsX4_until_r7)))))) ++ wsX00 ++ wsX40 ++ wsX30 ++ wsX20 ++ wsX10 ++ (vx_atS RX4 113 "java/lang/IndexOutOfBoundsException" ["java/lang/RuntimeException", "java/lang/Exception"]).filter goodWord)
def wsX4_firstDoneAhead : List Cond := .code yX4_firstDoneAhead cX4_firstDoneAhead 2 (some .int) :: ([.fieldLink RX4 10 "SewingFrames" "now" "LSewingFrames$Workshop;", .fieldLink RX4 184 "SewingFrames$Workshop" "books" "[LSewingFrames$Book;", .fieldLink RX4 16 "SewingFrames" "ahead" "LSewingFrames$Workshop;", .fieldLink RX4 56 "SewingFrames$Book" "stage" "I"] ++ wsX40 ++ wsX30 ++ wsX00)
def wsX4_next_r1 : List Cond := [Cond.fieldLink RX4 16 "SewingFrames" "ahead" "LSewingFrames$Workshop;", Cond.fieldLink RX4 10 "SewingFrames" "now" "LSewingFrames$Workshop;", Cond.methodLink RX4 168 yX3_setTo, Cond.instanceMethod yX3_setTo, Cond.selects RX3 yX3_setTo yX3_setTo, Cond.initialized RX3, Cond.code yX3_setTo cX3_setTo 3 none, Cond.fieldLink RX3 11 "SewingFrames$Workshop" "books" "[LSewingFrames$Book;", Cond.fieldLink RX3 22 "SewingFrames$Workshop" "sewers" "[LSewingFrames$Sewer;", Cond.fieldLink RX3 29 "SewingFrames$Workshop" "frames" "[LSewingFrames$Frame;", Cond.fieldLink RX3 57 "SewingFrames$Workshop" "bookCount" "I", Cond.fieldLink RX3 60 "SewingFrames$Workshop" "sewerCount" "I", Cond.fieldLink RX3 63 "SewingFrames$Workshop" "hour" "I", Cond.fieldLink RX3 44 "SewingFrames$Workshop" "coins" "I", Cond.fieldLink RX3 34 "SewingFrames$Workshop" "thread" "I", Cond.fieldLink RX3 38 "SewingFrames$Workshop" "boards" "I", Cond.fieldLink RX3 41 "SewingFrames$Workshop" "gold" "I", Cond.fieldLink RX3 66 "SewingFrames$Workshop" "sewn" "I", Cond.fieldLink RX3 69 "SewingFrames$Workshop" "loose" "I", Cond.methodLink RX3 47 yX0_setTo, Cond.instanceMethod yX0_setTo, Cond.selects RX0 yX0_setTo yX0_setTo, Cond.initialized RX0, Cond.code yX0_setTo cX0_setTo 2 none]
def wsX4_next_r2 : List Cond := [Cond.fieldLink RX0 21 "SewingFrames$Book" "signatures" "I", Cond.fieldLink RX0 24 "SewingFrames$Book" "sheets" "I", Cond.fieldLink RX0 27 "SewingFrames$Book" "edges" "I", Cond.fieldLink RX0 15 "SewingFrames$Book" "stage" "I", Cond.fieldLink RX0 18 "SewingFrames$Book" "frame" "I", Cond.fieldLink RX0 30 "SewingFrames$Book" "cords" "I", Cond.fieldLink RX0 33 "SewingFrames$Book" "stitches" "I", Cond.fieldLink RX0 36 "SewingFrames$Book" "wholeSignatures" "I", Cond.fieldLink RX0 39 "SewingFrames$Book" "stitchesOfNext" "I", Cond.fieldLink RX0 42 "SewingFrames$Book" "loose" "I", Cond.fieldLink RX0 45 "SewingFrames$Book" "hoursToDry" "I", Cond.fieldLink RX0 48 "SewingFrames$Book" "gilt" "I", Cond.methodLink RX3 51 yX2_setTo, Cond.instanceMethod yX2_setTo, Cond.selects RX2 yX2_setTo yX2_setTo, Cond.initialized RX2, Cond.code yX2_setTo cX2_setTo 2 none, Cond.fieldLink RX2 18 "SewingFrames$Sewer" "speed" "I", Cond.fieldLink RX2 15 "SewingFrames$Sewer" "frame" "I", Cond.methodLink RX3 54 yX1_setTo, Cond.instanceMethod yX1_setTo, Cond.selects RX1 yX1_setTo yX1_setTo, Cond.initialized RX1, Cond.code yX1_setTo cX1_setTo 2 none]
def wsX4_next_r3 : List Cond := [Cond.fieldLink RX1 15 "SewingFrames$Frame" "cords" "I", Cond.fieldLink RX1 18 "SewingFrames$Frame" "book" "I", Cond.fieldLink RX1 21 "SewingFrames$Frame" "sewn" "I", Cond.methodLink RX4 175 yX3_letAnHourGo, Cond.instanceMethod yX3_letAnHourGo, Cond.selects RX3 yX3_letAnHourGo yX3_letAnHourGo, Cond.code yX3_letAnHourGo cX3_letAnHourGo 6 (some .int), Cond.fieldLink RX3 72 "SewingFrames$Frame" "book" "I", Cond.methodLink RX3 102 yX3_booksAt, Cond.instanceMethod yX3_booksAt, Cond.selects RX3 yX3_booksAt yX3_booksAt, Cond.code yX3_booksAt cX3_booksAt 7 (some .int), Cond.fieldLink RX3 120 "SewingFrames$Book" "stage" "I", Cond.methodLink RX3 105 yX3_gild, Cond.instanceMethod yX3_gild, Cond.selects RX3 yX3_gild yX3_gild, Cond.code yX3_gild cX3_gild 6 none, Cond.methodLink RX3 123 yX0_leavesForAnEdge, Cond.instanceMethod yX0_leavesForAnEdge, Cond.selects RX0 yX0_leavesForAnEdge yX0_leavesForAnEdge, Cond.code yX0_leavesForAnEdge cX0_leavesForAnEdge 1 (some .int), Cond.methodLink RX0 51 yX0_thickness, Cond.instanceMethod yX0_thickness, Cond.selects RX0 yX0_thickness yX0_thickness]
def wsX4_next_r4 : List Cond := [Cond.code yX0_thickness cX0_thickness 1 (some .int), Cond.methodLink RX3 126 yX0_gildAnEdge, Cond.instanceMethod yX0_gildAnEdge, Cond.selects RX0 yX0_gildAnEdge yX0_gildAnEdge, Cond.code yX0_gildAnEdge cX0_gildAnEdge 1 none, Cond.methodLink RX3 108 yX3_giveBoards, Cond.instanceMethod yX3_giveBoards, Cond.selects RX3 yX3_giveBoards yX3_giveBoards, Cond.code yX3_giveBoards cX3_giveBoards 5 none, Cond.methodLink RX3 129 yX0_bind, Cond.instanceMethod yX0_bind, Cond.selects RX0 yX0_bind yX0_bind, Cond.code yX0_bind cX0_bind 1 none, Cond.methodLink RX3 111 yX3_dry, Cond.instanceMethod yX3_dry, Cond.selects RX3 yX3_dry yX3_dry, Cond.code yX3_dry cX3_dry 5 none, Cond.methodLink RX3 132 yX0_dryForAnHour, Cond.instanceMethod yX0_dryForAnHour, Cond.selects RX0 yX0_dryForAnHour yX0_dryForAnHour, Cond.code yX0_dryForAnHour cX0_dryForAnHour 1 none, Cond.methodLink RX3 114 yX3_sewAt, Cond.instanceMethod yX3_sewAt, Cond.selects RX3 yX3_sewAt yX3_sewAt]
def wsX4_next_r5 : List Cond := [Cond.code yX3_sewAt cX3_sewAt 6 none, Cond.fieldLink RX3 139 "SewingFrames$Frame" "number" "I", Cond.methodLink RX3 143 Lib.Math.min.name, Cond.static Lib.Math.min.name, Cond.initialized "java/lang/Math", Cond.code Lib.Math.min.name Lib.Math.min.code 2 (some .int), Cond.fieldLink RX3 150 "SewingFrames$Frame" "sewn" "I", Cond.fieldLink RX3 154 "SewingFrames$Book" "loose" "I", Cond.methodLink RX3 135 yX3_bookNumbered, Cond.instanceMethod yX3_bookNumbered, Cond.selects RX3 yX3_bookNumbered yX3_bookNumbered, Cond.code yX3_bookNumbered cX3_bookNumbered 2 (some (.object "SewingFrames$Book")), Cond.methodLink RX3 140 yX3_stitchesAnHour, Cond.instanceMethod yX3_stitchesAnHour, Cond.selects RX3 yX3_stitchesAnHour yX3_stitchesAnHour, Cond.code yX3_stitchesAnHour cX3_stitchesAnHour 8 (some .int), Cond.fieldLink RX3 78 "SewingFrames$Sewer" "frame" "I", Cond.fieldLink RX3 90 "SewingFrames$Sewer" "speed" "I", Cond.methodLink RX3 93 Lib.Math.max.name, Cond.static Lib.Math.max.name, Cond.code Lib.Math.max.name Lib.Math.max.code 2 (some .int), Cond.methodLink RX3 86 yX3_sittersAt, Cond.instanceMethod yX3_sittersAt, Cond.selects RX3 yX3_sittersAt yX3_sittersAt]
def wsX4_next_r6 : List Cond := [Cond.code yX3_sittersAt cX3_sittersAt 2 (some .int), Cond.methodLink RX3 82 yX3_othersAt, Cond.instanceMethod yX3_othersAt, Cond.selects RX3 yX3_othersAt yX3_othersAt, Cond.code yX3_othersAt cX3_othersAt 8 (some .int), Cond.fieldLink RX3 81 "SewingFrames$Sewer" "number" "I", Cond.methodLink RX3 146 yX0_isSewn, Cond.instanceMethod yX0_isSewn, Cond.selects RX0 yX0_isSewn yX0_isSewn, Cond.code yX0_isSewn cX0_isSewn 1 (some .boolean), Cond.methodLink RX3 151 yX0_addStitch, Cond.instanceMethod yX0_addStitch, Cond.selects RX0 yX0_addStitch yX0_addStitch, Cond.code yX0_addStitch cX0_addStitch 1 (some .boolean), Cond.methodLink RX0 55 yX0_stitchesOfSignature, Cond.instanceMethod yX0_stitchesOfSignature, Cond.selects RX0 yX0_stitchesOfSignature yX0_stitchesOfSignature, Cond.code yX0_stitchesOfSignature cX0_stitchesOfSignature 3 (some .int), Cond.methodLink RX3 155 yX0_beginToDry, Cond.instanceMethod yX0_beginToDry, Cond.selects RX0 yX0_beginToDry yX0_beginToDry, Cond.code yX0_beginToDry cX0_beginToDry 1 none, Cond.methodLink RX3 117 yX3_mountOn, Cond.instanceMethod yX3_mountOn]
def wsX4_next_r7 : List Cond := [Cond.selects RX3 yX3_mountOn yX3_mountOn, Cond.code yX3_mountOn cX3_mountOn 6 none, Cond.fieldLink RX3 158 "SewingFrames$Frame" "cords" "I", Cond.fieldLink RX3 75 "SewingFrames$Book" "number" "I", Cond.methodLink RX3 161 yX0_mount, Cond.instanceMethod yX0_mount, Cond.selects RX0 yX0_mount yX0_mount, Cond.code yX0_mount cX0_mount 3 none, Cond.methodLink RX4 178 yX4_firstDoneAhead, Cond.instanceMethod yX4_firstDoneAhead, Cond.selects RX4 yX4_firstDoneAhead yX4_firstDoneAhead, Cond.initialized RX4, Cond.code yX4_firstDoneAhead cX4_firstDoneAhead 2 (some .int), Cond.fieldLink RX4 184 "SewingFrames$Workshop" "books" "[LSewingFrames$Book;", Cond.fieldLink RX4 56 "SewingFrames$Book" "stage" "I"]
def wsX4_next : List Cond := .code yX4_next cX4_next 2 (some .int) :: ((wsX4_next_r1 ++ (wsX4_next_r2 ++ (wsX4_next_r3 ++ (wsX4_next_r4 ++ (wsX4_next_r5 ++ (wsX4_next_r6 ++ wsX4_next_r7)))))) ++ wsX40 ++ wsX30 ++ wsX00 ++ wsX20 ++ wsX10)
def wsX4_sewnAheadWith_r1 : List Cond := [Cond.fieldLink RX4 16 "SewingFrames" "ahead" "LSewingFrames$Workshop;", Cond.fieldLink RX4 10 "SewingFrames" "now" "LSewingFrames$Workshop;", Cond.fieldLink RX4 120 "SewingFrames$Sewer" "frame" "I", Cond.fieldLink RX4 211 "SewingFrames$Workshop" "sewn" "I", Cond.methodLink RX4 168 yX3_setTo, Cond.instanceMethod yX3_setTo, Cond.selects RX3 yX3_setTo yX3_setTo, Cond.initialized RX3, Cond.code yX3_setTo cX3_setTo 3 none, Cond.fieldLink RX3 11 "SewingFrames$Workshop" "books" "[LSewingFrames$Book;", Cond.fieldLink RX3 22 "SewingFrames$Workshop" "sewers" "[LSewingFrames$Sewer;", Cond.fieldLink RX3 29 "SewingFrames$Workshop" "frames" "[LSewingFrames$Frame;", Cond.fieldLink RX3 57 "SewingFrames$Workshop" "bookCount" "I", Cond.fieldLink RX3 60 "SewingFrames$Workshop" "sewerCount" "I", Cond.fieldLink RX3 63 "SewingFrames$Workshop" "hour" "I", Cond.fieldLink RX3 44 "SewingFrames$Workshop" "coins" "I", Cond.fieldLink RX3 34 "SewingFrames$Workshop" "thread" "I", Cond.fieldLink RX3 38 "SewingFrames$Workshop" "boards" "I", Cond.fieldLink RX3 41 "SewingFrames$Workshop" "gold" "I", Cond.fieldLink RX3 66 "SewingFrames$Workshop" "sewn" "I", Cond.fieldLink RX3 69 "SewingFrames$Workshop" "loose" "I", Cond.methodLink RX3 47 yX0_setTo, Cond.instanceMethod yX0_setTo, Cond.selects RX0 yX0_setTo yX0_setTo]
def wsX4_sewnAheadWith_r2 : List Cond := [Cond.initialized RX0, Cond.code yX0_setTo cX0_setTo 2 none, Cond.fieldLink RX0 21 "SewingFrames$Book" "signatures" "I", Cond.fieldLink RX0 24 "SewingFrames$Book" "sheets" "I", Cond.fieldLink RX0 27 "SewingFrames$Book" "edges" "I", Cond.fieldLink RX0 15 "SewingFrames$Book" "stage" "I", Cond.fieldLink RX0 18 "SewingFrames$Book" "frame" "I", Cond.fieldLink RX0 30 "SewingFrames$Book" "cords" "I", Cond.fieldLink RX0 33 "SewingFrames$Book" "stitches" "I", Cond.fieldLink RX0 36 "SewingFrames$Book" "wholeSignatures" "I", Cond.fieldLink RX0 39 "SewingFrames$Book" "stitchesOfNext" "I", Cond.fieldLink RX0 42 "SewingFrames$Book" "loose" "I", Cond.fieldLink RX0 45 "SewingFrames$Book" "hoursToDry" "I", Cond.fieldLink RX0 48 "SewingFrames$Book" "gilt" "I", Cond.methodLink RX3 51 yX2_setTo, Cond.instanceMethod yX2_setTo, Cond.selects RX2 yX2_setTo yX2_setTo, Cond.initialized RX2, Cond.code yX2_setTo cX2_setTo 2 none, Cond.fieldLink RX2 18 "SewingFrames$Sewer" "speed" "I", Cond.fieldLink RX2 15 "SewingFrames$Sewer" "frame" "I", Cond.methodLink RX3 54 yX1_setTo, Cond.instanceMethod yX1_setTo, Cond.selects RX1 yX1_setTo yX1_setTo]
def wsX4_sewnAheadWith_r3 : List Cond := [Cond.initialized RX1, Cond.code yX1_setTo cX1_setTo 2 none, Cond.fieldLink RX1 15 "SewingFrames$Frame" "cords" "I", Cond.fieldLink RX1 18 "SewingFrames$Frame" "book" "I", Cond.fieldLink RX1 21 "SewingFrames$Frame" "sewn" "I", Cond.methodLink RX4 202 yX3_sewerNumbered, Cond.instanceMethod yX3_sewerNumbered, Cond.selects RX3 yX3_sewerNumbered yX3_sewerNumbered, Cond.code yX3_sewerNumbered cX3_sewerNumbered 2 (some (.object "SewingFrames$Sewer")), Cond.methodLink RX4 163 yX3_letHoursGo, Cond.instanceMethod yX3_letHoursGo, Cond.selects RX3 yX3_letHoursGo yX3_letHoursGo, Cond.code yX3_letHoursGo cX3_letHoursGo 4 (some .int), Cond.methodLink RX3 98 yX3_letAnHourGo, Cond.instanceMethod yX3_letAnHourGo, Cond.selects RX3 yX3_letAnHourGo yX3_letAnHourGo, Cond.code yX3_letAnHourGo cX3_letAnHourGo 6 (some .int), Cond.fieldLink RX3 72 "SewingFrames$Frame" "book" "I", Cond.methodLink RX3 102 yX3_booksAt, Cond.instanceMethod yX3_booksAt, Cond.selects RX3 yX3_booksAt yX3_booksAt, Cond.code yX3_booksAt cX3_booksAt 7 (some .int), Cond.fieldLink RX3 120 "SewingFrames$Book" "stage" "I", Cond.methodLink RX3 105 yX3_gild]
def wsX4_sewnAheadWith_r4 : List Cond := [Cond.instanceMethod yX3_gild, Cond.selects RX3 yX3_gild yX3_gild, Cond.code yX3_gild cX3_gild 6 none, Cond.methodLink RX3 123 yX0_leavesForAnEdge, Cond.instanceMethod yX0_leavesForAnEdge, Cond.selects RX0 yX0_leavesForAnEdge yX0_leavesForAnEdge, Cond.code yX0_leavesForAnEdge cX0_leavesForAnEdge 1 (some .int), Cond.methodLink RX0 51 yX0_thickness, Cond.instanceMethod yX0_thickness, Cond.selects RX0 yX0_thickness yX0_thickness, Cond.code yX0_thickness cX0_thickness 1 (some .int), Cond.methodLink RX3 126 yX0_gildAnEdge, Cond.instanceMethod yX0_gildAnEdge, Cond.selects RX0 yX0_gildAnEdge yX0_gildAnEdge, Cond.code yX0_gildAnEdge cX0_gildAnEdge 1 none, Cond.methodLink RX3 108 yX3_giveBoards, Cond.instanceMethod yX3_giveBoards, Cond.selects RX3 yX3_giveBoards yX3_giveBoards, Cond.code yX3_giveBoards cX3_giveBoards 5 none, Cond.methodLink RX3 129 yX0_bind, Cond.instanceMethod yX0_bind, Cond.selects RX0 yX0_bind yX0_bind, Cond.code yX0_bind cX0_bind 1 none, Cond.methodLink RX3 111 yX3_dry]
def wsX4_sewnAheadWith_r5 : List Cond := [Cond.instanceMethod yX3_dry, Cond.selects RX3 yX3_dry yX3_dry, Cond.code yX3_dry cX3_dry 5 none, Cond.methodLink RX3 132 yX0_dryForAnHour, Cond.instanceMethod yX0_dryForAnHour, Cond.selects RX0 yX0_dryForAnHour yX0_dryForAnHour, Cond.code yX0_dryForAnHour cX0_dryForAnHour 1 none, Cond.methodLink RX3 114 yX3_sewAt, Cond.instanceMethod yX3_sewAt, Cond.selects RX3 yX3_sewAt yX3_sewAt, Cond.code yX3_sewAt cX3_sewAt 6 none, Cond.fieldLink RX3 139 "SewingFrames$Frame" "number" "I", Cond.methodLink RX3 143 Lib.Math.min.name, Cond.static Lib.Math.min.name, Cond.initialized "java/lang/Math", Cond.code Lib.Math.min.name Lib.Math.min.code 2 (some .int), Cond.fieldLink RX3 150 "SewingFrames$Frame" "sewn" "I", Cond.fieldLink RX3 154 "SewingFrames$Book" "loose" "I", Cond.methodLink RX3 135 yX3_bookNumbered, Cond.instanceMethod yX3_bookNumbered, Cond.selects RX3 yX3_bookNumbered yX3_bookNumbered, Cond.code yX3_bookNumbered cX3_bookNumbered 2 (some (.object "SewingFrames$Book")), Cond.methodLink RX3 140 yX3_stitchesAnHour, Cond.instanceMethod yX3_stitchesAnHour]
def wsX4_sewnAheadWith_r6 : List Cond := [Cond.selects RX3 yX3_stitchesAnHour yX3_stitchesAnHour, Cond.code yX3_stitchesAnHour cX3_stitchesAnHour 8 (some .int), Cond.fieldLink RX3 78 "SewingFrames$Sewer" "frame" "I", Cond.fieldLink RX3 90 "SewingFrames$Sewer" "speed" "I", Cond.methodLink RX3 93 Lib.Math.max.name, Cond.static Lib.Math.max.name, Cond.code Lib.Math.max.name Lib.Math.max.code 2 (some .int), Cond.methodLink RX3 86 yX3_sittersAt, Cond.instanceMethod yX3_sittersAt, Cond.selects RX3 yX3_sittersAt yX3_sittersAt, Cond.code yX3_sittersAt cX3_sittersAt 2 (some .int), Cond.methodLink RX3 82 yX3_othersAt, Cond.instanceMethod yX3_othersAt, Cond.selects RX3 yX3_othersAt yX3_othersAt, Cond.code yX3_othersAt cX3_othersAt 8 (some .int), Cond.fieldLink RX3 81 "SewingFrames$Sewer" "number" "I", Cond.methodLink RX3 146 yX0_isSewn, Cond.instanceMethod yX0_isSewn, Cond.selects RX0 yX0_isSewn yX0_isSewn, Cond.code yX0_isSewn cX0_isSewn 1 (some .boolean), Cond.methodLink RX3 151 yX0_addStitch, Cond.instanceMethod yX0_addStitch, Cond.selects RX0 yX0_addStitch yX0_addStitch, Cond.code yX0_addStitch cX0_addStitch 1 (some .boolean)]
def wsX4_sewnAheadWith_r7 : List Cond := [Cond.methodLink RX0 55 yX0_stitchesOfSignature, Cond.instanceMethod yX0_stitchesOfSignature, Cond.selects RX0 yX0_stitchesOfSignature yX0_stitchesOfSignature, Cond.code yX0_stitchesOfSignature cX0_stitchesOfSignature 3 (some .int), Cond.methodLink RX3 155 yX0_beginToDry, Cond.instanceMethod yX0_beginToDry, Cond.selects RX0 yX0_beginToDry yX0_beginToDry, Cond.code yX0_beginToDry cX0_beginToDry 1 none, Cond.methodLink RX3 117 yX3_mountOn, Cond.instanceMethod yX3_mountOn, Cond.selects RX3 yX3_mountOn yX3_mountOn, Cond.code yX3_mountOn cX3_mountOn 6 none, Cond.fieldLink RX3 158 "SewingFrames$Frame" "cords" "I", Cond.fieldLink RX3 75 "SewingFrames$Book" "number" "I", Cond.methodLink RX3 161 yX0_mount, Cond.instanceMethod yX0_mount, Cond.selects RX0 yX0_mount yX0_mount, Cond.code yX0_mount cX0_mount 3 none]
def wsX4_sewnAheadWith : List Cond := .code yX4_sewnAheadWith cX4_sewnAheadWith 4 (some .int) :: ((wsX4_sewnAheadWith_r1 ++ (wsX4_sewnAheadWith_r2 ++ (wsX4_sewnAheadWith_r3 ++ (wsX4_sewnAheadWith_r4 ++ (wsX4_sewnAheadWith_r5 ++ (wsX4_sewnAheadWith_r6 ++ wsX4_sewnAheadWith_r7)))))) ++ wsX40 ++ wsX20 ++ wsX30 ++ wsX00 ++ wsX10)
def wsX4_advise_r1 : List Cond := [Cond.fieldLink RX4 10 "SewingFrames" "now" "LSewingFrames$Workshop;", Cond.methodLink RX4 105 yX4_knownSewer, Cond.instanceMethod yX4_knownSewer, Cond.selects RX4 yX4_knownSewer yX4_knownSewer, Cond.initialized RX4, Cond.code yX4_knownSewer cX4_knownSewer 3 (some (.object "SewingFrames$Sewer")), Cond.classLink RX4 109 "java/lang/IndexOutOfBoundsException", Cond.initialized "java/lang/IndexOutOfBoundsException", Cond.methodLink RX4 202 yX3_sewerNumbered, Cond.instanceMethod yX3_sewerNumbered, Cond.selects RX3 yX3_sewerNumbered yX3_sewerNumbered, Cond.initialized RX3, Cond.code yX3_sewerNumbered cX3_sewerNumbered 2 (some (.object "SewingFrames$Sewer")), Cond.fieldLink RX3 60 "SewingFrames$Workshop" "sewerCount" "I", Cond.fieldLink RX3 22 "SewingFrames$Workshop" "sewers" "[LSewingFrames$Sewer;", Cond.methodLink RX4 114 yX3_othersAt, Cond.instanceMethod yX3_othersAt, Cond.selects RX3 yX3_othersAt yX3_othersAt, Cond.code yX3_othersAt cX3_othersAt 8 (some .int), Cond.fieldLink RX3 78 "SewingFrames$Sewer" "frame" "I", Cond.fieldLink RX3 81 "SewingFrames$Sewer" "number" "I", Cond.methodLink RX4 181 yX4_sewnAheadWith, Cond.instanceMethod yX4_sewnAheadWith, Cond.selects RX4 yX4_sewnAheadWith yX4_sewnAheadWith]
def wsX4_advise_r2 : List Cond := [Cond.code yX4_sewnAheadWith cX4_sewnAheadWith 4 (some .int), Cond.fieldLink RX4 16 "SewingFrames" "ahead" "LSewingFrames$Workshop;", Cond.fieldLink RX4 120 "SewingFrames$Sewer" "frame" "I", Cond.fieldLink RX4 211 "SewingFrames$Workshop" "sewn" "I", Cond.methodLink RX4 168 yX3_setTo, Cond.instanceMethod yX3_setTo, Cond.selects RX3 yX3_setTo yX3_setTo, Cond.code yX3_setTo cX3_setTo 3 none, Cond.fieldLink RX3 11 "SewingFrames$Workshop" "books" "[LSewingFrames$Book;", Cond.fieldLink RX3 29 "SewingFrames$Workshop" "frames" "[LSewingFrames$Frame;", Cond.fieldLink RX3 57 "SewingFrames$Workshop" "bookCount" "I", Cond.fieldLink RX3 63 "SewingFrames$Workshop" "hour" "I", Cond.fieldLink RX3 44 "SewingFrames$Workshop" "coins" "I", Cond.fieldLink RX3 34 "SewingFrames$Workshop" "thread" "I", Cond.fieldLink RX3 38 "SewingFrames$Workshop" "boards" "I", Cond.fieldLink RX3 41 "SewingFrames$Workshop" "gold" "I", Cond.fieldLink RX3 66 "SewingFrames$Workshop" "sewn" "I", Cond.fieldLink RX3 69 "SewingFrames$Workshop" "loose" "I", Cond.methodLink RX3 47 yX0_setTo, Cond.instanceMethod yX0_setTo, Cond.selects RX0 yX0_setTo yX0_setTo, Cond.initialized RX0, Cond.code yX0_setTo cX0_setTo 2 none, Cond.fieldLink RX0 21 "SewingFrames$Book" "signatures" "I"]
def wsX4_advise_r3 : List Cond := [Cond.fieldLink RX0 24 "SewingFrames$Book" "sheets" "I", Cond.fieldLink RX0 27 "SewingFrames$Book" "edges" "I", Cond.fieldLink RX0 15 "SewingFrames$Book" "stage" "I", Cond.fieldLink RX0 18 "SewingFrames$Book" "frame" "I", Cond.fieldLink RX0 30 "SewingFrames$Book" "cords" "I", Cond.fieldLink RX0 33 "SewingFrames$Book" "stitches" "I", Cond.fieldLink RX0 36 "SewingFrames$Book" "wholeSignatures" "I", Cond.fieldLink RX0 39 "SewingFrames$Book" "stitchesOfNext" "I", Cond.fieldLink RX0 42 "SewingFrames$Book" "loose" "I", Cond.fieldLink RX0 45 "SewingFrames$Book" "hoursToDry" "I", Cond.fieldLink RX0 48 "SewingFrames$Book" "gilt" "I", Cond.methodLink RX3 51 yX2_setTo, Cond.instanceMethod yX2_setTo, Cond.selects RX2 yX2_setTo yX2_setTo, Cond.initialized RX2, Cond.code yX2_setTo cX2_setTo 2 none, Cond.fieldLink RX2 18 "SewingFrames$Sewer" "speed" "I", Cond.fieldLink RX2 15 "SewingFrames$Sewer" "frame" "I", Cond.methodLink RX3 54 yX1_setTo, Cond.instanceMethod yX1_setTo, Cond.selects RX1 yX1_setTo yX1_setTo, Cond.initialized RX1, Cond.code yX1_setTo cX1_setTo 2 none, Cond.fieldLink RX1 15 "SewingFrames$Frame" "cords" "I"]
def wsX4_advise_r4 : List Cond := [Cond.fieldLink RX1 18 "SewingFrames$Frame" "book" "I", Cond.fieldLink RX1 21 "SewingFrames$Frame" "sewn" "I", Cond.methodLink RX4 163 yX3_letHoursGo, Cond.instanceMethod yX3_letHoursGo, Cond.selects RX3 yX3_letHoursGo yX3_letHoursGo, Cond.code yX3_letHoursGo cX3_letHoursGo 4 (some .int), Cond.methodLink RX3 98 yX3_letAnHourGo, Cond.instanceMethod yX3_letAnHourGo, Cond.selects RX3 yX3_letAnHourGo yX3_letAnHourGo, Cond.code yX3_letAnHourGo cX3_letAnHourGo 6 (some .int), Cond.fieldLink RX3 72 "SewingFrames$Frame" "book" "I", Cond.methodLink RX3 102 yX3_booksAt, Cond.instanceMethod yX3_booksAt, Cond.selects RX3 yX3_booksAt yX3_booksAt, Cond.code yX3_booksAt cX3_booksAt 7 (some .int), Cond.fieldLink RX3 120 "SewingFrames$Book" "stage" "I", Cond.methodLink RX3 105 yX3_gild, Cond.instanceMethod yX3_gild, Cond.selects RX3 yX3_gild yX3_gild, Cond.code yX3_gild cX3_gild 6 none, Cond.methodLink RX3 123 yX0_leavesForAnEdge, Cond.instanceMethod yX0_leavesForAnEdge, Cond.selects RX0 yX0_leavesForAnEdge yX0_leavesForAnEdge, Cond.code yX0_leavesForAnEdge cX0_leavesForAnEdge 1 (some .int)]
def wsX4_advise_r5 : List Cond := [Cond.methodLink RX0 51 yX0_thickness, Cond.instanceMethod yX0_thickness, Cond.selects RX0 yX0_thickness yX0_thickness, Cond.code yX0_thickness cX0_thickness 1 (some .int), Cond.methodLink RX3 126 yX0_gildAnEdge, Cond.instanceMethod yX0_gildAnEdge, Cond.selects RX0 yX0_gildAnEdge yX0_gildAnEdge, Cond.code yX0_gildAnEdge cX0_gildAnEdge 1 none, Cond.methodLink RX3 108 yX3_giveBoards, Cond.instanceMethod yX3_giveBoards, Cond.selects RX3 yX3_giveBoards yX3_giveBoards, Cond.code yX3_giveBoards cX3_giveBoards 5 none, Cond.methodLink RX3 129 yX0_bind, Cond.instanceMethod yX0_bind, Cond.selects RX0 yX0_bind yX0_bind, Cond.code yX0_bind cX0_bind 1 none, Cond.methodLink RX3 111 yX3_dry, Cond.instanceMethod yX3_dry, Cond.selects RX3 yX3_dry yX3_dry, Cond.code yX3_dry cX3_dry 5 none, Cond.methodLink RX3 132 yX0_dryForAnHour, Cond.instanceMethod yX0_dryForAnHour, Cond.selects RX0 yX0_dryForAnHour yX0_dryForAnHour, Cond.code yX0_dryForAnHour cX0_dryForAnHour 1 none]
def wsX4_advise_r6 : List Cond := [Cond.methodLink RX3 114 yX3_sewAt, Cond.instanceMethod yX3_sewAt, Cond.selects RX3 yX3_sewAt yX3_sewAt, Cond.code yX3_sewAt cX3_sewAt 6 none, Cond.fieldLink RX3 139 "SewingFrames$Frame" "number" "I", Cond.methodLink RX3 143 Lib.Math.min.name, Cond.static Lib.Math.min.name, Cond.initialized "java/lang/Math", Cond.code Lib.Math.min.name Lib.Math.min.code 2 (some .int), Cond.fieldLink RX3 150 "SewingFrames$Frame" "sewn" "I", Cond.fieldLink RX3 154 "SewingFrames$Book" "loose" "I", Cond.methodLink RX3 135 yX3_bookNumbered, Cond.instanceMethod yX3_bookNumbered, Cond.selects RX3 yX3_bookNumbered yX3_bookNumbered, Cond.code yX3_bookNumbered cX3_bookNumbered 2 (some (.object "SewingFrames$Book")), Cond.methodLink RX3 140 yX3_stitchesAnHour, Cond.instanceMethod yX3_stitchesAnHour, Cond.selects RX3 yX3_stitchesAnHour yX3_stitchesAnHour, Cond.code yX3_stitchesAnHour cX3_stitchesAnHour 8 (some .int), Cond.fieldLink RX3 90 "SewingFrames$Sewer" "speed" "I", Cond.methodLink RX3 93 Lib.Math.max.name, Cond.static Lib.Math.max.name, Cond.code Lib.Math.max.name Lib.Math.max.code 2 (some .int), Cond.methodLink RX3 86 yX3_sittersAt]
def wsX4_advise_r7 : List Cond := [Cond.instanceMethod yX3_sittersAt, Cond.selects RX3 yX3_sittersAt yX3_sittersAt, Cond.code yX3_sittersAt cX3_sittersAt 2 (some .int), Cond.methodLink RX3 82 yX3_othersAt, Cond.methodLink RX3 146 yX0_isSewn, Cond.instanceMethod yX0_isSewn, Cond.selects RX0 yX0_isSewn yX0_isSewn, Cond.code yX0_isSewn cX0_isSewn 1 (some .boolean), Cond.methodLink RX3 151 yX0_addStitch, Cond.instanceMethod yX0_addStitch, Cond.selects RX0 yX0_addStitch yX0_addStitch, Cond.code yX0_addStitch cX0_addStitch 1 (some .boolean), Cond.methodLink RX0 55 yX0_stitchesOfSignature, Cond.instanceMethod yX0_stitchesOfSignature, Cond.selects RX0 yX0_stitchesOfSignature yX0_stitchesOfSignature, Cond.code yX0_stitchesOfSignature cX0_stitchesOfSignature 3 (some .int), Cond.methodLink RX3 155 yX0_beginToDry, Cond.instanceMethod yX0_beginToDry, Cond.selects RX0 yX0_beginToDry yX0_beginToDry, Cond.code yX0_beginToDry cX0_beginToDry 1 none, Cond.methodLink RX3 117 yX3_mountOn, Cond.instanceMethod yX3_mountOn, Cond.selects RX3 yX3_mountOn yX3_mountOn, Cond.code yX3_mountOn cX3_mountOn 6 none]
def wsX4_advise_r8 : List Cond := [Cond.fieldLink RX3 158 "SewingFrames$Frame" "cords" "I", Cond.fieldLink RX3 75 "SewingFrames$Book" "number" "I", Cond.methodLink RX3 161 yX0_mount, Cond.instanceMethod yX0_mount, Cond.selects RX0 yX0_mount yX0_mount, Cond.code yX0_mount cX0_mount 3 none]
def wsX4_advise : List Cond := .code yX4_advise cX4_advise 6 (some .int) :: ((wsX4_advise_r1 ++ (wsX4_advise_r2 ++ (wsX4_advise_r3 ++ (wsX4_advise_r4 ++ (wsX4_advise_r5 ++ (wsX4_advise_r6 ++ (wsX4_advise_r7 ++ wsX4_advise_r8))))))) ++ wsX40 ++ wsX30 ++ wsX20 ++ wsX00 ++ wsX10 ++ (vx_atS RX4 113 "java/lang/IndexOutOfBoundsException" ["java/lang/RuntimeException", "java/lang/Exception"]).filter goodWord)
def wsX4_worth : List Cond := .code yX4_worth cX4_worth 6 (some .int) :: ([.fieldLink RX4 10 "SewingFrames" "now" "LSewingFrames$Workshop;", .fieldLink RX4 184 "SewingFrames$Workshop" "books" "[LSewingFrames$Book;", .fieldLink RX4 56 "SewingFrames$Book" "stage" "I", .methodLink RX4 76 yX0_value, .instanceMethod yX0_value, .selects RX0 yX0_value yX0_value, .initialized RX0, .code yX0_value cX0_value 1 (some .int), .fieldLink RX0 21 "SewingFrames$Book" "signatures" "I", .fieldLink RX0 30 "SewingFrames$Book" "cords" "I", .fieldLink RX0 48 "SewingFrames$Book" "gilt" "I", .fieldLink RX0 42 "SewingFrames$Book" "loose" "I", .methodLink RX0 59 Lib.Math.max.name, .static Lib.Math.max.name, .initialized "java/lang/Math", .code Lib.Math.max.name Lib.Math.max.code 2 (some .int)] ++ wsX40 ++ wsX30 ++ wsX00)
def wsX4_mean : List Cond := .code yX4_mean cX4_mean 7 (some .double) :: ([.fieldLink RX4 10 "SewingFrames" "now" "LSewingFrames$Workshop;", .fieldLink RX4 184 "SewingFrames$Workshop" "books" "[LSewingFrames$Book;", .fieldLink RX4 56 "SewingFrames$Book" "stage" "I", .methodLink RX4 76 yX0_value, .instanceMethod yX0_value, .selects RX0 yX0_value yX0_value, .initialized RX0, .code yX0_value cX0_value 1 (some .int), .fieldLink RX0 21 "SewingFrames$Book" "signatures" "I", .fieldLink RX0 30 "SewingFrames$Book" "cords" "I", .fieldLink RX0 48 "SewingFrames$Book" "gilt" "I", .fieldLink RX0 42 "SewingFrames$Book" "loose" "I", .methodLink RX0 59 Lib.Math.max.name, .static Lib.Math.max.name, .initialized "java/lang/Math", .code Lib.Math.max.name Lib.Math.max.code 2 (some .int)] ++ wsX40 ++ wsX30 ++ wsX00)
def wsX4_digest_r1 : List Cond := [Cond.constantLong RX4 188 (1367), Cond.constantLong RX4 190 (31), Cond.fieldLink RX4 10 "SewingFrames" "now" "LSewingFrames$Workshop;", Cond.fieldLink RX4 192 "SewingFrames$Workshop" "frames" "[LSewingFrames$Frame;", Cond.fieldLink RX4 196 "SewingFrames$Workshop" "sewers" "[LSewingFrames$Sewer;", Cond.fieldLink RX4 101 "SewingFrames$Workshop" "sewerCount" "I", Cond.fieldLink RX4 184 "SewingFrames$Workshop" "books" "[LSewingFrames$Book;", Cond.fieldLink RX4 45 "SewingFrames$Workshop" "bookCount" "I", Cond.methodLink RX4 156 yX3_tellOfAll, Cond.instanceMethod yX3_tellOfAll, Cond.selects RX3 yX3_tellOfAll yX3_tellOfAll, Cond.initialized RX3, Cond.code yX3_tellOfAll cX3_tellOfAll 2 (some .int), Cond.fieldLink RX3 63 "SewingFrames$Workshop" "hour" "I", Cond.fieldLink RX3 57 "SewingFrames$Workshop" "bookCount" "I", Cond.fieldLink RX3 44 "SewingFrames$Workshop" "coins" "I", Cond.fieldLink RX3 34 "SewingFrames$Workshop" "thread" "I", Cond.fieldLink RX3 38 "SewingFrames$Workshop" "boards" "I", Cond.fieldLink RX3 41 "SewingFrames$Workshop" "gold" "I", Cond.fieldLink RX3 66 "SewingFrames$Workshop" "sewn" "I", Cond.fieldLink RX3 69 "SewingFrames$Workshop" "loose" "I", Cond.methodLink RX3 102 yX3_booksAt, Cond.instanceMethod yX3_booksAt, Cond.selects RX3 yX3_booksAt yX3_booksAt]
def wsX4_digest_r2 : List Cond := [Cond.code yX3_booksAt cX3_booksAt 7 (some .int), Cond.fieldLink RX3 11 "SewingFrames$Workshop" "books" "[LSewingFrames$Book;", Cond.fieldLink RX3 120 "SewingFrames$Book" "stage" "I", Cond.methodLink RX4 140 yX3_tellOfFrame, Cond.instanceMethod yX3_tellOfFrame, Cond.selects RX3 yX3_tellOfFrame yX3_tellOfFrame, Cond.code yX3_tellOfFrame cX3_tellOfFrame 4 (some .int), Cond.fieldLink RX3 72 "SewingFrames$Frame" "book" "I", Cond.fieldLink RX3 158 "SewingFrames$Frame" "cords" "I", Cond.fieldLink RX3 139 "SewingFrames$Frame" "number" "I", Cond.fieldLink RX3 150 "SewingFrames$Frame" "sewn" "I", Cond.methodLink RX3 135 yX3_bookNumbered, Cond.instanceMethod yX3_bookNumbered, Cond.selects RX3 yX3_bookNumbered yX3_bookNumbered, Cond.code yX3_bookNumbered cX3_bookNumbered 2 (some (.object "SewingFrames$Book")), Cond.methodLink RX3 86 yX3_sittersAt, Cond.instanceMethod yX3_sittersAt, Cond.selects RX3 yX3_sittersAt yX3_sittersAt, Cond.code yX3_sittersAt cX3_sittersAt 2 (some .int), Cond.methodLink RX3 82 yX3_othersAt, Cond.instanceMethod yX3_othersAt, Cond.selects RX3 yX3_othersAt yX3_othersAt, Cond.code yX3_othersAt cX3_othersAt 8 (some .int), Cond.fieldLink RX3 22 "SewingFrames$Workshop" "sewers" "[LSewingFrames$Sewer;"]
def wsX4_digest_r3 : List Cond := [Cond.fieldLink RX3 78 "SewingFrames$Sewer" "frame" "I", Cond.fieldLink RX3 81 "SewingFrames$Sewer" "number" "I", Cond.methodLink RX3 140 yX3_stitchesAnHour, Cond.instanceMethod yX3_stitchesAnHour, Cond.selects RX3 yX3_stitchesAnHour yX3_stitchesAnHour, Cond.code yX3_stitchesAnHour cX3_stitchesAnHour 8 (some .int), Cond.fieldLink RX3 90 "SewingFrames$Sewer" "speed" "I", Cond.methodLink RX3 93 Lib.Math.max.name, Cond.static Lib.Math.max.name, Cond.initialized "java/lang/Math", Cond.code Lib.Math.max.name Lib.Math.max.code 2 (some .int), Cond.methodLink RX3 165 yX0_stitchesToSew, Cond.instanceMethod yX0_stitchesToSew, Cond.selects RX0 yX0_stitchesToSew yX0_stitchesToSew, Cond.initialized RX0, Cond.code yX0_stitchesToSew cX0_stitchesToSew 3 (some .int), Cond.fieldLink RX0 21 "SewingFrames$Book" "signatures" "I", Cond.fieldLink RX0 33 "SewingFrames$Book" "stitches" "I", Cond.methodLink RX0 55 yX0_stitchesOfSignature, Cond.instanceMethod yX0_stitchesOfSignature, Cond.selects RX0 yX0_stitchesOfSignature yX0_stitchesOfSignature, Cond.code yX0_stitchesOfSignature cX0_stitchesOfSignature 3 (some .int), Cond.fieldLink RX0 30 "SewingFrames$Book" "cords" "I", Cond.methodLink RX4 123 yX2_tell]
def wsX4_digest_r4 : List Cond := [Cond.instanceMethod yX2_tell, Cond.selects RX2 yX2_tell yX2_tell, Cond.initialized RX2, Cond.code yX2_tell cX2_tell 2 (some .int), Cond.fieldLink RX2 18 "SewingFrames$Sewer" "speed" "I", Cond.fieldLink RX2 15 "SewingFrames$Sewer" "frame" "I", Cond.methodLink RX4 84 yX0_tell, Cond.instanceMethod yX0_tell, Cond.selects RX0 yX0_tell yX0_tell, Cond.code yX0_tell cX0_tell 2 (some .int), Cond.fieldLink RX0 24 "SewingFrames$Book" "sheets" "I", Cond.fieldLink RX0 27 "SewingFrames$Book" "edges" "I", Cond.fieldLink RX0 15 "SewingFrames$Book" "stage" "I", Cond.fieldLink RX0 18 "SewingFrames$Book" "frame" "I", Cond.fieldLink RX0 36 "SewingFrames$Book" "wholeSignatures" "I", Cond.fieldLink RX0 39 "SewingFrames$Book" "stitchesOfNext" "I", Cond.fieldLink RX0 42 "SewingFrames$Book" "loose" "I", Cond.fieldLink RX0 45 "SewingFrames$Book" "hoursToDry" "I", Cond.fieldLink RX0 48 "SewingFrames$Book" "gilt" "I", Cond.methodLink RX0 65 yX0_value, Cond.instanceMethod yX0_value, Cond.selects RX0 yX0_value yX0_value, Cond.code yX0_value cX0_value 1 (some .int), Cond.methodLink RX0 59 Lib.Math.max.name]
def wsX4_digest : List Cond := .code yX4_digest cX4_digest 8 (some .long) :: ((wsX4_digest_r1 ++ (wsX4_digest_r2 ++ (wsX4_digest_r3 ++ wsX4_digest_r4))) ++ wsX40 ++ wsX30 ++ wsX00 ++ wsX10 ++ wsX20)
def wsX5_thrown : List Cond := .code yX5_thrown cX5_thrown 1 (some .int) :: ([.fieldLink RX5 1 "SewingFramesModel" "thrown" "I"] ++ wsX50)
def wsX5_no : List Cond := .code yX5_no cX5_no 2 (some .int) :: ([.fieldLink RX5 1 "SewingFramesModel" "thrown" "I"] ++ wsX50)
def wsX5_isIn : List Cond := .code yX5_isIn cX5_isIn 3 (some .boolean) :: ([])
def wsX5_init : List Cond := .code yX5_init cX5_init 2 none :: ([.methodLink RX5 7 objectInit, .instanceMethod objectInit, .code objectInit ⟨#[0xb1]⟩ 1 none, .arrayClass .int, .fieldLink RX5 13 "SewingFramesModel" "now" "[I", .fieldLink RX5 17 "SewingFramesModel" "ahead" "[I"] ++ wsX50)
def wsX5_isBook : List Cond := .code yX5_isBook cX5_isBook 2 (some .boolean) :: ([.fieldLink RX5 13 "SewingFramesModel" "now" "[I", .methodLink RX5 20 yX5_isIn, .static yX5_isIn, .initialized RX5, .code yX5_isIn cX5_isIn 3 (some .boolean)] ++ wsX50)
def wsX5_isSewer : List Cond := .code yX5_isSewer cX5_isSewer 2 (some .boolean) :: ([.fieldLink RX5 13 "SewingFramesModel" "now" "[I", .methodLink RX5 20 yX5_isIn, .static yX5_isIn, .initialized RX5, .code yX5_isIn cX5_isIn 3 (some .boolean)] ++ wsX50)
def wsX5_isFrame : List Cond := .code yX5_isFrame cX5_isFrame 1 (some .boolean) :: ([.methodLink RX5 20 yX5_isIn, .static yX5_isIn, .initialized RX5, .code yX5_isIn cX5_isIn 3 (some .boolean)])
def wsX5_thick : List Cond := .code yX5_thick cX5_thick 2 (some .int) :: ([])
def wsX5_stitches : List Cond := .code yX5_stitches cX5_stitches 3 (some .int) :: ([])
def wsX5_worthOf : List Cond := .code yX5_worthOf cX5_worthOf 2 (some .int) :: ([.methodLink RX5 24 Lib.Math.max.name, .static Lib.Math.max.name, .initialized "java/lang/Math", .code Lib.Math.max.name Lib.Math.max.code 2 (some .int)])
def wsX5_upTo : List Cond := .code yX5_upTo cX5_upTo 5 (some .int) :: ([.methodLink RX5 30 yX5_stitches, .static yX5_stitches, .initialized RX5, .code yX5_stitches cX5_stitches 3 (some .int)])
def wsX5_inBook : List Cond := .code yX5_inBook cX5_inBook 2 (some .int) :: ([.methodLink RX5 34 yX5_upTo, .static yX5_upTo, .initialized RX5, .code yX5_upTo cX5_upTo 5 (some .int), .methodLink RX5 30 yX5_stitches, .static yX5_stitches, .code yX5_stitches cX5_stitches 3 (some .int)])
def wsX5_order : List Cond := .code yX5_order cX5_order 5 (some .int) :: ([.fieldLink RX5 1 "SewingFramesModel" "thrown" "I", .fieldLink RX5 13 "SewingFramesModel" "now" "[I", .methodLink RX5 20 yX5_isIn, .static yX5_isIn, .initialized RX5, .code yX5_isIn cX5_isIn 3 (some .boolean), .methodLink RX5 37 yX5_no, .instanceMethod yX5_no, .selects RX5 yX5_no yX5_no, .code yX5_no cX5_no 2 (some .int)] ++ wsX50)
def wsX5_unpick : List Cond := .code yX5_unpick cX5_unpick 9 (some .int) :: ([.fieldLink RX5 1 "SewingFramesModel" "thrown" "I", .fieldLink RX5 13 "SewingFramesModel" "now" "[I", .arrayClass .int, .methodLink RX5 41 yX5_isBook, .instanceMethod yX5_isBook, .selects RX5 yX5_isBook yX5_isBook, .initialized RX5, .code yX5_isBook cX5_isBook 2 (some .boolean), .methodLink RX5 20 yX5_isIn, .static yX5_isIn, .code yX5_isIn cX5_isIn 3 (some .boolean), .methodLink RX5 37 yX5_no, .instanceMethod yX5_no, .selects RX5 yX5_no yX5_no, .code yX5_no cX5_no 2 (some .int), .methodLink RX5 45 yX5_inBook, .static yX5_inBook, .code yX5_inBook cX5_inBook 2 (some .int), .methodLink RX5 34 yX5_upTo, .static yX5_upTo, .code yX5_upTo cX5_upTo 5 (some .int), .methodLink RX5 30 yX5_stitches, .static yX5_stitches, .code yX5_stitches cX5_stitches 3 (some .int)] ++ wsX50)
def wsX5_sell : List Cond := .code yX5_sell cX5_sell 3 (some .int) :: ([.fieldLink RX5 1 "SewingFramesModel" "thrown" "I", .fieldLink RX5 13 "SewingFramesModel" "now" "[I", .methodLink RX5 41 yX5_isBook, .instanceMethod yX5_isBook, .selects RX5 yX5_isBook yX5_isBook, .initialized RX5, .code yX5_isBook cX5_isBook 2 (some .boolean), .methodLink RX5 20 yX5_isIn, .static yX5_isIn, .code yX5_isIn cX5_isIn 3 (some .boolean), .methodLink RX5 37 yX5_no, .instanceMethod yX5_no, .selects RX5 yX5_no yX5_no, .code yX5_no cX5_no 2 (some .int), .methodLink RX5 49 yX5_worthOf, .static yX5_worthOf, .code yX5_worthOf cX5_worthOf 2 (some .int), .methodLink RX5 24 Lib.Math.max.name, .static Lib.Math.max.name, .initialized "java/lang/Math", .code Lib.Math.max.name Lib.Math.max.code 2 (some .int)] ++ wsX50)
def wsX5_bookTold : List Cond := .code yX5_bookTold cX5_bookTold 3 (some .int) :: ([.fieldLink RX5 13 "SewingFramesModel" "now" "[I", .methodLink RX5 49 yX5_worthOf, .static yX5_worthOf, .initialized RX5, .code yX5_worthOf cX5_worthOf 2 (some .int), .methodLink RX5 24 Lib.Math.max.name, .static Lib.Math.max.name, .initialized "java/lang/Math", .code Lib.Math.max.name Lib.Math.max.code 2 (some .int)] ++ wsX50)
def wsX5_told_r1 : List Cond := [Cond.fieldLink RX5 1 "SewingFramesModel" "thrown" "I", Cond.methodLink RX5 41 yX5_isBook, Cond.instanceMethod yX5_isBook, Cond.selects RX5 yX5_isBook yX5_isBook, Cond.initialized RX5, Cond.code yX5_isBook cX5_isBook 2 (some .boolean), Cond.fieldLink RX5 13 "SewingFramesModel" "now" "[I", Cond.methodLink RX5 20 yX5_isIn, Cond.static yX5_isIn, Cond.code yX5_isIn cX5_isIn 3 (some .boolean), Cond.methodLink RX5 52 yX5_bookTold, Cond.instanceMethod yX5_bookTold, Cond.selects RX5 yX5_bookTold yX5_bookTold, Cond.code yX5_bookTold cX5_bookTold 3 (some .int), Cond.methodLink RX5 49 yX5_worthOf, Cond.static yX5_worthOf, Cond.code yX5_worthOf cX5_worthOf 2 (some .int), Cond.methodLink RX5 24 Lib.Math.max.name, Cond.static Lib.Math.max.name, Cond.initialized "java/lang/Math", Cond.code Lib.Math.max.name Lib.Math.max.code 2 (some .int), Cond.methodLink RX5 37 yX5_no, Cond.instanceMethod yX5_no, Cond.selects RX5 yX5_no yX5_no]
def wsX5_told_r2 : List Cond := [Cond.code yX5_no cX5_no 2 (some .int)]
def wsX5_told : List Cond := .code yX5_told cX5_told 3 (some .int) :: ((wsX5_told_r1 ++ wsX5_told_r2) ++ wsX50)
def wsX5_hire : List Cond := .code yX5_hire cX5_hire 2 (some .int) :: ([.fieldLink RX5 1 "SewingFramesModel" "thrown" "I", .fieldLink RX5 13 "SewingFramesModel" "now" "[I", .methodLink RX5 20 yX5_isIn, .static yX5_isIn, .initialized RX5, .code yX5_isIn cX5_isIn 3 (some .boolean), .methodLink RX5 37 yX5_no, .instanceMethod yX5_no, .selects RX5 yX5_no yX5_no, .code yX5_no cX5_no 2 (some .int)] ++ wsX50)
def wsX5_others : List Cond := .code yX5_others cX5_others 5 (some .int) :: ([.fieldLink RX5 13 "SewingFramesModel" "now" "[I"] ++ wsX50)
def wsX5_seat : List Cond := .code yX5_seat cX5_seat 4 (some .int) :: ([.fieldLink RX5 1 "SewingFramesModel" "thrown" "I", .fieldLink RX5 13 "SewingFramesModel" "now" "[I", .methodLink RX5 55 yX5_isSewer, .instanceMethod yX5_isSewer, .selects RX5 yX5_isSewer yX5_isSewer, .initialized RX5, .code yX5_isSewer cX5_isSewer 2 (some .boolean), .methodLink RX5 20 yX5_isIn, .static yX5_isIn, .code yX5_isIn cX5_isIn 3 (some .boolean), .methodLink RX5 37 yX5_no, .instanceMethod yX5_no, .selects RX5 yX5_no yX5_no, .code yX5_no cX5_no 2 (some .int), .methodLink RX5 58 yX5_others, .instanceMethod yX5_others, .selects RX5 yX5_others yX5_others, .code yX5_others cX5_others 5 (some .int)] ++ wsX50)
def wsX5_sewer : List Cond := .code yX5_sewer cX5_sewer 3 (some .int) :: ([.fieldLink RX5 1 "SewingFramesModel" "thrown" "I", .fieldLink RX5 13 "SewingFramesModel" "now" "[I", .methodLink RX5 55 yX5_isSewer, .instanceMethod yX5_isSewer, .selects RX5 yX5_isSewer yX5_isSewer, .initialized RX5, .code yX5_isSewer cX5_isSewer 2 (some .boolean), .methodLink RX5 20 yX5_isIn, .static yX5_isIn, .code yX5_isIn cX5_isIn 3 (some .boolean), .methodLink RX5 37 yX5_no, .instanceMethod yX5_no, .selects RX5 yX5_no yX5_no, .code yX5_no cX5_no 2 (some .int)] ++ wsX50)
def wsX5_string : List Cond := .code yX5_string cX5_string 4 (some .int) :: ([.fieldLink RX5 1 "SewingFramesModel" "thrown" "I", .fieldLink RX5 13 "SewingFramesModel" "now" "[I", .methodLink RX5 61 yX5_isFrame, .static yX5_isFrame, .initialized RX5, .code yX5_isFrame cX5_isFrame 1 (some .boolean), .methodLink RX5 20 yX5_isIn, .static yX5_isIn, .code yX5_isIn cX5_isIn 3 (some .boolean), .methodLink RX5 37 yX5_no, .instanceMethod yX5_no, .selects RX5 yX5_no yX5_no, .code yX5_no cX5_no 2 (some .int)] ++ wsX50)
def wsX5_rate : List Cond := .code yX5_rate cX5_rate 5 (some .int) :: ([.methodLink RX5 24 Lib.Math.max.name, .static Lib.Math.max.name, .initialized "java/lang/Math", .code Lib.Math.max.name Lib.Math.max.code 2 (some .int)])
def wsX5_left : List Cond := .code yX5_left cX5_left 2 (some .int) :: ([.fieldLink RX5 13 "SewingFramesModel" "now" "[I", .methodLink RX5 34 yX5_upTo, .static yX5_upTo, .initialized RX5, .code yX5_upTo cX5_upTo 5 (some .int), .methodLink RX5 30 yX5_stitches, .static yX5_stitches, .code yX5_stitches cX5_stitches 3 (some .int), .methodLink RX5 45 yX5_inBook, .static yX5_inBook, .code yX5_inBook cX5_inBook 2 (some .int)] ++ wsX50)
def wsX5_frameTold_r1 : List Cond := [Cond.fieldLink RX5 13 "SewingFramesModel" "now" "[I", Cond.methodLink RX5 58 yX5_others, Cond.instanceMethod yX5_others, Cond.selects RX5 yX5_others yX5_others, Cond.initialized RX5, Cond.code yX5_others cX5_others 5 (some .int), Cond.methodLink RX5 64 yX5_rate, Cond.static yX5_rate, Cond.code yX5_rate cX5_rate 5 (some .int), Cond.methodLink RX5 24 Lib.Math.max.name, Cond.static Lib.Math.max.name, Cond.initialized "java/lang/Math", Cond.code Lib.Math.max.name Lib.Math.max.code 2 (some .int), Cond.methodLink RX5 67 yX5_left, Cond.instanceMethod yX5_left, Cond.selects RX5 yX5_left yX5_left, Cond.code yX5_left cX5_left 2 (some .int), Cond.methodLink RX5 34 yX5_upTo, Cond.static yX5_upTo, Cond.code yX5_upTo cX5_upTo 5 (some .int), Cond.methodLink RX5 30 yX5_stitches, Cond.static yX5_stitches, Cond.code yX5_stitches cX5_stitches 3 (some .int), Cond.methodLink RX5 45 yX5_inBook]
def wsX5_frameTold_r2 : List Cond := [Cond.static yX5_inBook, Cond.code yX5_inBook cX5_inBook 2 (some .int)]
def wsX5_frameTold : List Cond := .code yX5_frameTold cX5_frameTold 4 (some .int) :: ((wsX5_frameTold_r1 ++ wsX5_frameTold_r2) ++ wsX50)
def wsX5_frame_r1 : List Cond := [Cond.fieldLink RX5 1 "SewingFramesModel" "thrown" "I", Cond.methodLink RX5 61 yX5_isFrame, Cond.static yX5_isFrame, Cond.initialized RX5, Cond.code yX5_isFrame cX5_isFrame 1 (some .boolean), Cond.methodLink RX5 20 yX5_isIn, Cond.static yX5_isIn, Cond.code yX5_isIn cX5_isIn 3 (some .boolean), Cond.methodLink RX5 70 yX5_frameTold, Cond.instanceMethod yX5_frameTold, Cond.selects RX5 yX5_frameTold yX5_frameTold, Cond.code yX5_frameTold cX5_frameTold 4 (some .int), Cond.fieldLink RX5 13 "SewingFramesModel" "now" "[I", Cond.methodLink RX5 58 yX5_others, Cond.instanceMethod yX5_others, Cond.selects RX5 yX5_others yX5_others, Cond.code yX5_others cX5_others 5 (some .int), Cond.methodLink RX5 64 yX5_rate, Cond.static yX5_rate, Cond.code yX5_rate cX5_rate 5 (some .int), Cond.methodLink RX5 24 Lib.Math.max.name, Cond.static Lib.Math.max.name, Cond.initialized "java/lang/Math", Cond.code Lib.Math.max.name Lib.Math.max.code 2 (some .int)]
def wsX5_frame_r2 : List Cond := [Cond.methodLink RX5 67 yX5_left, Cond.instanceMethod yX5_left, Cond.selects RX5 yX5_left yX5_left, Cond.code yX5_left cX5_left 2 (some .int), Cond.methodLink RX5 34 yX5_upTo, Cond.static yX5_upTo, Cond.code yX5_upTo cX5_upTo 5 (some .int), Cond.methodLink RX5 30 yX5_stitches, Cond.static yX5_stitches, Cond.code yX5_stitches cX5_stitches 3 (some .int), Cond.methodLink RX5 45 yX5_inBook, Cond.static yX5_inBook, Cond.code yX5_inBook cX5_inBook 2 (some .int), Cond.methodLink RX5 37 yX5_no, Cond.instanceMethod yX5_no, Cond.selects RX5 yX5_no yX5_no, Cond.code yX5_no cX5_no 2 (some .int)]
def wsX5_frame : List Cond := .code yX5_frame cX5_frame 3 (some .int) :: ((wsX5_frame_r1 ++ wsX5_frame_r2) ++ wsX50)
def wsX5_buy : List Cond := .code yX5_buy cX5_buy 4 (some .int) :: ([.fieldLink RX5 1 "SewingFramesModel" "thrown" "I", .fieldLink RX5 13 "SewingFramesModel" "now" "[I", .methodLink RX5 20 yX5_isIn, .static yX5_isIn, .initialized RX5, .code yX5_isIn cX5_isIn 3 (some .boolean), .methodLink RX5 37 yX5_no, .instanceMethod yX5_no, .selects RX5 yX5_no yX5_no, .code yX5_no cX5_no 2 (some .int)] ++ wsX50)
def wsX5_like : List Cond := .code yX5_like cX5_like 4 (some .int) :: ([])
def wsX5_counted : List Cond := .code yX5_counted cX5_counted 2 (some .int) :: ([.methodLink RX5 73 yX5_like, .static yX5_like, .initialized RX5, .code yX5_like cX5_like 4 (some .int)])
def wsX5_count : List Cond := .code yX5_count cX5_count 2 (some .int) :: ([.fieldLink RX5 1 "SewingFramesModel" "thrown" "I", .fieldLink RX5 13 "SewingFramesModel" "now" "[I", .methodLink RX5 20 yX5_isIn, .static yX5_isIn, .initialized RX5, .code yX5_isIn cX5_isIn 3 (some .boolean), .methodLink RX5 76 yX5_counted, .static yX5_counted, .code yX5_counted cX5_counted 2 (some .int), .methodLink RX5 73 yX5_like, .static yX5_like, .code yX5_like cX5_like 4 (some .int), .methodLink RX5 37 yX5_no, .instanceMethod yX5_no, .selects RX5 yX5_no yX5_no, .code yX5_no cX5_no 2 (some .int)] ++ wsX50)
def wsX5_first : List Cond := .code yX5_first cX5_first 3 (some .int) :: ([])
def wsX5_gild : List Cond := .code yX5_gild cX5_gild 4 none :: ([.methodLink RX5 79 yX5_first, .static yX5_first, .initialized RX5, .code yX5_first cX5_first 3 (some .int), .methodLink RX5 82 yX5_thick, .static yX5_thick, .code yX5_thick cX5_thick 2 (some .int)])
def wsX5_board : List Cond := .code yX5_board cX5_board 2 none :: ([])
def wsX5_dry : List Cond := .code yX5_dry cX5_dry 2 none :: ([])
def wsX5_sew : List Cond := .code yX5_sew cX5_sew 6 none :: ([.methodLink RX5 64 yX5_rate, .static yX5_rate, .initialized RX5, .code yX5_rate cX5_rate 5 (some .int), .methodLink RX5 24 Lib.Math.max.name, .static Lib.Math.max.name, .initialized "java/lang/Math", .code Lib.Math.max.name Lib.Math.max.code 2 (some .int), .methodLink RX5 30 yX5_stitches, .static yX5_stitches, .code yX5_stitches cX5_stitches 3 (some .int), .methodLink RX5 82 yX5_thick, .static yX5_thick, .code yX5_thick cX5_thick 2 (some .int)])
def wsX5_mount : List Cond := .code yX5_mount cX5_mount 4 none :: ([.methodLink RX5 79 yX5_first, .static yX5_first, .initialized RX5, .code yX5_first cX5_first 3 (some .int)])
def wsX5_pass_r1 : List Cond := [Cond.methodLink RX5 85 yX5_gild, Cond.static yX5_gild, Cond.initialized RX5, Cond.code yX5_gild cX5_gild 4 none, Cond.methodLink RX5 79 yX5_first, Cond.static yX5_first, Cond.code yX5_first cX5_first 3 (some .int), Cond.methodLink RX5 82 yX5_thick, Cond.static yX5_thick, Cond.code yX5_thick cX5_thick 2 (some .int), Cond.methodLink RX5 89 yX5_board, Cond.static yX5_board, Cond.code yX5_board cX5_board 2 none, Cond.methodLink RX5 93 yX5_dry, Cond.static yX5_dry, Cond.code yX5_dry cX5_dry 2 none, Cond.methodLink RX5 96 yX5_sew, Cond.static yX5_sew, Cond.code yX5_sew cX5_sew 6 none, Cond.methodLink RX5 64 yX5_rate, Cond.static yX5_rate, Cond.code yX5_rate cX5_rate 5 (some .int), Cond.methodLink RX5 24 Lib.Math.max.name, Cond.static Lib.Math.max.name]
def wsX5_pass_r2 : List Cond := [Cond.initialized "java/lang/Math", Cond.code Lib.Math.max.name Lib.Math.max.code 2 (some .int), Cond.methodLink RX5 30 yX5_stitches, Cond.static yX5_stitches, Cond.code yX5_stitches cX5_stitches 3 (some .int), Cond.methodLink RX5 99 yX5_mount, Cond.static yX5_mount, Cond.code yX5_mount cX5_mount 4 none]
def wsX5_pass : List Cond := .code yX5_pass cX5_pass 2 none :: ((wsX5_pass_r1 ++ wsX5_pass_r2))
def wsX5_passAll_r1 : List Cond := [Cond.methodLink RX5 102 yX5_pass, Cond.static yX5_pass, Cond.initialized RX5, Cond.code yX5_pass cX5_pass 2 none, Cond.methodLink RX5 85 yX5_gild, Cond.static yX5_gild, Cond.code yX5_gild cX5_gild 4 none, Cond.methodLink RX5 79 yX5_first, Cond.static yX5_first, Cond.code yX5_first cX5_first 3 (some .int), Cond.methodLink RX5 82 yX5_thick, Cond.static yX5_thick, Cond.code yX5_thick cX5_thick 2 (some .int), Cond.methodLink RX5 89 yX5_board, Cond.static yX5_board, Cond.code yX5_board cX5_board 2 none, Cond.methodLink RX5 93 yX5_dry, Cond.static yX5_dry, Cond.code yX5_dry cX5_dry 2 none, Cond.methodLink RX5 96 yX5_sew, Cond.static yX5_sew, Cond.code yX5_sew cX5_sew 6 none, Cond.methodLink RX5 64 yX5_rate, Cond.static yX5_rate]
def wsX5_passAll_r2 : List Cond := [Cond.code yX5_rate cX5_rate 5 (some .int), Cond.methodLink RX5 24 Lib.Math.max.name, Cond.static Lib.Math.max.name, Cond.initialized "java/lang/Math", Cond.code Lib.Math.max.name Lib.Math.max.code 2 (some .int), Cond.methodLink RX5 30 yX5_stitches, Cond.static yX5_stitches, Cond.code yX5_stitches cX5_stitches 3 (some .int), Cond.methodLink RX5 99 yX5_mount, Cond.static yX5_mount, Cond.code yX5_mount cX5_mount 4 none]
def wsX5_passAll : List Cond := .code yX5_passAll cX5_passAll 3 none :: ((wsX5_passAll_r1 ++ wsX5_passAll_r2))
def wsX5_lookAhead : List Cond := .code yX5_lookAhead cX5_lookAhead 1 none :: ([.fieldLink RX5 13 "SewingFramesModel" "now" "[I", .fieldLink RX5 17 "SewingFramesModel" "ahead" "[I", .methodLink RX5 105 arraycopyName, .native arraycopyName, .static arraycopyName, .initialized "java/lang/System"] ++ wsX50)
def wsX5_pass__r1 : List Cond := [Cond.fieldLink RX5 1 "SewingFramesModel" "thrown" "I", Cond.fieldLink RX5 13 "SewingFramesModel" "now" "[I", Cond.methodLink RX5 20 yX5_isIn, Cond.static yX5_isIn, Cond.initialized RX5, Cond.code yX5_isIn cX5_isIn 3 (some .boolean), Cond.methodLink RX5 37 yX5_no, Cond.instanceMethod yX5_no, Cond.selects RX5 yX5_no yX5_no, Cond.code yX5_no cX5_no 2 (some .int), Cond.methodLink RX5 73 yX5_like, Cond.static yX5_like, Cond.code yX5_like cX5_like 4 (some .int), Cond.methodLink RX5 111 yX5_passAll, Cond.static yX5_passAll, Cond.code yX5_passAll cX5_passAll 3 none, Cond.methodLink RX5 102 yX5_pass, Cond.static yX5_pass, Cond.code yX5_pass cX5_pass 2 none, Cond.methodLink RX5 85 yX5_gild, Cond.static yX5_gild, Cond.code yX5_gild cX5_gild 4 none, Cond.methodLink RX5 79 yX5_first, Cond.static yX5_first]
def wsX5_pass__r2 : List Cond := [Cond.code yX5_first cX5_first 3 (some .int), Cond.methodLink RX5 82 yX5_thick, Cond.static yX5_thick, Cond.code yX5_thick cX5_thick 2 (some .int), Cond.methodLink RX5 89 yX5_board, Cond.static yX5_board, Cond.code yX5_board cX5_board 2 none, Cond.methodLink RX5 93 yX5_dry, Cond.static yX5_dry, Cond.code yX5_dry cX5_dry 2 none, Cond.methodLink RX5 96 yX5_sew, Cond.static yX5_sew, Cond.code yX5_sew cX5_sew 6 none, Cond.methodLink RX5 64 yX5_rate, Cond.static yX5_rate, Cond.code yX5_rate cX5_rate 5 (some .int), Cond.methodLink RX5 24 Lib.Math.max.name, Cond.static Lib.Math.max.name, Cond.initialized "java/lang/Math", Cond.code Lib.Math.max.name Lib.Math.max.code 2 (some .int), Cond.methodLink RX5 30 yX5_stitches, Cond.static yX5_stitches, Cond.code yX5_stitches cX5_stitches 3 (some .int), Cond.methodLink RX5 99 yX5_mount]
def wsX5_pass__r3 : List Cond := [Cond.static yX5_mount, Cond.code yX5_mount cX5_mount 4 none]
def wsX5_pass_ : List Cond := .code yX5_pass_ cX5_pass_ 3 (some .int) :: ((wsX5_pass__r1 ++ (wsX5_pass__r2 ++ wsX5_pass__r3)) ++ wsX50)
def wsX5_foresee_r1 : List Cond := [Cond.fieldLink RX5 1 "SewingFramesModel" "thrown" "I", Cond.fieldLink RX5 17 "SewingFramesModel" "ahead" "[I", Cond.methodLink RX5 20 yX5_isIn, Cond.static yX5_isIn, Cond.initialized RX5, Cond.code yX5_isIn cX5_isIn 3 (some .boolean), Cond.methodLink RX5 37 yX5_no, Cond.instanceMethod yX5_no, Cond.selects RX5 yX5_no yX5_no, Cond.code yX5_no cX5_no 2 (some .int), Cond.methodLink RX5 114 yX5_lookAhead, Cond.instanceMethod yX5_lookAhead, Cond.selects RX5 yX5_lookAhead yX5_lookAhead, Cond.code yX5_lookAhead cX5_lookAhead 1 none, Cond.fieldLink RX5 13 "SewingFramesModel" "now" "[I", Cond.methodLink RX5 105 arraycopyName, Cond.native arraycopyName, Cond.static arraycopyName, Cond.initialized "java/lang/System", Cond.methodLink RX5 111 yX5_passAll, Cond.static yX5_passAll, Cond.code yX5_passAll cX5_passAll 3 none, Cond.methodLink RX5 102 yX5_pass, Cond.static yX5_pass]
def wsX5_foresee_r2 : List Cond := [Cond.code yX5_pass cX5_pass 2 none, Cond.methodLink RX5 85 yX5_gild, Cond.static yX5_gild, Cond.code yX5_gild cX5_gild 4 none, Cond.methodLink RX5 79 yX5_first, Cond.static yX5_first, Cond.code yX5_first cX5_first 3 (some .int), Cond.methodLink RX5 82 yX5_thick, Cond.static yX5_thick, Cond.code yX5_thick cX5_thick 2 (some .int), Cond.methodLink RX5 89 yX5_board, Cond.static yX5_board, Cond.code yX5_board cX5_board 2 none, Cond.methodLink RX5 93 yX5_dry, Cond.static yX5_dry, Cond.code yX5_dry cX5_dry 2 none, Cond.methodLink RX5 96 yX5_sew, Cond.static yX5_sew, Cond.code yX5_sew cX5_sew 6 none, Cond.methodLink RX5 64 yX5_rate, Cond.static yX5_rate, Cond.code yX5_rate cX5_rate 5 (some .int), Cond.methodLink RX5 24 Lib.Math.max.name, Cond.static Lib.Math.max.name]
def wsX5_foresee_r3 : List Cond := [Cond.initialized "java/lang/Math", Cond.code Lib.Math.max.name Lib.Math.max.code 2 (some .int), Cond.methodLink RX5 30 yX5_stitches, Cond.static yX5_stitches, Cond.code yX5_stitches cX5_stitches 3 (some .int), Cond.methodLink RX5 99 yX5_mount, Cond.static yX5_mount, Cond.code yX5_mount cX5_mount 4 none, Cond.methodLink RX5 76 yX5_counted, Cond.static yX5_counted, Cond.code yX5_counted cX5_counted 2 (some .int), Cond.methodLink RX5 73 yX5_like, Cond.static yX5_like, Cond.code yX5_like cX5_like 4 (some .int)]
def wsX5_foresee : List Cond := .code yX5_foresee cX5_foresee 3 (some .int) :: ((wsX5_foresee_r1 ++ (wsX5_foresee_r2 ++ wsX5_foresee_r3)) ++ wsX50)
def wsX5_doneIn_r1 : List Cond := [Cond.fieldLink RX5 17 "SewingFramesModel" "ahead" "[I", Cond.methodLink RX5 114 yX5_lookAhead, Cond.instanceMethod yX5_lookAhead, Cond.selects RX5 yX5_lookAhead yX5_lookAhead, Cond.initialized RX5, Cond.code yX5_lookAhead cX5_lookAhead 1 none, Cond.fieldLink RX5 13 "SewingFramesModel" "now" "[I", Cond.methodLink RX5 105 arraycopyName, Cond.native arraycopyName, Cond.static arraycopyName, Cond.initialized "java/lang/System", Cond.methodLink RX5 102 yX5_pass, Cond.static yX5_pass, Cond.code yX5_pass cX5_pass 2 none, Cond.methodLink RX5 85 yX5_gild, Cond.static yX5_gild, Cond.code yX5_gild cX5_gild 4 none, Cond.methodLink RX5 79 yX5_first, Cond.static yX5_first, Cond.code yX5_first cX5_first 3 (some .int), Cond.methodLink RX5 82 yX5_thick, Cond.static yX5_thick, Cond.code yX5_thick cX5_thick 2 (some .int), Cond.methodLink RX5 89 yX5_board]
def wsX5_doneIn_r2 : List Cond := [Cond.static yX5_board, Cond.code yX5_board cX5_board 2 none, Cond.methodLink RX5 93 yX5_dry, Cond.static yX5_dry, Cond.code yX5_dry cX5_dry 2 none, Cond.methodLink RX5 96 yX5_sew, Cond.static yX5_sew, Cond.code yX5_sew cX5_sew 6 none, Cond.methodLink RX5 64 yX5_rate, Cond.static yX5_rate, Cond.code yX5_rate cX5_rate 5 (some .int), Cond.methodLink RX5 24 Lib.Math.max.name, Cond.static Lib.Math.max.name, Cond.initialized "java/lang/Math", Cond.code Lib.Math.max.name Lib.Math.max.code 2 (some .int), Cond.methodLink RX5 30 yX5_stitches, Cond.static yX5_stitches, Cond.code yX5_stitches cX5_stitches 3 (some .int), Cond.methodLink RX5 99 yX5_mount, Cond.static yX5_mount, Cond.code yX5_mount cX5_mount 4 none]
def wsX5_doneIn : List Cond := .code yX5_doneIn cX5_doneIn 3 (some .int) :: ((wsX5_doneIn_r1 ++ wsX5_doneIn_r2) ++ wsX50)
def wsX5_until_r1 : List Cond := [Cond.fieldLink RX5 1 "SewingFramesModel" "thrown" "I", Cond.methodLink RX5 41 yX5_isBook, Cond.instanceMethod yX5_isBook, Cond.selects RX5 yX5_isBook yX5_isBook, Cond.initialized RX5, Cond.code yX5_isBook cX5_isBook 2 (some .boolean), Cond.fieldLink RX5 13 "SewingFramesModel" "now" "[I", Cond.methodLink RX5 20 yX5_isIn, Cond.static yX5_isIn, Cond.code yX5_isIn cX5_isIn 3 (some .boolean), Cond.methodLink RX5 117 yX5_doneIn, Cond.instanceMethod yX5_doneIn, Cond.selects RX5 yX5_doneIn yX5_doneIn, Cond.code yX5_doneIn cX5_doneIn 3 (some .int), Cond.fieldLink RX5 17 "SewingFramesModel" "ahead" "[I", Cond.methodLink RX5 114 yX5_lookAhead, Cond.instanceMethod yX5_lookAhead, Cond.selects RX5 yX5_lookAhead yX5_lookAhead, Cond.code yX5_lookAhead cX5_lookAhead 1 none, Cond.methodLink RX5 105 arraycopyName, Cond.native arraycopyName, Cond.static arraycopyName, Cond.initialized "java/lang/System", Cond.methodLink RX5 102 yX5_pass]
def wsX5_until_r2 : List Cond := [Cond.static yX5_pass, Cond.code yX5_pass cX5_pass 2 none, Cond.methodLink RX5 85 yX5_gild, Cond.static yX5_gild, Cond.code yX5_gild cX5_gild 4 none, Cond.methodLink RX5 79 yX5_first, Cond.static yX5_first, Cond.code yX5_first cX5_first 3 (some .int), Cond.methodLink RX5 82 yX5_thick, Cond.static yX5_thick, Cond.code yX5_thick cX5_thick 2 (some .int), Cond.methodLink RX5 89 yX5_board, Cond.static yX5_board, Cond.code yX5_board cX5_board 2 none, Cond.methodLink RX5 93 yX5_dry, Cond.static yX5_dry, Cond.code yX5_dry cX5_dry 2 none, Cond.methodLink RX5 96 yX5_sew, Cond.static yX5_sew, Cond.code yX5_sew cX5_sew 6 none, Cond.methodLink RX5 64 yX5_rate, Cond.static yX5_rate, Cond.code yX5_rate cX5_rate 5 (some .int), Cond.methodLink RX5 24 Lib.Math.max.name]
def wsX5_until_r3 : List Cond := [Cond.static Lib.Math.max.name, Cond.initialized "java/lang/Math", Cond.code Lib.Math.max.name Lib.Math.max.code 2 (some .int), Cond.methodLink RX5 30 yX5_stitches, Cond.static yX5_stitches, Cond.code yX5_stitches cX5_stitches 3 (some .int), Cond.methodLink RX5 99 yX5_mount, Cond.static yX5_mount, Cond.code yX5_mount cX5_mount 4 none, Cond.methodLink RX5 37 yX5_no, Cond.instanceMethod yX5_no, Cond.selects RX5 yX5_no yX5_no, Cond.code yX5_no cX5_no 2 (some .int)]
def wsX5_until : List Cond := .code yX5_until cX5_until 2 (some .int) :: ((wsX5_until_r1 ++ (wsX5_until_r2 ++ wsX5_until_r3)) ++ wsX50)
def wsX5_next_r1 : List Cond := [Cond.fieldLink RX5 1 "SewingFramesModel" "thrown" "I", Cond.fieldLink RX5 13 "SewingFramesModel" "now" "[I", Cond.methodLink RX5 117 yX5_doneIn, Cond.instanceMethod yX5_doneIn, Cond.selects RX5 yX5_doneIn yX5_doneIn, Cond.initialized RX5, Cond.code yX5_doneIn cX5_doneIn 3 (some .int), Cond.fieldLink RX5 17 "SewingFramesModel" "ahead" "[I", Cond.methodLink RX5 114 yX5_lookAhead, Cond.instanceMethod yX5_lookAhead, Cond.selects RX5 yX5_lookAhead yX5_lookAhead, Cond.code yX5_lookAhead cX5_lookAhead 1 none, Cond.methodLink RX5 105 arraycopyName, Cond.native arraycopyName, Cond.static arraycopyName, Cond.initialized "java/lang/System", Cond.methodLink RX5 102 yX5_pass, Cond.static yX5_pass, Cond.code yX5_pass cX5_pass 2 none, Cond.methodLink RX5 85 yX5_gild, Cond.static yX5_gild, Cond.code yX5_gild cX5_gild 4 none, Cond.methodLink RX5 79 yX5_first, Cond.static yX5_first]
def wsX5_next_r2 : List Cond := [Cond.code yX5_first cX5_first 3 (some .int), Cond.methodLink RX5 82 yX5_thick, Cond.static yX5_thick, Cond.code yX5_thick cX5_thick 2 (some .int), Cond.methodLink RX5 89 yX5_board, Cond.static yX5_board, Cond.code yX5_board cX5_board 2 none, Cond.methodLink RX5 93 yX5_dry, Cond.static yX5_dry, Cond.code yX5_dry cX5_dry 2 none, Cond.methodLink RX5 96 yX5_sew, Cond.static yX5_sew, Cond.code yX5_sew cX5_sew 6 none, Cond.methodLink RX5 64 yX5_rate, Cond.static yX5_rate, Cond.code yX5_rate cX5_rate 5 (some .int), Cond.methodLink RX5 24 Lib.Math.max.name, Cond.static Lib.Math.max.name, Cond.initialized "java/lang/Math", Cond.code Lib.Math.max.name Lib.Math.max.code 2 (some .int), Cond.methodLink RX5 30 yX5_stitches, Cond.static yX5_stitches, Cond.code yX5_stitches cX5_stitches 3 (some .int), Cond.methodLink RX5 99 yX5_mount]
def wsX5_next_r3 : List Cond := [Cond.static yX5_mount, Cond.code yX5_mount cX5_mount 4 none]
def wsX5_next : List Cond := .code yX5_next cX5_next 5 (some .int) :: ((wsX5_next_r1 ++ (wsX5_next_r2 ++ wsX5_next_r3)) ++ wsX50)
def wsX5_stitchesWith_r1 : List Cond := [Cond.fieldLink RX5 17 "SewingFramesModel" "ahead" "[I", Cond.methodLink RX5 114 yX5_lookAhead, Cond.instanceMethod yX5_lookAhead, Cond.selects RX5 yX5_lookAhead yX5_lookAhead, Cond.initialized RX5, Cond.code yX5_lookAhead cX5_lookAhead 1 none, Cond.fieldLink RX5 13 "SewingFramesModel" "now" "[I", Cond.methodLink RX5 105 arraycopyName, Cond.native arraycopyName, Cond.static arraycopyName, Cond.initialized "java/lang/System", Cond.methodLink RX5 111 yX5_passAll, Cond.static yX5_passAll, Cond.code yX5_passAll cX5_passAll 3 none, Cond.methodLink RX5 102 yX5_pass, Cond.static yX5_pass, Cond.code yX5_pass cX5_pass 2 none, Cond.methodLink RX5 85 yX5_gild, Cond.static yX5_gild, Cond.code yX5_gild cX5_gild 4 none, Cond.methodLink RX5 79 yX5_first, Cond.static yX5_first, Cond.code yX5_first cX5_first 3 (some .int), Cond.methodLink RX5 82 yX5_thick]
def wsX5_stitchesWith_r2 : List Cond := [Cond.static yX5_thick, Cond.code yX5_thick cX5_thick 2 (some .int), Cond.methodLink RX5 89 yX5_board, Cond.static yX5_board, Cond.code yX5_board cX5_board 2 none, Cond.methodLink RX5 93 yX5_dry, Cond.static yX5_dry, Cond.code yX5_dry cX5_dry 2 none, Cond.methodLink RX5 96 yX5_sew, Cond.static yX5_sew, Cond.code yX5_sew cX5_sew 6 none, Cond.methodLink RX5 64 yX5_rate, Cond.static yX5_rate, Cond.code yX5_rate cX5_rate 5 (some .int), Cond.methodLink RX5 24 Lib.Math.max.name, Cond.static Lib.Math.max.name, Cond.initialized "java/lang/Math", Cond.code Lib.Math.max.name Lib.Math.max.code 2 (some .int), Cond.methodLink RX5 30 yX5_stitches, Cond.static yX5_stitches, Cond.code yX5_stitches cX5_stitches 3 (some .int), Cond.methodLink RX5 99 yX5_mount, Cond.static yX5_mount, Cond.code yX5_mount cX5_mount 4 none]
def wsX5_stitchesWith : List Cond := .code yX5_stitchesWith cX5_stitchesWith 3 (some .int) :: ((wsX5_stitchesWith_r1 ++ wsX5_stitchesWith_r2) ++ wsX50)
def wsX5_advise_r1 : List Cond := [Cond.fieldLink RX5 1 "SewingFramesModel" "thrown" "I", Cond.methodLink RX5 55 yX5_isSewer, Cond.instanceMethod yX5_isSewer, Cond.selects RX5 yX5_isSewer yX5_isSewer, Cond.initialized RX5, Cond.code yX5_isSewer cX5_isSewer 2 (some .boolean), Cond.fieldLink RX5 13 "SewingFramesModel" "now" "[I", Cond.methodLink RX5 20 yX5_isIn, Cond.static yX5_isIn, Cond.code yX5_isIn cX5_isIn 3 (some .boolean), Cond.methodLink RX5 37 yX5_no, Cond.instanceMethod yX5_no, Cond.selects RX5 yX5_no yX5_no, Cond.code yX5_no cX5_no 2 (some .int), Cond.methodLink RX5 58 yX5_others, Cond.instanceMethod yX5_others, Cond.selects RX5 yX5_others yX5_others, Cond.code yX5_others cX5_others 5 (some .int), Cond.methodLink RX5 120 yX5_stitchesWith, Cond.instanceMethod yX5_stitchesWith, Cond.selects RX5 yX5_stitchesWith yX5_stitchesWith, Cond.code yX5_stitchesWith cX5_stitchesWith 3 (some .int), Cond.fieldLink RX5 17 "SewingFramesModel" "ahead" "[I", Cond.methodLink RX5 114 yX5_lookAhead]
def wsX5_advise_r2 : List Cond := [Cond.instanceMethod yX5_lookAhead, Cond.selects RX5 yX5_lookAhead yX5_lookAhead, Cond.code yX5_lookAhead cX5_lookAhead 1 none, Cond.methodLink RX5 105 arraycopyName, Cond.native arraycopyName, Cond.static arraycopyName, Cond.initialized "java/lang/System", Cond.methodLink RX5 111 yX5_passAll, Cond.static yX5_passAll, Cond.code yX5_passAll cX5_passAll 3 none, Cond.methodLink RX5 102 yX5_pass, Cond.static yX5_pass, Cond.code yX5_pass cX5_pass 2 none, Cond.methodLink RX5 85 yX5_gild, Cond.static yX5_gild, Cond.code yX5_gild cX5_gild 4 none, Cond.methodLink RX5 79 yX5_first, Cond.static yX5_first, Cond.code yX5_first cX5_first 3 (some .int), Cond.methodLink RX5 82 yX5_thick, Cond.static yX5_thick, Cond.code yX5_thick cX5_thick 2 (some .int), Cond.methodLink RX5 89 yX5_board, Cond.static yX5_board]
def wsX5_advise_r3 : List Cond := [Cond.code yX5_board cX5_board 2 none, Cond.methodLink RX5 93 yX5_dry, Cond.static yX5_dry, Cond.code yX5_dry cX5_dry 2 none, Cond.methodLink RX5 96 yX5_sew, Cond.static yX5_sew, Cond.code yX5_sew cX5_sew 6 none, Cond.methodLink RX5 64 yX5_rate, Cond.static yX5_rate, Cond.code yX5_rate cX5_rate 5 (some .int), Cond.methodLink RX5 24 Lib.Math.max.name, Cond.static Lib.Math.max.name, Cond.initialized "java/lang/Math", Cond.code Lib.Math.max.name Lib.Math.max.code 2 (some .int), Cond.methodLink RX5 30 yX5_stitches, Cond.static yX5_stitches, Cond.code yX5_stitches cX5_stitches 3 (some .int), Cond.methodLink RX5 99 yX5_mount, Cond.static yX5_mount, Cond.code yX5_mount cX5_mount 4 none]
def wsX5_advise : List Cond := .code yX5_advise cX5_advise 6 (some .int) :: ((wsX5_advise_r1 ++ (wsX5_advise_r2 ++ wsX5_advise_r3)) ++ wsX50)
def wsX5_worth : List Cond := .code yX5_worth cX5_worth 3 (some .int) :: ([.fieldLink RX5 1 "SewingFramesModel" "thrown" "I", .fieldLink RX5 13 "SewingFramesModel" "now" "[I", .methodLink RX5 49 yX5_worthOf, .static yX5_worthOf, .initialized RX5, .code yX5_worthOf cX5_worthOf 2 (some .int), .methodLink RX5 24 Lib.Math.max.name, .static Lib.Math.max.name, .initialized "java/lang/Math", .code Lib.Math.max.name Lib.Math.max.code 2 (some .int)] ++ wsX50)
def wsX5_mean : List Cond := .code yX5_mean cX5_mean 4 (some .double) :: ([.fieldLink RX5 1 "SewingFramesModel" "thrown" "I", .fieldLink RX5 13 "SewingFramesModel" "now" "[I", .methodLink RX5 49 yX5_worthOf, .static yX5_worthOf, .initialized RX5, .code yX5_worthOf cX5_worthOf 2 (some .int), .methodLink RX5 24 Lib.Math.max.name, .static Lib.Math.max.name, .initialized "java/lang/Math", .code Lib.Math.max.name Lib.Math.max.code 2 (some .int)] ++ wsX50)
def wsX5_digest_r1 : List Cond := [Cond.fieldLink RX5 1 "SewingFramesModel" "thrown" "I", Cond.constantLong RX5 123 (1367), Cond.constantLong RX5 125 (31), Cond.fieldLink RX5 13 "SewingFramesModel" "now" "[I", Cond.methodLink RX5 76 yX5_counted, Cond.static yX5_counted, Cond.initialized RX5, Cond.code yX5_counted cX5_counted 2 (some .int), Cond.methodLink RX5 73 yX5_like, Cond.static yX5_like, Cond.code yX5_like cX5_like 4 (some .int), Cond.methodLink RX5 70 yX5_frameTold, Cond.instanceMethod yX5_frameTold, Cond.selects RX5 yX5_frameTold yX5_frameTold, Cond.code yX5_frameTold cX5_frameTold 4 (some .int), Cond.methodLink RX5 58 yX5_others, Cond.instanceMethod yX5_others, Cond.selects RX5 yX5_others yX5_others, Cond.code yX5_others cX5_others 5 (some .int), Cond.methodLink RX5 64 yX5_rate, Cond.static yX5_rate, Cond.code yX5_rate cX5_rate 5 (some .int), Cond.methodLink RX5 24 Lib.Math.max.name, Cond.static Lib.Math.max.name]
def wsX5_digest_r2 : List Cond := [Cond.initialized "java/lang/Math", Cond.code Lib.Math.max.name Lib.Math.max.code 2 (some .int), Cond.methodLink RX5 67 yX5_left, Cond.instanceMethod yX5_left, Cond.selects RX5 yX5_left yX5_left, Cond.code yX5_left cX5_left 2 (some .int), Cond.methodLink RX5 34 yX5_upTo, Cond.static yX5_upTo, Cond.code yX5_upTo cX5_upTo 5 (some .int), Cond.methodLink RX5 30 yX5_stitches, Cond.static yX5_stitches, Cond.code yX5_stitches cX5_stitches 3 (some .int), Cond.methodLink RX5 45 yX5_inBook, Cond.static yX5_inBook, Cond.code yX5_inBook cX5_inBook 2 (some .int), Cond.methodLink RX5 52 yX5_bookTold, Cond.instanceMethod yX5_bookTold, Cond.selects RX5 yX5_bookTold yX5_bookTold, Cond.code yX5_bookTold cX5_bookTold 3 (some .int), Cond.methodLink RX5 49 yX5_worthOf, Cond.static yX5_worthOf, Cond.code yX5_worthOf cX5_worthOf 2 (some .int)]
def wsX5_digest : List Cond := .code yX5_digest cX5_digest 4 (some .long) :: ((wsX5_digest_r1 ++ wsX5_digest_r2) ++ wsX50)
end
section
theorem dX0_init_0 : decode cX0_init 0 = .ok (.aload_n 0, 1) := by decide +kernel
theorem dX0_init_1 : decode cX0_init 1 = .ok (.invokespecial 3, 3) := by decide +kernel
theorem dX0_init_4 : decode cX0_init 4 = .ok (.aload_n 0, 1) := by decide +kernel
theorem dX0_init_5 : decode cX0_init 5 = .ok (.iload_n 1, 1) := by decide +kernel
theorem dX0_init_6 : decode cX0_init 6 = .ok (.putfield 9, 3) := by decide +kernel
theorem dX0_init_9 : decode cX0_init 9 = .ok (.aload_n 0, 1) := by decide +kernel
theorem dX0_init_10 : decode cX0_init 10 = .ok (.iconst (-1), 1) := by decide +kernel
theorem dX0_init_11 : decode cX0_init 11 = .ok (.putfield 15, 3) := by decide +kernel
theorem dX0_init_14 : decode cX0_init 14 = .ok (.aload_n 0, 1) := by decide +kernel
theorem dX0_init_15 : decode cX0_init 15 = .ok (.iconst (-1), 1) := by decide +kernel
theorem dX0_init_16 : decode cX0_init 16 = .ok (.putfield 18, 3) := by decide +kernel
theorem dX0_init_19 : decode cX0_init 19 = .ok (.return_, 1) := by decide +kernel
theorem dX0_setTo_0 : decode cX0_setTo 0 = .ok (.aload_n 0, 1) := by decide +kernel
theorem dX0_setTo_1 : decode cX0_setTo 1 = .ok (.aload_n 1, 1) := by decide +kernel
theorem dX0_setTo_2 : decode cX0_setTo 2 = .ok (.getfield 21, 3) := by decide +kernel
theorem dX0_setTo_5 : decode cX0_setTo 5 = .ok (.putfield 21, 3) := by decide +kernel
theorem dX0_setTo_8 : decode cX0_setTo 8 = .ok (.aload_n 0, 1) := by decide +kernel
theorem dX0_setTo_9 : decode cX0_setTo 9 = .ok (.aload_n 1, 1) := by decide +kernel
theorem dX0_setTo_10 : decode cX0_setTo 10 = .ok (.getfield 24, 3) := by decide +kernel
theorem dX0_setTo_13 : decode cX0_setTo 13 = .ok (.putfield 24, 3) := by decide +kernel
theorem dX0_setTo_16 : decode cX0_setTo 16 = .ok (.aload_n 0, 1) := by decide +kernel
theorem dX0_setTo_17 : decode cX0_setTo 17 = .ok (.aload_n 1, 1) := by decide +kernel
theorem dX0_setTo_18 : decode cX0_setTo 18 = .ok (.getfield 27, 3) := by decide +kernel
theorem dX0_setTo_21 : decode cX0_setTo 21 = .ok (.putfield 27, 3) := by decide +kernel
theorem dX0_setTo_24 : decode cX0_setTo 24 = .ok (.aload_n 0, 1) := by decide +kernel
theorem dX0_setTo_25 : decode cX0_setTo 25 = .ok (.aload_n 1, 1) := by decide +kernel
theorem dX0_setTo_26 : decode cX0_setTo 26 = .ok (.getfield 15, 3) := by decide +kernel
theorem dX0_setTo_29 : decode cX0_setTo 29 = .ok (.putfield 15, 3) := by decide +kernel
theorem dX0_setTo_32 : decode cX0_setTo 32 = .ok (.aload_n 0, 1) := by decide +kernel
theorem dX0_setTo_33 : decode cX0_setTo 33 = .ok (.aload_n 1, 1) := by decide +kernel
theorem dX0_setTo_34 : decode cX0_setTo 34 = .ok (.getfield 18, 3) := by decide +kernel
theorem dX0_setTo_37 : decode cX0_setTo 37 = .ok (.putfield 18, 3) := by decide +kernel
theorem dX0_setTo_40 : decode cX0_setTo 40 = .ok (.aload_n 0, 1) := by decide +kernel
theorem dX0_setTo_41 : decode cX0_setTo 41 = .ok (.aload_n 1, 1) := by decide +kernel
theorem dX0_setTo_42 : decode cX0_setTo 42 = .ok (.getfield 30, 3) := by decide +kernel
theorem dX0_setTo_45 : decode cX0_setTo 45 = .ok (.putfield 30, 3) := by decide +kernel
theorem dX0_setTo_48 : decode cX0_setTo 48 = .ok (.aload_n 0, 1) := by decide +kernel
theorem dX0_setTo_49 : decode cX0_setTo 49 = .ok (.aload_n 1, 1) := by decide +kernel
theorem dX0_setTo_50 : decode cX0_setTo 50 = .ok (.getfield 33, 3) := by decide +kernel
theorem dX0_setTo_53 : decode cX0_setTo 53 = .ok (.putfield 33, 3) := by decide +kernel
theorem dX0_setTo_56 : decode cX0_setTo 56 = .ok (.aload_n 0, 1) := by decide +kernel
theorem dX0_setTo_57 : decode cX0_setTo 57 = .ok (.aload_n 1, 1) := by decide +kernel
theorem dX0_setTo_58 : decode cX0_setTo 58 = .ok (.getfield 36, 3) := by decide +kernel
theorem dX0_setTo_61 : decode cX0_setTo 61 = .ok (.putfield 36, 3) := by decide +kernel
theorem dX0_setTo_64 : decode cX0_setTo 64 = .ok (.aload_n 0, 1) := by decide +kernel
theorem dX0_setTo_65 : decode cX0_setTo 65 = .ok (.aload_n 1, 1) := by decide +kernel
theorem dX0_setTo_66 : decode cX0_setTo 66 = .ok (.getfield 39, 3) := by decide +kernel
theorem dX0_setTo_69 : decode cX0_setTo 69 = .ok (.putfield 39, 3) := by decide +kernel
theorem dX0_setTo_72 : decode cX0_setTo 72 = .ok (.aload_n 0, 1) := by decide +kernel
theorem dX0_setTo_73 : decode cX0_setTo 73 = .ok (.aload_n 1, 1) := by decide +kernel
theorem dX0_setTo_74 : decode cX0_setTo 74 = .ok (.getfield 42, 3) := by decide +kernel
theorem dX0_setTo_77 : decode cX0_setTo 77 = .ok (.putfield 42, 3) := by decide +kernel
theorem dX0_setTo_80 : decode cX0_setTo 80 = .ok (.aload_n 0, 1) := by decide +kernel
theorem dX0_setTo_81 : decode cX0_setTo 81 = .ok (.aload_n 1, 1) := by decide +kernel
theorem dX0_setTo_82 : decode cX0_setTo 82 = .ok (.getfield 45, 3) := by decide +kernel
theorem dX0_setTo_85 : decode cX0_setTo 85 = .ok (.putfield 45, 3) := by decide +kernel
theorem dX0_setTo_88 : decode cX0_setTo 88 = .ok (.aload_n 0, 1) := by decide +kernel
theorem dX0_setTo_89 : decode cX0_setTo 89 = .ok (.aload_n 1, 1) := by decide +kernel
theorem dX0_setTo_90 : decode cX0_setTo 90 = .ok (.getfield 48, 3) := by decide +kernel
theorem dX0_setTo_93 : decode cX0_setTo 93 = .ok (.putfield 48, 3) := by decide +kernel
theorem dX0_setTo_96 : decode cX0_setTo 96 = .ok (.return_, 1) := by decide +kernel
theorem dX0_begin_0 : decode cX0_begin 0 = .ok (.aload_n 0, 1) := by decide +kernel
theorem dX0_begin_1 : decode cX0_begin 1 = .ok (.iload_n 1, 1) := by decide +kernel
theorem dX0_begin_2 : decode cX0_begin 2 = .ok (.putfield 21, 3) := by decide +kernel
theorem dX0_begin_5 : decode cX0_begin 5 = .ok (.aload_n 0, 1) := by decide +kernel
theorem dX0_begin_6 : decode cX0_begin 6 = .ok (.iload_n 2, 1) := by decide +kernel
theorem dX0_begin_7 : decode cX0_begin 7 = .ok (.putfield 24, 3) := by decide +kernel
theorem dX0_begin_10 : decode cX0_begin 10 = .ok (.aload_n 0, 1) := by decide +kernel
theorem dX0_begin_11 : decode cX0_begin 11 = .ok (.iload_n 3, 1) := by decide +kernel
theorem dX0_begin_12 : decode cX0_begin 12 = .ok (.putfield 27, 3) := by decide +kernel
theorem dX0_begin_15 : decode cX0_begin 15 = .ok (.aload_n 0, 1) := by decide +kernel
theorem dX0_begin_16 : decode cX0_begin 16 = .ok (.iconst 0, 1) := by decide +kernel
theorem dX0_begin_17 : decode cX0_begin 17 = .ok (.putfield 15, 3) := by decide +kernel
theorem dX0_begin_20 : decode cX0_begin 20 = .ok (.return_, 1) := by decide +kernel
theorem dX0_mount_0 : decode cX0_mount 0 = .ok (.aload_n 0, 1) := by decide +kernel
theorem dX0_mount_1 : decode cX0_mount 1 = .ok (.iconst 1, 1) := by decide +kernel
theorem dX0_mount_2 : decode cX0_mount 2 = .ok (.putfield 15, 3) := by decide +kernel
theorem dX0_mount_5 : decode cX0_mount 5 = .ok (.aload_n 0, 1) := by decide +kernel
theorem dX0_mount_6 : decode cX0_mount 6 = .ok (.iload_n 1, 1) := by decide +kernel
theorem dX0_mount_7 : decode cX0_mount 7 = .ok (.putfield 18, 3) := by decide +kernel
theorem dX0_mount_10 : decode cX0_mount 10 = .ok (.aload_n 0, 1) := by decide +kernel
theorem dX0_mount_11 : decode cX0_mount 11 = .ok (.iload_n 2, 1) := by decide +kernel
theorem dX0_mount_12 : decode cX0_mount 12 = .ok (.putfield 30, 3) := by decide +kernel
theorem dX0_mount_15 : decode cX0_mount 15 = .ok (.return_, 1) := by decide +kernel
theorem dX0_undo_0 : decode cX0_undo 0 = .ok (.aload_n 0, 1) := by decide +kernel
theorem dX0_undo_1 : decode cX0_undo 1 = .ok (.iconst 0, 1) := by decide +kernel
theorem dX0_undo_2 : decode cX0_undo 2 = .ok (.putfield 15, 3) := by decide +kernel
theorem dX0_undo_5 : decode cX0_undo 5 = .ok (.aload_n 0, 1) := by decide +kernel
theorem dX0_undo_6 : decode cX0_undo 6 = .ok (.iconst (-1), 1) := by decide +kernel
theorem dX0_undo_7 : decode cX0_undo 7 = .ok (.putfield 18, 3) := by decide +kernel
theorem dX0_undo_10 : decode cX0_undo 10 = .ok (.aload_n 0, 1) := by decide +kernel
theorem dX0_undo_11 : decode cX0_undo 11 = .ok (.iconst 0, 1) := by decide +kernel
theorem dX0_undo_12 : decode cX0_undo 12 = .ok (.putfield 30, 3) := by decide +kernel
theorem dX0_undo_15 : decode cX0_undo 15 = .ok (.aload_n 0, 1) := by decide +kernel
theorem dX0_undo_16 : decode cX0_undo 16 = .ok (.iconst 0, 1) := by decide +kernel
theorem dX0_undo_17 : decode cX0_undo 17 = .ok (.putfield 33, 3) := by decide +kernel
theorem dX0_undo_20 : decode cX0_undo 20 = .ok (.aload_n 0, 1) := by decide +kernel
theorem dX0_undo_21 : decode cX0_undo 21 = .ok (.iconst 0, 1) := by decide +kernel
theorem dX0_undo_22 : decode cX0_undo 22 = .ok (.putfield 36, 3) := by decide +kernel
theorem dX0_undo_25 : decode cX0_undo 25 = .ok (.aload_n 0, 1) := by decide +kernel
theorem dX0_undo_26 : decode cX0_undo 26 = .ok (.iconst 0, 1) := by decide +kernel
theorem dX0_undo_27 : decode cX0_undo 27 = .ok (.putfield 39, 3) := by decide +kernel
theorem dX0_undo_30 : decode cX0_undo 30 = .ok (.aload_n 0, 1) := by decide +kernel
theorem dX0_undo_31 : decode cX0_undo 31 = .ok (.iconst 0, 1) := by decide +kernel
theorem dX0_undo_32 : decode cX0_undo 32 = .ok (.putfield 42, 3) := by decide +kernel
theorem dX0_undo_35 : decode cX0_undo 35 = .ok (.return_, 1) := by decide +kernel
theorem dX0_thickness_0 : decode cX0_thickness 0 = .ok (.aload_n 0, 1) := by decide +kernel
theorem dX0_thickness_1 : decode cX0_thickness 1 = .ok (.getfield 21, 3) := by decide +kernel
theorem dX0_thickness_4 : decode cX0_thickness 4 = .ok (.aload_n 0, 1) := by decide +kernel
theorem dX0_thickness_5 : decode cX0_thickness 5 = .ok (.getfield 24, 3) := by decide +kernel
theorem dX0_thickness_8 : decode cX0_thickness 8 = .ok (.imul, 1) := by decide +kernel
theorem dX0_thickness_9 : decode cX0_thickness 9 = .ok (.ireturn, 1) := by decide +kernel
set_option maxRecDepth 20000 in
theorem ggX0_leavesForAnEdge_X0_thickness : GoodIn wsX0_leavesForAnEdge wsX0_thickness := goodIn_r _ [5, 6, 7, 8, 9, 10, 11, 12, 13, 14, 15, 16, 17, 18, 19, 20] (by decide +kernel) (by decide +kernel)
set_option maxRecDepth 20000 in
theorem gX0_leavesForAnEdge_X0_thickness : GoodIn wsX0_leavesForAnEdge (wsV RX0 51 RX0 yX0_thickness wsX0_thickness) := goodIn_app (goodIn_of _ (by decide +kernel)) ggX0_leavesForAnEdge_X0_thickness
theorem dX0_leavesForAnEdge_0 : decode cX0_leavesForAnEdge 0 = .ok (.iconst 1, 1) := by decide +kernel
theorem dX0_leavesForAnEdge_1 : decode cX0_leavesForAnEdge 1 = .ok (.aload_n 0, 1) := by decide +kernel
theorem dX0_leavesForAnEdge_2 : decode cX0_leavesForAnEdge 2 = .ok (.invokevirtual 51, 3) := by decide +kernel
theorem dX0_leavesForAnEdge_5 : decode cX0_leavesForAnEdge 5 = .ok (.bipush 16, 2) := by decide +kernel
theorem dX0_leavesForAnEdge_7 : decode cX0_leavesForAnEdge 7 = .ok (.idiv, 1) := by decide +kernel
theorem dX0_leavesForAnEdge_8 : decode cX0_leavesForAnEdge 8 = .ok (.iadd, 1) := by decide +kernel
theorem dX0_leavesForAnEdge_9 : decode cX0_leavesForAnEdge 9 = .ok (.ireturn, 1) := by decide +kernel
theorem dX0_stitchesOfSignature_0 : decode cX0_stitchesOfSignature 0 = .ok (.aload_n 0, 1) := by decide +kernel
theorem dX0_stitchesOfSignature_1 : decode cX0_stitchesOfSignature 1 = .ok (.getfield 30, 3) := by decide +kernel
theorem dX0_stitchesOfSignature_4 : decode cX0_stitchesOfSignature 4 = .ok (.iconst 2, 1) := by decide +kernel
theorem dX0_stitchesOfSignature_5 : decode cX0_stitchesOfSignature 5 = .ok (.iadd, 1) := by decide +kernel
theorem dX0_stitchesOfSignature_6 : decode cX0_stitchesOfSignature 6 = .ok (.istore_n 2, 1) := by decide +kernel
theorem dX0_stitchesOfSignature_7 : decode cX0_stitchesOfSignature 7 = .ok (.iload_n 1, 1) := by decide +kernel
theorem dX0_stitchesOfSignature_8 : decode cX0_stitchesOfSignature 8 = .ok (.ifCond .ne 6, 3) := by decide +kernel
theorem dX0_stitchesOfSignature_11 : decode cX0_stitchesOfSignature 11 = .ok (.iinc 2 2, 3) := by decide +kernel
theorem dX0_stitchesOfSignature_14 : decode cX0_stitchesOfSignature 14 = .ok (.iload_n 1, 1) := by decide +kernel
theorem dX0_stitchesOfSignature_15 : decode cX0_stitchesOfSignature 15 = .ok (.aload_n 0, 1) := by decide +kernel
theorem dX0_stitchesOfSignature_16 : decode cX0_stitchesOfSignature 16 = .ok (.getfield 21, 3) := by decide +kernel
theorem dX0_stitchesOfSignature_19 : decode cX0_stitchesOfSignature 19 = .ok (.iconst 1, 1) := by decide +kernel
theorem dX0_stitchesOfSignature_20 : decode cX0_stitchesOfSignature 20 = .ok (.isub, 1) := by decide +kernel
theorem dX0_stitchesOfSignature_21 : decode cX0_stitchesOfSignature 21 = .ok (.if_icmp .ne 6, 3) := by decide +kernel
theorem dX0_stitchesOfSignature_24 : decode cX0_stitchesOfSignature 24 = .ok (.iinc 2 2, 3) := by decide +kernel
theorem dX0_stitchesOfSignature_27 : decode cX0_stitchesOfSignature 27 = .ok (.iload_n 2, 1) := by decide +kernel
theorem dX0_stitchesOfSignature_28 : decode cX0_stitchesOfSignature 28 = .ok (.ireturn, 1) := by decide +kernel
set_option maxRecDepth 20000 in
theorem ggX0_stitchesToSew_X0_stitchesOfSignature : GoodIn wsX0_stitchesToSew wsX0_stitchesOfSignature := goodIn_r _ [7, 8, 1, 9, 10, 11, 12, 13, 14, 15, 16, 17, 18, 19, 20, 21] (by decide +kernel) (by decide +kernel)
set_option maxRecDepth 20000 in
theorem gX0_stitchesToSew_X0_stitchesOfSignature : GoodIn wsX0_stitchesToSew (wsV RX0 55 RX0 yX0_stitchesOfSignature wsX0_stitchesOfSignature) := goodIn_app (goodIn_of _ (by decide +kernel)) ggX0_stitchesToSew_X0_stitchesOfSignature
theorem dX0_stitchesToSew_0 : decode cX0_stitchesToSew 0 = .ok (.iconst 0, 1) := by decide +kernel
theorem dX0_stitchesToSew_1 : decode cX0_stitchesToSew 1 = .ok (.istore_n 1, 1) := by decide +kernel
theorem dX0_stitchesToSew_2 : decode cX0_stitchesToSew 2 = .ok (.iconst 0, 1) := by decide +kernel
theorem dX0_stitchesToSew_3 : decode cX0_stitchesToSew 3 = .ok (.istore_n 2, 1) := by decide +kernel
theorem dX0_stitchesToSew_4 : decode cX0_stitchesToSew 4 = .ok (.iload_n 2, 1) := by decide +kernel
theorem dX0_stitchesToSew_5 : decode cX0_stitchesToSew 5 = .ok (.aload_n 0, 1) := by decide +kernel
theorem dX0_stitchesToSew_6 : decode cX0_stitchesToSew 6 = .ok (.getfield 21, 3) := by decide +kernel
theorem dX0_stitchesToSew_9 : decode cX0_stitchesToSew 9 = .ok (.if_icmp .ge 17, 3) := by decide +kernel
theorem dX0_stitchesToSew_12 : decode cX0_stitchesToSew 12 = .ok (.iload_n 1, 1) := by decide +kernel
theorem dX0_stitchesToSew_13 : decode cX0_stitchesToSew 13 = .ok (.aload_n 0, 1) := by decide +kernel
theorem dX0_stitchesToSew_14 : decode cX0_stitchesToSew 14 = .ok (.iload_n 2, 1) := by decide +kernel
theorem dX0_stitchesToSew_15 : decode cX0_stitchesToSew 15 = .ok (.invokevirtual 55, 3) := by decide +kernel
theorem dX0_stitchesToSew_18 : decode cX0_stitchesToSew 18 = .ok (.iadd, 1) := by decide +kernel
theorem dX0_stitchesToSew_19 : decode cX0_stitchesToSew 19 = .ok (.istore_n 1, 1) := by decide +kernel
theorem dX0_stitchesToSew_20 : decode cX0_stitchesToSew 20 = .ok (.iinc 2 1, 3) := by decide +kernel
theorem dX0_stitchesToSew_23 : decode cX0_stitchesToSew 23 = .ok (.goto (-19), 3) := by decide +kernel
theorem dX0_stitchesToSew_26 : decode cX0_stitchesToSew 26 = .ok (.iload_n 1, 1) := by decide +kernel
theorem dX0_stitchesToSew_27 : decode cX0_stitchesToSew 27 = .ok (.aload_n 0, 1) := by decide +kernel
theorem dX0_stitchesToSew_28 : decode cX0_stitchesToSew 28 = .ok (.getfield 33, 3) := by decide +kernel
theorem dX0_stitchesToSew_31 : decode cX0_stitchesToSew 31 = .ok (.isub, 1) := by decide +kernel
theorem dX0_stitchesToSew_32 : decode cX0_stitchesToSew 32 = .ok (.ireturn, 1) := by decide +kernel
set_option maxRecDepth 20000 in
theorem ggX0_addStitch_X0_stitchesOfSignature : GoodIn wsX0_addStitch wsX0_stitchesOfSignature := goodIn_r _ [8, 9, 10, 11, 12, 13, 14, 15, 16, 17, 18, 19, 20, 21, 22, 23] (by decide +kernel) (by decide +kernel)
set_option maxRecDepth 20000 in
theorem gX0_addStitch_X0_stitchesOfSignature : GoodIn wsX0_addStitch (wsV RX0 55 RX0 yX0_stitchesOfSignature wsX0_stitchesOfSignature) := goodIn_app (goodIn_of _ (by decide +kernel)) ggX0_addStitch_X0_stitchesOfSignature
theorem dX0_addStitch_0 : decode cX0_addStitch 0 = .ok (.aload_n 0, 1) := by decide +kernel
theorem dX0_addStitch_1 : decode cX0_addStitch 1 = .ok (.dup, 1) := by decide +kernel
theorem dX0_addStitch_2 : decode cX0_addStitch 2 = .ok (.getfield 33, 3) := by decide +kernel
theorem dX0_addStitch_5 : decode cX0_addStitch 5 = .ok (.iconst 1, 1) := by decide +kernel
theorem dX0_addStitch_6 : decode cX0_addStitch 6 = .ok (.iadd, 1) := by decide +kernel
theorem dX0_addStitch_7 : decode cX0_addStitch 7 = .ok (.putfield 33, 3) := by decide +kernel
theorem dX0_addStitch_10 : decode cX0_addStitch 10 = .ok (.aload_n 0, 1) := by decide +kernel
theorem dX0_addStitch_11 : decode cX0_addStitch 11 = .ok (.dup, 1) := by decide +kernel
theorem dX0_addStitch_12 : decode cX0_addStitch 12 = .ok (.getfield 39, 3) := by decide +kernel
theorem dX0_addStitch_15 : decode cX0_addStitch 15 = .ok (.iconst 1, 1) := by decide +kernel
theorem dX0_addStitch_16 : decode cX0_addStitch 16 = .ok (.iadd, 1) := by decide +kernel
theorem dX0_addStitch_17 : decode cX0_addStitch 17 = .ok (.putfield 39, 3) := by decide +kernel
theorem dX0_addStitch_20 : decode cX0_addStitch 20 = .ok (.aload_n 0, 1) := by decide +kernel
theorem dX0_addStitch_21 : decode cX0_addStitch 21 = .ok (.getfield 39, 3) := by decide +kernel
theorem dX0_addStitch_24 : decode cX0_addStitch 24 = .ok (.aload_n 0, 1) := by decide +kernel
theorem dX0_addStitch_25 : decode cX0_addStitch 25 = .ok (.aload_n 0, 1) := by decide +kernel
theorem dX0_addStitch_26 : decode cX0_addStitch 26 = .ok (.getfield 36, 3) := by decide +kernel
theorem dX0_addStitch_29 : decode cX0_addStitch 29 = .ok (.invokevirtual 55, 3) := by decide +kernel
theorem dX0_addStitch_32 : decode cX0_addStitch 32 = .ok (.if_icmp .ge 5, 3) := by decide +kernel
theorem dX0_addStitch_35 : decode cX0_addStitch 35 = .ok (.iconst 0, 1) := by decide +kernel
theorem dX0_addStitch_36 : decode cX0_addStitch 36 = .ok (.ireturn, 1) := by decide +kernel
theorem dX0_addStitch_37 : decode cX0_addStitch 37 = .ok (.aload_n 0, 1) := by decide +kernel
theorem dX0_addStitch_38 : decode cX0_addStitch 38 = .ok (.dup, 1) := by decide +kernel
theorem dX0_addStitch_39 : decode cX0_addStitch 39 = .ok (.getfield 36, 3) := by decide +kernel
theorem dX0_addStitch_42 : decode cX0_addStitch 42 = .ok (.iconst 1, 1) := by decide +kernel
theorem dX0_addStitch_43 : decode cX0_addStitch 43 = .ok (.iadd, 1) := by decide +kernel
theorem dX0_addStitch_44 : decode cX0_addStitch 44 = .ok (.putfield 36, 3) := by decide +kernel
theorem dX0_addStitch_47 : decode cX0_addStitch 47 = .ok (.aload_n 0, 1) := by decide +kernel
theorem dX0_addStitch_48 : decode cX0_addStitch 48 = .ok (.iconst 0, 1) := by decide +kernel
theorem dX0_addStitch_49 : decode cX0_addStitch 49 = .ok (.putfield 39, 3) := by decide +kernel
theorem dX0_addStitch_52 : decode cX0_addStitch 52 = .ok (.iconst 1, 1) := by decide +kernel
theorem dX0_addStitch_53 : decode cX0_addStitch 53 = .ok (.ireturn, 1) := by decide +kernel
theorem dX0_isSewn_0 : decode cX0_isSewn 0 = .ok (.aload_n 0, 1) := by decide +kernel
theorem dX0_isSewn_1 : decode cX0_isSewn 1 = .ok (.getfield 36, 3) := by decide +kernel
theorem dX0_isSewn_4 : decode cX0_isSewn 4 = .ok (.aload_n 0, 1) := by decide +kernel
theorem dX0_isSewn_5 : decode cX0_isSewn 5 = .ok (.getfield 21, 3) := by decide +kernel
theorem dX0_isSewn_8 : decode cX0_isSewn 8 = .ok (.if_icmp .lt 7, 3) := by decide +kernel
theorem dX0_isSewn_11 : decode cX0_isSewn 11 = .ok (.iconst 1, 1) := by decide +kernel
theorem dX0_isSewn_12 : decode cX0_isSewn 12 = .ok (.goto 4, 3) := by decide +kernel
theorem dX0_isSewn_15 : decode cX0_isSewn 15 = .ok (.iconst 0, 1) := by decide +kernel
theorem dX0_isSewn_16 : decode cX0_isSewn 16 = .ok (.ireturn, 1) := by decide +kernel
set_option maxRecDepth 20000 in
theorem ggX0_beginToDry_X0_thickness : GoodIn wsX0_beginToDry wsX0_thickness := goodIn_r _ [8, 9, 10, 11, 12, 13, 14, 15, 16, 17, 18, 19, 20, 21, 22, 23] (by decide +kernel) (by decide +kernel)
set_option maxRecDepth 20000 in
theorem gX0_beginToDry_X0_thickness : GoodIn wsX0_beginToDry (wsV RX0 51 RX0 yX0_thickness wsX0_thickness) := goodIn_app (goodIn_of _ (by decide +kernel)) ggX0_beginToDry_X0_thickness
theorem dX0_beginToDry_0 : decode cX0_beginToDry 0 = .ok (.aload_n 0, 1) := by decide +kernel
theorem dX0_beginToDry_1 : decode cX0_beginToDry 1 = .ok (.iconst 2, 1) := by decide +kernel
theorem dX0_beginToDry_2 : decode cX0_beginToDry 2 = .ok (.putfield 15, 3) := by decide +kernel
theorem dX0_beginToDry_5 : decode cX0_beginToDry 5 = .ok (.aload_n 0, 1) := by decide +kernel
theorem dX0_beginToDry_6 : decode cX0_beginToDry 6 = .ok (.iconst (-1), 1) := by decide +kernel
theorem dX0_beginToDry_7 : decode cX0_beginToDry 7 = .ok (.putfield 18, 3) := by decide +kernel
theorem dX0_beginToDry_10 : decode cX0_beginToDry 10 = .ok (.aload_n 0, 1) := by decide +kernel
theorem dX0_beginToDry_11 : decode cX0_beginToDry 11 = .ok (.iconst 2, 1) := by decide +kernel
theorem dX0_beginToDry_12 : decode cX0_beginToDry 12 = .ok (.aload_n 0, 1) := by decide +kernel
theorem dX0_beginToDry_13 : decode cX0_beginToDry 13 = .ok (.invokevirtual 51, 3) := by decide +kernel
theorem dX0_beginToDry_16 : decode cX0_beginToDry 16 = .ok (.bipush 8, 2) := by decide +kernel
theorem dX0_beginToDry_18 : decode cX0_beginToDry 18 = .ok (.idiv, 1) := by decide +kernel
theorem dX0_beginToDry_19 : decode cX0_beginToDry 19 = .ok (.iadd, 1) := by decide +kernel
theorem dX0_beginToDry_20 : decode cX0_beginToDry 20 = .ok (.putfield 45, 3) := by decide +kernel
theorem dX0_beginToDry_23 : decode cX0_beginToDry 23 = .ok (.return_, 1) := by decide +kernel
theorem dX0_dryForAnHour_0 : decode cX0_dryForAnHour 0 = .ok (.aload_n 0, 1) := by decide +kernel
theorem dX0_dryForAnHour_1 : decode cX0_dryForAnHour 1 = .ok (.dup, 1) := by decide +kernel
theorem dX0_dryForAnHour_2 : decode cX0_dryForAnHour 2 = .ok (.getfield 45, 3) := by decide +kernel
theorem dX0_dryForAnHour_5 : decode cX0_dryForAnHour 5 = .ok (.iconst 1, 1) := by decide +kernel
theorem dX0_dryForAnHour_6 : decode cX0_dryForAnHour 6 = .ok (.isub, 1) := by decide +kernel
theorem dX0_dryForAnHour_7 : decode cX0_dryForAnHour 7 = .ok (.putfield 45, 3) := by decide +kernel
theorem dX0_dryForAnHour_10 : decode cX0_dryForAnHour 10 = .ok (.aload_n 0, 1) := by decide +kernel
theorem dX0_dryForAnHour_11 : decode cX0_dryForAnHour 11 = .ok (.getfield 45, 3) := by decide +kernel
theorem dX0_dryForAnHour_14 : decode cX0_dryForAnHour 14 = .ok (.ifCond .ne 8, 3) := by decide +kernel
theorem dX0_dryForAnHour_17 : decode cX0_dryForAnHour 17 = .ok (.aload_n 0, 1) := by decide +kernel
theorem dX0_dryForAnHour_18 : decode cX0_dryForAnHour 18 = .ok (.iconst 3, 1) := by decide +kernel
theorem dX0_dryForAnHour_19 : decode cX0_dryForAnHour 19 = .ok (.putfield 15, 3) := by decide +kernel
theorem dX0_dryForAnHour_22 : decode cX0_dryForAnHour 22 = .ok (.return_, 1) := by decide +kernel
theorem dX0_bind_0 : decode cX0_bind 0 = .ok (.aload_n 0, 1) := by decide +kernel
theorem dX0_bind_1 : decode cX0_bind 1 = .ok (.aload_n 0, 1) := by decide +kernel
theorem dX0_bind_2 : decode cX0_bind 2 = .ok (.getfield 27, 3) := by decide +kernel
theorem dX0_bind_5 : decode cX0_bind 5 = .ok (.ifCond .ne 7, 3) := by decide +kernel
theorem dX0_bind_8 : decode cX0_bind 8 = .ok (.iconst 5, 1) := by decide +kernel
theorem dX0_bind_9 : decode cX0_bind 9 = .ok (.goto 4, 3) := by decide +kernel
theorem dX0_bind_12 : decode cX0_bind 12 = .ok (.iconst 4, 1) := by decide +kernel
theorem dX0_bind_13 : decode cX0_bind 13 = .ok (.putfield 15, 3) := by decide +kernel
theorem dX0_bind_16 : decode cX0_bind 16 = .ok (.return_, 1) := by decide +kernel
theorem dX0_gildAnEdge_0 : decode cX0_gildAnEdge 0 = .ok (.aload_n 0, 1) := by decide +kernel
theorem dX0_gildAnEdge_1 : decode cX0_gildAnEdge 1 = .ok (.dup, 1) := by decide +kernel
theorem dX0_gildAnEdge_2 : decode cX0_gildAnEdge 2 = .ok (.getfield 48, 3) := by decide +kernel
theorem dX0_gildAnEdge_5 : decode cX0_gildAnEdge 5 = .ok (.iconst 1, 1) := by decide +kernel
theorem dX0_gildAnEdge_6 : decode cX0_gildAnEdge 6 = .ok (.iadd, 1) := by decide +kernel
theorem dX0_gildAnEdge_7 : decode cX0_gildAnEdge 7 = .ok (.putfield 48, 3) := by decide +kernel
theorem dX0_gildAnEdge_10 : decode cX0_gildAnEdge 10 = .ok (.aload_n 0, 1) := by decide +kernel
theorem dX0_gildAnEdge_11 : decode cX0_gildAnEdge 11 = .ok (.getfield 48, 3) := by decide +kernel
theorem dX0_gildAnEdge_14 : decode cX0_gildAnEdge 14 = .ok (.aload_n 0, 1) := by decide +kernel
theorem dX0_gildAnEdge_15 : decode cX0_gildAnEdge 15 = .ok (.getfield 27, 3) := by decide +kernel
theorem dX0_gildAnEdge_18 : decode cX0_gildAnEdge 18 = .ok (.if_icmp .lt 8, 3) := by decide +kernel
theorem dX0_gildAnEdge_21 : decode cX0_gildAnEdge 21 = .ok (.aload_n 0, 1) := by decide +kernel
theorem dX0_gildAnEdge_22 : decode cX0_gildAnEdge 22 = .ok (.iconst 5, 1) := by decide +kernel
theorem dX0_gildAnEdge_23 : decode cX0_gildAnEdge 23 = .ok (.putfield 15, 3) := by decide +kernel
theorem dX0_gildAnEdge_26 : decode cX0_gildAnEdge 26 = .ok (.return_, 1) := by decide +kernel
theorem dX0_value_0 : decode cX0_value 0 = .ok (.iconst 1, 1) := by decide +kernel
theorem dX0_value_1 : decode cX0_value 1 = .ok (.iconst 4, 1) := by decide +kernel
theorem dX0_value_2 : decode cX0_value 2 = .ok (.aload_n 0, 1) := by decide +kernel
theorem dX0_value_3 : decode cX0_value 3 = .ok (.getfield 21, 3) := by decide +kernel
theorem dX0_value_6 : decode cX0_value 6 = .ok (.imul, 1) := by decide +kernel
theorem dX0_value_7 : decode cX0_value 7 = .ok (.iconst 2, 1) := by decide +kernel
theorem dX0_value_8 : decode cX0_value 8 = .ok (.aload_n 0, 1) := by decide +kernel
theorem dX0_value_9 : decode cX0_value 9 = .ok (.getfield 30, 3) := by decide +kernel
theorem dX0_value_12 : decode cX0_value 12 = .ok (.imul, 1) := by decide +kernel
theorem dX0_value_13 : decode cX0_value 13 = .ok (.iadd, 1) := by decide +kernel
theorem dX0_value_14 : decode cX0_value 14 = .ok (.bipush 6, 2) := by decide +kernel
theorem dX0_value_16 : decode cX0_value 16 = .ok (.aload_n 0, 1) := by decide +kernel
theorem dX0_value_17 : decode cX0_value 17 = .ok (.getfield 48, 3) := by decide +kernel
theorem dX0_value_20 : decode cX0_value 20 = .ok (.imul, 1) := by decide +kernel
theorem dX0_value_21 : decode cX0_value 21 = .ok (.iadd, 1) := by decide +kernel
theorem dX0_value_22 : decode cX0_value 22 = .ok (.iconst 3, 1) := by decide +kernel
theorem dX0_value_23 : decode cX0_value 23 = .ok (.aload_n 0, 1) := by decide +kernel
theorem dX0_value_24 : decode cX0_value 24 = .ok (.getfield 42, 3) := by decide +kernel
theorem dX0_value_27 : decode cX0_value 27 = .ok (.imul, 1) := by decide +kernel
theorem dX0_value_28 : decode cX0_value 28 = .ok (.isub, 1) := by decide +kernel
theorem dX0_value_29 : decode cX0_value 29 = .ok (.invokestatic 59, 3) := by decide +kernel
theorem dX0_value_32 : decode cX0_value 32 = .ok (.ireturn, 1) := by decide +kernel
set_option maxRecDepth 20000 in
theorem ggX0_tell_X0_value : GoodIn wsX0_tell wsX0_value := goodIn_r _ [15, 1, 16, 10, 8, 17, 18, 19, 20, 21, 22, 23, 24, 25, 26, 27, 28, 29, 30, 31, 32, 33] (by decide +kernel) (by decide +kernel)
set_option maxRecDepth 20000 in
theorem gX0_tell_X0_value : GoodIn wsX0_tell (wsV RX0 65 RX0 yX0_value wsX0_value) := goodIn_app (goodIn_of _ (by decide +kernel)) ggX0_tell_X0_value
theorem dX0_tell_0 : decode cX0_tell 0 = .ok (.iload_n 1, 1) := by decide +kernel
theorem dX0_tell_1 : decode cX0_tell 1 = .ok (.tableswitch 105 0 9 #[55, 60, 65, 70, 75, 80, 85, 90, 95, 100], 55) := by decide +kernel
theorem dX0_tell_56 : decode cX0_tell 56 = .ok (.aload_n 0, 1) := by decide +kernel
theorem dX0_tell_57 : decode cX0_tell 57 = .ok (.getfield 21, 3) := by decide +kernel
theorem dX0_tell_60 : decode cX0_tell 60 = .ok (.ireturn, 1) := by decide +kernel
theorem dX0_tell_61 : decode cX0_tell 61 = .ok (.aload_n 0, 1) := by decide +kernel
theorem dX0_tell_62 : decode cX0_tell 62 = .ok (.getfield 24, 3) := by decide +kernel
theorem dX0_tell_65 : decode cX0_tell 65 = .ok (.ireturn, 1) := by decide +kernel
theorem dX0_tell_66 : decode cX0_tell 66 = .ok (.aload_n 0, 1) := by decide +kernel
theorem dX0_tell_67 : decode cX0_tell 67 = .ok (.getfield 27, 3) := by decide +kernel
theorem dX0_tell_70 : decode cX0_tell 70 = .ok (.ireturn, 1) := by decide +kernel
theorem dX0_tell_71 : decode cX0_tell 71 = .ok (.aload_n 0, 1) := by decide +kernel
theorem dX0_tell_72 : decode cX0_tell 72 = .ok (.getfield 15, 3) := by decide +kernel
theorem dX0_tell_75 : decode cX0_tell 75 = .ok (.ireturn, 1) := by decide +kernel
theorem dX0_tell_76 : decode cX0_tell 76 = .ok (.aload_n 0, 1) := by decide +kernel
theorem dX0_tell_77 : decode cX0_tell 77 = .ok (.getfield 18, 3) := by decide +kernel
theorem dX0_tell_80 : decode cX0_tell 80 = .ok (.ireturn, 1) := by decide +kernel
theorem dX0_tell_81 : decode cX0_tell 81 = .ok (.aload_n 0, 1) := by decide +kernel
theorem dX0_tell_82 : decode cX0_tell 82 = .ok (.getfield 36, 3) := by decide +kernel
theorem dX0_tell_85 : decode cX0_tell 85 = .ok (.ireturn, 1) := by decide +kernel
theorem dX0_tell_86 : decode cX0_tell 86 = .ok (.aload_n 0, 1) := by decide +kernel
theorem dX0_tell_87 : decode cX0_tell 87 = .ok (.getfield 39, 3) := by decide +kernel
theorem dX0_tell_90 : decode cX0_tell 90 = .ok (.ireturn, 1) := by decide +kernel
theorem dX0_tell_91 : decode cX0_tell 91 = .ok (.aload_n 0, 1) := by decide +kernel
theorem dX0_tell_92 : decode cX0_tell 92 = .ok (.getfield 42, 3) := by decide +kernel
theorem dX0_tell_95 : decode cX0_tell 95 = .ok (.ireturn, 1) := by decide +kernel
theorem dX0_tell_96 : decode cX0_tell 96 = .ok (.aload_n 0, 1) := by decide +kernel
theorem dX0_tell_97 : decode cX0_tell 97 = .ok (.getfield 45, 3) := by decide +kernel
theorem dX0_tell_100 : decode cX0_tell 100 = .ok (.ireturn, 1) := by decide +kernel
theorem dX0_tell_101 : decode cX0_tell 101 = .ok (.aload_n 0, 1) := by decide +kernel
theorem dX0_tell_102 : decode cX0_tell 102 = .ok (.getfield 48, 3) := by decide +kernel
theorem dX0_tell_105 : decode cX0_tell 105 = .ok (.ireturn, 1) := by decide +kernel
theorem dX0_tell_106 : decode cX0_tell 106 = .ok (.aload_n 0, 1) := by decide +kernel
theorem dX0_tell_107 : decode cX0_tell 107 = .ok (.invokevirtual 65, 3) := by decide +kernel
theorem dX0_tell_110 : decode cX0_tell 110 = .ok (.ireturn, 1) := by decide +kernel
theorem dX1_init_0 : decode cX1_init 0 = .ok (.aload_n 0, 1) := by decide +kernel
theorem dX1_init_1 : decode cX1_init 1 = .ok (.invokespecial 3, 3) := by decide +kernel
theorem dX1_init_4 : decode cX1_init 4 = .ok (.aload_n 0, 1) := by decide +kernel
theorem dX1_init_5 : decode cX1_init 5 = .ok (.iload_n 1, 1) := by decide +kernel
theorem dX1_init_6 : decode cX1_init 6 = .ok (.putfield 9, 3) := by decide +kernel
theorem dX1_init_9 : decode cX1_init 9 = .ok (.aload_n 0, 1) := by decide +kernel
theorem dX1_init_10 : decode cX1_init 10 = .ok (.iconst 3, 1) := by decide +kernel
theorem dX1_init_11 : decode cX1_init 11 = .ok (.putfield 15, 3) := by decide +kernel
theorem dX1_init_14 : decode cX1_init 14 = .ok (.aload_n 0, 1) := by decide +kernel
theorem dX1_init_15 : decode cX1_init 15 = .ok (.iconst (-1), 1) := by decide +kernel
theorem dX1_init_16 : decode cX1_init 16 = .ok (.putfield 18, 3) := by decide +kernel
theorem dX1_init_19 : decode cX1_init 19 = .ok (.return_, 1) := by decide +kernel
theorem dX1_setTo_0 : decode cX1_setTo 0 = .ok (.aload_n 0, 1) := by decide +kernel
theorem dX1_setTo_1 : decode cX1_setTo 1 = .ok (.aload_n 1, 1) := by decide +kernel
theorem dX1_setTo_2 : decode cX1_setTo 2 = .ok (.getfield 15, 3) := by decide +kernel
theorem dX1_setTo_5 : decode cX1_setTo 5 = .ok (.putfield 15, 3) := by decide +kernel
theorem dX1_setTo_8 : decode cX1_setTo 8 = .ok (.aload_n 0, 1) := by decide +kernel
theorem dX1_setTo_9 : decode cX1_setTo 9 = .ok (.aload_n 1, 1) := by decide +kernel
theorem dX1_setTo_10 : decode cX1_setTo 10 = .ok (.getfield 18, 3) := by decide +kernel
theorem dX1_setTo_13 : decode cX1_setTo 13 = .ok (.putfield 18, 3) := by decide +kernel
theorem dX1_setTo_16 : decode cX1_setTo 16 = .ok (.aload_n 0, 1) := by decide +kernel
theorem dX1_setTo_17 : decode cX1_setTo 17 = .ok (.aload_n 1, 1) := by decide +kernel
theorem dX1_setTo_18 : decode cX1_setTo 18 = .ok (.getfield 21, 3) := by decide +kernel
theorem dX1_setTo_21 : decode cX1_setTo 21 = .ok (.putfield 21, 3) := by decide +kernel
theorem dX1_setTo_24 : decode cX1_setTo 24 = .ok (.return_, 1) := by decide +kernel
theorem dX2_init_0 : decode cX2_init 0 = .ok (.aload_n 0, 1) := by decide +kernel
theorem dX2_init_1 : decode cX2_init 1 = .ok (.invokespecial 3, 3) := by decide +kernel
theorem dX2_init_4 : decode cX2_init 4 = .ok (.aload_n 0, 1) := by decide +kernel
theorem dX2_init_5 : decode cX2_init 5 = .ok (.iload_n 1, 1) := by decide +kernel
theorem dX2_init_6 : decode cX2_init 6 = .ok (.putfield 9, 3) := by decide +kernel
theorem dX2_init_9 : decode cX2_init 9 = .ok (.aload_n 0, 1) := by decide +kernel
theorem dX2_init_10 : decode cX2_init 10 = .ok (.iconst (-1), 1) := by decide +kernel
theorem dX2_init_11 : decode cX2_init 11 = .ok (.putfield 15, 3) := by decide +kernel
theorem dX2_init_14 : decode cX2_init 14 = .ok (.return_, 1) := by decide +kernel
theorem dX2_setTo_0 : decode cX2_setTo 0 = .ok (.aload_n 0, 1) := by decide +kernel
theorem dX2_setTo_1 : decode cX2_setTo 1 = .ok (.aload_n 1, 1) := by decide +kernel
theorem dX2_setTo_2 : decode cX2_setTo 2 = .ok (.getfield 18, 3) := by decide +kernel
theorem dX2_setTo_5 : decode cX2_setTo 5 = .ok (.putfield 18, 3) := by decide +kernel
theorem dX2_setTo_8 : decode cX2_setTo 8 = .ok (.aload_n 0, 1) := by decide +kernel
theorem dX2_setTo_9 : decode cX2_setTo 9 = .ok (.aload_n 1, 1) := by decide +kernel
theorem dX2_setTo_10 : decode cX2_setTo 10 = .ok (.getfield 15, 3) := by decide +kernel
theorem dX2_setTo_13 : decode cX2_setTo 13 = .ok (.putfield 15, 3) := by decide +kernel
theorem dX2_setTo_16 : decode cX2_setTo 16 = .ok (.return_, 1) := by decide +kernel
theorem dX2_tell_0 : decode cX2_tell 0 = .ok (.iload_n 1, 1) := by decide +kernel
theorem dX2_tell_1 : decode cX2_tell 1 = .ok (.ifCond .ne 10, 3) := by decide +kernel
theorem dX2_tell_4 : decode cX2_tell 4 = .ok (.aload_n 0, 1) := by decide +kernel
theorem dX2_tell_5 : decode cX2_tell 5 = .ok (.getfield 18, 3) := by decide +kernel
theorem dX2_tell_8 : decode cX2_tell 8 = .ok (.goto 7, 3) := by decide +kernel
theorem dX2_tell_11 : decode cX2_tell 11 = .ok (.aload_n 0, 1) := by decide +kernel
theorem dX2_tell_12 : decode cX2_tell 12 = .ok (.getfield 15, 3) := by decide +kernel
theorem dX2_tell_15 : decode cX2_tell 15 = .ok (.ireturn, 1) := by decide +kernel
end
section
theorem zz_look : (0 : Nat) = 0 := rfl
end
