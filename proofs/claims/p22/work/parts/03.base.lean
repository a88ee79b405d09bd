section YB
/-! The memory: object j (0 .. 54) holds the ints M j k; its references are fixed. Objects: now = 0 (its arrays 1 2 3, books 4.., sewers 19.., frames 24..), ahead = 27 (likewise), the class's object 54. -/
abbrev yM : Type := Nat → Nat → Int32
def ykd (j : Nat) : Nat := if j < 54 then (if j % 27 = 0 then 3 else if j % 27 < 4 then 6 + j % 27 else if j % 27 < 19 then 0 else if j % 27 < 24 then 2 else 1) else if j = 54 then 4 else 10
def ynf : Nat → Nat := fun c => match c with | 0 => 13 | 1 => 4 | 2 => 3 | 3 => 12 | _ => 2
def yln : Nat → Nat := fun c => match c with | 7 => 15 | 8 => 5 | _ => 3
def yrf (j k : Nat) : Option Nat := if ykd j = 3 then (if k < 3 then some (j + 1 + k) else none) else if ykd j = 4 then (if k = 0 then some 0 else some 27) else none
def yel (j i : Nat) : Nat := if ykd j = 7 then j + 3 + i else if ykd j = 8 then j + 17 + i else j + 21 + i
def yvl (adr : Nat → Nat) (M : yM) (j k : Nat) : Value := match yrf j k with | some t => .ref (adr t) | none => .int (M j k)
def yfs (adr : Nat → Nat) (M : yM) (j n : Nat) : List Value := (List.range n).map (yvl adr M j)
def ycl (adr : Nat → Nat) (cy : Nat → ClassId) (M : yM) (j : Nat) : va_E :=
  if ykd j < 6 then .inr (ykd j, yfs adr M j (ynf (ykd j)))
  else if ykd j = 6 then .inl (cy 0, 193, .inl (M j))
  else .inl (cy (ykd j - 6), yln (ykd j), .inr (.inr (.inr (.inr (fun i => some (adr (yel j i)))))))
def ypl (adr : Nat → Nat) (cy : Nat → ClassId) (M : yM) : va_W := (List.range 55).map (fun j => (adr j, ycl adr cy M j))
def yst (M : yM) (j k : Nat) (v : Int32) : yM := fun a b => if a = j ∧ b = k then v else M a b
abbrev ytys (cy : Nat → ClassId) : List (ClassId × FieldType) := [(cy 0, .int), (cy 1, .object "SewingFrames$Book"), (cy 2, .object "SewingFrames$Sewer"), (cy 3, .object "SewingFrames$Frame")]
theorem ykd_lt {j : Nat} (h : ykd j < 10) : j < 55 := by
  unfold ykd at h
  split at h
  · omega
  · split at h
    · omega
    · omega
theorem yst_same {M : yM} {j k : Nat} {v : Int32} : yst M j k v j k = v := by simp [yst]
theorem yst_row {M : yM} {j k i : Nat} {v : Int32} (h : i ≠ j) : yst M j k v i = M i := by funext b; simp [yst, h]
theorem yst_at {M : yM} {j k b : Nat} {v : Int32} : yst M j k v j b = if b = k then v else M j b := by simp [yst]
theorem ypl_get {adr : Nat → Nat} {cy : Nat → ClassId} {M : yM} {E : va_W} {j : Nat} (hj : j < 55) : (ypl adr cy M ++ E)[j]? = some (adr j, ycl adr cy M j) := by
  rw [List.getElem?_append_left (by simp [ypl]; exact hj)]
  simp [ypl, hj]
theorem ypl_len {adr : Nat → Nat} {cy : Nat → ClassId} {M : yM} : (ypl adr cy M).length = 55 := by simp [ypl]
theorem ypl_E {adr : Nat → Nat} {cy : Nat → ClassId} {M : yM} {E : va_W} {k : Nat} : (ypl adr cy M ++ E)[55 + k]? = E[k]? := by
  rw [List.getElem?_append_right (by rw [ypl_len]; omega), ypl_len]
  congr 1
  omega
theorem ypl_upd {adr : Nat → Nat} {cy : Nat → ClassId} {M M' : yM} {E : va_W} {j : Nat} {e : va_E} (hj : j < 55) (he : ycl adr cy M' j = e) (ho : ∀ i, i ≠ j → ycl adr cy M' i = ycl adr cy M i) : (ypl adr cy M ++ E).set j (adr j, e) = ypl adr cy M' ++ E := by
  apply List.ext_getElem?
  intro i
  rw [List.getElem?_set]
  by_cases hi : j = i
  · subst hi
    rw [if_pos rfl, if_pos (by rw [List.length_append, ypl_len]; omega), ypl_get hj, he]
  · rw [if_neg hi]
    by_cases hl : i < 55
    · rw [ypl_get hl, ypl_get hl, ho i (fun q => hi q.symm)]
    · obtain ⟨k, rfl⟩ : ∃ k, i = 55 + k := ⟨i - 55, by omega⟩
      rw [ypl_E, ypl_E]
theorem ycl_row {adr : Nat → Nat} {cy : Nat → ClassId} {M M' : yM} {j : Nat} (h : M' j = M j) : ycl adr cy M' j = ycl adr cy M j := by
  have hv : ∀ n, yfs adr M' j n = yfs adr M j n := by
    intro n
    unfold yfs
    congr 1
    funext k
    unfold yvl
    rw [h]
  unfold ycl
  rw [hv, h]
theorem yfs_get {adr : Nat → Nat} {M : yM} {j n k : Nat} (hk : k < n) : (yfs adr M j n)[k]? = some (yvl adr M j k) := by simp [yfs, hk]
theorem yfs_len {adr : Nat → Nat} {M : yM} {j n : Nat} : (yfs adr M j n).length = n := by simp [yfs]
theorem yfs_set {adr : Nat → Nat} {M : yM} {j n k : Nat} {v : Int32} (hr : yrf j k = none) : (yfs adr M j n).set k (.int v) = yfs adr (yst M j k v) j n := by
  apply List.ext_getElem?
  intro i
  rw [List.getElem?_set]
  by_cases hi : k = i
  · subst hi
    rw [if_pos rfl, yfs_len]
    by_cases hn : k < n
    · rw [if_pos hn, yfs_get hn]; simp [yvl, hr, yst]
    · rw [if_neg hn]; simp [yfs, hn]
  · rw [if_neg hi]
    by_cases hn : i < n
    · rw [yfs_get hn, yfs_get hn]
      unfold yvl
      rw [yst_at, if_neg (fun q => hi q.symm)]
    · simp [yfs, hn]
theorem ypl_setf {adr : Nat → Nat} {cy : Nat → ClassId} {M : yM} {E : va_W} {j k ci : Nat} {v : Int32} (hkd : ykd j = ci) (hci : ci < 6) (hr : yrf j k = none) : (ypl adr cy M ++ E).set j (adr j, .inr (ci, (yfs adr M j (ynf ci)).set k (.int v))) = ypl adr cy (yst M j k v) ++ E := by
  subst hkd
  refine ypl_upd (ykd_lt (by omega)) ?_ (fun i hi => ycl_row (yst_row hi))
  unfold ycl
  rw [if_pos hci, yfs_set hr]
theorem ypl_seti {adr : Nat → Nat} {cy : Nat → ClassId} {M : yM} {E : va_W} {j k : Nat} {v : Int32} (hkd : ykd j = 6) : (ypl adr cy M ++ E).set j (adr j, .inl (cy 0, 193, .inl (upd (M j) k v))) = ypl adr cy (yst M j k v) ++ E := by
  refine ypl_upd (ykd_lt (by omega)) ?_ (fun i hi => ycl_row (yst_row hi))
  unfold ycl
  rw [if_neg (by omega), if_pos hkd]
  congr 4
  funext b
  rw [yst_at]
  by_cases hb : b = k
  · subst hb; rw [if_pos rfl, pk_us]
  · rw [if_neg hb, pk_un hb]
theorem ypl_D {adr : Nat → Nat} {cy : Nat → ClassId} {M M' : yM} {E : va_W} {A : Nat → Prop} (h : va_D A (ypl adr cy M ++ E)) : va_D A (ypl adr cy M' ++ E) := by
  have key : ∀ (i : Nat) (p : Nat × va_E), (ypl adr cy M' ++ E)[i]? = some p → ∃ q, (ypl adr cy M ++ E)[i]? = some q ∧ q.1 = p.1 := by
    intro i p hp
    by_cases hl : i < 55
    · rw [ypl_get hl] at hp
      cases hp
      exact ⟨_, ypl_get hl, rfl⟩
    · obtain ⟨k, rfl⟩ : ∃ k, i = 55 + k := ⟨i - 55, by omega⟩
      rw [ypl_E] at hp
      exact ⟨p, by rw [ypl_E]; exact hp, rfl⟩
  refine ⟨fun i j p q hp hq e => ?_, fun k q hq => ?_⟩
  · obtain ⟨p', h1, h2⟩ := key i p hp
    obtain ⟨q', h3, h4⟩ := key j q hq
    exact h.1 i j p' q' h1 h3 (by rw [h2, h4, e])
  · obtain ⟨q', h1, h2⟩ := key k q hq
    rw [← h2]
    exact h.2 k q' h1
/-- which cells a method may change: the objects, and what it makes -/
def yAA (adr : Nat → Nat) (sz : Nat) : Nat → Prop := fun q => (∃ j, j < 55 ∧ q = adr j) ∨ sz ≤ q
/-- the standing of a walk: what the rows don't look at -/
abbrev yK : Type := Program × Env × State × MethodId × Array Value × List Frame × Method × Code × (Nat → Prop)
def Cx (K : yK) (cc : ByteArray) (own : String) (Ts : List Cond) (nL : Nat) (ret : Option FieldType) (D : va_G) (cy : Nat → ClassId) : Prop := match K with
  | (p, _, s, m, args, _, meth, c, A) => p.tables.exec = Jvm.exec ∧ c.code = cc ∧ c.maxLocals = nL ∧ s.vm.findClass own = some m.cls ∧ (∀ w ∈ Ts, w.before args s = true) ∧ va_K D vwCl (ytys cy) s ∧ (∀ q, s.heap.size ≤ q → A q) ∧ meth.sig.returnType = ret ∧ meth.locks = false
def Y (K : yK) (l : Launch) (R : Room) (D : va_G) (cy : Nat → ClassId) (adr : Nat → Nat) (nL cells slots : Nat) (Q : State → Prop) (M : yM) (E : va_W) (lv : List (Nat × Value)) (pc : Nat) (st : List Value) : Prop := match K with
  | (p, e, s, m, args, below, meth, c, A) => ∀ (H : Heap) (locs : List Loc) (ls : Array Slot), va_P D vwCl (ypl adr cy M ++ E) H → va_D A (ypl adr cy M ++ E) → va_S A s.heap H locs → lv_has ls nL lv → W p l e R s m args below meth c H locs cells slots Q (F0 m pc ls st)
section Rows
variable {K : yK} {l : Launch} {R : Room} {D : va_G} {cy : Nat → ClassId} {adr : Nat → Nat} {nL cells slots : Nat} {Q : State → Prop} {M : yM} {E : va_W} {lv : List (Nat × Value)} {pc : Nat} {st : List Value} {cc : ByteArray} {own : String} {Ts : List Cond} {ret : Option FieldType}
theorem y_iconst (C0 : Cx K cc own Ts nL ret D cy) {n : Int} {v : Int32} (d : decode cc pc = .ok (.iconst n, 1)) (hv : Int32.ofInt n = v) (k : Y K l R D cy adr nL cells slots Q M E lv (pc + 1) (.int v :: st)) : Y K l R D cy adr nL cells slots Q M E lv pc st := by
  obtain ⟨p, e, s, m, args, below, meth, c, A⟩ := K
  exact fun H locs ls hP hD hS hl => lv_iconst C0.1 C0.2.1 d hv (k H locs ls hP hD hS hl)
theorem y_bipush (C0 : Cx K cc own Ts nL ret D cy) {n : Int} {v : Int32} (d : decode cc pc = .ok (.bipush n, 2)) (hv : (Int8.ofInt n).toInt32 = v) (k : Y K l R D cy adr nL cells slots Q M E lv (pc + 2) (.int v :: st)) : Y K l R D cy adr nL cells slots Q M E lv pc st := by
  obtain ⟨p, e, s, m, args, below, meth, c, A⟩ := K
  exact fun H locs ls hP hD hS hl => lv_bipush C0.1 C0.2.1 d hv (k H locs ls hP hD hS hl)
theorem y_sipush (C0 : Cx K cc own Ts nL ret D cy) {n : Int} {v : Int32} (d : decode cc pc = .ok (.sipush n, 3)) (hv : (Int16.ofInt n).toInt32 = v) (k : Y K l R D cy adr nL cells slots Q M E lv (pc + 3) (.int v :: st)) : Y K l R D cy adr nL cells slots Q M E lv pc st := by
  obtain ⟨p, e, s, m, args, below, meth, c, A⟩ := K
  exact fun H locs ls hP hD hS hl => lv_sipush C0.1 C0.2.1 d hv (k H locs ls hP hD hS hl)
theorem y_ldc2 (C0 : Cx K cc own Ts nL ret D cy) {index : Nat} {v : Int64} (hw : Jvm.Cond.constantLong own index v ∈ Ts) (d : decode cc pc = .ok (.ldc2_w index, 3)) (k : Y K l R D cy adr nL cells slots Q M E lv (pc + 3) (.long v :: st)) : Y K l R D cy adr nL cells slots Q M E lv pc st := by
  obtain ⟨p, e, s, m, args, below, meth, c, A⟩ := K
  exact fun H locs ls hP hD hS hl => lv_ldc2 C0.1 C0.2.1 C0.2.2.2.1 (C0.2.2.2.2.1 _ hw) d (k H locs ls hP hD hS hl)
theorem y_dconst0 (C0 : Cx K cc own Ts nL ret D cy) (d : decode cc pc = .ok (.dconst 0, 1)) (k : Y K l R D cy adr nL cells slots Q M E lv (pc + 1) (.double 0 :: st)) : Y K l R D cy adr nL cells slots Q M E lv pc st := by
  obtain ⟨p, e, s, m, args, below, meth, c, A⟩ := K
  exact fun H locs ls hP hD hS hl => lv_dconst0 C0.1 C0.2.1 d (k H locs ls hP hD hS hl)
theorem y_iload_n (C0 : Cx K cc own Ts nL ret D cy) (k : Nat) {q : Fin 4} {i : Nat} {x : Int32} (d : decode cc pc = .ok (.iload_n q, 1)) (hi : (q : Nat) = i) (hk : lv[k]? = some (i, .int x)) (kk : Y K l R D cy adr nL cells slots Q M E lv (pc + 1) (.int x :: st)) : Y K l R D cy adr nL cells slots Q M E lv pc st := by
  obtain ⟨p, e, s, m, args, below, meth, c, A⟩ := K
  exact fun H locs ls hP hD hS hl => lv_iload_n C0.1 C0.2.1 d hi (lv_at hl k hk) (kk H locs ls hP hD hS hl)
theorem y_iload (C0 : Cx K cc own Ts nL ret D cy) (k : Nat) {i : Nat} {x : Int32} (d : decode cc pc = .ok (.iload i, 2)) (hk : lv[k]? = some (i, .int x)) (kk : Y K l R D cy adr nL cells slots Q M E lv (pc + 2) (.int x :: st)) : Y K l R D cy adr nL cells slots Q M E lv pc st := by
  obtain ⟨p, e, s, m, args, below, meth, c, A⟩ := K
  exact fun H locs ls hP hD hS hl => lv_iload C0.1 C0.2.1 d (lv_at hl k hk) (kk H locs ls hP hD hS hl)
theorem y_lload_n (C0 : Cx K cc own Ts nL ret D cy) (k : Nat) {q : Fin 4} {i : Nat} {x : Int64} (d : decode cc pc = .ok (.lload_n q, 1)) (hi : (q : Nat) = i) (hk : lv[k]? = some (i, .long x)) (kk : Y K l R D cy adr nL cells slots Q M E lv (pc + 1) (.long x :: st)) : Y K l R D cy adr nL cells slots Q M E lv pc st := by
  obtain ⟨p, e, s, m, args, below, meth, c, A⟩ := K
  exact fun H locs ls hP hD hS hl => lv_lload_n C0.1 C0.2.1 d hi (lv_at hl k hk) (kk H locs ls hP hD hS hl)
theorem y_aload_n (C0 : Cx K cc own Ts nL ret D cy) (k : Nat) {q : Fin 4} {i : Nat} {x : Nat} (d : decode cc pc = .ok (.aload_n q, 1)) (hi : (q : Nat) = i) (hk : lv[k]? = some (i, .ref x)) (kk : Y K l R D cy adr nL cells slots Q M E lv (pc + 1) (.ref x :: st)) : Y K l R D cy adr nL cells slots Q M E lv pc st := by
  obtain ⟨p, e, s, m, args, below, meth, c, A⟩ := K
  exact fun H locs ls hP hD hS hl => lv_aload_n C0.1 C0.2.1 d hi (lv_at hl k hk) (kk H locs ls hP hD hS hl)
theorem y_aload (C0 : Cx K cc own Ts nL ret D cy) (k : Nat) {i : Nat} {x : Nat} (d : decode cc pc = .ok (.aload i, 2)) (hk : lv[k]? = some (i, .ref x)) (kk : Y K l R D cy adr nL cells slots Q M E lv (pc + 2) (.ref x :: st)) : Y K l R D cy adr nL cells slots Q M E lv pc st := by
  obtain ⟨p, e, s, m, args, below, meth, c, A⟩ := K
  exact fun H locs ls hP hD hS hl => lv_aload C0.1 C0.2.1 d (lv_at hl k hk) (kk H locs ls hP hD hS hl)
theorem y_istore_n (C0 : Cx K cc own Ts nL ret D cy) {q : Fin 4} {i : Nat} {x : Int32} (lv' : List (Nat × Value)) (d : decode cc pc = .ok (.istore_n q, 1)) (hi : (q : Nat) = i) (hn : i < nL) (hl' : (i, Value.int x) :: lv.filter (fun q => !(q.1 == i) && !(q.1 + 1 == i && q.2.category == 2)) = lv') (kk : Y K l R D cy adr nL cells slots Q M E lv' (pc + 1) st) : Y K l R D cy adr nL cells slots Q M E lv pc (.int x :: st) := by
  obtain ⟨p, e, s, m, args, below, meth, c, A⟩ := K
  exact fun H locs ls hP hD hS hl => lv_istore_n C0.1 C0.2.1 d hi hl hn hl' (fun ls hl => kk H locs ls hP hD hS hl)
theorem y_istore (C0 : Cx K cc own Ts nL ret D cy) {i : Nat} {x : Int32} (lv' : List (Nat × Value)) (d : decode cc pc = .ok (.istore i, 2)) (hn : i < nL) (hl' : (i, Value.int x) :: lv.filter (fun q => !(q.1 == i) && !(q.1 + 1 == i && q.2.category == 2)) = lv') (kk : Y K l R D cy adr nL cells slots Q M E lv' (pc + 2) st) : Y K l R D cy adr nL cells slots Q M E lv pc (.int x :: st) := by
  obtain ⟨p, e, s, m, args, below, meth, c, A⟩ := K
  exact fun H locs ls hP hD hS hl => lv_istore C0.1 C0.2.1 d hl hn hl' (fun ls hl => kk H locs ls hP hD hS hl)
theorem y_astore_n (C0 : Cx K cc own Ts nL ret D cy) {q : Fin 4} {i : Nat} {x : Nat} (lv' : List (Nat × Value)) (d : decode cc pc = .ok (.astore_n q, 1)) (hi : (q : Nat) = i) (hn : i < nL) (hl' : (i, Value.ref x) :: lv.filter (fun q => !(q.1 == i) && !(q.1 + 1 == i && q.2.category == 2)) = lv') (kk : Y K l R D cy adr nL cells slots Q M E lv' (pc + 1) st) : Y K l R D cy adr nL cells slots Q M E lv pc (.ref x :: st) := by
  obtain ⟨p, e, s, m, args, below, meth, c, A⟩ := K
  exact fun H locs ls hP hD hS hl => lv_astore_n C0.1 C0.2.1 d hi hl hn hl' (fun ls hl => kk H locs ls hP hD hS hl)
theorem y_astore (C0 : Cx K cc own Ts nL ret D cy) {i : Nat} {x : Nat} (lv' : List (Nat × Value)) (d : decode cc pc = .ok (.astore i, 2)) (hn : i < nL) (hl' : (i, Value.ref x) :: lv.filter (fun q => !(q.1 == i) && !(q.1 + 1 == i && q.2.category == 2)) = lv') (kk : Y K l R D cy adr nL cells slots Q M E lv' (pc + 2) st) : Y K l R D cy adr nL cells slots Q M E lv pc (.ref x :: st) := by
  obtain ⟨p, e, s, m, args, below, meth, c, A⟩ := K
  exact fun H locs ls hP hD hS hl => lv_astore C0.1 C0.2.1 d hl hn hl' (fun ls hl => kk H locs ls hP hD hS hl)
theorem y_lstore_n (C0 : Cx K cc own Ts nL ret D cy) {q : Fin 4} {i : Nat} {x : Int64} (lv' : List (Nat × Value)) (d : decode cc pc = .ok (.lstore_n q, 1)) (hi : (q : Nat) = i) (hn : i + 1 < nL) (hl' : (i, Value.long x) :: lv.filter (fun q => !(q.1 == i) && (!(q.1 == i + 1) && !(q.1 + 1 == i && q.2.category == 2))) = lv') (kk : Y K l R D cy adr nL cells slots Q M E lv' (pc + 1) st) : Y K l R D cy adr nL cells slots Q M E lv pc (.long x :: st) := by
  obtain ⟨p, e, s, m, args, below, meth, c, A⟩ := K
  exact fun H locs ls hP hD hS hl => lv_lstore_n C0.1 C0.2.1 d hi hl hn hl' (fun ls hl => kk H locs ls hP hD hS hl)
theorem y_iinc (C0 : Cx K cc own Ts nL ret D cy) (k : Nat) {i : Nat} {n : Int} {x v : Int32} (lv' : List (Nat × Value)) (d : decode cc pc = .ok (.iinc i n, 3)) (hk : lv[k]? = some (i, .int x)) (hv : x + Int32.ofInt n = v) (hn : i < nL) (hl' : (i, Value.int v) :: lv.filter (fun q => !(q.1 == i) && !(q.1 + 1 == i && q.2.category == 2)) = lv') (kk : Y K l R D cy adr nL cells slots Q M E lv' (pc + 3) st) : Y K l R D cy adr nL cells slots Q M E lv pc st := by
  obtain ⟨p, e, s, m, args, below, meth, c, A⟩ := K
  exact fun H locs ls hP hD hS hl => lv_iinc C0.1 C0.2.1 d hl hk hv hn hl' (fun ls hl => kk H locs ls hP hD hS hl)
theorem y_sub (ks : List Nat) (lv' : List (Nat × Value)) (h : lv_pick lv ks = lv') (k : Y K l R D cy adr nL cells slots Q M E lv' pc st) : Y K l R D cy adr nL cells slots Q M E lv pc st := by
  obtain ⟨p, e, s, m, args, below, meth, c, A⟩ := K
  exact fun H locs ls hP hD hS hl => k H locs ls hP hD hS (lv_sub hl ks h)
theorem y_eq {M' : yM} {lv' : List (Nat × Value)} {st' : List Value} (h1 : M' = M) (h2 : lv' = lv) (h3 : st' = st) (k : Y K l R D cy adr nL cells slots Q M' E lv' pc st') : Y K l R D cy adr nL cells slots Q M E lv pc st := by
  subst h1; subst h2; subst h3; exact k
theorem y_iadd (C0 : Cx K cc own Ts nL ret D cy) {x y : Int32} (d : decode cc pc = .ok (.iadd, 1)) (k : Y K l R D cy adr nL cells slots Q M E lv (pc + 1) (.int (x + y) :: st)) : Y K l R D cy adr nL cells slots Q M E lv pc (.int y :: .int x :: st) := by
  obtain ⟨p, e, s, m, args, below, meth, c, A⟩ := K
  exact fun H locs ls hP hD hS hl => lv_iadd C0.1 C0.2.1 d (k H locs ls hP hD hS hl)
theorem y_isub (C0 : Cx K cc own Ts nL ret D cy) {x y : Int32} (d : decode cc pc = .ok (.isub, 1)) (k : Y K l R D cy adr nL cells slots Q M E lv (pc + 1) (.int (x - y) :: st)) : Y K l R D cy adr nL cells slots Q M E lv pc (.int y :: .int x :: st) := by
  obtain ⟨p, e, s, m, args, below, meth, c, A⟩ := K
  exact fun H locs ls hP hD hS hl => lv_isub C0.1 C0.2.1 d (k H locs ls hP hD hS hl)
theorem y_imul (C0 : Cx K cc own Ts nL ret D cy) {x y : Int32} (d : decode cc pc = .ok (.imul, 1)) (k : Y K l R D cy adr nL cells slots Q M E lv (pc + 1) (.int (x * y) :: st)) : Y K l R D cy adr nL cells slots Q M E lv pc (.int y :: .int x :: st) := by
  obtain ⟨p, e, s, m, args, below, meth, c, A⟩ := K
  exact fun H locs ls hP hD hS hl => lv_imul C0.1 C0.2.1 d (k H locs ls hP hD hS hl)
theorem y_idiv (C0 : Cx K cc own Ts nL ret D cy) {x y : Int32} (d : decode cc pc = .ok (.idiv, 1)) (hne : ¬ y = 0) (k : Y K l R D cy adr nL cells slots Q M E lv (pc + 1) (.int (x / y) :: st)) : Y K l R D cy adr nL cells slots Q M E lv pc (.int y :: .int x :: st) := by
  obtain ⟨p, e, s, m, args, below, meth, c, A⟩ := K
  exact fun H locs ls hP hD hS hl => lv_idiv C0.1 C0.2.1 d hne (k H locs ls hP hD hS hl)
theorem y_irem (C0 : Cx K cc own Ts nL ret D cy) {x y v : Int32} (d : decode cc pc = .ok (.irem, 1)) (hne : ¬ y = 0) (hv : x - x / y * y = v) (k : Y K l R D cy adr nL cells slots Q M E lv (pc + 1) (.int v :: st)) : Y K l R D cy adr nL cells slots Q M E lv pc (.int y :: .int x :: st) := by
  subst hv
  obtain ⟨p, e, s, m, args, below, meth, c, A⟩ := K
  exact fun H locs ls hP hD hS hl => lv_irem C0.1 C0.2.1 d hne (k H locs ls hP hD hS hl)
theorem y_iand (C0 : Cx K cc own Ts nL ret D cy) {x y : Int32} (d : decode cc pc = .ok (.iand, 1)) (k : Y K l R D cy adr nL cells slots Q M E lv (pc + 1) (.int (x &&& y) :: st)) : Y K l R D cy adr nL cells slots Q M E lv pc (.int y :: .int x :: st) := by
  obtain ⟨p, e, s, m, args, below, meth, c, A⟩ := K
  exact fun H locs ls hP hD hS hl => lv_iand C0.1 C0.2.1 d (k H locs ls hP hD hS hl)
theorem y_ladd (C0 : Cx K cc own Ts nL ret D cy) {x y : Int64} (d : decode cc pc = .ok (.ladd, 1)) (k : Y K l R D cy adr nL cells slots Q M E lv (pc + 1) (.long (x + y) :: st)) : Y K l R D cy adr nL cells slots Q M E lv pc (.long y :: .long x :: st) := by
  obtain ⟨p, e, s, m, args, below, meth, c, A⟩ := K
  exact fun H locs ls hP hD hS hl => lv_ladd C0.1 C0.2.1 d (k H locs ls hP hD hS hl)
theorem y_lmul (C0 : Cx K cc own Ts nL ret D cy) {x y : Int64} (d : decode cc pc = .ok (.lmul, 1)) (k : Y K l R D cy adr nL cells slots Q M E lv (pc + 1) (.long (x * y) :: st)) : Y K l R D cy adr nL cells slots Q M E lv pc (.long y :: .long x :: st) := by
  obtain ⟨p, e, s, m, args, below, meth, c, A⟩ := K
  exact fun H locs ls hP hD hS hl => lv_lmul C0.1 C0.2.1 d (k H locs ls hP hD hS hl)
theorem y_i2l (C0 : Cx K cc own Ts nL ret D cy) {x : Int32} (d : decode cc pc = .ok (.i2l, 1)) (k : Y K l R D cy adr nL cells slots Q M E lv (pc + 1) (.long x.toInt64 :: st)) : Y K l R D cy adr nL cells slots Q M E lv pc (.int x :: st) := by
  obtain ⟨p, e, s, m, args, below, meth, c, A⟩ := K
  exact fun H locs ls hP hD hS hl => lv_i2l C0.1 C0.2.1 d rfl (k H locs ls hP hD hS hl)
theorem y_dup (C0 : Cx K cc own Ts nL ret D cy) {va : Value} (d : decode cc pc = .ok (.dup, 1)) (hva : va.category = 1) (k : Y K l R D cy adr nL cells slots Q M E lv (pc + 1) (va :: va :: st)) : Y K l R D cy adr nL cells slots Q M E lv pc (va :: st) := by
  obtain ⟨p, e, s, m, args, below, meth, c, A⟩ := K
  exact fun H locs ls hP hD hS hl => lv_dup C0.1 C0.2.1 d hva (k H locs ls hP hD hS hl)
theorem y_dup2 (C0 : Cx K cc own Ts nL ret D cy) {va vb : Value} (d : decode cc pc = .ok (.dup2, 1)) (hva : va.category = 1) (hvb : vb.category = 1) (k : Y K l R D cy adr nL cells slots Q M E lv (pc + 1) (va :: vb :: va :: vb :: st)) : Y K l R D cy adr nL cells slots Q M E lv pc (va :: vb :: st) := by
  obtain ⟨p, e, s, m, args, below, meth, c, A⟩ := K
  exact fun H locs ls hP hD hS hl => lv_dup2_11 C0.1 C0.2.1 d hva hvb (k H locs ls hP hD hS hl)
theorem y_pop (C0 : Cx K cc own Ts nL ret D cy) {va : Value} (d : decode cc pc = .ok (.pop, 1)) (hva : va.category = 1) (k : Y K l R D cy adr nL cells slots Q M E lv (pc + 1) st) : Y K l R D cy adr nL cells slots Q M E lv pc (va :: st) := by
  obtain ⟨p, e, s, m, args, below, meth, c, A⟩ := K
  exact fun H locs ls hP hD hS hl => lv_pop C0.1 C0.2.1 d hva (k H locs ls hP hD hS hl)
theorem y_goto (C0 : Cx K cc own Ts nL ret D cy) {off : Int} (tgt : Nat) (d : decode cc pc = .ok (.goto off, 3)) (ht : (pc : Int) + off = (tgt : Int)) (k : Y K l R D cy adr nL cells slots Q M E lv tgt st) : Y K l R D cy adr nL cells slots Q M E lv pc st := by
  obtain ⟨p, e, s, m, args, below, meth, c, A⟩ := K
  exact fun H locs ls hP hD hS hl => lv_goto C0.1 C0.2.1 d ht (k H locs ls hP hD hS hl)
theorem y_if_eq (C0 : Cx K cc own Ts nL ret D cy) {x : Int32} {off : Int} (tgt : Nat) (d : decode cc pc = .ok (.ifCond .eq off, 3)) (ht : (pc : Int) + off = (tgt : Int)) (kt : x = 0 → Y K l R D cy adr nL cells slots Q M E lv tgt st) (kf : ¬ x = 0 → Y K l R D cy adr nL cells slots Q M E lv (pc + 3) st) : Y K l R D cy adr nL cells slots Q M E lv pc (.int x :: st) := by
  obtain ⟨p, e, s, m, args, below, meth, c, A⟩ := K
  exact fun H locs ls hP hD hS hl => lv_if_eq C0.1 C0.2.1 d ht (fun q => kt q H locs ls hP hD hS hl) (fun q => kf q H locs ls hP hD hS hl)
theorem y_icmp_eq (C0 : Cx K cc own Ts nL ret D cy) {x y : Int32} {off : Int} (tgt : Nat) (d : decode cc pc = .ok (.if_icmp .eq off, 3)) (ht : (pc : Int) + off = (tgt : Int)) (kt : x = y → Y K l R D cy adr nL cells slots Q M E lv tgt st) (kf : ¬ x = y → Y K l R D cy adr nL cells slots Q M E lv (pc + 3) st) : Y K l R D cy adr nL cells slots Q M E lv pc (.int y :: .int x :: st) := by
  obtain ⟨p, e, s, m, args, below, meth, c, A⟩ := K
  exact fun H locs ls hP hD hS hl => lv_icmp_eq C0.1 C0.2.1 d ht (fun q => kt q H locs ls hP hD hS hl) (fun q => kf q H locs ls hP hD hS hl)
theorem y_if_ne (C0 : Cx K cc own Ts nL ret D cy) {x : Int32} {off : Int} (tgt : Nat) (d : decode cc pc = .ok (.ifCond .ne off, 3)) (ht : (pc : Int) + off = (tgt : Int)) (kt : ¬ x = 0 → Y K l R D cy adr nL cells slots Q M E lv tgt st) (kf : x = 0 → Y K l R D cy adr nL cells slots Q M E lv (pc + 3) st) : Y K l R D cy adr nL cells slots Q M E lv pc (.int x :: st) := by
  obtain ⟨p, e, s, m, args, below, meth, c, A⟩ := K
  exact fun H locs ls hP hD hS hl => lv_if_ne C0.1 C0.2.1 d ht (fun q => kt q H locs ls hP hD hS hl) (fun q => kf q H locs ls hP hD hS hl)
theorem y_icmp_ne (C0 : Cx K cc own Ts nL ret D cy) {x y : Int32} {off : Int} (tgt : Nat) (d : decode cc pc = .ok (.if_icmp .ne off, 3)) (ht : (pc : Int) + off = (tgt : Int)) (kt : ¬ x = y → Y K l R D cy adr nL cells slots Q M E lv tgt st) (kf : x = y → Y K l R D cy adr nL cells slots Q M E lv (pc + 3) st) : Y K l R D cy adr nL cells slots Q M E lv pc (.int y :: .int x :: st) := by
  obtain ⟨p, e, s, m, args, below, meth, c, A⟩ := K
  exact fun H locs ls hP hD hS hl => lv_icmp_ne C0.1 C0.2.1 d ht (fun q => kt q H locs ls hP hD hS hl) (fun q => kf q H locs ls hP hD hS hl)
theorem y_if_lt (C0 : Cx K cc own Ts nL ret D cy) {x : Int32} {off : Int} (tgt : Nat) (d : decode cc pc = .ok (.ifCond .lt off, 3)) (ht : (pc : Int) + off = (tgt : Int)) (kt : x < 0 → Y K l R D cy adr nL cells slots Q M E lv tgt st) (kf : ¬ x < 0 → Y K l R D cy adr nL cells slots Q M E lv (pc + 3) st) : Y K l R D cy adr nL cells slots Q M E lv pc (.int x :: st) := by
  obtain ⟨p, e, s, m, args, below, meth, c, A⟩ := K
  exact fun H locs ls hP hD hS hl => lv_if_lt C0.1 C0.2.1 d ht (fun q => kt q H locs ls hP hD hS hl) (fun q => kf q H locs ls hP hD hS hl)
theorem y_icmp_lt (C0 : Cx K cc own Ts nL ret D cy) {x y : Int32} {off : Int} (tgt : Nat) (d : decode cc pc = .ok (.if_icmp .lt off, 3)) (ht : (pc : Int) + off = (tgt : Int)) (kt : x < y → Y K l R D cy adr nL cells slots Q M E lv tgt st) (kf : ¬ x < y → Y K l R D cy adr nL cells slots Q M E lv (pc + 3) st) : Y K l R D cy adr nL cells slots Q M E lv pc (.int y :: .int x :: st) := by
  obtain ⟨p, e, s, m, args, below, meth, c, A⟩ := K
  exact fun H locs ls hP hD hS hl => lv_icmp_lt C0.1 C0.2.1 d ht (fun q => kt q H locs ls hP hD hS hl) (fun q => kf q H locs ls hP hD hS hl)
theorem y_if_ge (C0 : Cx K cc own Ts nL ret D cy) {x : Int32} {off : Int} (tgt : Nat) (d : decode cc pc = .ok (.ifCond .ge off, 3)) (ht : (pc : Int) + off = (tgt : Int)) (kt : 0 ≤ x → Y K l R D cy adr nL cells slots Q M E lv tgt st) (kf : ¬ 0 ≤ x → Y K l R D cy adr nL cells slots Q M E lv (pc + 3) st) : Y K l R D cy adr nL cells slots Q M E lv pc (.int x :: st) := by
  obtain ⟨p, e, s, m, args, below, meth, c, A⟩ := K
  exact fun H locs ls hP hD hS hl => lv_if_ge C0.1 C0.2.1 d ht (fun q => kt q H locs ls hP hD hS hl) (fun q => kf q H locs ls hP hD hS hl)
theorem y_icmp_ge (C0 : Cx K cc own Ts nL ret D cy) {x y : Int32} {off : Int} (tgt : Nat) (d : decode cc pc = .ok (.if_icmp .ge off, 3)) (ht : (pc : Int) + off = (tgt : Int)) (kt : y ≤ x → Y K l R D cy adr nL cells slots Q M E lv tgt st) (kf : ¬ y ≤ x → Y K l R D cy adr nL cells slots Q M E lv (pc + 3) st) : Y K l R D cy adr nL cells slots Q M E lv pc (.int y :: .int x :: st) := by
  obtain ⟨p, e, s, m, args, below, meth, c, A⟩ := K
  exact fun H locs ls hP hD hS hl => lv_icmp_ge C0.1 C0.2.1 d ht (fun q => kt q H locs ls hP hD hS hl) (fun q => kf q H locs ls hP hD hS hl)
theorem y_if_gt (C0 : Cx K cc own Ts nL ret D cy) {x : Int32} {off : Int} (tgt : Nat) (d : decode cc pc = .ok (.ifCond .gt off, 3)) (ht : (pc : Int) + off = (tgt : Int)) (kt : 0 < x → Y K l R D cy adr nL cells slots Q M E lv tgt st) (kf : ¬ 0 < x → Y K l R D cy adr nL cells slots Q M E lv (pc + 3) st) : Y K l R D cy adr nL cells slots Q M E lv pc (.int x :: st) := by
  obtain ⟨p, e, s, m, args, below, meth, c, A⟩ := K
  exact fun H locs ls hP hD hS hl => lv_if_gt C0.1 C0.2.1 d ht (fun q => kt q H locs ls hP hD hS hl) (fun q => kf q H locs ls hP hD hS hl)
theorem y_icmp_gt (C0 : Cx K cc own Ts nL ret D cy) {x y : Int32} {off : Int} (tgt : Nat) (d : decode cc pc = .ok (.if_icmp .gt off, 3)) (ht : (pc : Int) + off = (tgt : Int)) (kt : y < x → Y K l R D cy adr nL cells slots Q M E lv tgt st) (kf : ¬ y < x → Y K l R D cy adr nL cells slots Q M E lv (pc + 3) st) : Y K l R D cy adr nL cells slots Q M E lv pc (.int y :: .int x :: st) := by
  obtain ⟨p, e, s, m, args, below, meth, c, A⟩ := K
  exact fun H locs ls hP hD hS hl => lv_icmp_gt C0.1 C0.2.1 d ht (fun q => kt q H locs ls hP hD hS hl) (fun q => kf q H locs ls hP hD hS hl)
theorem y_if_le (C0 : Cx K cc own Ts nL ret D cy) {x : Int32} {off : Int} (tgt : Nat) (d : decode cc pc = .ok (.ifCond .le off, 3)) (ht : (pc : Int) + off = (tgt : Int)) (kt : x ≤ 0 → Y K l R D cy adr nL cells slots Q M E lv tgt st) (kf : ¬ x ≤ 0 → Y K l R D cy adr nL cells slots Q M E lv (pc + 3) st) : Y K l R D cy adr nL cells slots Q M E lv pc (.int x :: st) := by
  obtain ⟨p, e, s, m, args, below, meth, c, A⟩ := K
  exact fun H locs ls hP hD hS hl => lv_if_le C0.1 C0.2.1 d ht (fun q => kt q H locs ls hP hD hS hl) (fun q => kf q H locs ls hP hD hS hl)
theorem y_icmp_le (C0 : Cx K cc own Ts nL ret D cy) {x y : Int32} {off : Int} (tgt : Nat) (d : decode cc pc = .ok (.if_icmp .le off, 3)) (ht : (pc : Int) + off = (tgt : Int)) (kt : x ≤ y → Y K l R D cy adr nL cells slots Q M E lv tgt st) (kf : ¬ x ≤ y → Y K l R D cy adr nL cells slots Q M E lv (pc + 3) st) : Y K l R D cy adr nL cells slots Q M E lv pc (.int y :: .int x :: st) := by
  obtain ⟨p, e, s, m, args, below, meth, c, A⟩ := K
  exact fun H locs ls hP hD hS hl => lv_icmp_le C0.1 C0.2.1 d ht (fun q => kt q H locs ls hP hD hS hl) (fun q => kf q H locs ls hP hD hS hl)
theorem y_ifnonnull (C0 : Cx K cc own Ts nL ret D cy) {x : Nat} {off : Int} (tgt : Nat) (d : decode cc pc = .ok (.ifnonnull off, 3)) (ht : (pc : Int) + off = (tgt : Int)) (k : Y K l R D cy adr nL cells slots Q M E lv tgt st) : Y K l R D cy adr nL cells slots Q M E lv pc (.ref x :: st) := by
  obtain ⟨p, e, s, m, args, below, meth, c, A⟩ := K
  exact fun H locs ls hP hD hS hl => lv_ifnonnull C0.1 C0.2.1 d ht (k H locs ls hP hD hS hl)
theorem y_ifnonnullN (C0 : Cx K cc own Ts nL ret D cy) {off : Int} (d : decode cc pc = .ok (.ifnonnull off, 3)) (k : Y K l R D cy adr nL cells slots Q M E lv (pc + 3) st) : Y K l R D cy adr nL cells slots Q M E lv pc (.null :: st) := by
  obtain ⟨p, e, s, m, args, below, meth, c, A⟩ := K
  exact fun H locs ls hP hD hS hl => lv_ifnonnullN C0.1 C0.2.1 d (k H locs ls hP hD hS hl)
theorem y_ifnull (C0 : Cx K cc own Ts nL ret D cy) {x : Nat} {off : Int} (d : decode cc pc = .ok (.ifnull off, 3)) (k : Y K l R D cy adr nL cells slots Q M E lv (pc + 3) st) : Y K l R D cy adr nL cells slots Q M E lv pc (.ref x :: st) := by
  obtain ⟨p, e, s, m, args, below, meth, c, A⟩ := K
  exact fun H locs ls hP hD hS hl => lv_ifnull C0.1 C0.2.1 d (k H locs ls hP hD hS hl)
theorem y_ifnullN (C0 : Cx K cc own Ts nL ret D cy) {off : Int} (tgt : Nat) (d : decode cc pc = .ok (.ifnull off, 3)) (ht : (pc : Int) + off = (tgt : Int)) (k : Y K l R D cy adr nL cells slots Q M E lv tgt st) : Y K l R D cy adr nL cells slots Q M E lv pc (.null :: st) := by
  obtain ⟨p, e, s, m, args, below, meth, c, A⟩ := K
  exact fun H locs ls hP hD hS hl => lv_ifnullN C0.1 C0.2.1 d ht (k H locs ls hP hD hS hl)
theorem y_get (C0 : Cx K cc own Ts nL ret D cy) (ci : Nat) {C : String} {T : u_T} {N : Nat} (hc : vwCl[ci]? = some (C, T, N)) (hN : ynf ci = N) (hci : ci < 6) (hin : ∀ w ∈ u_ws C T N, w ∈ Ts) {index j : Nat} (k : Nat) (hkd : ykd j = ci) (hk : k < N) (hw : Cond.fieldLink own index (T k).1 (T k).2.1 (T k).2.2.1 ∈ Ts) {v : Value} (hv : yvl adr M j k = v) (d : decode cc pc = .ok (.getfield index, 3)) (kk : Y K l R D cy adr nL cells slots Q M E lv (pc + 3) (v :: st)) : Y K l R D cy adr nL cells slots Q M E lv pc (.ref (adr j) :: st) := by
  obtain ⟨p, e, s, m, args, below, meth, c, A⟩ := K
  obtain ⟨hx, hb, hml, hown, hts, hK, hA, hr, hlk⟩ := C0
  intro H locs ls hP hD hS hl
  have he : (ypl adr cy M ++ E)[j]? = some (adr j, .inr (ci, yfs adr M j N)) := by
    rw [ypl_get (ykd_lt (by omega))]
    unfold ycl
    rw [if_pos (by omega), hkd, hN]
  exact va_get (D := D) (ci := ci) (v := v) (C := C) (T := T) (N := N) hx hb hts hin hown hK hP j he hc k hk (hts _ hw) (fun _ h9 => h9) (by rw [yfs_get hk, hv]) d (kk H locs ls hP hD hS hl)
theorem y_put (C0 : Cx K cc own Ts nL ret D cy) (ci : Nat) {C : String} {T : u_T} {N : Nat} (hc : vwCl[ci]? = some (C, T, N)) (hN : ynf ci = N) (hci : ci < 6) (hin : ∀ w ∈ u_ws C T N, w ∈ Ts) (ty0 : Nat → FieldType) (hty : ∀ k, k < N → parseFieldDescriptor (T k).2.2.1 = some (ty0 k)) (hnm : ∀ a, a < N → ∀ b, b < N → a ≠ b → (T a).2.1 ≠ (T b).2.1) {index j : Nat} (k : Nat) (hkd : ykd j = ci) (hk : k < N) (hw : Cond.fieldLink own index (T k).1 (T k).2.1 (T k).2.2.1 ∈ Ts) (hrf : yrf j k = none) (hfin : (T k).2.2.2 = false) (hdsc : parseFieldDescriptor (T k).2.2.1 = some .int) {x : Int32} (d : decode cc pc = .ok (.putfield index, 3)) (kk : Y K l R D cy adr nL cells slots Q (yst M j k x) E lv (pc + 3) st) : Y K l R D cy adr nL cells slots Q M E lv pc (.int x :: .ref (adr j) :: st) := by
  obtain ⟨p, e, s, m, args, below, meth, c, A⟩ := K
  obtain ⟨hx, hb, hml, hown, hts, hK, hA, hr, hlk⟩ := C0
  intro H locs ls hP hD hS hl
  have he : (ypl adr cy M ++ E)[j]? = some (adr j, .inr (ci, yfs adr M j N)) := by
    rw [ypl_get (ykd_lt (by omega))]
    unfold ycl
    rw [if_pos (by omega), hkd, hN]
  refine va_put (D := D) (ci := ci) (v := .int x) (ty := .int) (C := C) (T := T) (N := N) hx hb hts hin ty0 hty hnm hown hK hP hD hS j he hc k hk (hts _ hw) (fun _ h9 => h9) hfin hdsc rfl rfl (by rw [yfs_len]; exact hk) d (fun H locs hP hD hS => ?_)
  subst hN
  rw [ypl_setf hkd hci hrf] at hP hD
  exact kk H locs ls hP hD hS hl
theorem y_iald (C0 : Cx K cc own Ts nL ret D cy) {j : Nat} (k : Nat) (hkd : ykd j = 6) {i : Int32} (hi : i = nI k) (hk : k < 193) (d : decode cc pc = .ok (.iaload, 1)) (kk : Y K l R D cy adr nL cells slots Q M E lv (pc + 1) (.int (M j k) :: st)) : Y K l R D cy adr nL cells slots Q M E lv pc (.int i :: .ref (adr j) :: st) := by
  obtain ⟨p, e, s, m, args, below, meth, c, A⟩ := K
  obtain ⟨hx, hb, hml, hown, hts, hK, hA, hr, hlk⟩ := C0
  intro H locs ls hP hD hS hl
  subst hi
  have he : (ypl adr cy M ++ E)[j]? = some (adr j, .inl (cy 0, 193, .inl (M j))) := by
    rw [ypl_get (ykd_lt (by omega))]
    unfold ycl
    rw [if_neg (by omega), if_pos hkd]
  have h := kk H locs ls hP hD hS hl
  rw [← nI_clamp (n := k) (by omega)] at h
  exact va_iald hx hb hK hP j 0 he rfl (vp_in_nI hk (by decide)) d h
theorem y_iast (C0 : Cx K cc own Ts nL ret D cy) {j : Nat} (k : Nat) (hkd : ykd j = 6) {i x : Int32} (hi : i = nI k) (hk : k < 193) (d : decode cc pc = .ok (.iastore, 1)) (kk : Y K l R D cy adr nL cells slots Q (yst M j k x) E lv (pc + 1) st) : Y K l R D cy adr nL cells slots Q M E lv pc (.int x :: .int i :: .ref (adr j) :: st) := by
  obtain ⟨p, e, s, m, args, below, meth, c, A⟩ := K
  obtain ⟨hx, hb, hml, hown, hts, hK, hA, hr, hlk⟩ := C0
  intro H locs ls hP hD hS hl
  subst hi
  have he : (ypl adr cy M ++ E)[j]? = some (adr j, .inl (cy 0, 193, .inl (M j))) := by
    rw [ypl_get (ykd_lt (by omega))]
    unfold ycl
    rw [if_neg (by omega), if_pos hkd]
  refine va_iast hx hb hK hP hD hS j 0 he rfl (vp_in_nI hk (by decide)) d (fun H locs hP hD hS => ?_)
  rw [nI_clamp (n := k) (by omega), ypl_seti hkd] at hP hD
  exact kk H locs ls hP hD hS hl
theorem y_aald (C0 : Cx K cc own Ts nL ret D cy) {j : Nat} (k ci : Nat) (hkd : ykd j = ci) (h7 : 6 < ci) (h10 : ci < 10) {i : Int32} (hi : i = nI k) (hk : k < yln ci) {t : Nat} (ht : yel j k = t) (d : decode cc pc = .ok (.aaload, 1)) (kk : Y K l R D cy adr nL cells slots Q M E lv (pc + 1) (.ref (adr t) :: st)) : Y K l R D cy adr nL cells slots Q M E lv pc (.int i :: .ref (adr j) :: st) := by
  obtain ⟨p, e, s, m, args, below, meth, c, A⟩ := K
  obtain ⟨hx, hb, hml, hown, hts, hK, hA, hr, hlk⟩ := C0
  intro H locs ls hP hD hS hl
  subst hi
  have he : (ypl adr cy M ++ E)[j]? = some (adr j, .inl (cy (ci - 6), yln ci, .inr (.inr (.inr (.inr (fun i => some (adr (yel j i)))))))) := by
    rw [ypl_get (ykd_lt (by omega))]
    unfold ycl
    rw [if_neg (by omega), if_neg (by omega), hkd]
  have hl15 : yln ci ≤ 15 := by unfold yln; split <;> omega
  have h := kk H locs ls hP hD hS hl
  subst ht
  rw [← nI_clamp (n := k) (by omega)] at h
  rcases (show ci = 7 ∨ ci = 8 ∨ ci = 9 by omega) with h7 | h7 | h7 <;> subst h7
  · exact va_aldq hx hb hK hP j 1 he rfl (vp_in_nI hk (by omega)) d h
  · exact va_aldq hx hb hK hP j 2 he rfl (vp_in_nI hk (by omega)) d h
  · exact va_aldq hx hb hK hP j 3 he rfl (vp_in_nI hk (by omega)) d h
theorem y_alen (C0 : Cx K cc own Ts nL ret D cy) {j : Nat} (ci : Nat) (hkd : ykd j = ci) (h7 : 6 < ci) (h10 : ci < 10) (d : decode cc pc = .ok (.arraylength, 1)) (kk : Y K l R D cy adr nL cells slots Q M E lv (pc + 1) (.int (nI (yln ci)) :: st)) : Y K l R D cy adr nL cells slots Q M E lv pc (.ref (adr j) :: st) := by
  obtain ⟨p, e, s, m, args, below, meth, c, A⟩ := K
  obtain ⟨hx, hb, hml, hown, hts, hK, hA, hr, hlk⟩ := C0
  intro H locs ls hP hD hS hl
  have he : (ypl adr cy M ++ E)[j]? = some (adr j, .inl (cy (ci - 6), yln ci, .inr (.inr (.inr (.inr (fun i => some (adr (yel j i)))))))) := by
    rw [ypl_get (ykd_lt (by omega))]
    unfold ycl
    rw [if_neg (by omega), if_neg (by omega), hkd]
  have h := kk H locs ls hP hD hS hl
  rcases (show ci = 7 ∨ ci = 8 ∨ ci = 9 by omega) with h7 | h7 | h7 <;> subst h7
  · exact va_alen hx hb hK hP j 1 he rfl rfl d h
  · exact va_alen hx hb hK hP j 2 he rfl rfl d h
  · exact va_alen hx hb hK hP j 3 he rfl rfl d h
theorem y_alen6 (C0 : Cx K cc own Ts nL ret D cy) {j : Nat} (hkd : ykd j = 6) (d : decode cc pc = .ok (.arraylength, 1)) (kk : Y K l R D cy adr nL cells slots Q M E lv (pc + 1) (.int 193 :: st)) : Y K l R D cy adr nL cells slots Q M E lv pc (.ref (adr j) :: st) := by
  obtain ⟨p, e, s, m, args, below, meth, c, A⟩ := K
  obtain ⟨hx, hb, hml, hown, hts, hK, hA, hr, hlk⟩ := C0
  intro H locs ls hP hD hS hl
  have he : (ypl adr cy M ++ E)[j]? = some (adr j, .inl (cy 0, 193, .inl (M j))) := by
    rw [ypl_get (ykd_lt (by omega))]
    unfold ycl
    rw [if_neg (by omega), if_pos hkd]
  exact va_alen hx hb hK hP j 0 he rfl rfl d (kk H locs ls hP hD hS hl)
theorem y_mmax (C0 : Cx K cc own Ts nL ret D cy) {index : Nat} (hw1 : Cond.methodLink own index Lib.Math.max.name ∈ Ts) (hw2 : Cond.static Lib.Math.max.name ∈ Ts) (hw3 : Cond.initialized "java/lang/Math" ∈ Ts) (hw4 : Cond.code Lib.Math.max.name Lib.Math.max.code 2 (some .int) ∈ Ts) (hf : 1 ≤ R.frames) (hlo : (st.map fun v => v.category).sum + 13 ≤ R.locals) (hc : cells ≤ R.cells) (hs : slots ≤ R.slots) {x y : Int32} (d : decode cc pc = .ok (.invokestatic index, 3)) (kk : Y K l R D cy adr nL cells slots Q M E lv (pc + 3) (.int (if x < y then y else x) :: st)) : Y K l R D cy adr nL cells slots Q M E lv pc (.int y :: .int x :: st) := by
  obtain ⟨p, e, s, m, args, below, meth, c, A⟩ := K
  obtain ⟨hx, hb, hml, hown, hts, hK, hA, hr, hlk⟩ := C0
  exact fun H locs ls hP hD hS hl => va_mmax hx hb (hml.trans hl.1.symm) hown (hts _ hw1) (hts _ hw2) (hts _ hw3) (hts _ hw4) hf hlo hc hs d (kk H locs ls hP hD hS hl)
theorem y_mmin (C0 : Cx K cc own Ts nL ret D cy) {index : Nat} (hw1 : Cond.methodLink own index Lib.Math.min.name ∈ Ts) (hw2 : Cond.static Lib.Math.min.name ∈ Ts) (hw3 : Cond.initialized "java/lang/Math" ∈ Ts) (hw4 : Cond.code Lib.Math.min.name Lib.Math.min.code 2 (some .int) ∈ Ts) (hf : 1 ≤ R.frames) (hlo : (st.map fun v => v.category).sum + 13 ≤ R.locals) (hc : cells ≤ R.cells) (hs : slots ≤ R.slots) {x y : Int32} (d : decode cc pc = .ok (.invokestatic index, 3)) (kk : Y K l R D cy adr nL cells slots Q M E lv (pc + 3) (.int (if y < x then y else x) :: st)) : Y K l R D cy adr nL cells slots Q M E lv pc (.int y :: .int x :: st) := by
  obtain ⟨p, e, s, m, args, below, meth, c, A⟩ := K
  obtain ⟨hx, hb, hml, hown, hts, hK, hA, hr, hlk⟩ := C0
  exact fun H locs ls hP hD hS hl => va_mmin hx hb (hml.trans hl.1.symm) hown (hts _ hw1) (hts _ hw2) (hts _ hw3) (hts _ hw4) hf hlo hc hs d (kk H locs ls hP hD hS hl)
theorem y_widen {k n : Nat} (h1 : cells ≤ k) (h2 : slots ≤ n) (kk : Y K l R D cy adr nL k n Q M E lv pc st) : Y K l R D cy adr nL cells slots Q M E lv pc st := by
  obtain ⟨p, e, s, m, args, below, meth, c, A⟩ := K
  exact fun H locs ls hP hD hS hl => W.widen h1 h2 (kk H locs ls hP hD hS hl)
end Rows
/-- a method's end: its answer, and the memory -/
def Qy (D : va_G) (cy : Nat → ClassId) (adr : Nat → Nat) (A : Nat → Prop) (r : Option Value) (M' : yM) : Array Value → State → Outcome → State → Prop := fun _ st oc t => oc = .returned r ∧ va_P D vwCl (ypl adr cy M') t.heap ∧ va_F A st t
/-- a method's start -/
def Py (D : va_G) (cy : Nat → ClassId) (adr : Nat → Nat) (sz : Nat) (As : List Value) (M : yM) : Array Value → State → Prop := va_Pc As (fun U => U.heap.size = sz ∧ va_P D vwCl (ypl adr cy M) U.heap ∧ va_K D vwCl (ytys cy) U ∧ va_D (fun _ => True) (ypl adr cy M))
/-- THE CONTRACT: called with As over the memory M, y answers r, and the memory is M' -/
def Ct (l : Launch) (y : MethodName) (ws : List Cond) (rm : Room) (D : va_G) (cy : Nat → ClassId) (adr : Nat → Nat) (As : List Value) (M : yM) (r : Option Value) (M' : yM) (mc ms : Nat) : Prop := ∀ sz, Met l y ws rm (Py D cy adr sz As M) (Qy D cy adr (yAA adr sz) r M') mc ms (yAA adr sz)
def QT (K : yK) (D : va_G) (cy : Nat → ClassId) (adr : Nat → Nat) (r : Option Value) (M' : yM) (mc ms : Nat) : State → Prop := match K with
  | (_, _, s, _, args, below, _, _, A) => MQ below (Qy D cy adr A r M') args s mc ms A
theorem Py_blind {D : va_G} {cy : Nat → ClassId} {adr : Nat → Nat} {sz : Nat} {As : List Value} {M : yM} : FrameBlind (Py D cy adr sz As M) := fun a U g mk q => by
  obtain ⟨q0, q1, qP, qK, qD⟩ := q
  exact ⟨q0, q1, qP, va_K.moved (u := U) (U := U.calling g mk a) (Vm.Alike.refl U.vm) qK, qD⟩
theorem Ct.mk {l : Launch} {y : MethodName} {ws ws' : List Cond} {rm : Room} {D : va_G} {cy : Nat → ClassId} {adr : Nat → Nat} {As : List Value} {M : yM} {r : Option Value} {M' : yM} {mc ms : Nat} (cc : ByteArray) (maxL : Nat) (ret : Option FieldType) (own : String)
    (hy : plainName y.cls = true) (hw : ws = Cond.code y cc maxL ret :: ws') (ho : y.cls = own) (hn : (lg_sl As).length ≤ maxL)
    (body : ∀ K : yK, Cx K cc own ws maxL ret D cy → Y K l rm D cy adr maxL 0 0 (QT K D cy adr r M' mc ms) M [] (lv_args 0 As) 0 []) : Ct l y ws rm D cy adr As M r M' mc ms := by
  intro sz
  refine Met.ofW (cc := cc) (maxL := maxL) (ret := ret) hy hw ?_
  intro p e s m args below meth c s₁ B hml hv
  obtain ⟨rfl, hsz, hP, hK, hD0⟩ := hv
  have hts := atoms_spec (ws := ws) B.pre
  have hown : s.vm.findClass own = some m.cls := by rw [← ho]; exact findClass_of_methodNamed B.named
  subst hsz
  have hl := lv_entry As (n := maxL) hn
  rw [lg_entry_eq]
  refine body (p, e, s, m, As.toArray, below, meth, c, yAA adr s.heap.size) ⟨B.exec, B.bytes, hml, hown, hts, hK, fun q h => Or.inr h, B.returns, B.notSynchronized⟩ s.heap [] _ (by rw [List.append_nil]; exact hP) ?_ va_S.rf hl
  rw [List.append_nil]
  refine ⟨hD0.1, fun k q hq => ?_⟩
  have hk : k < 55 := by
    have := (List.getElem?_eq_some_iff.mp hq).1
    rwa [ypl_len] at this
  have hq' := ypl_get (adr := adr) (cy := cy) (M := M) (E := []) hk
  rw [List.append_nil, hq] at hq'
  cases hq'
  exact Or.inl ⟨k, hk, rfl⟩
section Ends
variable {K : yK} {l : Launch} {R : Room} {D : va_G} {cy : Nat → ClassId} {adr : Nat → Nat} {nL cells slots mc ms : Nat} {Q : State → Prop} {M M' : yM} {E : va_W} {lv : List (Nat × Value)} {pc : Nat} {st : List Value} {cc : ByteArray} {own : String} {Ts : List Cond} {ret : Option FieldType} {r : Option Value}
theorem ypl_P {H : Heap} (h : va_P D vwCl (ypl adr cy M ++ E) H) : va_P D vwCl (ypl adr cy M) H := fun k q hq => by
  have hk : k < 55 := by
    have := (List.getElem?_eq_some_iff.mp hq).1
    rwa [ypl_len] at this
  refine h k q ?_
  rw [List.getElem?_append_left (by rw [ypl_len]; exact hk)]
  exact hq
theorem y_iret (C0 : Cx K cc own Ts nL (some .int) D cy) {v : Int32} (d : decode cc pc = .ok (.ireturn, 1)) (e1 : some (Value.int v) = r) (e2 : M = M') : Y K l R D cy adr nL mc ms (QT K D cy adr r M' mc ms) M E lv pc [.int v] := by
  subst e1; subst e2
  obtain ⟨p, e, s, m, args, below, meth, c, A⟩ := K
  obtain ⟨hx, hb, hml, hown, hts, hK, hA, hr, hlk⟩ := C0
  exact fun H locs ls hP hD hS hl => W.iret hx hb hr (fun t ht hW => ⟨rfl, by rw [ht]; exact ypl_P hP, hS.F ht⟩) hS.2.2 d hlk
theorem y_zret (C0 : Cx K cc own Ts nL (some .boolean) D cy) {v : Int32} (hn : narrow .boolean (.int v) = .int v) (d : decode cc pc = .ok (.ireturn, 1)) (e1 : some (Value.int v) = r) (e2 : M = M') : Y K l R D cy adr nL mc ms (QT K D cy adr r M' mc ms) M E lv pc [.int v] := by
  subst e1; subst e2
  obtain ⟨p, e, s, m, args, below, meth, c, A⟩ := K
  obtain ⟨hx, hb, hml, hown, hts, hK, hA, hr, hlk⟩ := C0
  exact fun H locs ls hP hD hS hl => W.zret hx hb hr hn (fun t ht hW => ⟨rfl, by rw [ht]; exact ypl_P hP, hS.F ht⟩) hS.2.2 d hlk
theorem y_lret (C0 : Cx K cc own Ts nL (some .long) D cy) {v : Int64} (d : decode cc pc = .ok (.lreturn, 1)) (e1 : some (Value.long v) = r) (e2 : M = M') : Y K l R D cy adr nL mc ms (QT K D cy adr r M' mc ms) M E lv pc [.long v] := by
  subst e1; subst e2
  obtain ⟨p, e, s, m, args, below, meth, c, A⟩ := K
  obtain ⟨hx, hb, hml, hown, hts, hK, hA, hr, hlk⟩ := C0
  exact fun H locs ls hP hD hS hl => W.lret hx hb hr (fun t ht hW => ⟨rfl, by rw [ht]; exact ypl_P hP, hS.F ht⟩) hS.2.2 d hlk
theorem y_vret (C0 : Cx K cc own Ts nL none D cy) (d : decode cc pc = .ok (.return_, 1)) (e1 : none = r) (e2 : M = M') : Y K l R D cy adr nL mc ms (QT K D cy adr r M' mc ms) M E lv pc [] := by
  subst e1; subst e2
  obtain ⟨p, e, s, m, args, below, meth, c, A⟩ := K
  obtain ⟨hx, hb, hml, hown, hts, hK, hA, hr, hlk⟩ := C0
  exact fun H locs ls hP hD hS hl => W.vret hx hb hr (fun t ht hW => ⟨rfl, by rw [ht]; exact ypl_P hP, hS.F ht⟩) hS.2.2 d hlk
theorem y_aret {nm : String} (C0 : Cx K cc own Ts nL (some (.object nm)) D cy) {v : Value} (hv : v = .null ∨ ∃ a, v = .ref a) (d : decode cc pc = .ok (.areturn, 1)) (e1 : some v = r) (e2 : M = M') : Y K l R D cy adr nL mc ms (QT K D cy adr r M' mc ms) M E lv pc [v] := by
  subst e1; subst e2
  obtain ⟨p, e, s, m, args, below, meth, c, A⟩ := K
  obtain ⟨hx, hb, hml, hown, hts, hK, hA, hr, hlk⟩ := C0
  exact fun H locs ls hP hD hS hl => W.aret hx hb hr (Or.inl ⟨_, rfl⟩) hv (fun t ht hW => ⟨rfl, by rw [ht]; exact ypl_P hP, hS.F ht⟩) hS.2.2 d hlk
/-- behind a call over the whole memory: the other cells stay -/
theorem y_join {p : Program} {e : Env} {s : State} {m : MethodId} {args : Array Value} {below : List Frame} {meth : Method} {c : Code} {A : Nat → Prop} {H : Heap} {locs : List Loc} {ls : Array Slot} {st0 rest : List Value} {a : Array Value}
    (hA : ∀ q, s.heap.size ≤ q → A q) (hP : va_P D vwCl (ypl adr cy M ++ E) H) (hD : va_D A (ypl adr cy M ++ E)) (hS : va_S A s.heap H locs) (hl : lv_has ls nL lv)
    (hr : va_Run p l e R s m args below meth c H locs cells slots mc ms (F0 m pc ls st0) rest (Qy D cy adr (yAA adr H.size) r M' a) (yAA adr H.size))
    (kk : Y (p, e, s, m, args, below, meth, c, A) l R D cy adr nL (cells + mc) (slots + ms) Q M' E lv (pc + 3) (r.toList ++ rest)) : W p l e R s m args below meth c H locs cells slots Q (F0 m pc ls st0) := by
  have hF : ∀ q, yAA adr H.size q → A q := by
    intro q h
    rcases h with ⟨j, hj, rfl⟩ | h
    · exact hD.2 j _ (ypl_get hj)
    · exact hA q (Nat.le_trans hS.1 h)
  intro T hT X
  obtain ⟨v, st₀, t, T', L, h0, X', hL, e1, e2, ⟨hv, hp, hz, hk⟩, sg⟩ := hr T hT X
  cases hv
  rw [h0] at hz hk
  have hE : ∀ (k : Nat) (q : Nat × va_E), E[k]? = some q → va_at D vwCl q H ∧ q.1 < H.size ∧ ¬ yAA adr H.size q.1 := by
    intro k q hq
    have hq' : (ypl adr cy M ++ E)[55 + k]? = some q := by rw [ypl_E]; exact hq
    refine ⟨hP _ _ hq', (hP _ _ hq').lt, fun h => ?_⟩
    rcases h with ⟨j, hj, h⟩ | h
    · have := hD.1 _ _ _ _ hq' (ypl_get (M := M) (cy := cy) (adr := adr) hj) h
      omega
    · have := (hP _ _ hq').lt
      omega
  have hP1 : va_P D vwCl (ypl adr cy M' ++ E) T'.heap := by
    rw [e1]
    exact va_P.app hp (fun k q hq => (hE k q hq).1.kept (hk q.1 (hE k q hq).2.1 (hE k q hq).2.2))
  have hS1 : va_S A s.heap T'.heap (locs ++ L) := by
    refine ⟨Nat.le_trans hS.1 (by rw [e1]; exact hz), fun q h1 h2 => ?_, fun q hq => ?_⟩
    · rw [e1, hk q (Nat.lt_of_lt_of_le h1 hS.1) (fun z => h2 (hF q z))]
      exact hS.2.1 q h1 h2
    · rcases List.mem_append.mp hq with h | h
      · exact hS.2.2 q h
      · exact hF _ (hL q h)
  obtain ⟨t2, a1, b1⟩ := kk T'.heap (locs ++ L) ls hP1 (ypl_D hD) hS1 hl T' rfl X'
  exact ⟨t2, sg t2 a1, b1⟩
theorem y_callV (C0 : Cx K cc own Ts nL ret D cy) {y : MethodName} {bytes : ByteArray} {maxL index : Nat} {rety : Option FieldType} {ws ws' : List Cond} {rm : Room} {C : String} {T : u_T} {N jb n : Nat} {As rest st0 : List Value}
    (hM : Ct l y ws rm D cy adr (.ref (adr jb) :: As) M r M' mc ms) (ci : Nat) (hc : vwCl[ci]? = some (C, T, N)) (hci : ci < 6) (hkd : ykd jb = ci)
    (hG : GoodIn Ts (wsV own index C y ws)) (hw : ws = Cond.code y bytes maxL rety :: ws') (hrc : rm.cells = mc) (hrs : rm.slots = ms)
    (hd : y.cls = C ∧ y.cls ≠ "java/lang/invoke/MethodHandle" ∧ y.cls ≠ "java/lang/invoke/VarHandle" ∧ (parseMethodDescriptor y.desc).map (fun d => d.parameters.length) = some n) (hR : rm.frames + 1 ≤ R.frames ∧ 8 + (maxL + 11) + rm.locals ≤ R.locals)
    (hn : As.length = n) (hst : st0 = As.reverse ++ .ref (adr jb) :: rest) (hcat : (rest.map fun v => v.category).sum ≤ 8) (d : decode cc pc = .ok (.invokevirtual index, 3)) (hf : cells + mc ≤ R.cells ∧ slots + ms ≤ R.slots)
    (kk : Y K l R D cy adr nL (cells + mc) (slots + ms) Q M' E lv (pc + 3) (r.toList ++ rest)) : Y K l R D cy adr nL cells slots Q M E lv pc st0 := by
  obtain ⟨p, e, s, m, args, below, meth, c, A⟩ := K
  obtain ⟨hx, hb, hml, hown, hts, hK, hA, hr, hlk⟩ := C0
  intro H locs ls hP hD hS hl
  have he : (ypl adr cy M ++ E)[jb]? = some (adr jb, .inr (ci, yfs adr M jb (ynf ci))) := by
    rw [ypl_get (ykd_lt (by omega))]
    unfold ycl
    rw [if_pos (by omega), hkd]
  refine y_join hA hP hD hS hl (va_runV (As := As) (rest := rest) ⟨hx, hb, hml, hown, hts⟩ (hM H.size) (cwV n hts hG hw hrc hrs hd hR) ⟨Py_blind, va_recv hK hP hc he, fun U hU hW => ⟨rfl, by rw [hU], by rw [hU]; exact ypl_P hP, va_K.moved hW.alike hK, ?_⟩⟩ rfl hn hl.1 hst (lv_room (Nat.le_trans hcat (Nat.le_refl 8))) d hf) kk
  have h9 := hD.sub (A := A) (ws' := ypl adr cy M) (List.range 55) (by decide +kernel) (by
    apply List.ext_getElem?
    intro i
    by_cases hi : i < 55
    · have := ypl_get (adr := adr) (cy := cy) (M := M) (E := []) hi
      rw [List.append_nil] at this
      simp [hi, ypl_get, this]
    · have h2 : (ypl adr cy M)[i]? = none := by rw [List.getElem?_eq_none_iff, ypl_len]; omega
      simp [hi, h2])
  exact h9.weaken (fun _ _ _ _ => trivial)
theorem y_callS (C0 : Cx K cc own Ts nL ret D cy) {y : MethodName} {bytes : ByteArray} {maxL index : Nat} {rety : Option FieldType} {ws ws' : List Cond} {rm : Room} {n : Nat} {As rest st0 : List Value}
    (hM : Ct l y ws rm D cy adr As M r M' mc ms)
    (hG : GoodIn Ts (va_wsS own index y ws)) (hw : ws = Cond.code y bytes maxL rety :: ws') (hrc : rm.cells = mc) (hrs : rm.slots = ms)
    (hd : y.cls ≠ "java/lang/invoke/MethodHandle" ∧ y.cls ≠ "java/lang/invoke/VarHandle" ∧ (parseMethodDescriptor y.desc).map (fun d => d.parameters.length) = some n) (hR : rm.frames + 1 ≤ R.frames ∧ 8 + (maxL + 11) + rm.locals ≤ R.locals)
    (hn : As.length = n) (hst : st0 = As.reverse ++ rest) (hcat : (rest.map fun v => v.category).sum ≤ 8) (d : decode cc pc = .ok (.invokestatic index, 3)) (hf : cells + mc ≤ R.cells ∧ slots + ms ≤ R.slots)
    (kk : Y K l R D cy adr nL (cells + mc) (slots + ms) Q M' E lv (pc + 3) (r.toList ++ rest)) : Y K l R D cy adr nL cells slots Q M E lv pc st0 := by
  obtain ⟨p, e, s, m, args, below, meth, c, A⟩ := K
  obtain ⟨hx, hb, hml, hown, hts, hK, hA, hr, hlk⟩ := C0
  intro H locs ls hP hD hS hl
  refine y_join hA hP hD hS hl (va_runS (As := As) (rest := rest) ⟨hx, hb, hml, hown, hts⟩ (hM H.size) (va_cwS n hts hG hw hrc hrs hd hR) ⟨Py_blind, fun U hU hW => ⟨rfl, by rw [hU], by rw [hU]; exact ypl_P hP, va_K.moved hW.alike hK, ?_⟩⟩ rfl hn hl.1 hst (lv_room (Nat.le_trans hcat (Nat.le_refl 8))) d hf) kk
  have h9 := hD.sub (A := A) (ws' := ypl adr cy M) (List.range 55) (by decide +kernel) (by
    apply List.ext_getElem?
    intro i
    by_cases hi : i < 55
    · have := ypl_get (adr := adr) (cy := cy) (M := M) (E := []) hi
      rw [List.append_nil] at this
      simp [hi, ypl_get, this]
    · have h2 : (ypl adr cy M)[i]? = none := by rw [List.getElem?_eq_none_iff, ypl_len]; omega
      simp [hi, h2])
  exact h9.weaken (fun _ _ _ _ => trivial)
end Ends
end YB
