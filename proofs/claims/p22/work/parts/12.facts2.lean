section YG
variable {K : yK} {l : Launch} {R : Room} {D : va_G} {cy : Nat → ClassId} {adr : Nat → Nat} {nL cells slots : Nat} {Q : State → Prop} {M : yM} {E : va_W} {lv : List (Nat × Value)} {pc : Nat} {st : List Value} {cc : ByteArray} {own : String} {Ts : List Cond} {ret : Option FieldType}
theorem y_tswI (C0 : Cx K cc own Ts nL ret D cy) {dflt lo hi : Int} {offs : Array Int} {len : Nat} {x : Int32} (v : Int) {off : Int} (d : decode cc pc = .ok (.tableswitch dflt lo hi offs, len)) (hx : x.toInt = v) (h1 : ¬ v < lo) (h2 : ¬ hi < v) (ho : offs[(v - lo).toNat]? = some off) (tgt : Nat) (ht : (pc : Int) + off = (tgt : Int)) (k : Y K l R D cy adr nL cells slots Q M E lv tgt st) : Y K l R D cy adr nL cells slots Q M E lv pc (.int x :: st) := by
  subst hx
  obtain ⟨p, e, s, m, args, below, meth, c, A⟩ := K
  exact fun H locs ls hP hD hS hl => lv_tableIn C0.1 C0.2.1 d h1 h2 ho ht (k H locs ls hP hD hS hl)
theorem y_tswO (C0 : Cx K cc own Ts nL ret D cy) {dflt lo hi : Int} {offs : Array Int} {len : Nat} {x : Int32} (d : decode cc pc = .ok (.tableswitch dflt lo hi offs, len)) (h : x.toInt < lo ∨ hi < x.toInt) (tgt : Nat) (ht : (pc : Int) + dflt = (tgt : Int)) (k : Y K l R D cy adr nL cells slots Q M E lv tgt st) : Y K l R D cy adr nL cells slots Q M E lv pc (.int x :: st) := by
  obtain ⟨p, e, s, m, args, below, meth, c, A⟩ := K
  exact fun H locs ls hP hD hS hl => lv_tableOut C0.1 C0.2.1 d h ht (k H locs ls hP hD hS hl)
theorem y_lsw (C0 : Cx K cc own Ts nL ret D cy) {dflt : Int} {ps : Array (Int × Int)} {len : Nat} {x : Int32} {off : Int} (d : decode cc pc = .ok (.lookupswitch dflt ps, len)) (hp : (ps.toList.zip (ps.toList.drop 1)).all (fun (a, next) => a.1 < next.1) = true) (ho : Op.lookupswitch.offset ps.toList dflt x.toInt = off) (tgt : Nat) (ht : (pc : Int) + off = (tgt : Int)) (k : Y K l R D cy adr nL cells slots Q M E lv tgt st) : Y K l R D cy adr nL cells slots Q M E lv pc (.int x :: st) := by
  obtain ⟨p, e, s, m, args, below, meth, c, A⟩ := K
  exact fun H locs ls hP hD hS hl => lv_lookup C0.1 C0.2.1 d hp ho ht (k H locs ls hP hD hS hl)
theorem y_null (C0 : Cx K cc own Ts nL ret D cy) (d : decode cc pc = .ok (.aconst_null, 1)) (k : Y K l R D cy adr nL cells slots Q M E lv (pc + 1) (.null :: st)) : Y K l R D cy adr nL cells slots Q M E lv pc st := by
  obtain ⟨p, e, s, m, args, below, meth, c, A⟩ := K
  exact fun H locs ls hP hD hS hl => lv_null C0.1 C0.2.1 d (k H locs ls hP hD hS hl)
theorem y_aload_nN (C0 : Cx K cc own Ts nL ret D cy) (k : Nat) {q : Fin 4} {i : Nat} (d : decode cc pc = .ok (.aload_n q, 1)) (hi : (q : Nat) = i) (hk : lv[k]? = some (i, .null)) (kk : Y K l R D cy adr nL cells slots Q M E lv (pc + 1) (.null :: st)) : Y K l R D cy adr nL cells slots Q M E lv pc st := by
  obtain ⟨p, e, s, m, args, below, meth, c, A⟩ := K
  exact fun H locs ls hP hD hS hl => lv_aload_nN C0.1 C0.2.1 d hi (lv_at hl k hk) (kk H locs ls hP hD hS hl)
theorem y_aloadN (C0 : Cx K cc own Ts nL ret D cy) (k : Nat) {i : Nat} (d : decode cc pc = .ok (.aload i, 2)) (hk : lv[k]? = some (i, .null)) (kk : Y K l R D cy adr nL cells slots Q M E lv (pc + 2) (.null :: st)) : Y K l R D cy adr nL cells slots Q M E lv pc st := by
  obtain ⟨p, e, s, m, args, below, meth, c, A⟩ := K
  exact fun H locs ls hP hD hS hl => lv_aloadN C0.1 C0.2.1 d (lv_at hl k hk) (kk H locs ls hP hD hS hl)
theorem y_astore_nN (C0 : Cx K cc own Ts nL ret D cy) {q : Fin 4} {i : Nat} (lv' : List (Nat × Value)) (d : decode cc pc = .ok (.astore_n q, 1)) (hi : (q : Nat) = i) (hn : i < nL) (hl' : (i, Value.null) :: lv.filter (fun q => !(q.1 == i) && !(q.1 + 1 == i && q.2.category == 2)) = lv') (kk : Y K l R D cy adr nL cells slots Q M E lv' (pc + 1) st) : Y K l R D cy adr nL cells slots Q M E lv pc (.null :: st) := by
  obtain ⟨p, e, s, m, args, below, meth, c, A⟩ := K
  exact fun H locs ls hP hD hS hl => lv_astore_nN C0.1 C0.2.1 d hi hl hn hl' (fun ls hl => kk H locs ls hP hD hS hl)
theorem y_astoreN (C0 : Cx K cc own Ts nL ret D cy) {i : Nat} (lv' : List (Nat × Value)) (d : decode cc pc = .ok (.astore i, 2)) (hn : i < nL) (hl' : (i, Value.null) :: lv.filter (fun q => !(q.1 == i) && !(q.1 + 1 == i && q.2.category == 2)) = lv') (kk : Y K l R D cy adr nL cells slots Q M E lv' (pc + 2) st) : Y K l R D cy adr nL cells slots Q M E lv pc (.null :: st) := by
  obtain ⟨p, e, s, m, args, below, meth, c, A⟩ := K
  exact fun H locs ls hP hD hS hl => lv_astoreN C0.1 C0.2.1 d hl hn hl' (fun ls hl => kk H locs ls hP hD hS hl)
/-- an int counter against any bound -/
theorem cl_end {x : Int32} {i : Nat} (hi : i ≤ x.toNatClampNeg) (h : x ≤ nI i) : i = x.toNatClampNeg := by
  have hx : x.toNatClampNeg < 2 ^ 31 := by
    have := Int32.toInt_lt x
    show x.toInt.toNat < 2 ^ 31
    omega
  have h2 : x.toInt ≤ (nI i).toInt := Int32.le_iff_toInt_le.mp h
  rw [nI_toInt (by omega)] at h2
  have : x.toNatClampNeg = x.toInt.toNat := rfl
  omega
theorem cl_lt {x : Int32} {i : Nat} (hi : i ≤ x.toNatClampNeg) (h : ¬ x ≤ nI i) : i < x.toNatClampNeg := by
  have hx : x.toNatClampNeg < 2 ^ 31 := by
    have := Int32.toInt_lt x
    show x.toInt.toNat < 2 ^ 31
    omega
  have h2 : ¬ x.toInt ≤ (nI i).toInt := fun q => h (Int32.le_iff_toInt_le.mpr q)
  rw [nI_toInt (by omega)] at h2
  have : x.toNatClampNeg = x.toInt.toNat := rfl
  omega
/-- a counter from 1 on, while it isn't greater than the bound -/
theorem cg_end {x : Int32} {i : Nat} (hb : x.toNatClampNeg < 1000) (hi : i ≤ x.toNatClampNeg) (h : x < nI (i + 1)) : i = x.toNatClampNeg := by
  have h2 : x.toInt < (nI (i + 1)).toInt := Int32.lt_iff_toInt_lt.mp h
  rw [nI_toInt (by omega)] at h2
  have : x.toNatClampNeg = x.toInt.toNat := rfl
  omega
theorem cg_lt {x : Int32} {i : Nat} (hb : x.toNatClampNeg < 1000) (hi : i ≤ x.toNatClampNeg) (h : ¬ x < nI (i + 1)) : i < x.toNatClampNeg := by
  have h2 : ¬ x.toInt < (nI (i + 1)).toInt := fun q => h (Int32.lt_iff_toInt_lt.mpr q)
  rw [nI_toInt (by omega)] at h2
  have : x.toNatClampNeg = x.toInt.toNat := rfl
  omega
/-- a counter against a written bound -/
theorem ct_end {i N : Nat} (hN : N < 2 ^ 31) (hi : i ≤ N) (h : nI N ≤ nI i) : i = N := by
  have := (nI_leI hN (by omega)).mp h
  omega
theorem ct_lt {i N : Nat} (hN : N < 2 ^ 31) (hi : i ≤ N) (h : ¬ nI N ≤ nI i) : i < N := by
  rcases Nat.lt_or_ge i N with q | q
  · exact q
  · exact absurd (nI_le q (by omega)) h
end YG
