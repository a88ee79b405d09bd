section YMF
theorem rSew_go {r : Rw} {f b n : Nat} (h1 : ¬ rSew r f n (165 + 3 * f + 1) < 0) (h2 : ¬ rSew r f n 184 ≤ 0) (eb : rSew r f n (165 + 3 * f + 1) = nI b) (hb : b < 15) : rSew r f (n + 1) = rStitch (rSew r f n) f b (n + 1) := by
  rw [rSew, if_neg h1, if_neg h2, eb, cN_n (by omega)]
theorem rStitch_a {r : Rw} {f b k : Nat} (h : rS1 r f b (11 * b + 6) < rSt (rS1 r f b) (11 * b) (rS1 r f b (11 * b + 5))) : rStitch r f b k = rS1 r f b := by rw [rStitch, if_pos h]
theorem rStitch_b {r : Rw} {f b k : Nat} (h : ¬ rS1 r f b (11 * b + 6) < rSt (rS1 r f b) (11 * b) (rS1 r f b (11 * b + 5))) (h2 : nI k < 10) : rStitch r f b k = rS5 (rS2 (rS1 r f b) b) f b := by rw [rStitch, if_neg h, if_pos h2]
theorem rStitch_c {r : Rw} {f b k : Nat} (h : ¬ rS1 r f b (11 * b + 6) < rSt (rS1 r f b) (11 * b) (rS1 r f b (11 * b + 5))) (h2 : ¬ nI k < 10) : rStitch r f b k = rS5 (rS3 (rS2 (rS1 r f b) b) b) f b := by rw [rStitch, if_neg h, if_neg h2]
theorem rS5_a {r : Rw} {f b : Nat} (h : r (11 * b + 5) < r (11 * b)) : rS5 r f b = r := by rw [rS5, if_pos h]
theorem rS5_b {r : Rw} {f b : Nat} (h : ¬ r (11 * b + 5) < r (11 * b)) : rS5 r f b = rS4 r f b := by rw [rS5, if_neg h]
/-! what a public method answers: its code, its answer -/
def mr (c x : Int32) : Int32 := if c = 0 then x else 0
def mo2 (c : Int32) (a b : yM) : yM := if c = 0 then a else b
theorem mr_0 {c x x' : Int32} (h : c = 0) (e : x' = x) : some (Value.int x') = some (.int (mr c x)) := by rw [mr, if_pos h, e]
theorem mr_n {c n x : Int32} (h : c = n) (hn : ¬ n = 0) : some (Value.int 0) = some (.int (mr c x)) := by rw [mr, if_neg (h ▸ hn)]
theorem mo2_0 {c : Int32} {a' a b : yM} (h : c = 0) (e : a' = a) : a' = mo2 c a b := by rw [mo2, if_pos h, e]
theorem mo2_n {c n : Int32} {a M : yM} {R : Rw} (h : c = n) (hn : ¬ n = 0) : va_up (TN (TN M 0) n) 56 R = mo2 c a (va_up (TN M c) 56 R) := by subst h; rw [mo2, if_neg hn, TN_TN]
/-! arrays of a method's own -/
theorem ypl_setE {adr : Nat → Nat} {cy : Nat → ClassId} {M : yM} {e e' : Nat × va_E} : (ypl adr cy M ++ [e]).set 58 e' = ypl adr cy M ++ [e'] := by
  rw [List.set_append_right _ _ (by rw [ypl_len]; omega), ypl_len]
  rfl
theorem arrV_eq {cA : ClassId} {n : Nat} {f g : Nat → Value} (h : ∀ j, j < n → f j = g j) : arrV cA n f = arrV cA n g := by
  unfold arrV
  congr 1
  apply Array.ext
  · simp
  · intro i h1 h2
    simp at h1
    simp [h i h1]
section
variable {K : yK} {l : Launch} {Ro : Room} {D : va_G} {cy : Nat → ClassId} {adr : Nat → Nat} {nL cells slots : Nat} {Q : State → Prop} {M : yM} {R : Rw} {E : va_W} {lv : List (Nat × Value)} {pc : Nat} {st : List Value} {cc : ByteArray} {own : String} {Ts : List Cond} {ret : Option FieldType} {q : Nat} {f : Nat → Int32}
theorem y_newE (C0 : Cx K cc own Ts nL ret D cy) (hw : Cond.arrayClass .int ∈ Ts) (d : decode cc pc = .ok (.newarray .int, 2)) (hc : cells + 1 ≤ Ro.cells) (hs : slots + 5 ≤ Ro.slots) (kk : ∀ q : Nat, Y K l Ro D cy adr nL (cells + 1) (slots + 5) Q M [(q, .inl (cy 0, 5, .inl (fun _ => 0)))] lv (pc + 2) (.ref q :: st)) : Y K l Ro D cy adr nL cells slots Q M [] lv pc (.int 5 :: st) := by
  obtain ⟨p, e, s, m, args, below, meth, c, A⟩ := K
  obtain ⟨hx, hb, hml, hown, hts, hK, hA, hr, hlk⟩ := C0
  intro H locs ls hP hD hS hl
  rw [List.append_nil] at hP hD
  refine va_newa (atype := .int) (ty := .int) (N' := 5) (a0 := (5, .inl (fun _ => 0))) hx hb (hts _ hw) rfl hK hP hD hS hA (fun _ => rfl) (by decide) (by decide) (by decide) hc hs d (fun q cA H1 hK1 hP1 hD1 hS1 => ?_)
  have h1 := (hK1.2 4 (cA, .int) rfl).2
  have h2 := (hK.2 0 (cy 0, .int) rfl).2
  have e9 : cA = cy 0 := Option.some.inj (h1.symm.trans h2)
  subst e9
  exact kk q H1 locs ls hP1 hD1 hS1 hl
theorem y_iastE (C0 : Cx K cc own Ts nL ret D cy) (k : Nat) {i x : Int32} (hi : i = nI k) (hk : k < 5) (d : decode cc pc = .ok (.iastore, 1)) (kk : Y K l Ro D cy adr nL cells slots Q M [(q, .inl (cy 0, 5, .inl (upd f k x)))] lv (pc + 1) st) : Y K l Ro D cy adr nL cells slots Q M [(q, .inl (cy 0, 5, .inl f))] lv pc (.int x :: .int i :: .ref q :: st) := by
  obtain ⟨p, e, s, m, args, below, meth, c, A⟩ := K
  obtain ⟨hx, hb, hml, hown, hts, hK, hA, hr, hlk⟩ := C0
  intro H locs ls hP hD hS hl
  have e0 : (ypl adr cy M ++ [(q, (Sum.inl (cy 0, 5, .inl f) : va_E))])[58]? = some (q, .inl (cy 0, 5, .inl f)) := ypl_E (k := 0)
  subst hi
  refine va_iast hx hb hK hP hD hS 58 0 e0 rfl (vp_in_nI hk (by decide)) d (fun H1 locs1 hP1 hD1 hS1 => ?_)
  rw [ypl_setE, nI_clamp (by omega)] at hP1 hD1
  exact kk H1 locs1 ls hP1 hD1 hS1 hl
theorem y_ialdE (C0 : Cx K cc own Ts nL ret D cy) (k : Nat) {i : Int32} (hi : i = nI k) (hk : k < 5) (d : decode cc pc = .ok (.iaload, 1)) (kk : Y K l Ro D cy adr nL cells slots Q M [(q, .inl (cy 0, 5, .inl f))] lv (pc + 1) (.int (f k) :: st)) : Y K l Ro D cy adr nL cells slots Q M [(q, .inl (cy 0, 5, .inl f))] lv pc (.int i :: .ref q :: st) := by
  obtain ⟨p, e, s, m, args, below, meth, c, A⟩ := K
  obtain ⟨hx, hb, hml, hown, hts, hK, hA, hr, hlk⟩ := C0
  intro H locs ls hP hD hS hl
  have e0 : (ypl adr cy M ++ [(q, (Sum.inl (cy 0, 5, .inl f) : va_E))])[58]? = some (q, .inl (cy 0, 5, .inl f)) := ypl_E (k := 0)
  subst hi
  refine va_iald hx hb hK hP 58 0 e0 rfl (vp_in_nI hk (by decide)) d ?_
  rw [nI_clamp (by omega)]
  exact kk H locs ls hP hD hS hl
theorem y_alenE (C0 : Cx K cc own Ts nL ret D cy) (d : decode cc pc = .ok (.arraylength, 1)) (kk : Y K l Ro D cy adr nL cells slots Q M [(q, .inl (cy 0, 5, .inl f))] lv (pc + 1) (.int (nI 5) :: st)) : Y K l Ro D cy adr nL cells slots Q M [(q, .inl (cy 0, 5, .inl f))] lv pc (.ref q :: st) := by
  obtain ⟨p, e, s, m, args, below, meth, c, A⟩ := K
  obtain ⟨hx, hb, hml, hown, hts, hK, hA, hr, hlk⟩ := C0
  intro H locs ls hP hD hS hl
  have e0 : (ypl adr cy M ++ [(q, (Sum.inl (cy 0, 5, .inl f) : va_E))])[58]? = some (q, .inl (cy 0, 5, .inl f)) := ypl_E (k := 0)
  exact va_alen hx hb hK hP 58 0 e0 rfl rfl d (kk H locs ls hP hD hS hl)
/-- two memories whose cells are the same -/
theorem y_same {M' : yM} (h : ∀ j, j < 58 → j ≠ 57 → M' j = M j) (h7 : ∀ k, k < 193 → M' 57 k = M 57 k) (kk : Y K l Ro D cy adr nL cells slots Q M' E lv pc st) : Y K l Ro D cy adr nL cells slots Q M E lv pc st := by
  obtain ⟨p, e, s, m, args, below, meth, c, A⟩ := K
  intro H locs ls hP hD hS hl
  refine kk H locs ls (fun k q hq => ?_) (ypl_D hD) hS hl
  by_cases hk : k < 58
  · rw [ypl_get hk] at hq
    cases hq
    have h9 := hP k _ (ypl_get hk)
    by_cases h5 : k = 57
    · subst h5
      have e1 : ∀ N : yM, ycl adr cy N 57 = .inl (cy 0, 193, .inl (N 57)) := fun N => by
        unfold ycl
        rw [if_neg (by decide), if_pos (by decide)]
      rw [e1] at h9 ⊢
      show H[adr 57]? = some (arrV (cy 0) 193 (fun j => .int (M' 57 j)))
      rw [arrV_eq (g := fun j => .int (M 57 j)) (fun j hj => by rw [h7 j hj])]
      exact h9
    · rw [ycl_row (h k hk h5)]
      exact h9
  · obtain ⟨i, rfl⟩ : ∃ i, k = 58 + i := ⟨k - 58, by omega⟩
    rw [ypl_E] at hq
    exact hP _ _ (by rw [ypl_E]; exact hq)
theorem y_cpy (C0 : Cx K cc own Ts nL ret D cy) {index : Nat} (hw1 : Cond.methodLink own index arraycopyName ∈ Ts) (hw2 : Cond.native arraycopyName ∈ Ts) (hw3 : Cond.static arraycopyName ∈ Ts) (hw4 : Cond.initialized "java/lang/System" ∈ Ts) (hf : 1 ≤ Ro.frames) (hlo : (st.map fun v => v.category).sum + (nativeFrameWords "java/lang/System" "arraycopy" 5 + 11) ≤ Ro.locals) (d : decode cc pc = .ok (.invokestatic index, 3)) (kk : Y K l Ro D cy adr nL cells slots Q (va_up (va_up M 56 R) 57 R) E lv (pc + 3) st) : Y K l Ro D cy adr nL cells slots Q (va_up M 56 R) E lv pc (.int 193 :: .int 0 :: .ref (adr 57) :: .int 0 :: .ref (adr 56) :: st) := by
  have kk2 : Y K l Ro D cy adr nL cells slots Q (va_up (va_up M 56 R) 57 (va_cpy R (va_up M 56 R 57) 0 0 193)) E lv (pc + 3) st := by
    refine y_same (M' := va_up (va_up M 56 R) 57 R) (fun j _ h => by rw [up_n h, up_n h]) (fun k hk => ?_) kk
    rw [up_s, up_s]
    unfold va_cpy
    rw [if_pos (by omega)]
    simp
  clear kk
  obtain ⟨p, e, s, m, args, below, meth, c, A⟩ := K
  obtain ⟨hx, hb, hml, hown, hts, hK, hA, hr, hlk⟩ := C0
  intro H locs ls hP hD hS hl
  have hy : ∀ j, ykd j = 6 → (ypl adr cy (va_up M 56 R) ++ E)[j]? = some (adr j, .inl (cy 0, 193, .inl (va_up M 56 R j))) := fun j hj => by
    rw [ypl_get (ykd_lt (by omega))]
    unfold ycl
    rw [if_neg (by omega), if_pos hj]
  refine va_copyi hx hb (hml.trans hl.1.symm) hown (hts _ hw1) (hts _ hw2) (hts _ hw3) (hts _ hw4) hK hP hD hS 56 57 0 0 (hy 56 ykd_56) (hy 57 ykd_57) rfl rfl rfl (by decide) (by decide) (by decide) (by decide) (by decide) (fun i _ => rfl) hf hlo d (fun H1 locs1 hP1 hD1 hS1 => ?_)
  have e9 : (ypl adr cy (va_up M 56 R) ++ E).set 57 (adr 57, .inl (cy 0, 193, .inl (va_cpy (va_up M 56 R 56) (va_up M 56 R 57) (0 : Int32).toNatClampNeg (0 : Int32).toNatClampNeg (193 : Int32).toNatClampNeg))) = ypl adr cy (va_up (va_up M 56 R) 57 (va_cpy R (va_up M 56 R 57) 0 0 193)) ++ E := by
    refine ypl_upd (by decide) ?_ (fun i hi => ycl_row (up_n hi))
    unfold ycl
    rw [if_neg (by decide), if_pos ykd_57, up_s, up_s]
    rfl
  rw [e9] at hP1 hD1
  exact kk2 H1 locs1 ls hP1 hD1 hS1 hl
end
end YMF
