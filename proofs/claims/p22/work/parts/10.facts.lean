section YF
theorem ykd_bk {o i : Nat} (ho : o = 0 ∨ o = 27) (hi : i < 15) : ykd (o + 4 + i) = 0 := by
  have h1 : o + 4 + i < 54 := by omega
  have h2 : (o + 4 + i) % 27 = 4 + i := by omega
  unfold ykd
  rw [if_pos h1, if_neg (by omega), if_neg (by omega), if_pos (by omega)]
theorem ykd_sw {o i : Nat} (ho : o = 0 ∨ o = 27) (hi : i < 5) : ykd (o + 19 + i) = 2 := by
  have h1 : o + 19 + i < 54 := by omega
  have h2 : (o + 19 + i) % 27 = 19 + i := by omega
  unfold ykd
  rw [if_pos h1, if_neg (by omega), if_neg (by omega), if_neg (by omega), if_pos (by omega)]
theorem ykd_fr {o i : Nat} (ho : o = 0 ∨ o = 27) (hi : i < 3) : ykd (o + 24 + i) = 1 := by
  have h1 : o + 24 + i < 54 := by omega
  have h2 : (o + 24 + i) % 27 = 24 + i := by omega
  unfold ykd
  rw [if_pos h1, if_neg (by omega), if_neg (by omega), if_neg (by omega), if_neg (by omega)]
theorem ykd_w {o : Nat} (ho : o = 0 ∨ o = 27) : ykd o = 3 := by rcases ho with rfl | rfl <;> rfl
theorem ykd_w1 {o : Nat} (ho : o = 0 ∨ o = 27) : ykd (o + 1) = 7 := by rcases ho with rfl | rfl <;> rfl
theorem ykd_w2 {o : Nat} (ho : o = 0 ∨ o = 27) : ykd (o + 2) = 8 := by rcases ho with rfl | rfl <;> rfl
theorem ykd_w3 {o : Nat} (ho : o = 0 ∨ o = 27) : ykd (o + 3) = 9 := by rcases ho with rfl | rfl <;> rfl
theorem ykd_now : ykd 0 = 3 := rfl
theorem ykd_ahead : ykd 27 = 3 := rfl
theorem ykd_54 : ykd 54 = 4 := rfl
theorem yel_bk {o i : Nat} (ho : o = 0 ∨ o = 27) : yel (o + 1) i = o + 4 + i := by unfold yel; rw [if_pos (ykd_w1 ho)]
theorem yel_sw {o i : Nat} (ho : o = 0 ∨ o = 27) : yel (o + 2) i = o + 19 + i := by unfold yel; rw [ykd_w2 ho, if_neg (by decide), if_pos rfl]
theorem yel_fr {o i : Nat} (ho : o = 0 ∨ o = 27) : yel (o + 3) i = o + 24 + i := by unfold yel; rw [ykd_w3 ho, if_neg (by decide), if_neg (by decide)]
theorem yrn0 {j k : Nat} (h : ykd j = 0) : yrf j k = none := by simp [yrf, h]
theorem yrn1 {j k : Nat} (h : ykd j = 1) : yrf j k = none := by simp [yrf, h]
theorem yrn2 {j k : Nat} (h : ykd j = 2) : yrf j k = none := by simp [yrf, h]
theorem yrn3 {j k : Nat} (h : ykd j = 3) (hk : ¬ k < 3) : yrf j k = none := by simp [yrf, h, hk]
theorem yvi {adr : Nat → Nat} {M : yM} {j k : Nat} (h : yrf j k = none) : yvl adr M j k = .int (M j k) := by simp [yvl, h]
theorem yvi0 {adr : Nat → Nat} {M : yM} {j k : Nat} (h : ykd j = 0) : yvl adr M j k = .int (M j k) := yvi (yrn0 h)
theorem yvi1 {adr : Nat → Nat} {M : yM} {j k : Nat} (h : ykd j = 1) : yvl adr M j k = .int (M j k) := yvi (yrn1 h)
theorem yvi2 {adr : Nat → Nat} {M : yM} {j k : Nat} (h : ykd j = 2) : yvl adr M j k = .int (M j k) := yvi (yrn2 h)
theorem yvi3 {adr : Nat → Nat} {M : yM} {j k : Nat} (h : ykd j = 3) (hk : ¬ k < 3) : yvl adr M j k = .int (M j k) := yvi (yrn3 h hk)
theorem yv3_books {adr : Nat → Nat} {M : yM} {j : Nat} (h : ykd j = 3) : yvl adr M j 0 = .ref (adr (j + 1)) := by simp [yvl, yrf, h]
theorem yv3_sewers {adr : Nat → Nat} {M : yM} {j : Nat} (h : ykd j = 3) : yvl adr M j 1 = .ref (adr (j + 2)) := by simp [yvl, yrf, h]
theorem yv3_frames {adr : Nat → Nat} {M : yM} {j : Nat} (h : ykd j = 3) : yvl adr M j 2 = .ref (adr (j + 3)) := by simp [yvl, yrf, h]
theorem yv4_now {adr : Nat → Nat} {M : yM} : yvl adr M 54 0 = .ref (adr 0) := rfl
theorem yv4_ahead {adr : Nat → Nat} {M : yM} : yvl adr M 54 1 = .ref (adr 27) := rfl
theorem yinc_ok {x : Int32} {a n : Nat} {z : Int} (h : x = nI a) (hz : Int32.ofInt z = nI n) : x + Int32.ofInt z = nI (a + n) := by rw [h, hz, nI_add]
section
variable {K : yK} {l : Launch} {R : Room} {D : va_G} {cy : Nat → ClassId} {adr : Nat → Nat} {nL cells slots : Nat} {Q : State → Prop} {M : yM} {E : va_W} {lv : List (Nat × Value)} {pc : Nat} {st : List Value} {cc : ByteArray} {own : String} {Ts : List Cond} {ret : Option FieldType}
theorem y_iaddN (C0 : Cx K cc own Ts nL ret D cy) {x y : Int32} {a b : Nat} (ha : x = nI a) (hb : y = nI b) (d : decode cc pc = .ok (.iadd, 1)) (k : Y K l R D cy adr nL cells slots Q M E lv (pc + 1) (.int (nI (a + b)) :: st)) : Y K l R D cy adr nL cells slots Q M E lv pc (.int y :: .int x :: st) := by
  subst ha; subst hb
  refine y_iadd C0 d ?_
  rw [nI_add]; exact k
theorem y_imulN (C0 : Cx K cc own Ts nL ret D cy) {x y : Int32} {a b : Nat} (ha : x = nI a) (hb : y = nI b) (d : decode cc pc = .ok (.imul, 1)) (k : Y K l R D cy adr nL cells slots Q M E lv (pc + 1) (.int (nI (a * b)) :: st)) : Y K l R D cy adr nL cells slots Q M E lv pc (.int y :: .int x :: st) := by
  subst ha; subst hb
  refine y_imul C0 d ?_
  rw [pk_mul]; exact k
theorem y_top {x y : Int32} (h : x = y) (k : Y K l R D cy adr nL cells slots Q M E lv pc (.int y :: st)) : Y K l R D cy adr nL cells slots Q M E lv pc (.int x :: st) := by subst h; exact k
theorem y_topr {x y : Nat} (h : x = y) (k : Y K l R D cy adr nL cells slots Q M E lv pc (.ref (adr y) :: st)) : Y K l R D cy adr nL cells slots Q M E lv pc (.ref (adr x) :: st) := by subst h; exact k
theorem y_mem {M' : yM} (h : M = M') (k : Y K l R D cy adr nL cells slots Q M' E lv pc st) : Y K l R D cy adr nL cells slots Q M E lv pc st := by subst h; exact k
end
/-! rows of ints -/
abbrev Rw : Type := Nat → Int32
def ru (f : Rw) (k : Nat) (v : Int32) : Rw := fun j => if j = k then v else f j
theorem ru_s {f : Rw} {k : Nat} {v : Int32} : ru f k v k = v := by simp [ru]
theorem ru_n {f : Rw} {k j : Nat} {v : Int32} (h : j ≠ k) : ru f k v j = f j := by simp [ru, h]
theorem ru_i {f : Rw} {k j : Nat} {v : Int32} : ru f k v j = if j = k then v else f j := rfl
theorem yst_ru {M : yM} {j k : Nat} {v : Int32} : yst M j k v = va_up M j (ru (M j) k v) := by
  funext a b
  by_cases h : a = j
  · subst h; simp [yst, va_up, ru]
  · simp [yst, va_up, h]
theorem up_up {M : yM} {j : Nat} {f g : Rw} : va_up (va_up M j f) j g = va_up M j g := by
  funext a
  by_cases h : a = j <;> simp [va_up, h]
theorem up_s {M : yM} {j : Nat} {f : Rw} : va_up M j f j = f := va_up_self _ _ _
theorem up_n {M : yM} {j i : Nat} {f : Rw} (h : i ≠ j) : va_up M j f i = M i := va_up_ne _ _ h
theorem up_id {M : yM} {j : Nat} : va_up M j (M j) = M := by
  funext a
  by_cases h : a = j <;> simp [va_up, h]
/-! a book's row: 0 number, 1 signatures, 2 sheets, 3 edges, 4 stage, 5 frame, 6 cords, 7 stitches, 8 whole, 9 of the next, 10 loose, 11 hours, 12 gilt -/
def bBegin (f : Rw) (a b c : Int32) : Rw := ru (ru (ru (ru f 1 a) 2 b) 3 c) 4 0
def bMount (f : Rw) (a c : Int32) : Rw := ru (ru (ru f 4 1) 5 a) 6 c
def bUndo (f : Rw) : Rw := ru (ru (ru (ru (ru (ru (ru f 4 0) 5 (-1)) 6 0) 7 0) 8 0) 9 0) 10 0
def bThick (f : Rw) : Int32 := f 1 * f 2
def bLeaves (f : Rw) : Int32 := 1 + bThick f / 16
def bSos (f : Rw) (s : Int32) : Int32 := if s = f 1 - 1 then (if s = 0 then f 6 + 2 + 2 else f 6 + 2) + 2 else (if s = 0 then f 6 + 2 + 2 else f 6 + 2)
def bSum (f : Rw) : Nat → Int32 | 0 => 0 | n + 1 => bSum f n + bSos f (nI n)
def bToSew (f : Rw) : Int32 := bSum f (f 1).toNatClampNeg - f 7
def bInc (f : Rw) : Rw := ru (ru f 7 (f 7 + 1)) 9 (f 9 + 1)
def bAdd (f : Rw) : Rw := if bSos f (f 8) ≤ f 9 + 1 then ru (ru (bInc f) 8 (f 8 + 1)) 9 0 else bInc f
def bAddR (f : Rw) : Int32 := if bSos f (f 8) ≤ f 9 + 1 then 1 else 0
def bSewn (f : Rw) : Int32 := if f 8 < f 1 then 0 else 1
def bDryB (f : Rw) : Rw := ru (ru (ru f 4 2) 5 (-1)) 11 (2 + bThick f / 8)
def bDryH (f : Rw) : Rw := if f 11 - 1 = 0 then ru (ru f 11 (f 11 - 1)) 4 3 else ru f 11 (f 11 - 1)
def bBind (f : Rw) : Rw := ru f 4 (if f 3 = 0 then 5 else 4)
def bGild (f : Rw) : Rw := if f 12 + 1 < f 3 then ru f 12 (f 12 + 1) else ru (ru f 12 (f 12 + 1)) 4 5
def bVal (f : Rw) : Int32 := if 1 < 4 * f 1 + 2 * f 6 + 6 * f 12 - 3 * f 10 then 4 * f 1 + 2 * f 6 + 6 * f 12 - 3 * f 10 else 1
def bTell (f : Rw) (w : Int32) : Int32 := if w = 0 then f 1 else if w = 1 then f 2 else if w = 2 then f 3 else if w = 3 then f 4 else if w = 4 then f 5 else if w = 5 then f 8 else if w = 6 then f 9 else if w = 7 then f 10 else if w = 8 then f 11 else if w = 9 then f 12 else bVal f
def bSet (f g : Rw) : Rw := fun k => if 1 ≤ k ∧ k ≤ 12 then g k else f k
/-! a frame's row: 0 number, 1 cords, 2 book, 3 sewn; a sewer's: 0 number, 1 speed, 2 frame -/
def fSet (f g : Rw) : Rw := fun k => if 1 ≤ k ∧ k ≤ 3 then g k else f k
def sSet (f g : Rw) : Rw := fun k => if 1 ≤ k ∧ k ≤ 2 then g k else f k
def sTell (f : Rw) (w : Int32) : Int32 := if w = 0 then f 1 else f 2
end YF
