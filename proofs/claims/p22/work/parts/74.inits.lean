section YIn
def bI0 (n : Int32) : List Value := [.int n, .int 0, .int 0, .int 0, .int (-1), .int (-1), .int 0, .int 0, .int 0, .int 0, .int 0, .int 0, .int 0]
def fI0 (n : Int32) : List Value := [.int n, .int 3, .int (-1), .int 0]
def sI0 (n : Int32) : List Value := [.int n, .int 0, .int (-1)]
abbrev rX0_init : Room := { frames := 1, cells := 0, slots := 0, locals := 12 }
set_option maxRecDepth 100000 in
set_option maxHeartbeats 4000000 in
theorem mX0_init (l : Launch) (D : va_G) (cy : Nat → ClassId) (b : Nat) (n : Int32) : Ci l yX0_init wsX0_init rX0_init D cy [.ref b, .int n] [(b, .inr (0, [.int 0, .int 0, .int 0, .int 0, .int 0, .int 0, .int 0, .int 0, .int 0, .int 0, .int 0, .int 0, .int 0]))] (fun w => w = [(b, .inr (0, bI0 n))]) 0 0 := by
  refine Ci.mk cX0_init 2 RX0 (by decide) rfl rfl rfl (Nat.le_of_ble_eq_true rfl) ?_
  intro K C0 hI
  refine z_eq (show lv_args 0 _ = ([(0, .ref b), (1, .int n)] : List (Nat × Value)) from rfl) rfl ?_
  have hin : ∀ w ∈ u_ws RX0 TX0 13, w ∈ wsX0_init := by decide +kernel
  refine z_aload_n C0 0 dX0_init_0 rfl rfl ?_
  refine z_objInit C0 (by decide +kernel) (by decide +kernel) (by decide +kernel) dX0_init_1 (by decide) (by decide) ?_
  refine z_aload_n C0 0 dX0_init_4 rfl rfl ?_
  refine z_iload_n C0 1 dX0_init_5 rfl rfl ?_
  refine z_putF C0 hI 0 rfl hin tyX0 tyX0_ok nmX0 0 0 rfl (by decide) (by decide +kernel) rfl rfl (ty := .int) (by decide +kernel) rfl rfl (Nat.le_of_ble_eq_true rfl) dX0_init_6 ?_
  refine z_aload_n C0 0 dX0_init_9 rfl rfl ?_
  refine z_iconst (v := (-1)) C0 dX0_init_10 (by decide) ?_
  refine z_put C0 0 rfl hin tyX0 tyX0_ok nmX0 0 4 rfl (by decide) (by decide +kernel) rfl (by decide +kernel) (Nat.le_of_ble_eq_true rfl) dX0_init_11 ?_
  refine z_aload_n C0 0 dX0_init_14 rfl rfl ?_
  refine z_iconst (v := (-1)) C0 dX0_init_15 (by decide) ?_
  refine z_put C0 0 rfl hin tyX0 tyX0_ok nmX0 0 5 rfl (by decide) (by decide +kernel) rfl (by decide +kernel) (Nat.le_of_ble_eq_true rfl) dX0_init_16 ?_
  exact z_vret C0 dX0_init_19 (fun H A hP hD => ⟨_, rfl, hP, hD⟩)
abbrev rX1_init : Room := { frames := 1, cells := 0, slots := 0, locals := 12 }
set_option maxRecDepth 100000 in
set_option maxHeartbeats 4000000 in
theorem mX1_init (l : Launch) (D : va_G) (cy : Nat → ClassId) (b : Nat) (n : Int32) : Ci l yX1_init wsX1_init rX1_init D cy [.ref b, .int n] [(b, .inr (1, [.int 0, .int 0, .int 0, .int 0]))] (fun w => w = [(b, .inr (1, fI0 n))]) 0 0 := by
  refine Ci.mk cX1_init 2 RX1 (by decide) rfl rfl rfl (Nat.le_of_ble_eq_true rfl) ?_
  intro K C0 hI
  refine z_eq (show lv_args 0 _ = ([(0, .ref b), (1, .int n)] : List (Nat × Value)) from rfl) rfl ?_
  have hin : ∀ w ∈ u_ws RX1 TX1 4, w ∈ wsX1_init := by decide +kernel
  refine z_aload_n C0 0 dX1_init_0 rfl rfl ?_
  refine z_objInit C0 (by decide +kernel) (by decide +kernel) (by decide +kernel) dX1_init_1 (by decide) (by decide) ?_
  refine z_aload_n C0 0 dX1_init_4 rfl rfl ?_
  refine z_iload_n C0 1 dX1_init_5 rfl rfl ?_
  refine z_putF C0 hI 1 rfl hin tyX1 tyX1_ok nmX1 0 0 rfl (by decide) (by decide +kernel) rfl rfl (ty := .int) (by decide +kernel) rfl rfl (Nat.le_of_ble_eq_true rfl) dX1_init_6 ?_
  refine z_aload_n C0 0 dX1_init_9 rfl rfl ?_
  refine z_iconst (v := 3) C0 dX1_init_10 (by decide) ?_
  refine z_put C0 1 rfl hin tyX1 tyX1_ok nmX1 0 1 rfl (by decide) (by decide +kernel) rfl (by decide +kernel) (Nat.le_of_ble_eq_true rfl) dX1_init_11 ?_
  refine z_aload_n C0 0 dX1_init_14 rfl rfl ?_
  refine z_iconst (v := (-1)) C0 dX1_init_15 (by decide) ?_
  refine z_put C0 1 rfl hin tyX1 tyX1_ok nmX1 0 2 rfl (by decide) (by decide +kernel) rfl (by decide +kernel) (Nat.le_of_ble_eq_true rfl) dX1_init_16 ?_
  exact z_vret C0 dX1_init_19 (fun H A hP hD => ⟨_, rfl, hP, hD⟩)
abbrev rX2_init : Room := { frames := 1, cells := 0, slots := 0, locals := 12 }
set_option maxRecDepth 100000 in
set_option maxHeartbeats 4000000 in
theorem mX2_init (l : Launch) (D : va_G) (cy : Nat → ClassId) (b : Nat) (n : Int32) : Ci l yX2_init wsX2_init rX2_init D cy [.ref b, .int n] [(b, .inr (2, [.int 0, .int 0, .int 0]))] (fun w => w = [(b, .inr (2, sI0 n))]) 0 0 := by
  refine Ci.mk cX2_init 2 RX2 (by decide) rfl rfl rfl (Nat.le_of_ble_eq_true rfl) ?_
  intro K C0 hI
  refine z_eq (show lv_args 0 _ = ([(0, .ref b), (1, .int n)] : List (Nat × Value)) from rfl) rfl ?_
  have hin : ∀ w ∈ u_ws RX2 TX2 3, w ∈ wsX2_init := by decide +kernel
  refine z_aload_n C0 0 dX2_init_0 rfl rfl ?_
  refine z_objInit C0 (by decide +kernel) (by decide +kernel) (by decide +kernel) dX2_init_1 (by decide) (by decide) ?_
  refine z_aload_n C0 0 dX2_init_4 rfl rfl ?_
  refine z_iload_n C0 1 dX2_init_5 rfl rfl ?_
  refine z_putF C0 hI 2 rfl hin tyX2 tyX2_ok nmX2 0 0 rfl (by decide) (by decide +kernel) rfl rfl (ty := .int) (by decide +kernel) rfl rfl (Nat.le_of_ble_eq_true rfl) dX2_init_6 ?_
  refine z_aload_n C0 0 dX2_init_9 rfl rfl ?_
  refine z_iconst (v := (-1)) C0 dX2_init_10 (by decide) ?_
  refine z_put C0 2 rfl hin tyX2 tyX2_ok nmX2 0 2 rfl (by decide) (by decide +kernel) rfl (by decide +kernel) (Nat.le_of_ble_eq_true rfl) dX2_init_11 ?_
  exact z_vret C0 dX2_init_14 (fun H A hP hD => ⟨_, rfl, hP, hD⟩)
abbrev rfs (f : Nat → Option Nat) : (Nat → Int32) ⊕ (Nat → Int64) ⊕ (Nat → UInt32) ⊕ (Nat → UInt64) ⊕ (Nat → Option Nat) := .inr (.inr (.inr (.inr f)))
def af (a : Nat → Nat) (i : Nat) : Nat → Option Nat := fun j => if j < i then some (a j) else none
def bl (a : Nat → Nat) (e : Nat → va_E) (i : Nat) : va_W := (List.range i).map (fun j => (a j, e j))
theorem af_0 {a : Nat → Nat} : af a 0 = fun _ => none := by funext j; simp [af]
theorem bl_len {a : Nat → Nat} {e : Nat → va_E} {i : Nat} : (bl a e i).length = i := by simp [bl]
theorem af_n {a : Nat → Nat} {i r : Nat} : va_up (af a i) i (some r) = af (va_up a i r) (i + 1) := by
  funext j
  unfold af va_up
  by_cases h : j = i
  · subst h; simp
  · by_cases h2 : j < i
    · simp [h, h2, show j < i + 1 by omega]
    · simp [h, h2, show ¬ j < i + 1 by omega]
theorem bl_n {a : Nat → Nat} {e : Nat → va_E} {i r : Nat} : bl a e i ++ [(r, e i)] = bl (va_up a i r) e (i + 1) := by
  unfold bl
  rw [List.range_succ, List.map_append]
  have h1 : (List.range i).map (fun j => (a j, e j)) = (List.range i).map (fun j => (va_up a i r j, e j)) := by
    apply List.map_congr_left
    intro j hj
    have := List.mem_range.mp hj
    rw [va_up_ne _ _ (show j ≠ i by omega)]
  rw [h1]
  simp [va_up_self]
theorem zl_a {P L : va_W} {y : Nat × va_E} : (P ++ (y :: L))[P.length]? = some y := by simp
theorem zl_b {P L : va_W} {y z : Nat × va_E} : ((P ++ (y :: L)) ++ [z])[P.length]? = some y := by simp
theorem zl_c {P L : va_W} {y z : Nat × va_E} {i : Nat} (h : L.length = i) : ((P ++ (y :: L)) ++ [z])[P.length + 1 + i]? = some z := by
  have e : (P ++ (y :: L)).length = P.length + 1 + i := by simp; omega
  rw [← e, List.getElem?_append_right (Nat.le_refl _), Nat.sub_self]
  rfl
theorem zl_n {P L : va_W} {y y' z : Nat × va_E} : ((P ++ (y :: L)) ++ [z]).set P.length y' = P ++ (y' :: (L ++ [z])) := by
  rw [List.append_assoc, List.set_append_right _ _ (Nat.le_refl _), Nat.sub_self]
  rfl

def T3 (x y z : Value) (c t b g : Int32) : List Value := [x, y, z, .int 0, .int 0, .int 0, .int c, .int t, .int b, .int g, .int 0, .int 0]
abbrev rX3_init : Room := { frames := 2, cells := 26, slots := 245, locals := 33 }
def eB (i : Nat) : va_E := .inr (0, bI0 (nI i))
def eS (i : Nat) : va_E := .inr (2, sI0 (nI i))
def eF (i : Nat) : va_E := .inr (1, fI0 (nI i))
/-- a workshop at its start -/
def R27 : yM := fun j k => if j = 0 then (if k = 6 then 30 else if k = 7 then 300 else if k = 8 then 12 else if k = 9 then 20 else 0) else if j < 19 then (if k = 0 then nI (j - 4) else if k = 4 then -1 else if k = 5 then -1 else 0) else if j < 24 then (if k = 0 then nI (j - 19) else if k = 2 then -1 else 0) else (if k = 0 then nI (j - 24) else if k = 1 then 3 else if k = 2 then -1 else 0)
def W27 (a : Nat → Nat) (cy : Nat → ClassId) : va_W := (List.range 27).map (fun j => (a j, ycl a cy R27 j))
def a27 (h0 q1 q2 q3 : Nat) (a1 a2 a3 : Nat → Nat) : Nat → Nat := fun j => if j = 0 then h0 else if j = 1 then q1 else if j = 2 then q2 else if j = 3 then q3 else if j < 19 then a1 (j - 4) else if j < 24 then a2 (j - 19) else a3 (j - 24)
def s27 (j : Nat) : Nat := if j < 2 then j else if j = 2 then 17 else if j = 3 then 23 else if j < 19 then j - 2 else if j < 24 then j - 1 else j
def w27 (h0 q1 q2 q3 : Nat) (a1 a2 a3 : Nat → Nat) (cy : Nat → ClassId) : va_W := ((h0, .inr (3, T3 (.ref q1) (.ref q2) (.ref q3) 30 300 12 20)) :: (q1, .inl (cy 1, 15, rfs (af a1 15))) :: bl a1 eB 15 ++ ((q2, .inl (cy 2, 5, rfs (af a2 5))) :: bl a2 eS 5)) ++ ((q3, .inl (cy 3, 3, rfs (af a3 3))) :: bl a3 eF 3)
theorem arr27 {D : va_G} {c : ClassId} {q n : Nat} {f g : Nat → Option Nat} (h : ∀ j, j < n → f j = g j) {H : Heap} (k : va_at D vwCl (q, .inl (c, n, rfs f)) H) : va_at D vwCl (q, .inl (c, n, rfs g)) H := by
  show H[q]? = some (arrV c n (fun j => va_rf (g j)))
  rw [arrV_eq (g := fun j => va_rf (f j)) (fun j hj => by rw [h j hj])]
  exact k
set_option maxRecDepth 100000 in
set_option maxHeartbeats 4000000 in
theorem key27 {D : va_G} {cy : Nat → ClassId} {h0 q1 q2 q3 : Nat} {a1 a2 a3 : Nat → Nat} : ∀ j, j < 27 → ∃ e, (w27 h0 q1 q2 q3 a1 a2 a3 cy)[s27 j]? = some (a27 h0 q1 q2 q3 a1 a2 a3 j, e) ∧ ∀ H, va_at D vwCl (a27 h0 q1 q2 q3 a1 a2 a3 j, e) H → va_at D vwCl (a27 h0 q1 q2 q3 a1 a2 a3 j, ycl (a27 h0 q1 q2 q3 a1 a2 a3) cy R27 j) H := by
  intro j hj
  rcases (show j = 0 ∨ j = 1 ∨ j = 2 ∨ j = 3 ∨ j = 4 ∨ j = 5 ∨ j = 6 ∨ j = 7 ∨ j = 8 ∨ j = 9 ∨ j = 10 ∨ j = 11 ∨ j = 12 ∨ j = 13 ∨ j = 14 ∨ j = 15 ∨ j = 16 ∨ j = 17 ∨ j = 18 ∨ j = 19 ∨ j = 20 ∨ j = 21 ∨ j = 22 ∨ j = 23 ∨ j = 24 ∨ j = 25 ∨ j = 26 by omega) with rfl | rfl | rfl | rfl | rfl | rfl | rfl | rfl | rfl | rfl | rfl | rfl | rfl | rfl | rfl | rfl | rfl | rfl | rfl | rfl | rfl | rfl | rfl | rfl | rfl | rfl | rfl
  · exact ⟨_, rfl, fun H h => h⟩
  · exact ⟨_, rfl, fun H h => arr27 (f := af a1 15) (fun j hj => by unfold af; rw [if_pos (show j < 15 from hj)]; unfold a27 yel; have hj : j < 15 := hj; rw [if_pos (show ykd 1 = 7 by decide)]; rw [if_neg (by omega), if_neg (by omega), if_neg (by omega), if_neg (by omega), if_pos (by omega), show 1 + 3 + j - 4 = j by omega]) h⟩
  · exact ⟨_, rfl, fun H h => arr27 (f := af a2 5) (fun j hj => by unfold af; rw [if_pos (show j < 5 from hj)]; unfold a27 yel; have hj : j < 5 := hj; rw [if_neg (show ¬ ykd 2 = 7 by decide), if_pos (show ykd 2 = 8 by decide)]; rw [if_neg (by omega), if_neg (by omega), if_neg (by omega), if_neg (by omega), if_neg (by omega), if_pos (by omega), show 2 + 17 + j - 19 = j by omega]) h⟩
  · exact ⟨_, rfl, fun H h => arr27 (f := af a3 3) (fun j hj => by unfold af; rw [if_pos (show j < 3 from hj)]; unfold a27 yel; have hj : j < 3 := hj; rw [if_neg (show ¬ ykd 3 = 7 by decide), if_neg (show ¬ ykd 3 = 8 by decide)]; rw [if_neg (by omega), if_neg (by omega), if_neg (by omega), if_neg (by omega), if_neg (by omega), if_neg (by omega), show 3 + 21 + j - 24 = j by omega]) h⟩
  · exact ⟨_, rfl, fun H h => h⟩
  · exact ⟨_, rfl, fun H h => h⟩
  · exact ⟨_, rfl, fun H h => h⟩
  · exact ⟨_, rfl, fun H h => h⟩
  · exact ⟨_, rfl, fun H h => h⟩
  · exact ⟨_, rfl, fun H h => h⟩
  · exact ⟨_, rfl, fun H h => h⟩
  · exact ⟨_, rfl, fun H h => h⟩
  · exact ⟨_, rfl, fun H h => h⟩
  · exact ⟨_, rfl, fun H h => h⟩
  · exact ⟨_, rfl, fun H h => h⟩
  · exact ⟨_, rfl, fun H h => h⟩
  · exact ⟨_, rfl, fun H h => h⟩
  · exact ⟨_, rfl, fun H h => h⟩
  · exact ⟨_, rfl, fun H h => h⟩
  · exact ⟨_, rfl, fun H h => h⟩
  · exact ⟨_, rfl, fun H h => h⟩
  · exact ⟨_, rfl, fun H h => h⟩
  · exact ⟨_, rfl, fun H h => h⟩
  · exact ⟨_, rfl, fun H h => h⟩
  · exact ⟨_, rfl, fun H h => h⟩
  · exact ⟨_, rfl, fun H h => h⟩
  · exact ⟨_, rfl, fun H h => h⟩
theorem s27_inj {i j : Nat} (hi : i < 27) (hj : j < 27) (h : s27 i = s27 j) : i = j := by
  have : ∀ i : Fin 27, ∀ j : Fin 27, s27 i.val = s27 j.val → i.val = j.val := by decide +kernel
  exact this ⟨i, hi⟩ ⟨j, hj⟩ h
theorem W27_get {a : Nat → Nat} {cy : Nat → ClassId} {k : Nat} {z : Nat × va_E} (h : (W27 a cy)[k]? = some z) : k < 27 ∧ z = (a k, ycl a cy R27 k) := by
  have hk : k < 27 := by
    have := (List.getElem?_eq_some_iff.mp h).1
    simpa [W27] using this
  refine ⟨hk, ?_⟩
  simp [W27, hk] at h
  exact h.symm
theorem W27_of {D : va_G} {cy : Nat → ClassId} {h0 q1 q2 q3 : Nat} {a1 a2 a3 : Nat → Nat} {H : Heap} {A : Nat → Prop} (hP : va_P D vwCl (w27 h0 q1 q2 q3 a1 a2 a3 cy) H) (hD : va_D A (w27 h0 q1 q2 q3 a1 a2 a3 cy)) : ∃ w1, (∃ a, a 0 = h0 ∧ w1 = W27 a cy) ∧ va_P D vwCl w1 H ∧ va_D A w1 := by
  refine ⟨W27 (a27 h0 q1 q2 q3 a1 a2 a3) cy, ⟨_, rfl, rfl⟩, fun k z hz => ?_, fun i j x z h1 h2 he => ?_, fun k z hz => ?_⟩
  · obtain ⟨hk, rfl⟩ := W27_get hz
    obtain ⟨e, e1, e2⟩ := key27 (D := D) (cy := cy) (h0 := h0) (q1 := q1) (q2 := q2) (q3 := q3) (a1 := a1) (a2 := a2) (a3 := a3) k hk
    exact e2 H (hP _ _ e1)
  · obtain ⟨hi, rfl⟩ := W27_get h1
    obtain ⟨hj, rfl⟩ := W27_get h2
    obtain ⟨e, e1, _⟩ := key27 (D := D) (cy := cy) (h0 := h0) (q1 := q1) (q2 := q2) (q3 := q3) (a1 := a1) (a2 := a2) (a3 := a3) i hi
    obtain ⟨e', e1', _⟩ := key27 (D := D) (cy := cy) (h0 := h0) (q1 := q1) (q2 := q2) (q3 := q3) (a1 := a1) (a2 := a2) (a3 := a3) j hj
    exact s27_inj hi hj (hD.1 _ _ _ _ e1 e1' he)
  · obtain ⟨hk, rfl⟩ := W27_get hz
    obtain ⟨e, e1, _⟩ := key27 (D := D) (cy := cy) (h0 := h0) (q1 := q1) (q2 := q2) (q3 := q3) (a1 := a1) (a2 := a2) (a3 := a3) k hk
    have := hD.2 _ _ e1
    exact this
set_option maxRecDepth 100000 in
set_option maxHeartbeats 4000000 in
theorem mX3_init (l : Launch) (D : va_G) (cy : Nat → ClassId) (h0 : Nat) : Ci l yX3_init wsX3_init rX3_init D cy [.ref h0] [(h0, .inr (3, T3 .null .null .null 0 0 0 0))] (fun w => ∃ a, a 0 = h0 ∧ w = W27 a cy) 26 245 := by
  refine Ci.mk cX3_init 2 RX3 (by decide) rfl rfl rfl (Nat.le_of_ble_eq_true rfl) ?_
  intro K C0 hI
  have hin0 : ∀ w ∈ u_ws RX0 TX0 13, w ∈ wsX3_init := by decide +kernel
  have hin1 : ∀ w ∈ u_ws RX1 TX1 4, w ∈ wsX3_init := by decide +kernel
  have hin2 : ∀ w ∈ u_ws RX2 TX2 3, w ∈ wsX3_init := by decide +kernel
  have hin3 : ∀ w ∈ u_ws RX3 TX3 12, w ∈ wsX3_init := by decide +kernel
  refine z_eq (show lv_args 0 _ = ([(0, .ref h0)] : List (Nat × Value)) from rfl) rfl ?_
  refine z_aload_n C0 0 dX3_init_0 rfl rfl ?_
  refine z_objInit C0 (by decide +kernel) (by decide +kernel) (by decide +kernel) dX3_init_1 (by decide) (by decide) ?_
  refine z_aload_n C0 0 dX3_init_4 rfl rfl ?_
  refine z_bipush (v := 15) C0 dX3_init_5 (by decide) ?_
  refine z_newq C0 1 (n := 15) rfl (by decide) rfl (fun s h => h.1) hI (by decide +kernel) (by decide) (by decide) dX3_init_7 (fun q1 => ?_)
  refine z_putF C0 hI 3 rfl hin3 tyX3 tyX3_ok nmX3 0 0 rfl (by decide) (by decide +kernel) rfl rfl (ty := .array (.object "SewingFrames$Book")) (by decide +kernel) rfl rfl (Nat.le_of_ble_eq_true rfl) dX3_init_10 ?_
  refine z_world (ws' := [(h0, .inr (3, T3 (.ref q1) .null .null 0 0 0 0))] ++ ((q1, .inl (cy 1, 15, rfs (af (fun _ => 0) 0))) :: bl (fun _ => 0) eB 0)) (by rw [af_0]; rfl) ?_
  refine z_iconst (v := 0) C0 dX3_init_13 (by decide) ?_
  refine z_istore_n C0 [(1, _), (0, _)] dX3_init_14 rfl (by decide) rfl ?_
  have hl1 : ∀ (n i : Nat), 15 - i = n → i ≤ 15 → ∀ a : Nat → Nat, Z K l rX3_init D 2 (1 + i) (15 + 13 * i) (QI K D (fun w => ∃ a, a 0 = h0 ∧ w = W27 a cy) 26 245) ([(h0, .inr (3, T3 (.ref q1) .null .null 0 0 0 0))] ++ ((q1, .inl (cy 1, 15, rfs (af a i))) :: bl a eB i)) [(1, .int (nI i)), (0, .ref h0)] 15 [] := by
    intro n
    induction n using Nat.strongRecOn with
    | _ n ih =>
      intro i hn hi a
      refine z_iload_n C0 0 dX3_init_15 rfl rfl ?_
      refine z_aload_n C0 1 dX3_init_16 rfl rfl ?_
      refine z_get C0 3 rfl hin3 0 0 rfl (by decide) (by decide +kernel) rfl dX3_init_17 ?_
      refine z_alen C0 ([(h0, .inr (3, T3 (.ref q1) .null .null 0 0 0 0))]).length 1 zl_a rfl dX3_init_20 ?_
      refine z_icmp_ge C0 44 dX3_init_21 (by decide) (fun c => ?_) (fun c => ?_)
      · have he := ct_end (N := 15) (by decide) hi c
        subst he
        obtain ⟨a1, ea1⟩ : ∃ z, z = a := ⟨_, rfl⟩
        subst ea1
        refine z_aload_n C0 1 dX3_init_44 rfl rfl ?_
        refine z_iconst (v := 5) C0 dX3_init_45 (by decide) ?_
        refine z_newq C0 2 (n := 5) rfl (by decide) rfl (fun s h => h.2.1) hI (by decide +kernel) (by decide) (by decide) dX3_init_46 (fun q2 => ?_)
        refine z_putF C0 hI 3 rfl hin3 tyX3 tyX3_ok nmX3 0 1 rfl (by decide) (by decide +kernel) rfl rfl (ty := .array (.object "SewingFrames$Sewer")) (by decide +kernel) rfl rfl (Nat.le_of_ble_eq_true rfl) dX3_init_49 ?_
        refine z_world (ws' := ((h0, .inr (3, T3 (.ref q1) (.ref q2) .null 0 0 0 0)) :: (q1, .inl (cy 1, 15, rfs (af a1 15))) :: bl a1 eB 15) ++ ((q2, .inl (cy 2, 5, rfs (af (fun _ => 0) 0))) :: bl (fun _ => 0) eS 0)) (by rw [af_0]; rfl) ?_
        refine z_iconst (v := 0) C0 dX3_init_52 (by decide) ?_
        refine z_istore_n C0 [(1, _), (0, _)] dX3_init_53 rfl (by decide) rfl ?_
        have hl2 : ∀ (n i : Nat), 5 - i = n → i ≤ 5 → ∀ a : Nat → Nat, Z K l rX3_init D 2 (17 + i) (215 + 3 * i) (QI K D (fun w => ∃ a, a 0 = h0 ∧ w = W27 a cy) 26 245) (((h0, .inr (3, T3 (.ref q1) (.ref q2) .null 0 0 0 0)) :: (q1, .inl (cy 1, 15, rfs (af a1 15))) :: bl a1 eB 15) ++ ((q2, .inl (cy 2, 5, rfs (af a i))) :: bl a eS i)) [(1, .int (nI i)), (0, .ref h0)] 54 [] := by
          intro n
          induction n using Nat.strongRecOn with
          | _ n ih =>
            intro i hn hi a
            refine z_iload_n C0 0 dX3_init_54 rfl rfl ?_
            refine z_aload_n C0 1 dX3_init_55 rfl rfl ?_
            refine z_get C0 3 rfl hin3 0 1 rfl (by decide) (by decide +kernel) rfl dX3_init_56 ?_
            refine z_alen C0 (((h0, .inr (3, T3 (.ref q1) (.ref q2) .null 0 0 0 0)) :: (q1, .inl (cy 1, 15, rfs (af a1 15))) :: bl a1 eB 15)).length 2 zl_a rfl dX3_init_59 ?_
            refine z_icmp_ge C0 83 dX3_init_60 (by decide) (fun c => ?_) (fun c => ?_)
            · have he := ct_end (N := 5) (by decide) hi c
              subst he
              obtain ⟨a2, ea2⟩ : ∃ z, z = a := ⟨_, rfl⟩
              subst ea2
              refine z_aload_n C0 1 dX3_init_83 rfl rfl ?_
              refine z_iconst (v := 3) C0 dX3_init_84 (by decide) ?_
              refine z_newq C0 3 (n := 3) rfl (by decide) rfl (fun s h => h.2.2) hI (by decide +kernel) (by decide) (by decide) dX3_init_85 (fun q3 => ?_)
              refine z_putF C0 hI 3 rfl hin3 tyX3 tyX3_ok nmX3 0 2 rfl (by decide) (by decide +kernel) rfl rfl (ty := .array (.object "SewingFrames$Frame")) (by decide +kernel) rfl rfl (Nat.le_of_ble_eq_true rfl) dX3_init_88 ?_
              refine z_world (ws' := ((h0, .inr (3, T3 (.ref q1) (.ref q2) (.ref q3) 0 0 0 0)) :: (q1, .inl (cy 1, 15, rfs (af a1 15))) :: bl a1 eB 15 ++ ((q2, .inl (cy 2, 5, rfs (af a2 5))) :: bl a2 eS 5)) ++ ((q3, .inl (cy 3, 3, rfs (af (fun _ => 0) 0))) :: bl (fun _ => 0) eF 0)) (by rw [af_0]; rfl) ?_
              refine z_iconst (v := 0) C0 dX3_init_91 (by decide) ?_
              refine z_istore_n C0 [(1, _), (0, _)] dX3_init_92 rfl (by decide) rfl ?_
              have hl3 : ∀ (n i : Nat), 3 - i = n → i ≤ 3 → ∀ a : Nat → Nat, Z K l rX3_init D 2 (23 + i) (233 + 4 * i) (QI K D (fun w => ∃ a, a 0 = h0 ∧ w = W27 a cy) 26 245) (((h0, .inr (3, T3 (.ref q1) (.ref q2) (.ref q3) 0 0 0 0)) :: (q1, .inl (cy 1, 15, rfs (af a1 15))) :: bl a1 eB 15 ++ ((q2, .inl (cy 2, 5, rfs (af a2 5))) :: bl a2 eS 5)) ++ ((q3, .inl (cy 3, 3, rfs (af a i))) :: bl a eF i)) [(1, .int (nI i)), (0, .ref h0)] 93 [] := by
                intro n
                induction n using Nat.strongRecOn with
                | _ n ih =>
                  intro i hn hi a
                  refine z_iload_n C0 0 dX3_init_93 rfl rfl ?_
                  refine z_aload_n C0 1 dX3_init_94 rfl rfl ?_
                  refine z_get C0 3 rfl hin3 0 2 rfl (by decide) (by decide +kernel) rfl dX3_init_95 ?_
                  refine z_alen C0 (((h0, .inr (3, T3 (.ref q1) (.ref q2) (.ref q3) 0 0 0 0)) :: (q1, .inl (cy 1, 15, rfs (af a1 15))) :: bl a1 eB 15 ++ ((q2, .inl (cy 2, 5, rfs (af a2 5))) :: bl a2 eS 5))).length 3 zl_a rfl dX3_init_98 ?_
                  refine z_icmp_ge C0 122 dX3_init_99 (by decide) (fun c => ?_) (fun c => ?_)
                  · have he := ct_end (N := 3) (by decide) hi c
                    subst he
                    refine z_aload_n C0 1 dX3_init_122 rfl rfl ?_
                    refine z_sipush (v := 300) C0 dX3_init_123 (by decide) ?_
                    refine z_put C0 3 rfl hin3 tyX3 tyX3_ok nmX3 0 7 rfl (by decide) (by decide +kernel) rfl (by decide +kernel) (Nat.le_of_ble_eq_true rfl) dX3_init_126 ?_
                    refine z_aload_n C0 1 dX3_init_129 rfl rfl ?_
                    refine z_bipush (v := 12) C0 dX3_init_130 (by decide) ?_
                    refine z_put C0 3 rfl hin3 tyX3 tyX3_ok nmX3 0 8 rfl (by decide) (by decide +kernel) rfl (by decide +kernel) (Nat.le_of_ble_eq_true rfl) dX3_init_132 ?_
                    refine z_aload_n C0 1 dX3_init_135 rfl rfl ?_
                    refine z_bipush (v := 20) C0 dX3_init_136 (by decide) ?_
                    refine z_put C0 3 rfl hin3 tyX3 tyX3_ok nmX3 0 9 rfl (by decide) (by decide +kernel) rfl (by decide +kernel) (Nat.le_of_ble_eq_true rfl) dX3_init_138 ?_
                    refine z_aload_n C0 1 dX3_init_141 rfl rfl ?_
                    refine z_bipush (v := 30) C0 dX3_init_142 (by decide) ?_
                    refine z_put C0 3 rfl hin3 tyX3 tyX3_ok nmX3 0 6 rfl (by decide) (by decide +kernel) rfl (by decide +kernel) (Nat.le_of_ble_eq_true rfl) dX3_init_144 ?_
                    exact z_vret C0 dX3_init_147 (fun H A hP hD => W27_of (q1 := q1) (q2 := q2) (q3 := q3) (a1 := a1) (a2 := a2) (a3 := a) hP hD)
                  · have hlt := ct_lt (N := 3) (by decide) hi c
                    refine z_aload_n C0 1 dX3_init_102 rfl rfl ?_
                    refine z_get C0 3 rfl hin3 0 2 rfl (by decide) (by decide +kernel) rfl dX3_init_103 ?_
                    refine z_iload_n C0 0 dX3_init_106 rfl rfl ?_
                    refine z_new C0 1 rfl hin1 tyX1 tyX1_ok (by decide +kernel) (by decide +kernel) (by decide +kernel) [.int 0, .int 0, .int 0, .int 0] (fun j hj => by rcases (show j = 0 ∨ j = 1 ∨ j = 2 ∨ j = 3 by omega) with rfl | rfl | rfl | rfl <;> rfl) (show 23 + i + 1 ≤ 26 by omega) (show 233 + 4 * i + 4 ≤ 245 by omega) dX3_init_107 (fun r => ?_)
                    refine z_dup C0 dX3_init_110 rfl ?_
                    refine z_iload_n C0 0 dX3_init_111 rfl rfl ?_
                    refine z_callI C0 hI.o (As := [_]) (n := 1) (mX1_init l D cy r (nI i)) gX3_init_X1_init rfl rfl rfl (by decide +kernel) (by decide +kernel) (by decide +kernel) rfl (by decide +kernel) ⟨by decide, by decide⟩ rfl rfl (Nat.le_of_ble_eq_true rfl) dX3_init_112 ⟨show 23 + i + 1 + 0 ≤ 26 by omega, show 233 + 4 * i + 4 + 0 ≤ 245 by omega⟩ (fun w1 hw1 => ?_)
                    subst hw1
                    refine z_astq C0 (((h0, .inr (3, T3 (.ref q1) (.ref q2) (.ref q3) 0 0 0 0)) :: (q1, .inl (cy 1, 15, rfs (af a1 15))) :: bl a1 eB 15 ++ ((q2, .inl (cy 2, 5, rfs (af a2 5))) :: bl a2 eS 5))).length 3 ((((h0, .inr (3, T3 (.ref q1) (.ref q2) (.ref q3) 0 0 0 0)) :: (q1, .inl (cy 1, 15, rfs (af a1 15))) :: bl a1 eB 15 ++ ((q2, .inl (cy 2, 5, rfs (af a2 5))) :: bl a2 eS 5))).length + 1 + i) 1 zl_b rfl (zl_c bl_len) rfl rfl hlt (by decide) dX3_init_115 ?_
                    refine z_world (ws' := ((h0, .inr (3, T3 (.ref q1) (.ref q2) (.ref q3) 0 0 0 0)) :: (q1, .inl (cy 1, 15, rfs (af a1 15))) :: bl a1 eB 15 ++ ((q2, .inl (cy 2, 5, rfs (af a2 5))) :: bl a2 eS 5)) ++ ((q3, .inl (cy 3, 3, rfs (af (va_up a i r) (i + 1)))) :: bl (va_up a i r) eF (i + 1))) (zl_n.trans (by rw [af_n]; exact congrArg (fun z => ((h0, .inr (3, T3 (.ref q1) (.ref q2) (.ref q3) 0 0 0 0)) :: (q1, .inl (cy 1, 15, rfs (af a1 15))) :: bl a1 eB 15 ++ ((q2, .inl (cy 2, 5, rfs (af a2 5))) :: bl a2 eS 5)) ++ (_ :: z)) (bl_n (e := eF)))) ?_
                    refine z_iinc (v := nI (i + 1)) C0 0 [(1, _), (0, _)] dX3_init_116 rfl (yinc_ok rfl rfl) (by decide) rfl ?_
                    refine z_goto C0 93 dX3_init_119 (by decide) ?_
                    refine z_widen (k := 23 + (i + 1)) (n := 233 + 4 * (i + 1)) (by omega) (by omega) ?_
                    exact ih _ (by omega) (i + 1) rfl hlt (va_up a i r)
              exact hl3 _ 0 rfl (Nat.zero_le _) (fun _ => 0)
            · have hlt := ct_lt (N := 5) (by decide) hi c
              refine z_aload_n C0 1 dX3_init_63 rfl rfl ?_
              refine z_get C0 3 rfl hin3 0 1 rfl (by decide) (by decide +kernel) rfl dX3_init_64 ?_
              refine z_iload_n C0 0 dX3_init_67 rfl rfl ?_
              refine z_new C0 2 rfl hin2 tyX2 tyX2_ok (by decide +kernel) (by decide +kernel) (by decide +kernel) [.int 0, .int 0, .int 0] (fun j hj => by rcases (show j = 0 ∨ j = 1 ∨ j = 2 by omega) with rfl | rfl | rfl <;> rfl) (show 17 + i + 1 ≤ 26 by omega) (show 215 + 3 * i + 3 ≤ 245 by omega) dX3_init_68 (fun r => ?_)
              refine z_dup C0 dX3_init_71 rfl ?_
              refine z_iload_n C0 0 dX3_init_72 rfl rfl ?_
              refine z_callI C0 hI.o (As := [_]) (n := 1) (mX2_init l D cy r (nI i)) gX3_init_X2_init rfl rfl rfl (by decide +kernel) (by decide +kernel) (by decide +kernel) rfl (by decide +kernel) ⟨by decide, by decide⟩ rfl rfl (Nat.le_of_ble_eq_true rfl) dX3_init_73 ⟨show 17 + i + 1 + 0 ≤ 26 by omega, show 215 + 3 * i + 3 + 0 ≤ 245 by omega⟩ (fun w1 hw1 => ?_)
              subst hw1
              refine z_astq C0 (((h0, .inr (3, T3 (.ref q1) (.ref q2) .null 0 0 0 0)) :: (q1, .inl (cy 1, 15, rfs (af a1 15))) :: bl a1 eB 15)).length 2 ((((h0, .inr (3, T3 (.ref q1) (.ref q2) .null 0 0 0 0)) :: (q1, .inl (cy 1, 15, rfs (af a1 15))) :: bl a1 eB 15)).length + 1 + i) 2 zl_b rfl (zl_c bl_len) rfl rfl hlt (by decide) dX3_init_76 ?_
              refine z_world (ws' := ((h0, .inr (3, T3 (.ref q1) (.ref q2) .null 0 0 0 0)) :: (q1, .inl (cy 1, 15, rfs (af a1 15))) :: bl a1 eB 15) ++ ((q2, .inl (cy 2, 5, rfs (af (va_up a i r) (i + 1)))) :: bl (va_up a i r) eS (i + 1))) (zl_n.trans (by rw [af_n]; exact congrArg (fun z => ((h0, .inr (3, T3 (.ref q1) (.ref q2) .null 0 0 0 0)) :: (q1, .inl (cy 1, 15, rfs (af a1 15))) :: bl a1 eB 15) ++ (_ :: z)) (bl_n (e := eS)))) ?_
              refine z_iinc (v := nI (i + 1)) C0 0 [(1, _), (0, _)] dX3_init_77 rfl (yinc_ok rfl rfl) (by decide) rfl ?_
              refine z_goto C0 54 dX3_init_80 (by decide) ?_
              refine z_widen (k := 17 + (i + 1)) (n := 215 + 3 * (i + 1)) (by omega) (by omega) ?_
              exact ih _ (by omega) (i + 1) rfl hlt (va_up a i r)
        exact hl2 _ 0 rfl (Nat.zero_le _) (fun _ => 0)
      · have hlt := ct_lt (N := 15) (by decide) hi c
        refine z_aload_n C0 1 dX3_init_24 rfl rfl ?_
        refine z_get C0 3 rfl hin3 0 0 rfl (by decide) (by decide +kernel) rfl dX3_init_25 ?_
        refine z_iload_n C0 0 dX3_init_28 rfl rfl ?_
        refine z_new C0 0 rfl hin0 tyX0 tyX0_ok (by decide +kernel) (by decide +kernel) (by decide +kernel) [.int 0, .int 0, .int 0, .int 0, .int 0, .int 0, .int 0, .int 0, .int 0, .int 0, .int 0, .int 0, .int 0] (fun j hj => by rcases (show j = 0 ∨ j = 1 ∨ j = 2 ∨ j = 3 ∨ j = 4 ∨ j = 5 ∨ j = 6 ∨ j = 7 ∨ j = 8 ∨ j = 9 ∨ j = 10 ∨ j = 11 ∨ j = 12 by omega) with rfl | rfl | rfl | rfl | rfl | rfl | rfl | rfl | rfl | rfl | rfl | rfl | rfl <;> rfl) (show 1 + i + 1 ≤ 26 by omega) (show 15 + 13 * i + 13 ≤ 245 by omega) dX3_init_29 (fun r => ?_)
        refine z_dup C0 dX3_init_32 rfl ?_
        refine z_iload_n C0 0 dX3_init_33 rfl rfl ?_
        refine z_callI C0 hI.o (As := [_]) (n := 1) (mX0_init l D cy r (nI i)) gX3_init_X0_init rfl rfl rfl (by decide +kernel) (by decide +kernel) (by decide +kernel) rfl (by decide +kernel) ⟨by decide, by decide⟩ rfl rfl (Nat.le_of_ble_eq_true rfl) dX3_init_34 ⟨show 1 + i + 1 + 0 ≤ 26 by omega, show 15 + 13 * i + 13 + 0 ≤ 245 by omega⟩ (fun w1 hw1 => ?_)
        subst hw1
        refine z_astq C0 ([(h0, .inr (3, T3 (.ref q1) .null .null 0 0 0 0))]).length 1 (([(h0, .inr (3, T3 (.ref q1) .null .null 0 0 0 0))]).length + 1 + i) 0 zl_b rfl (zl_c bl_len) rfl rfl hlt (by decide) dX3_init_37 ?_
        refine z_world (ws' := [(h0, .inr (3, T3 (.ref q1) .null .null 0 0 0 0))] ++ ((q1, .inl (cy 1, 15, rfs (af (va_up a i r) (i + 1)))) :: bl (va_up a i r) eB (i + 1))) (zl_n.trans (by rw [af_n]; exact congrArg (fun z => [(h0, .inr (3, T3 (.ref q1) .null .null 0 0 0 0))] ++ (_ :: z)) (bl_n (e := eB)))) ?_
        refine z_iinc (v := nI (i + 1)) C0 0 [(1, _), (0, _)] dX3_init_38 rfl (yinc_ok rfl rfl) (by decide) rfl ?_
        refine z_goto C0 15 dX3_init_41 (by decide) ?_
        refine z_widen (k := 1 + (i + 1)) (n := 15 + 13 * (i + 1)) (by omega) (by omega) ?_
        exact ih _ (by omega) (i + 1) rfl hlt (va_up a i r)
  exact hl1 _ 0 rfl (Nat.zero_le _) (fun _ => 0)
theorem dX4i : True := trivial
abbrev rX4_init : Room := { frames := 3, cells := 54, slots := 514, locals := 60 }
def S4 (x a b : Nat) : Nat × va_E := (x, .inr (4, [.ref a, .ref b]))
set_option maxRecDepth 100000 in
set_option maxHeartbeats 4000000 in
theorem mX4_init (l : Launch) (D : va_G) (cy : Nat → ClassId) (x : Nat) : Ci l yX4_init wsX4_init rX4_init D cy [.ref x] [(x, .inr (4, [.null, .null]))] (fun w => ∃ a b : Nat → Nat, w = (S4 x (a 0) (b 0) :: W27 a cy) ++ W27 b cy) 54 514 := by
  refine Ci.mk cX4_init 1 RX4 (by decide) rfl rfl rfl (Nat.le_of_ble_eq_true rfl) ?_
  intro K C0 hI
  have hin3 : ∀ w ∈ u_ws RX3 TX3 12, w ∈ wsX4_init := by decide +kernel
  have hin4 : ∀ w ∈ u_ws RX4 TX4 2, w ∈ wsX4_init := by decide +kernel
  refine z_eq (show lv_args 0 _ = ([(0, .ref x)] : List (Nat × Value)) from rfl) rfl ?_
  refine z_aload_n C0 0 dX4_init_0 rfl rfl ?_
  refine z_objInit C0 (by decide +kernel) (by decide +kernel) (by decide +kernel) dX4_init_1 (by decide) (by decide) ?_
  refine z_aload_n C0 0 dX4_init_4 rfl rfl ?_
  refine z_new C0 3 rfl hin3 tyX3 tyX3_ok (by decide +kernel) (by decide +kernel) (by decide +kernel) (T3 .null .null .null 0 0 0 0) (fun j hj => by rcases (show j = 0 ∨ j = 1 ∨ j = 2 ∨ j = 3 ∨ j = 4 ∨ j = 5 ∨ j = 6 ∨ j = 7 ∨ j = 8 ∨ j = 9 ∨ j = 10 ∨ j = 11 by omega) with rfl | rfl | rfl | rfl | rfl | rfl | rfl | rfl | rfl | rfl | rfl | rfl <;> rfl) (by decide) (by decide) dX4_init_5 (fun r => ?_)
  refine z_dup C0 dX4_init_8 rfl ?_
  refine z_callI C0 hI.o (As := []) (n := 0) (mX3_init l D cy r) gX4_init_X3_init rfl rfl rfl (by decide +kernel) (by decide +kernel) (by decide +kernel) rfl (by decide +kernel) ⟨by decide, by decide⟩ rfl rfl (Nat.le_of_ble_eq_true rfl) dX4_init_9 ⟨by decide, by decide⟩ (fun w1 hw1 => ?_)
  obtain ⟨a, rfl, rfl⟩ := hw1
  refine z_putF C0 hI 4 rfl hin4 tyX4 tyX4_ok nmX4 0 0 rfl (by decide) (by decide +kernel) rfl rfl (ty := .object "SewingFrames$Workshop") (by decide +kernel) rfl rfl (Nat.le_of_ble_eq_true rfl) dX4_init_12 ?_
  refine z_aload_n C0 0 dX4_init_15 rfl rfl ?_
  refine z_new C0 3 rfl hin3 tyX3 tyX3_ok (by decide +kernel) (by decide +kernel) (by decide +kernel) (T3 .null .null .null 0 0 0 0) (fun j hj => by rcases (show j = 0 ∨ j = 1 ∨ j = 2 ∨ j = 3 ∨ j = 4 ∨ j = 5 ∨ j = 6 ∨ j = 7 ∨ j = 8 ∨ j = 9 ∨ j = 10 ∨ j = 11 by omega) with rfl | rfl | rfl | rfl | rfl | rfl | rfl | rfl | rfl | rfl | rfl | rfl <;> rfl) (by decide) (by decide) dX4_init_16 (fun r => ?_)
  refine z_dup C0 dX4_init_19 rfl ?_
  refine z_callI C0 hI.o (As := []) (n := 0) (mX3_init l D cy r) gX4_init_X3_init rfl rfl rfl (by decide +kernel) (by decide +kernel) (by decide +kernel) rfl (by decide +kernel) ⟨by decide, by decide⟩ rfl rfl (Nat.le_of_ble_eq_true rfl) dX4_init_20 ⟨by decide, by decide⟩ (fun w1 hw1 => ?_)
  obtain ⟨b, rfl, rfl⟩ := hw1
  refine z_putF C0 hI 4 rfl hin4 tyX4 tyX4_ok nmX4 0 1 rfl (by decide) (by decide +kernel) rfl rfl (ty := .object "SewingFrames$Workshop") (by decide +kernel) rfl rfl (Nat.le_of_ble_eq_true rfl) dX4_init_23 ?_
  refine z_widen (k := 54) (n := 514) (by decide) (by decide) ?_
  exact z_vret C0 dX4_init_26 (fun H A hP hD => ⟨_, ⟨a, b, rfl⟩, hP, hD⟩)
end YIn
