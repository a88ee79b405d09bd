section YMG
abbrev rX5_thrown : Room := { frames := 0, cells := 0, slots := 0, locals := 0 }
set_option maxRecDepth 100000 in
set_option maxHeartbeats 4000000 in
theorem mX5_thrown (l : Launch) (D : va_G) (cy : Nat → ClassId) (adr : Nat → Nat) (M : yM)  : Ct l yX5_thrown wsX5_thrown rX5_thrown D cy adr [.ref (adr 55)] M (some (.int (M 55 0))) (M) 0 0 := by
  refine Ct.mk cX5_thrown 1 (some .int) RX5 (by decide) rfl rfl (Nat.le_of_ble_eq_true rfl) ?_
  intro K C0
  refine y_eq rfl (show ([(0, .ref (adr 55))] : List (Nat × Value)) = lv_args 0 [.ref (adr 55)] from rfl) rfl ?_
  have hin5 : ∀ w ∈ u_ws RX5 TX5 3, w ∈ wsX5_thrown := by decide +kernel
  refine y_aload_n C0 0 dX5_thrown_0 rfl rfl ?_
  refine y_get C0 5 rfl rfl (by decide) hin5 0 ykd_55 (by decide) (by decide +kernel) (yvi5 ykd_55 (by decide)) dX5_thrown_1 ?_
  exact y_iret C0 dX5_thrown_4 rfl rfl
abbrev rX5_no : Room := { frames := 0, cells := 0, slots := 0, locals := 0 }
set_option maxRecDepth 100000 in
set_option maxHeartbeats 4000000 in
theorem mX5_no (l : Launch) (D : va_G) (cy : Nat → ClassId) (adr : Nat → Nat) (M : yM) (R : Rw) (n : Int32)  : Ct l yX5_no wsX5_no rX5_no D cy adr [.ref (adr 55), .int n] (va_up M 56 R) (some (.int 0)) (va_up (TN M n) 56 R) 0 0 := by
  refine Ct.mk cX5_no 2 (some .int) RX5 (by decide) rfl rfl (Nat.le_of_ble_eq_true rfl) ?_
  intro K C0
  refine y_eq rfl (show ([(0, .ref (adr 55)), (1, .int n)] : List (Nat × Value)) = lv_args 0 [.ref (adr 55), .int n] from rfl) rfl ?_
  have hin5 : ∀ w ∈ u_ws RX5 TX5 3, w ∈ wsX5_no := by decide +kernel
  refine y_aload_n C0 0 dX5_no_0 rfl rfl ?_
  refine y_iload_n C0 1 dX5_no_1 rfl rfl ?_
  refine y_thU C0 hin5 (by decide +kernel) (by decide) dX5_no_2 ?_
  refine y_iconst (v := 0) C0 dX5_no_5 (by decide) ?_
  exact y_iret C0 dX5_no_6 rfl rfl
abbrev rX5_isIn : Room := { frames := 0, cells := 0, slots := 0, locals := 0 }
set_option maxRecDepth 100000 in
set_option maxHeartbeats 4000000 in
theorem mX5_isIn (l : Launch) (D : va_G) (cy : Nat → ClassId) (adr : Nat → Nat) (M : yM) (v : Int32) (a : Int32) (b : Int32)  : Ct l yX5_isIn wsX5_isIn rX5_isIn D cy adr [.int v, .int a, .int b] M (some (.int (mI v a b))) (M) 0 0 := by
  refine Ct.mk cX5_isIn 3 (some .boolean) RX5 (by decide) rfl rfl (Nat.le_of_ble_eq_true rfl) ?_
  intro K C0
  refine y_eq rfl (show ([(0, .int v), (1, .int a), (2, .int b)] : List (Nat × Value)) = lv_args 0 [.int v, .int a, .int b] from rfl) rfl ?_
  refine y_iload_n C0 0 dX5_isIn_0 rfl rfl ?_
  refine y_iload_n C0 1 dX5_isIn_1 rfl rfl ?_
  refine y_icmp_lt C0 14 dX5_isIn_2 (by decide) (fun c_2 => ?_) (fun c_2 => ?_)
  · refine y_iconst (v := 0) C0 dX5_isIn_14 (by decide) ?_
    exact y_zret C0 rfl dX5_isIn_15 (by simp [mI, c_2]) rfl
  · refine y_iload_n C0 0 dX5_isIn_5 rfl rfl ?_
    refine y_iload_n C0 2 dX5_isIn_6 rfl rfl ?_
    refine y_icmp_gt C0 14 dX5_isIn_7 (by decide) (fun c_7 => ?_) (fun c_7 => ?_)
    · refine y_iconst (v := 0) C0 dX5_isIn_14 (by decide) ?_
      exact y_zret C0 rfl dX5_isIn_15 (by simp [mI, c_2, c_7]) rfl
    · refine y_iconst (v := 1) C0 dX5_isIn_10 (by decide) ?_
      refine y_goto C0 15 dX5_isIn_11 (by decide) ?_
      exact y_zret C0 rfl dX5_isIn_15 (by simp [mI, c_2, c_7]) rfl
abbrev rX5_isBook : Room := { frames := 1, cells := 0, slots := 0, locals := 22 }
set_option maxRecDepth 100000 in
set_option maxHeartbeats 4000000 in
theorem mX5_isBook (l : Launch) (D : va_G) (cy : Nat → ClassId) (adr : Nat → Nat) (M : yM) (R : Rw) (x : Int32)  : Ct l yX5_isBook wsX5_isBook rX5_isBook D cy adr [.ref (adr 55), .int x] (va_up M 56 R) (some (.int (mI x 0 (R 189 - 1)))) (va_up M 56 R) 0 0 := by
  refine Ct.mk cX5_isBook 2 (some .boolean) RX5 (by decide) rfl rfl (Nat.le_of_ble_eq_true rfl) ?_
  intro K C0
  refine y_eq rfl (show ([(0, .ref (adr 55)), (1, .int x)] : List (Nat × Value)) = lv_args 0 [.ref (adr 55), .int x] from rfl) rfl ?_
  have hin5 : ∀ w ∈ u_ws RX5 TX5 3, w ∈ wsX5_isBook := by decide +kernel
  refine y_iload_n C0 1 dX5_isBook_0 rfl rfl ?_
  refine y_iconst (v := 0) C0 dX5_isBook_1 (by decide) ?_
  refine y_aload_n C0 0 dX5_isBook_2 rfl rfl ?_
  refine y_get C0 5 rfl rfl (by decide) hin5 1 ykd_55 (by decide) (by decide +kernel) yv5_now dX5_isBook_3 ?_
  refine y_sipush (v := 189) C0 dX5_isBook_6 (by decide) ?_
  refine y_ialdU C0 (189) ykd_56 rfl (by omega) dX5_isBook_9 ?_
  refine y_iconst (v := 1) C0 dX5_isBook_10 (by decide) ?_
  refine y_isub C0 dX5_isBook_11 ?_
  refine y_callS (As := [_, _, _]) (rest := _) (n := 3) C0 (mX5_isIn l D cy adr _ _ _ _) gX5_isBook_X5_isIn rfl rfl rfl (by decide +kernel) ⟨by decide, by decide⟩ rfl rfl (Nat.le_of_ble_eq_true rfl) dX5_isBook_12 ⟨by decide, by decide⟩ ?_
  exact y_zret C0 mI_z dX5_isBook_15 rfl rfl
abbrev rX5_isSewer : Room := { frames := 1, cells := 0, slots := 0, locals := 22 }
set_option maxRecDepth 100000 in
set_option maxHeartbeats 4000000 in
theorem mX5_isSewer (l : Launch) (D : va_G) (cy : Nat → ClassId) (adr : Nat → Nat) (M : yM) (R : Rw) (x : Int32)  : Ct l yX5_isSewer wsX5_isSewer rX5_isSewer D cy adr [.ref (adr 55), .int x] (va_up M 56 R) (some (.int (mI x 0 (R 190 - 1)))) (va_up M 56 R) 0 0 := by
  refine Ct.mk cX5_isSewer 2 (some .boolean) RX5 (by decide) rfl rfl (Nat.le_of_ble_eq_true rfl) ?_
  intro K C0
  refine y_eq rfl (show ([(0, .ref (adr 55)), (1, .int x)] : List (Nat × Value)) = lv_args 0 [.ref (adr 55), .int x] from rfl) rfl ?_
  have hin5 : ∀ w ∈ u_ws RX5 TX5 3, w ∈ wsX5_isSewer := by decide +kernel
  refine y_iload_n C0 1 dX5_isSewer_0 rfl rfl ?_
  refine y_iconst (v := 0) C0 dX5_isSewer_1 (by decide) ?_
  refine y_aload_n C0 0 dX5_isSewer_2 rfl rfl ?_
  refine y_get C0 5 rfl rfl (by decide) hin5 1 ykd_55 (by decide) (by decide +kernel) yv5_now dX5_isSewer_3 ?_
  refine y_sipush (v := 190) C0 dX5_isSewer_6 (by decide) ?_
  refine y_ialdU C0 (190) ykd_56 rfl (by omega) dX5_isSewer_9 ?_
  refine y_iconst (v := 1) C0 dX5_isSewer_10 (by decide) ?_
  refine y_isub C0 dX5_isSewer_11 ?_
  refine y_callS (As := [_, _, _]) (rest := _) (n := 3) C0 (mX5_isIn l D cy adr _ _ _ _) gX5_isSewer_X5_isIn rfl rfl rfl (by decide +kernel) ⟨by decide, by decide⟩ rfl rfl (Nat.le_of_ble_eq_true rfl) dX5_isSewer_12 ⟨by decide, by decide⟩ ?_
  exact y_zret C0 mI_z dX5_isSewer_15 rfl rfl
abbrev rX5_isFrame : Room := { frames := 1, cells := 0, slots := 0, locals := 22 }
set_option maxRecDepth 100000 in
set_option maxHeartbeats 4000000 in
theorem mX5_isFrame (l : Launch) (D : va_G) (cy : Nat → ClassId) (adr : Nat → Nat) (M : yM) (x : Int32)  : Ct l yX5_isFrame wsX5_isFrame rX5_isFrame D cy adr [.int x] M (some (.int (mI x 0 2))) (M) 0 0 := by
  refine Ct.mk cX5_isFrame 1 (some .boolean) RX5 (by decide) rfl rfl (Nat.le_of_ble_eq_true rfl) ?_
  intro K C0
  refine y_eq rfl (show ([(0, .int x)] : List (Nat × Value)) = lv_args 0 [.int x] from rfl) rfl ?_
  refine y_iload_n C0 0 dX5_isFrame_0 rfl rfl ?_
  refine y_iconst (v := 0) C0 dX5_isFrame_1 (by decide) ?_
  refine y_iconst (v := 2) C0 dX5_isFrame_2 (by decide) ?_
  refine y_callS (As := [_, _, _]) (rest := _) (n := 3) C0 (mX5_isIn l D cy adr _ _ _ _) gX5_isFrame_X5_isIn rfl rfl rfl (by decide +kernel) ⟨by decide, by decide⟩ rfl rfl (Nat.le_of_ble_eq_true rfl) dX5_isFrame_3 ⟨by decide, by decide⟩ ?_
  exact y_zret C0 mI_z dX5_isFrame_6 rfl rfl
abbrev rX5_thick : Room := { frames := 0, cells := 0, slots := 0, locals := 0 }
set_option maxRecDepth 100000 in
set_option maxHeartbeats 4000000 in
theorem mX5_thick (l : Launch) (D : va_G) (cy : Nat → ClassId) (adr : Nat → Nat) (M : yM) (j : Nat) (hj : ykd j = 6) (R : Rw) (a : Nat) (ha : a < 180) : Ct l yX5_thick wsX5_thick rX5_thick D cy adr [.ref (adr j), .int (nI a)] (va_up M j R) (some (.int (rTh R a))) (va_up M j R) 0 0 := by
  refine Ct.mk cX5_thick 2 (some .int) RX5 (by decide) rfl rfl (Nat.le_of_ble_eq_true rfl) ?_
  intro K C0
  refine y_eq rfl (show ([(0, .ref (adr j)), (1, .int (nI a))] : List (Nat × Value)) = lv_args 0 [.ref (adr j), .int (nI a)] from rfl) rfl ?_
  refine y_aload_n C0 0 dX5_thick_0 rfl rfl ?_
  refine y_iload_n C0 1 dX5_thick_1 rfl rfl ?_
  refine y_ialdU C0 (a) hj rfl (by omega) dX5_thick_2 ?_
  refine y_aload_n C0 0 dX5_thick_3 rfl rfl ?_
  refine y_iload_n C0 1 dX5_thick_4 rfl rfl ?_
  refine y_iconst (v := 1) C0 dX5_thick_5 (by decide) ?_
  refine y_iaddN C0 (a := a) (b := 1) rfl rfl dX5_thick_6 ?_
  refine y_ialdU C0 ((a + 1)) hj rfl (by omega) dX5_thick_7 ?_
  refine y_imul C0 dX5_thick_8 ?_
  exact y_iret C0 dX5_thick_9 rfl rfl
abbrev rX5_stitches : Room := { frames := 0, cells := 0, slots := 0, locals := 0 }
set_option maxRecDepth 100000 in
set_option maxHeartbeats 4000000 in
theorem mX5_stitches (l : Launch) (D : va_G) (cy : Nat → ClassId) (adr : Nat → Nat) (M : yM) (j : Nat) (hj : ykd j = 6) (R : Rw) (a : Nat) (s : Int32) (ha : a < 180) : Ct l yX5_stitches wsX5_stitches rX5_stitches D cy adr [.ref (adr j), .int (nI a), .int s] (va_up M j R) (some (.int (rSt R a s))) (va_up M j R) 0 0 := by
  refine Ct.mk cX5_stitches 3 (some .int) RX5 (by decide) rfl rfl (Nat.le_of_ble_eq_true rfl) ?_
  intro K C0
  refine y_eq rfl (show ([(0, .ref (adr j)), (1, .int (nI a)), (2, .int s)] : List (Nat × Value)) = lv_args 0 [.ref (adr j), .int (nI a), .int s] from rfl) rfl ?_
  refine y_aload_n C0 0 dX5_stitches_0 rfl rfl ?_
  refine y_iload_n C0 1 dX5_stitches_1 rfl rfl ?_
  refine y_bipush (v := 10) C0 dX5_stitches_2 (by decide) ?_
  refine y_iaddN C0 (a := a) (b := 10) rfl rfl dX5_stitches_4 ?_
  refine y_ialdU C0 ((a + 10)) hj rfl (by omega) dX5_stitches_5 ?_
  refine y_iconst (v := 2) C0 dX5_stitches_6 (by decide) ?_
  refine y_iadd C0 dX5_stitches_7 ?_
  refine y_iload_n C0 2 dX5_stitches_8 rfl rfl ?_
  refine y_if_ne C0 16 dX5_stitches_9 (by decide) (fun c_9 => ?_) (fun c_9 => ?_)
  · refine y_iconst (v := 0) C0 dX5_stitches_16 (by decide) ?_
    refine y_iadd C0 dX5_stitches_17 ?_
    refine y_iload_n C0 2 dX5_stitches_18 rfl rfl ?_
    refine y_aload_n C0 0 dX5_stitches_19 rfl rfl ?_
    refine y_iload_n C0 1 dX5_stitches_20 rfl rfl ?_
    refine y_ialdU C0 (a) hj rfl (by omega) dX5_stitches_21 ?_
    refine y_iconst (v := 1) C0 dX5_stitches_22 (by decide) ?_
    refine y_isub C0 dX5_stitches_23 ?_
    refine y_icmp_ne C0 31 dX5_stitches_24 (by decide) (fun c_24 => ?_) (fun c_24 => ?_)
    · refine y_iconst (v := 0) C0 dX5_stitches_31 (by decide) ?_
      refine y_iadd C0 dX5_stitches_32 ?_
      exact y_iret C0 dX5_stitches_33 (by unfold rSt; split <;> first | contradiction | rfl | (split <;> first | contradiction | rfl)) rfl
    · refine y_iconst (v := 2) C0 dX5_stitches_27 (by decide) ?_
      refine y_goto C0 32 dX5_stitches_28 (by decide) ?_
      refine y_iadd C0 dX5_stitches_32 ?_
      exact y_iret C0 dX5_stitches_33 (by unfold rSt; split <;> first | contradiction | rfl | (split <;> first | contradiction | rfl)) rfl
  · refine y_iconst (v := 2) C0 dX5_stitches_12 (by decide) ?_
    refine y_goto C0 17 dX5_stitches_13 (by decide) ?_
    refine y_iadd C0 dX5_stitches_17 ?_
    refine y_iload_n C0 2 dX5_stitches_18 rfl rfl ?_
    refine y_aload_n C0 0 dX5_stitches_19 rfl rfl ?_
    refine y_iload_n C0 1 dX5_stitches_20 rfl rfl ?_
    refine y_ialdU C0 (a) hj rfl (by omega) dX5_stitches_21 ?_
    refine y_iconst (v := 1) C0 dX5_stitches_22 (by decide) ?_
    refine y_isub C0 dX5_stitches_23 ?_
    refine y_icmp_ne C0 31 dX5_stitches_24 (by decide) (fun c_24 => ?_) (fun c_24 => ?_)
    · refine y_iconst (v := 0) C0 dX5_stitches_31 (by decide) ?_
      refine y_iadd C0 dX5_stitches_32 ?_
      exact y_iret C0 dX5_stitches_33 (by unfold rSt; split <;> first | contradiction | rfl | (split <;> first | contradiction | rfl)) rfl
    · refine y_iconst (v := 2) C0 dX5_stitches_27 (by decide) ?_
      refine y_goto C0 32 dX5_stitches_28 (by decide) ?_
      refine y_iadd C0 dX5_stitches_32 ?_
      exact y_iret C0 dX5_stitches_33 (by unfold rSt; split <;> first | contradiction | rfl | (split <;> first | contradiction | rfl)) rfl
abbrev rX5_worthOf : Room := { frames := 1, cells := 0, slots := 0, locals := 16 }
set_option maxRecDepth 100000 in
set_option maxHeartbeats 4000000 in
theorem mX5_worthOf (l : Launch) (D : va_G) (cy : Nat → ClassId) (adr : Nat → Nat) (M : yM) (j : Nat) (hj : ykd j = 6) (R : Rw) (a : Nat) (ha : a < 180) : Ct l yX5_worthOf wsX5_worthOf rX5_worthOf D cy adr [.ref (adr j), .int (nI a)] (va_up M j R) (some (.int (rWo R a))) (va_up M j R) 0 0 := by
  refine Ct.mk cX5_worthOf 2 (some .int) RX5 (by decide) rfl rfl (Nat.le_of_ble_eq_true rfl) ?_
  intro K C0
  refine y_eq rfl (show ([(0, .ref (adr j)), (1, .int (nI a))] : List (Nat × Value)) = lv_args 0 [.ref (adr j), .int (nI a)] from rfl) rfl ?_
  refine y_iconst (v := 1) C0 dX5_worthOf_0 (by decide) ?_
  refine y_iconst (v := 4) C0 dX5_worthOf_1 (by decide) ?_
  refine y_aload_n C0 0 dX5_worthOf_2 rfl rfl ?_
  refine y_iload_n C0 1 dX5_worthOf_3 rfl rfl ?_
  refine y_ialdU C0 (a) hj rfl (by omega) dX5_worthOf_4 ?_
  refine y_imul C0 dX5_worthOf_5 ?_
  refine y_iconst (v := 2) C0 dX5_worthOf_6 (by decide) ?_
  refine y_aload_n C0 0 dX5_worthOf_7 rfl rfl ?_
  refine y_iload_n C0 1 dX5_worthOf_8 rfl rfl ?_
  refine y_bipush (v := 10) C0 dX5_worthOf_9 (by decide) ?_
  refine y_iaddN C0 (a := a) (b := 10) rfl rfl dX5_worthOf_11 ?_
  refine y_ialdU C0 ((a + 10)) hj rfl (by omega) dX5_worthOf_12 ?_
  refine y_imul C0 dX5_worthOf_13 ?_
  refine y_iadd C0 dX5_worthOf_14 ?_
  refine y_bipush (v := 6) C0 dX5_worthOf_15 (by decide) ?_
  refine y_aload_n C0 0 dX5_worthOf_17 rfl rfl ?_
  refine y_iload_n C0 1 dX5_worthOf_18 rfl rfl ?_
  refine y_bipush (v := 9) C0 dX5_worthOf_19 (by decide) ?_
  refine y_iaddN C0 (a := a) (b := 9) rfl rfl dX5_worthOf_21 ?_
  refine y_ialdU C0 ((a + 9)) hj rfl (by omega) dX5_worthOf_22 ?_
  refine y_imul C0 dX5_worthOf_23 ?_
  refine y_iadd C0 dX5_worthOf_24 ?_
  refine y_iconst (v := 3) C0 dX5_worthOf_25 (by decide) ?_
  refine y_aload_n C0 0 dX5_worthOf_26 rfl rfl ?_
  refine y_iload_n C0 1 dX5_worthOf_27 rfl rfl ?_
  refine y_bipush (v := 7) C0 dX5_worthOf_28 (by decide) ?_
  refine y_iaddN C0 (a := a) (b := 7) rfl rfl dX5_worthOf_30 ?_
  refine y_ialdU C0 ((a + 7)) hj rfl (by omega) dX5_worthOf_31 ?_
  refine y_imul C0 dX5_worthOf_32 ?_
  refine y_isub C0 dX5_worthOf_33 ?_
  refine y_mmax C0 (by decide +kernel) (by decide +kernel) (by decide +kernel) (by decide +kernel) (by decide) (Nat.le_of_ble_eq_true rfl) (by decide) (by decide) dX5_worthOf_34 ?_
  exact y_iret C0 dX5_worthOf_37 rfl rfl
abbrev rX5_upTo : Room := { frames := 1, cells := 0, slots := 0, locals := 22 }
set_option maxRecDepth 100000 in
set_option maxHeartbeats 4000000 in
theorem mX5_upTo (l : Launch) (D : va_G) (cy : Nat → ClassId) (adr : Nat → Nat) (M : yM) (j : Nat) (hj : ykd j = 6) (R : Rw) (a : Nat) (s : Int32) (ha : a < 180) : Ct l yX5_upTo wsX5_upTo rX5_upTo D cy adr [.ref (adr j), .int (nI a), .int s] (va_up M j R) (some (.int (rUp R a s.toNatClampNeg))) (va_up M j R) 0 0 := by
  refine Ct.mk cX5_upTo 5 (some .int) RX5 (by decide) rfl rfl (Nat.le_of_ble_eq_true rfl) ?_
  intro K C0
  refine y_eq rfl (show ([(0, .ref (adr j)), (1, .int (nI a)), (2, .int s)] : List (Nat × Value)) = lv_args 0 [.ref (adr j), .int (nI a), .int s] from rfl) rfl ?_
  refine y_iconst (v := 0) C0 dX5_upTo_0 (by decide) ?_
  refine y_istore_n C0 [(3, _), (0, _), (1, _), (2, _)] dX5_upTo_1 rfl (by decide) rfl ?_
  refine y_iconst (v := 0) C0 dX5_upTo_2 (by decide) ?_
  refine y_istore C0 [(4, _), (3, _), (0, _), (1, _), (2, _)] dX5_upTo_3 (by decide) rfl ?_
  have hl_5 : ∀ (n : Nat) (i : Nat), s.toNatClampNeg - i = n → i ≤ s.toNatClampNeg → Y K l rX5_upTo D cy adr 5 0 0 (QT K D cy adr (some (.int (rUp R a s.toNatClampNeg))) (va_up M j R) 0 0) (va_up M j R) [] [(4, .int (nI i)), (3, .int (rUp R a i)), (2, .int s), (1, .int (nI a)), (0, .ref (adr j))] 5 [] := by
    intro n
    induction n using Nat.strongRecOn with
    | _ n ih_5 =>
      intro i hn_5 hi
      refine y_iload C0 0 dX5_upTo_5 rfl ?_
      refine y_iload_n C0 2 dX5_upTo_7 rfl rfl ?_
      refine y_icmp_ge C0 27 dX5_upTo_8 (by decide) (fun c_8 => ?_) (fun c_8 => ?_)
      · have he := cl_end hi c_8
        subst he
        refine y_iload_n C0 1 dX5_upTo_27 rfl rfl ?_
        exact y_iret C0 dX5_upTo_28 rfl rfl
      · have hlt := cl_lt hi c_8
        refine y_iload_n C0 1 dX5_upTo_11 rfl rfl ?_
        refine y_aload_n C0 4 dX5_upTo_12 rfl rfl ?_
        refine y_iload_n C0 3 dX5_upTo_13 rfl rfl ?_
        refine y_iload C0 0 dX5_upTo_14 rfl ?_
        refine y_callS (As := [_, _, _]) (rest := _) (n := 3) C0 (mX5_stitches l D cy adr _ _ hj _ (a) _ (by omega)) gX5_upTo_X5_stitches rfl rfl rfl (by decide +kernel) ⟨by decide, by decide⟩ rfl rfl (Nat.le_of_ble_eq_true rfl) dX5_upTo_16 ⟨by decide, by decide⟩ ?_
        refine y_iadd C0 dX5_upTo_19 ?_
        refine y_istore_n C0 [(3, _), (4, _), (2, _), (1, _), (0, _)] dX5_upTo_20 rfl (by decide) rfl ?_
        refine y_iinc (v := nI (i + 1)) C0 1 [(4, _), (3, _), (2, _), (1, _), (0, _)] dX5_upTo_21 rfl (yinc_ok rfl rfl) (by decide) rfl ?_
        refine y_goto C0 5 dX5_upTo_24 (by decide) ?_
        refine y_sub [0, 1, 2, 3, 4] [(4, _), (3, _), (2, _), (1, _), (0, _)] rfl ?_
        exact y_eq rfl rfl rfl (ih_5 _ (by omega) (i + 1) rfl hlt)
  refine y_sub [0, 1, 4, 3, 2] [(4, _), (3, _), (2, _), (1, _), (0, _)] rfl ?_
  exact hl_5 _ 0 rfl (Nat.zero_le _)
abbrev rX5_inBook : Room := { frames := 2, cells := 0, slots := 0, locals := 46 }
set_option maxRecDepth 100000 in
set_option maxHeartbeats 4000000 in
theorem mX5_inBook (l : Launch) (D : va_G) (cy : Nat → ClassId) (adr : Nat → Nat) (M : yM) (j : Nat) (hj : ykd j = 6) (R : Rw) (a : Nat) (ha : a < 180) : Ct l yX5_inBook wsX5_inBook rX5_inBook D cy adr [.ref (adr j), .int (nI a)] (va_up M j R) (some (.int (rIn R a))) (va_up M j R) 0 0 := by
  refine Ct.mk cX5_inBook 2 (some .int) RX5 (by decide) rfl rfl (Nat.le_of_ble_eq_true rfl) ?_
  intro K C0
  refine y_eq rfl (show ([(0, .ref (adr j)), (1, .int (nI a))] : List (Nat × Value)) = lv_args 0 [.ref (adr j), .int (nI a)] from rfl) rfl ?_
  refine y_aload_n C0 0 dX5_inBook_0 rfl rfl ?_
  refine y_iload_n C0 1 dX5_inBook_1 rfl rfl ?_
  refine y_aload_n C0 0 dX5_inBook_2 rfl rfl ?_
  refine y_iload_n C0 1 dX5_inBook_3 rfl rfl ?_
  refine y_iconst (v := 5) C0 dX5_inBook_4 (by decide) ?_
  refine y_iaddN C0 (a := a) (b := 5) rfl rfl dX5_inBook_5 ?_
  refine y_ialdU C0 ((a + 5)) hj rfl (by omega) dX5_inBook_6 ?_
  refine y_callS (As := [_, _, _]) (rest := _) (n := 3) C0 (mX5_upTo l D cy adr _ _ hj _ (a) _ (by omega)) gX5_inBook_X5_upTo rfl rfl rfl (by decide +kernel) ⟨by decide, by decide⟩ rfl rfl (Nat.le_of_ble_eq_true rfl) dX5_inBook_7 ⟨by decide, by decide⟩ ?_
  refine y_aload_n C0 0 dX5_inBook_10 rfl rfl ?_
  refine y_iload_n C0 1 dX5_inBook_11 rfl rfl ?_
  refine y_bipush (v := 6) C0 dX5_inBook_12 (by decide) ?_
  refine y_iaddN C0 (a := a) (b := 6) rfl rfl dX5_inBook_14 ?_
  refine y_ialdU C0 ((a + 6)) hj rfl (by omega) dX5_inBook_15 ?_
  refine y_iadd C0 dX5_inBook_16 ?_
  exact y_iret C0 dX5_inBook_17 rfl rfl
abbrev rX5_others : Room := { frames := 0, cells := 0, slots := 0, locals := 0 }
set_option maxRecDepth 100000 in
set_option maxHeartbeats 4000000 in
theorem mX5_others (l : Launch) (D : va_G) (cy : Nat → ClassId) (adr : Nat → Nat) (M : yM) (R : Rw) (x : Int32) (f : Int32) (S : Nat) (hS : S ≤ 5) (eS : R 190 = nI S) : Ct l yX5_others wsX5_others rX5_others D cy adr [.ref (adr 55), .int x, .int f] (va_up M 56 R) (some (.int (rOt R x f S))) (va_up M 56 R) 0 0 := by
  refine Ct.mk cX5_others 5 (some .int) RX5 (by decide) rfl rfl (Nat.le_of_ble_eq_true rfl) ?_
  intro K C0
  refine y_eq rfl (show ([(0, .ref (adr 55)), (1, .int x), (2, .int f)] : List (Nat × Value)) = lv_args 0 [.ref (adr 55), .int x, .int f] from rfl) rfl ?_
  have hin5 : ∀ w ∈ u_ws RX5 TX5 3, w ∈ wsX5_others := by decide +kernel
  refine y_iconst (v := 0) C0 dX5_others_0 (by decide) ?_
  refine y_istore_n C0 [(3, _), (0, _), (1, _), (2, _)] dX5_others_1 rfl (by decide) rfl ?_
  refine y_iconst (v := 0) C0 dX5_others_2 (by decide) ?_
  refine y_istore C0 [(4, _), (3, _), (0, _), (1, _), (2, _)] dX5_others_3 (by decide) rfl ?_
  have hl_5 : ∀ (n : Nat) (i : Nat), S - i = n → i ≤ S → Y K l rX5_others D cy adr 5 0 0 (QT K D cy adr (some (.int (rOt R x f S))) (va_up M 56 R) 0 0) (va_up M 56 R) [] [(4, .int (nI i)), (3, .int (rOt R x f i)), (2, .int f), (1, .int x), (0, .ref (adr 55))] 5 [] := by
    intro n
    induction n using Nat.strongRecOn with
    | _ n ih_5 =>
      intro i hn_5 hi
      refine y_iload C0 0 dX5_others_5 rfl ?_
      refine y_aload_n C0 4 dX5_others_7 rfl rfl ?_
      refine y_get C0 5 rfl rfl (by decide) hin5 1 ykd_55 (by decide) (by decide +kernel) yv5_now dX5_others_8 ?_
      refine y_sipush (v := 190) C0 dX5_others_11 (by decide) ?_
      refine y_ialdU C0 (190) ykd_56 rfl (by omega) dX5_others_14 ?_
      refine y_icmp_ge C0 57 dX5_others_15 (by decide) (fun c_15 => ?_) (fun c_15 => ?_)
      · rw [eS] at c_15
        have he := ct_end (N := S) (by omega) hi c_15
        rw [he]
        refine y_iload_n C0 1 dX5_others_57 rfl rfl ?_
        exact y_iret C0 dX5_others_58 rfl rfl
      · rw [eS] at c_15
        have hlt := ct_lt (N := S) (by omega) hi c_15
        refine y_iload_n C0 1 dX5_others_18 rfl rfl ?_
        refine y_iload C0 0 dX5_others_19 rfl ?_
        refine y_iload_n C0 3 dX5_others_21 rfl rfl ?_
        refine y_icmp_eq C0 48 dX5_others_22 (by decide) (fun c_22 => ?_) (fun c_22 => ?_)
        · refine y_iconst (v := 0) C0 dX5_others_48 (by decide) ?_
          refine y_iadd C0 dX5_others_49 ?_
          refine y_istore_n C0 [(3, _), (4, _), (2, _), (1, _), (0, _)] dX5_others_50 rfl (by decide) rfl ?_
          refine y_iinc (v := nI (i + 1)) C0 1 [(4, _), (3, _), (2, _), (1, _), (0, _)] dX5_others_51 rfl (yinc_ok rfl rfl) (by decide) rfl ?_
          refine y_goto C0 5 dX5_others_54 (by decide) ?_
          refine y_sub [0, 1, 2, 3, 4] [(4, _), (3, _), (2, _), (1, _), (0, _)] rfl ?_
          exact y_eq rfl (by simp [rOt, c_15, c_22]) rfl (ih_5 _ (by omega) (i + 1) rfl hlt)
        · refine y_aload_n C0 4 dX5_others_25 rfl rfl ?_
          refine y_get C0 5 rfl rfl (by decide) hin5 1 ykd_55 (by decide) (by decide +kernel) yv5_now dX5_others_26 ?_
          refine y_sipush (v := 174) C0 dX5_others_29 (by decide) ?_
          refine y_iconst (v := 2) C0 dX5_others_32 (by decide) ?_
          refine y_iload C0 0 dX5_others_33 rfl ?_
          refine y_imulN C0 (a := 2) (b := i) rfl rfl dX5_others_35 ?_
          refine y_iaddN C0 (a := 174) (b := (2 * i)) rfl rfl dX5_others_36 ?_
          refine y_iconst (v := 1) C0 dX5_others_37 (by decide) ?_
          refine y_iaddN C0 (a := (174 + (2 * i))) (b := 1) rfl rfl dX5_others_38 ?_
          refine y_ialdU C0 (((174 + (2 * i)) + 1)) ykd_56 rfl (by omega) dX5_others_39 ?_
          refine y_iload_n C0 2 dX5_others_40 rfl rfl ?_
          refine y_icmp_ne C0 48 dX5_others_41 (by decide) (fun c_41 => ?_) (fun c_41 => ?_)
          · refine y_iconst (v := 0) C0 dX5_others_48 (by decide) ?_
            refine y_iadd C0 dX5_others_49 ?_
            refine y_istore_n C0 [(3, _), (4, _), (2, _), (1, _), (0, _)] dX5_others_50 rfl (by decide) rfl ?_
            refine y_iinc (v := nI (i + 1)) C0 1 [(4, _), (3, _), (2, _), (1, _), (0, _)] dX5_others_51 rfl (yinc_ok rfl rfl) (by decide) rfl ?_
            refine y_goto C0 5 dX5_others_54 (by decide) ?_
            refine y_sub [0, 1, 2, 3, 4] [(4, _), (3, _), (2, _), (1, _), (0, _)] rfl ?_
            exact y_eq rfl (by simp [rOt, c_15, c_22, c_41]) rfl (ih_5 _ (by omega) (i + 1) rfl hlt)
          · refine y_iconst (v := 1) C0 dX5_others_44 (by decide) ?_
            refine y_goto C0 49 dX5_others_45 (by decide) ?_
            refine y_iadd C0 dX5_others_49 ?_
            refine y_istore_n C0 [(3, _), (4, _), (2, _), (1, _), (0, _)] dX5_others_50 rfl (by decide) rfl ?_
            refine y_iinc (v := nI (i + 1)) C0 1 [(4, _), (3, _), (2, _), (1, _), (0, _)] dX5_others_51 rfl (yinc_ok rfl rfl) (by decide) rfl ?_
            refine y_goto C0 5 dX5_others_54 (by decide) ?_
            refine y_sub [0, 1, 2, 3, 4] [(4, _), (3, _), (2, _), (1, _), (0, _)] rfl ?_
            exact y_eq rfl (by simp [rOt, c_15, c_22, c_41]) rfl (ih_5 _ (by omega) (i + 1) rfl hlt)
  refine y_sub [0, 1, 4, 3, 2] [(4, _), (3, _), (2, _), (1, _), (0, _)] rfl ?_
  exact hl_5 _ 0 rfl (Nat.zero_le _)
abbrev rX5_rate : Room := { frames := 1, cells := 0, slots := 0, locals := 16 }
set_option maxRecDepth 100000 in
set_option maxHeartbeats 4000000 in
theorem mX5_rate (l : Launch) (D : va_G) (cy : Nat → ClassId) (adr : Nat → Nat) (M : yM) (j : Nat) (hj : ykd j = 6) (R : Rw) (f : Int32) (S : Nat) (hS : S ≤ 5) (eS : R 190 = nI S) : Ct l yX5_rate wsX5_rate rX5_rate D cy adr [.ref (adr j), .int f] (va_up M j R) (some (.int (rRa R f S))) (va_up M j R) 0 0 := by
  refine Ct.mk cX5_rate 5 (some .int) RX5 (by decide) rfl rfl (Nat.le_of_ble_eq_true rfl) ?_
  intro K C0
  refine y_eq rfl (show ([(0, .ref (adr j)), (1, .int f)] : List (Nat × Value)) = lv_args 0 [.ref (adr j), .int f] from rfl) rfl ?_
  refine y_iconst (v := 0) C0 dX5_rate_0 (by decide) ?_
  refine y_istore_n C0 [(2, _), (0, _), (1, _)] dX5_rate_1 rfl (by decide) rfl ?_
  refine y_iconst (v := 0) C0 dX5_rate_2 (by decide) ?_
  refine y_istore_n C0 [(3, _), (2, _), (0, _), (1, _)] dX5_rate_3 rfl (by decide) rfl ?_
  refine y_iconst (v := 0) C0 dX5_rate_4 (by decide) ?_
  refine y_istore C0 [(4, _), (3, _), (2, _), (0, _), (1, _)] dX5_rate_5 (by decide) rfl ?_
  have hl_7 : ∀ (n : Nat) (i : Nat), S - i = n → i ≤ S → Y K l rX5_rate D cy adr 5 0 0 (QT K D cy adr (some (.int (rRa R f S))) (va_up M j R) 0 0) (va_up M j R) [] [(4, .int (nI i)), (3, .int (rRS R f i)), (2, .int (rRN R f i)), (1, .int f), (0, .ref (adr j))] 7 [] := by
    intro n
    induction n using Nat.strongRecOn with
    | _ n ih_7 =>
      intro i hn_7 hi
      refine y_iload C0 0 dX5_rate_7 rfl ?_
      refine y_aload_n C0 4 dX5_rate_9 rfl rfl ?_
      refine y_sipush (v := 190) C0 dX5_rate_10 (by decide) ?_
      refine y_ialdU C0 (190) hj rfl (by omega) dX5_rate_13 ?_
      refine y_icmp_ge C0 58 dX5_rate_14 (by decide) (fun c_14 => ?_) (fun c_14 => ?_)
      · rw [eS] at c_14
        have he := ct_end (N := S) (by omega) hi c_14
        rw [he]
        refine y_iload_n C0 2 dX5_rate_58 rfl rfl ?_
        refine y_iconst (v := 2) C0 dX5_rate_59 (by decide) ?_
        refine y_icmp_ne C0 73 dX5_rate_60 (by decide) (fun c_60 => ?_) (fun c_60 => ?_)
        · refine y_iload_n C0 1 dX5_rate_73 rfl rfl ?_
          exact y_iret C0 dX5_rate_74 (by simp only [rRa, c_14, c_60, if_true, if_false]) rfl
        · refine y_iconst (v := 1) C0 dX5_rate_63 (by decide) ?_
          refine y_iload_n C0 1 dX5_rate_64 rfl rfl ?_
          refine y_iconst (v := 3) C0 dX5_rate_65 (by decide) ?_
          refine y_isub C0 dX5_rate_66 ?_
          refine y_mmax C0 (by decide +kernel) (by decide +kernel) (by decide +kernel) (by decide +kernel) (by decide) (Nat.le_of_ble_eq_true rfl) (by decide) (by decide) dX5_rate_67 ?_
          refine y_goto C0 74 dX5_rate_70 (by decide) ?_
          exact y_iret C0 dX5_rate_74 (by simp only [rRa, c_14, c_60, if_true, if_false]) rfl
      · rw [eS] at c_14
        have hlt := ct_lt (N := S) (by omega) hi c_14
        refine y_aload_n C0 4 dX5_rate_17 rfl rfl ?_
        refine y_sipush (v := 174) C0 dX5_rate_18 (by decide) ?_
        refine y_iconst (v := 2) C0 dX5_rate_21 (by decide) ?_
        refine y_iload C0 0 dX5_rate_22 rfl ?_
        refine y_imulN C0 (a := 2) (b := i) rfl rfl dX5_rate_24 ?_
        refine y_iaddN C0 (a := 174) (b := (2 * i)) rfl rfl dX5_rate_25 ?_
        refine y_iconst (v := 1) C0 dX5_rate_26 (by decide) ?_
        refine y_iaddN C0 (a := (174 + (2 * i))) (b := 1) rfl rfl dX5_rate_27 ?_
        refine y_ialdU C0 (((174 + (2 * i)) + 1)) hj rfl (by omega) dX5_rate_28 ?_
        refine y_iload_n C0 3 dX5_rate_29 rfl rfl ?_
        refine y_icmp_eq C0 36 dX5_rate_30 (by decide) (fun c_30 => ?_) (fun c_30 => ?_)
        · refine y_iinc C0 2 [(2, _), (4, _), (3, _), (1, _), (0, _)] dX5_rate_36 rfl rfl (by decide) rfl ?_
          refine y_iload_n C0 2 dX5_rate_39 rfl rfl ?_
          refine y_aload_n C0 4 dX5_rate_40 rfl rfl ?_
          refine y_sipush (v := 174) C0 dX5_rate_41 (by decide) ?_
          refine y_iconst (v := 2) C0 dX5_rate_44 (by decide) ?_
          refine y_iload C0 1 dX5_rate_45 rfl ?_
          refine y_imulN C0 (a := 2) (b := i) rfl rfl dX5_rate_47 ?_
          refine y_iaddN C0 (a := 174) (b := (2 * i)) rfl rfl dX5_rate_48 ?_
          refine y_ialdU C0 ((174 + (2 * i))) hj rfl (by omega) dX5_rate_49 ?_
          refine y_iadd C0 dX5_rate_50 ?_
          refine y_istore_n C0 [(3, _), (2, _), (4, _), (1, _), (0, _)] dX5_rate_51 rfl (by decide) rfl ?_
          refine y_iinc (v := nI (i + 1)) C0 2 [(4, _), (3, _), (2, _), (1, _), (0, _)] dX5_rate_52 rfl (yinc_ok rfl rfl) (by decide) rfl ?_
          refine y_goto C0 7 dX5_rate_55 (by decide) ?_
          refine y_sub [0, 1, 2, 3, 4] [(4, _), (3, _), (2, _), (1, _), (0, _)] rfl ?_
          exact y_eq rfl (by first | (simp only [rRN, rRS, c_14, c_30, if_true, if_false]; done) | (simp only [rRN, rRS, c_14, c_30, if_true, if_false]; rfl)) rfl (ih_7 _ (by omega) (i + 1) rfl hlt)
        · refine y_goto C0 52 dX5_rate_33 (by decide) ?_
          refine y_iinc (v := nI (i + 1)) C0 0 [(4, _), (3, _), (2, _), (1, _), (0, _)] dX5_rate_52 rfl (yinc_ok rfl rfl) (by decide) rfl ?_
          refine y_goto C0 7 dX5_rate_55 (by decide) ?_
          refine y_sub [0, 1, 2, 3, 4] [(4, _), (3, _), (2, _), (1, _), (0, _)] rfl ?_
          exact y_eq rfl (by first | (simp only [rRN, rRS, c_14, c_30, if_true, if_false]; done) | (simp only [rRN, rRS, c_14, c_30, if_true, if_false]; rfl)) rfl (ih_7 _ (by omega) (i + 1) rfl hlt)
  refine y_sub [0, 1, 2, 4, 3] [(4, _), (3, _), (2, _), (1, _), (0, _)] rfl ?_
  exact hl_7 _ 0 rfl (Nat.zero_le _)
abbrev rX5_left : Room := { frames := 3, cells := 0, slots := 0, locals := 67 }
set_option maxRecDepth 100000 in
set_option maxHeartbeats 4000000 in
theorem mX5_left (l : Launch) (D : va_G) (cy : Nat → ClassId) (adr : Nat → Nat) (M : yM) (R : Rw) (x : Int32) (hb : 0 ≤ x → cN x < 15 ∧ x = nI (cN x)) : Ct l yX5_left wsX5_left rX5_left D cy adr [.ref (adr 55), .int x] (va_up M 56 R) (some (.int (rLe R x))) (va_up M 56 R) 0 0 := by
  refine Ct.mk cX5_left 2 (some .int) RX5 (by decide) rfl rfl (Nat.le_of_ble_eq_true rfl) ?_
  intro K C0
  refine y_eq rfl (show ([(0, .ref (adr 55)), (1, .int x)] : List (Nat × Value)) = lv_args 0 [.ref (adr 55), .int x] from rfl) rfl ?_
  have hin5 : ∀ w ∈ u_ws RX5 TX5 3, w ∈ wsX5_left := by decide +kernel
  refine y_iload_n C0 1 dX5_left_0 rfl rfl ?_
  refine y_if_ge C0 8 dX5_left_1 (by decide) (fun c_1 => ?_) (fun c_1 => ?_)
  · obtain ⟨hx, ex⟩ := hb c_1
    refine y_aload_n C0 0 dX5_left_8 rfl rfl ?_
    refine y_get C0 5 rfl rfl (by decide) hin5 1 ykd_55 (by decide) (by decide +kernel) yv5_now dX5_left_9 ?_
    refine y_bipush (v := 11) C0 dX5_left_12 (by decide) ?_
    refine y_iload_n C0 1 dX5_left_14 rfl rfl ?_
    refine y_top ex ?_
    refine y_imulN C0 (a := 11) (b := cN x) rfl rfl dX5_left_15 ?_
    refine y_aload_n C0 0 dX5_left_16 rfl rfl ?_
    refine y_get C0 5 rfl rfl (by decide) hin5 1 ykd_55 (by decide) (by decide +kernel) yv5_now dX5_left_17 ?_
    refine y_bipush (v := 11) C0 dX5_left_20 (by decide) ?_
    refine y_iload_n C0 1 dX5_left_22 rfl rfl ?_
    refine y_top ex ?_
    refine y_imulN C0 (a := 11) (b := cN x) rfl rfl dX5_left_23 ?_
    refine y_ialdU C0 ((11 * cN x)) ykd_56 rfl (by omega) dX5_left_24 ?_
    refine y_callS (As := [_, _, _]) (rest := _) (n := 3) C0 (mX5_upTo l D cy adr _ _ ykd_56 _ ((11 * cN x)) _ (by omega)) gX5_left_X5_upTo rfl rfl rfl (by decide +kernel) ⟨by decide, by decide⟩ rfl rfl (Nat.le_of_ble_eq_true rfl) dX5_left_25 ⟨by decide, by decide⟩ ?_
    refine y_aload_n C0 0 dX5_left_28 rfl rfl ?_
    refine y_get C0 5 rfl rfl (by decide) hin5 1 ykd_55 (by decide) (by decide +kernel) yv5_now dX5_left_29 ?_
    refine y_bipush (v := 11) C0 dX5_left_32 (by decide) ?_
    refine y_iload_n C0 1 dX5_left_34 rfl rfl ?_
    refine y_top ex ?_
    refine y_imulN C0 (a := 11) (b := cN x) rfl rfl dX5_left_35 ?_
    refine y_callS (As := [_, _]) (rest := _) (n := 2) C0 (mX5_inBook l D cy adr _ _ ykd_56 _ ((11 * cN x)) (by omega)) gX5_left_X5_inBook rfl rfl rfl (by decide +kernel) ⟨by decide, by decide⟩ rfl rfl (Nat.le_of_ble_eq_true rfl) dX5_left_36 ⟨by decide, by decide⟩ ?_
    refine y_isub C0 dX5_left_39 ?_
    exact y_iret C0 dX5_left_40 (by simp only [rLe, c_1, if_true, if_false]) rfl
  · refine y_iconst (v := 0) C0 dX5_left_4 (by decide) ?_
    refine y_goto C0 40 dX5_left_5 (by decide) ?_
    exact y_iret C0 dX5_left_40 (by simp only [rLe, c_1, if_true, if_false]) rfl
abbrev rX5_bookTold : Room := { frames := 2, cells := 0, slots := 0, locals := 37 }
set_option maxRecDepth 100000 in
set_option maxHeartbeats 4000000 in
theorem mX5_bookTold (l : Launch) (D : va_G) (cy : Nat → ClassId) (adr : Nat → Nat) (M : yM) (R : Rw) (b : Nat) (w : Int32) (hb : b < 15) (hw : cN w < 11) (ew : w = nI (cN w)) : Ct l yX5_bookTold wsX5_bookTold rX5_bookTold D cy adr [.ref (adr 55), .int (nI b), .int w] (va_up M 56 R) (some (.int (rBT R b w))) (va_up M 56 R) 0 0 := by
  refine Ct.mk cX5_bookTold 3 (some .int) RX5 (by decide) rfl rfl (Nat.le_of_ble_eq_true rfl) ?_
  intro K C0
  refine y_eq rfl (show ([(0, .ref (adr 55)), (1, .int (nI b)), (2, .int w)] : List (Nat × Value)) = lv_args 0 [.ref (adr 55), .int (nI b), .int w] from rfl) rfl ?_
  have hin5 : ∀ w ∈ u_ws RX5 TX5 3, w ∈ wsX5_bookTold := by decide +kernel
  refine y_iload_n C0 2 dX5_bookTold_0 rfl rfl ?_
  refine y_bipush (v := 10) C0 dX5_bookTold_1 (by decide) ?_
  refine y_icmp_ne C0 20 dX5_bookTold_3 (by decide) (fun c_3 => ?_) (fun c_3 => ?_)
  · refine y_aload_n C0 0 dX5_bookTold_20 rfl rfl ?_
    refine y_get C0 5 rfl rfl (by decide) hin5 1 ykd_55 (by decide) (by decide +kernel) yv5_now dX5_bookTold_21 ?_
    refine y_bipush (v := 11) C0 dX5_bookTold_24 (by decide) ?_
    refine y_iload_n C0 1 dX5_bookTold_26 rfl rfl ?_
    refine y_imulN C0 (a := 11) (b := b) rfl rfl dX5_bookTold_27 ?_
    refine y_iload_n C0 2 dX5_bookTold_28 rfl rfl ?_
    refine y_top ew ?_
    refine y_iaddN C0 (a := (11 * b)) (b := cN w) rfl rfl dX5_bookTold_29 ?_
    refine y_ialdU C0 (((11 * b) + cN w)) ykd_56 rfl (by omega) dX5_bookTold_30 ?_
    exact y_iret C0 dX5_bookTold_31 (by unfold rBT; first | rw [if_neg c_3] | rw [if_pos c_3]) rfl
  · refine y_aload_n C0 0 dX5_bookTold_6 rfl rfl ?_
    refine y_get C0 5 rfl rfl (by decide) hin5 1 ykd_55 (by decide) (by decide +kernel) yv5_now dX5_bookTold_7 ?_
    refine y_bipush (v := 11) C0 dX5_bookTold_10 (by decide) ?_
    refine y_iload_n C0 1 dX5_bookTold_12 rfl rfl ?_
    refine y_imulN C0 (a := 11) (b := b) rfl rfl dX5_bookTold_13 ?_
    refine y_callS (As := [_, _]) (rest := _) (n := 2) C0 (mX5_worthOf l D cy adr _ _ ykd_56 _ ((11 * b)) (by omega)) gX5_bookTold_X5_worthOf rfl rfl rfl (by decide +kernel) ⟨by decide, by decide⟩ rfl rfl (Nat.le_of_ble_eq_true rfl) dX5_bookTold_14 ⟨by decide, by decide⟩ ?_
    refine y_goto C0 31 dX5_bookTold_17 (by decide) ?_
    exact y_iret C0 dX5_bookTold_31 (by unfold rBT; first | rw [if_neg c_3] | rw [if_pos c_3]) rfl
abbrev rX5_frameTold : Room := { frames := 4, cells := 0, slots := 0, locals := 88 }
set_option maxRecDepth 100000 in
set_option maxHeartbeats 4000000 in
theorem mX5_frameTold (l : Launch) (D : va_G) (cy : Nat → ClassId) (adr : Nat → Nat) (M : yM) (R : Rw) (f : Nat) (w : Int32) (hf : f < 3) (hw : cN w < 6) (ew : w = nI (cN w)) (hle : 0 ≤ R (165 + 3 * f + 1) → cN (R (165 + 3 * f + 1)) < 15 ∧ R (165 + 3 * f + 1) = nI (cN (R (165 + 3 * f + 1)))) (S : Nat) (hS : S ≤ 5) (eS : R 190 = nI S) : Ct l yX5_frameTold wsX5_frameTold rX5_frameTold D cy adr [.ref (adr 55), .int (nI f), .int w] (va_up M 56 R) (some (.int (rFT R f w S))) (va_up M 56 R) 0 0 := by
  refine Ct.mk cX5_frameTold 4 (some .int) RX5 (by decide) rfl rfl (Nat.le_of_ble_eq_true rfl) ?_
  intro K C0
  refine y_eq rfl (show ([(0, .ref (adr 55)), (1, .int (nI f)), (2, .int w)] : List (Nat × Value)) = lv_args 0 [.ref (adr 55), .int (nI f), .int w] from rfl) rfl ?_
  have hin5 : ∀ w ∈ u_ws RX5 TX5 3, w ∈ wsX5_frameTold := by decide +kernel
  refine y_sipush (v := 165) C0 dX5_frameTold_0 (by decide) ?_
  refine y_iconst (v := 3) C0 dX5_frameTold_3 (by decide) ?_
  refine y_iload_n C0 1 dX5_frameTold_4 rfl rfl ?_
  refine y_imulN C0 (a := 3) (b := f) rfl rfl dX5_frameTold_5 ?_
  refine y_iaddN C0 (a := 165) (b := (3 * f)) rfl rfl dX5_frameTold_6 ?_
  refine y_istore_n C0 [(3, _), (0, _), (1, _), (2, _)] dX5_frameTold_7 rfl (by decide) rfl ?_
  refine y_iload_n C0 3 dX5_frameTold_8 rfl rfl ?_
  by_cases s_9_2 : w = 2
  · refine y_tswI (v := 2) C0 dX5_frameTold_9 (by rw [s_9_2]; rfl) (by decide) (by decide) rfl (tgt := 40) (by decide) ?_
    refine y_aload_n C0 1 dX5_frameTold_40 rfl rfl ?_
    refine y_iconst (v := (-1)) C0 dX5_frameTold_41 (by decide) ?_
    refine y_iload_n C0 2 dX5_frameTold_42 rfl rfl ?_
    refine y_callV (As := [_, _]) (rest := _) (n := 2) C0 (mX5_others l D cy adr _ _ _ _ S hS eS) 5 rfl (by decide) ykd_55 gX5_frameTold_X5_others rfl rfl rfl (by decide +kernel) ⟨by decide, by decide⟩ rfl rfl (Nat.le_of_ble_eq_true rfl) dX5_frameTold_43 ⟨by decide, by decide⟩ ?_
    exact y_iret C0 dX5_frameTold_46 (by simp [rFT, s_9_2]) rfl
  by_cases s_9_3 : w = 3
  · refine y_tswI (v := 3) C0 dX5_frameTold_9 (by rw [s_9_3]; rfl) (by decide) (by decide) rfl (tgt := 47) (by decide) ?_
    refine y_aload_n C0 1 dX5_frameTold_47 rfl rfl ?_
    refine y_get C0 5 rfl rfl (by decide) hin5 1 ykd_55 (by decide) (by decide +kernel) yv5_now dX5_frameTold_48 ?_
    refine y_iload_n C0 2 dX5_frameTold_51 rfl rfl ?_
    refine y_callS (As := [_, _]) (rest := _) (n := 2) C0 (mX5_rate l D cy adr _ _ ykd_56 _ _ S hS eS) gX5_frameTold_X5_rate rfl rfl rfl (by decide +kernel) ⟨by decide, by decide⟩ rfl rfl (Nat.le_of_ble_eq_true rfl) dX5_frameTold_52 ⟨by decide, by decide⟩ ?_
    exact y_iret C0 dX5_frameTold_55 (by simp [rFT, s_9_3]) rfl
  by_cases s_9_4 : w = 4
  · refine y_tswI (v := 4) C0 dX5_frameTold_9 (by rw [s_9_4]; rfl) (by decide) (by decide) rfl (tgt := 56) (by decide) ?_
    refine y_aload_n C0 1 dX5_frameTold_56 rfl rfl ?_
    refine y_aload_n C0 1 dX5_frameTold_57 rfl rfl ?_
    refine y_get C0 5 rfl rfl (by decide) hin5 1 ykd_55 (by decide) (by decide +kernel) yv5_now dX5_frameTold_58 ?_
    refine y_iload_n C0 0 dX5_frameTold_61 rfl rfl ?_
    refine y_iconst (v := 1) C0 dX5_frameTold_62 (by decide) ?_
    refine y_iaddN C0 (a := (165 + (3 * f))) (b := 1) rfl rfl dX5_frameTold_63 ?_
    refine y_ialdU C0 (((165 + (3 * f)) + 1)) ykd_56 rfl (by omega) dX5_frameTold_64 ?_
    refine y_callV (As := [_]) (rest := _) (n := 1) C0 (mX5_left l D cy adr _ _ _ hle) 5 rfl (by decide) ykd_55 gX5_frameTold_X5_left rfl rfl rfl (by decide +kernel) ⟨by decide, by decide⟩ rfl rfl (Nat.le_of_ble_eq_true rfl) dX5_frameTold_65 ⟨by decide, by decide⟩ ?_
    exact y_iret C0 dX5_frameTold_68 (by simp [rFT, s_9_4]) rfl
  by_cases s_9_5 : w = 5
  · refine y_tswI (v := 5) C0 dX5_frameTold_9 (by rw [s_9_5]; rfl) (by decide) (by decide) rfl (tgt := 69) (by decide) ?_
    refine y_aload_n C0 1 dX5_frameTold_69 rfl rfl ?_
    refine y_get C0 5 rfl rfl (by decide) hin5 1 ykd_55 (by decide) (by decide +kernel) yv5_now dX5_frameTold_70 ?_
    refine y_iload_n C0 0 dX5_frameTold_73 rfl rfl ?_
    refine y_iconst (v := 2) C0 dX5_frameTold_74 (by decide) ?_
    refine y_iaddN C0 (a := (165 + (3 * f))) (b := 2) rfl rfl dX5_frameTold_75 ?_
    refine y_ialdU C0 (((165 + (3 * f)) + 2)) ykd_56 rfl (by omega) dX5_frameTold_76 ?_
    exact y_iret C0 dX5_frameTold_77 (by simp [rFT, s_9_5]) rfl
  refine y_tswO C0 dX5_frameTold_9 (by have z2 := lv_neT s_9_2 (a := 2) rfl; have z3 := lv_neT s_9_3 (a := 3) rfl; have z4 := lv_neT s_9_4 (a := 4) rfl; have z5 := lv_neT s_9_5 (a := 5) rfl; omega) (tgt := 78) (by decide) ?_
  refine y_aload_n C0 1 dX5_frameTold_78 rfl rfl ?_
  refine y_get C0 5 rfl rfl (by decide) hin5 1 ykd_55 (by decide) (by decide +kernel) yv5_now dX5_frameTold_79 ?_
  refine y_iload_n C0 0 dX5_frameTold_82 rfl rfl ?_
  refine y_iload_n C0 3 dX5_frameTold_83 rfl rfl ?_
  refine y_top ew ?_
  refine y_iaddN C0 (a := (165 + (3 * f))) (b := cN w) rfl rfl dX5_frameTold_84 ?_
  refine y_ialdU C0 (((165 + (3 * f)) + cN w)) ykd_56 rfl (by omega) dX5_frameTold_85 ?_
  exact y_iret C0 dX5_frameTold_86 (by simp [rFT, s_9_2, s_9_3, s_9_4, s_9_5]) rfl
abbrev rX5_like : Room := { frames := 0, cells := 0, slots := 0, locals := 0 }
set_option maxRecDepth 100000 in
set_option maxHeartbeats 4000000 in
theorem mX5_like (l : Launch) (D : va_G) (cy : Nat → ClassId) (adr : Nat → Nat) (M : yM) (j : Nat) (hj : ykd j = 6) (R : Rw) (s : Int32) (B : Nat) (hB : B ≤ 15) (eB : R 189 = nI B) : Ct l yX5_like wsX5_like rX5_like D cy adr [.ref (adr j), .int s] (va_up M j R) (some (.int (rLk R s B))) (va_up M j R) 0 0 := by
  refine Ct.mk cX5_like 4 (some .int) RX5 (by decide) rfl rfl (Nat.le_of_ble_eq_true rfl) ?_
  intro K C0
  refine y_eq rfl (show ([(0, .ref (adr j)), (1, .int s)] : List (Nat × Value)) = lv_args 0 [.ref (adr j), .int s] from rfl) rfl ?_
  refine y_iconst (v := 0) C0 dX5_like_0 (by decide) ?_
  refine y_istore_n C0 [(2, _), (0, _), (1, _)] dX5_like_1 rfl (by decide) rfl ?_
  refine y_iconst (v := 0) C0 dX5_like_2 (by decide) ?_
  refine y_istore_n C0 [(3, _), (2, _), (0, _), (1, _)] dX5_like_3 rfl (by decide) rfl ?_
  have hl_4 : ∀ (n : Nat) (i : Nat), B - i = n → i ≤ B → Y K l rX5_like D cy adr 4 0 0 (QT K D cy adr (some (.int (rLk R s B))) (va_up M j R) 0 0) (va_up M j R) [] [(3, .int (nI i)), (2, .int (rLk R s i)), (1, .int s), (0, .ref (adr j))] 4 [] := by
    intro n
    induction n using Nat.strongRecOn with
    | _ n ih_4 =>
      intro i hn_4 hi
      refine y_iload_n C0 0 dX5_like_4 rfl rfl ?_
      refine y_aload_n C0 3 dX5_like_5 rfl rfl ?_
      refine y_sipush (v := 189) C0 dX5_like_6 (by decide) ?_
      refine y_ialdU C0 (189) hj rfl (by omega) dX5_like_9 ?_
      refine y_icmp_ge C0 39 dX5_like_10 (by decide) (fun c_10 => ?_) (fun c_10 => ?_)
      · rw [eB] at c_10
        have he := ct_end (N := B) (by omega) hi c_10
        rw [he]
        refine y_iload_n C0 1 dX5_like_39 rfl rfl ?_
        exact y_iret C0 dX5_like_40 rfl rfl
      · rw [eB] at c_10
        have hlt := ct_lt (N := B) (by omega) hi c_10
        refine y_iload_n C0 1 dX5_like_13 rfl rfl ?_
        refine y_aload_n C0 3 dX5_like_14 rfl rfl ?_
        refine y_bipush (v := 11) C0 dX5_like_15 (by decide) ?_
        refine y_iload_n C0 0 dX5_like_17 rfl rfl ?_
        refine y_imulN C0 (a := 11) (b := i) rfl rfl dX5_like_18 ?_
        refine y_iconst (v := 3) C0 dX5_like_19 (by decide) ?_
        refine y_iaddN C0 (a := (11 * i)) (b := 3) rfl rfl dX5_like_20 ?_
        refine y_ialdU C0 (((11 * i) + 3)) hj rfl (by omega) dX5_like_21 ?_
        refine y_iload_n C0 2 dX5_like_22 rfl rfl ?_
        refine y_icmp_ne C0 30 dX5_like_23 (by decide) (fun c_23 => ?_) (fun c_23 => ?_)
        · refine y_iconst (v := 0) C0 dX5_like_30 (by decide) ?_
          refine y_iadd C0 dX5_like_31 ?_
          refine y_istore_n C0 [(2, _), (3, _), (1, _), (0, _)] dX5_like_32 rfl (by decide) rfl ?_
          refine y_iinc (v := nI (i + 1)) C0 1 [(3, _), (2, _), (1, _), (0, _)] dX5_like_33 rfl (yinc_ok rfl rfl) (by decide) rfl ?_
          refine y_goto C0 4 dX5_like_36 (by decide) ?_
          refine y_sub [0, 1, 2, 3] [(3, _), (2, _), (1, _), (0, _)] rfl ?_
          exact y_eq rfl (by simp [rLk, c_10, c_23]) rfl (ih_4 _ (by omega) (i + 1) rfl hlt)
        · refine y_iconst (v := 1) C0 dX5_like_26 (by decide) ?_
          refine y_goto C0 31 dX5_like_27 (by decide) ?_
          refine y_iadd C0 dX5_like_31 ?_
          refine y_istore_n C0 [(2, _), (3, _), (1, _), (0, _)] dX5_like_32 rfl (by decide) rfl ?_
          refine y_iinc (v := nI (i + 1)) C0 1 [(3, _), (2, _), (1, _), (0, _)] dX5_like_33 rfl (yinc_ok rfl rfl) (by decide) rfl ?_
          refine y_goto C0 4 dX5_like_36 (by decide) ?_
          refine y_sub [0, 1, 2, 3] [(3, _), (2, _), (1, _), (0, _)] rfl ?_
          exact y_eq rfl (by simp [rLk, c_10, c_23]) rfl (ih_4 _ (by omega) (i + 1) rfl hlt)
  refine y_sub [0, 1, 3, 2] [(3, _), (2, _), (1, _), (0, _)] rfl ?_
  exact hl_4 _ 0 rfl (Nat.zero_le _)
abbrev rX5_counted : Room := { frames := 1, cells := 0, slots := 0, locals := 23 }
set_option maxRecDepth 100000 in
set_option maxHeartbeats 4000000 in
theorem mX5_counted (l : Launch) (D : va_G) (cy : Nat → ClassId) (adr : Nat → Nat) (M : yM) (j : Nat) (hj : ykd j = 6) (R : Rw) (w : Int32) (B : Nat) (hB : B ≤ 15) (eB : R 189 = nI B) : Ct l yX5_counted wsX5_counted rX5_counted D cy adr [.ref (adr j), .int w] (va_up M j R) (some (.int (rCo R w B))) (va_up M j R) 0 0 := by
  refine Ct.mk cX5_counted 2 (some .int) RX5 (by decide) rfl rfl (Nat.le_of_ble_eq_true rfl) ?_
  intro K C0
  refine y_eq rfl (show ([(0, .ref (adr j)), (1, .int w)] : List (Nat × Value)) = lv_args 0 [.ref (adr j), .int w] from rfl) rfl ?_
  refine y_iload_n C0 1 dX5_counted_0 rfl rfl ?_
  by_cases s_1_0 : w = 0
  · refine y_tswI (v := 0) C0 dX5_counted_1 (by rw [s_1_0]; rfl) (by decide) (by decide) rfl (tgt := 76) (by decide) ?_
    refine y_aload_n C0 0 dX5_counted_76 rfl rfl ?_
    refine y_sipush (v := 188) C0 dX5_counted_77 (by decide) ?_
    refine y_ialdU C0 (188) hj rfl (by omega) dX5_counted_80 ?_
    exact y_iret C0 dX5_counted_81 (by simp [rCo, s_1_0]) rfl
  by_cases s_1_1 : w = 1
  · refine y_tswI (v := 1) C0 dX5_counted_1 (by rw [s_1_1]; rfl) (by decide) (by decide) rfl (tgt := 82) (by decide) ?_
    refine y_aload_n C0 0 dX5_counted_82 rfl rfl ?_
    refine y_sipush (v := 189) C0 dX5_counted_83 (by decide) ?_
    refine y_ialdU C0 (189) hj rfl (by omega) dX5_counted_86 ?_
    exact y_iret C0 dX5_counted_87 (by simp [rCo, s_1_1]) rfl
  by_cases s_1_2 : w = 2
  · refine y_tswI (v := 2) C0 dX5_counted_1 (by rw [s_1_2]; rfl) (by decide) (by decide) rfl (tgt := 117) (by decide) ?_
    refine y_aload_n C0 0 dX5_counted_117 rfl rfl ?_
    refine y_iload_n C0 1 dX5_counted_118 rfl rfl ?_
    refine y_iconst (v := 2) C0 dX5_counted_119 (by decide) ?_
    refine y_isub C0 dX5_counted_120 ?_
    refine y_callS (As := [_, _]) (rest := _) (n := 2) C0 (mX5_like l D cy adr _ _ hj _ _ B hB eB) gX5_counted_X5_like rfl rfl rfl (by decide +kernel) ⟨by decide, by decide⟩ rfl rfl (Nat.le_of_ble_eq_true rfl) dX5_counted_121 ⟨by decide, by decide⟩ ?_
    exact y_iret C0 dX5_counted_124 (by simp [rCo, s_1_2]) rfl
  by_cases s_1_3 : w = 3
  · refine y_tswI (v := 3) C0 dX5_counted_1 (by rw [s_1_3]; rfl) (by decide) (by decide) rfl (tgt := 117) (by decide) ?_
    refine y_aload_n C0 0 dX5_counted_117 rfl rfl ?_
    refine y_iload_n C0 1 dX5_counted_118 rfl rfl ?_
    refine y_iconst (v := 2) C0 dX5_counted_119 (by decide) ?_
    refine y_isub C0 dX5_counted_120 ?_
    refine y_callS (As := [_, _]) (rest := _) (n := 2) C0 (mX5_like l D cy adr _ _ hj _ _ B hB eB) gX5_counted_X5_like rfl rfl rfl (by decide +kernel) ⟨by decide, by decide⟩ rfl rfl (Nat.le_of_ble_eq_true rfl) dX5_counted_121 ⟨by decide, by decide⟩ ?_
    exact y_iret C0 dX5_counted_124 (by simp [rCo, s_1_3]) rfl
  by_cases s_1_4 : w = 4
  · refine y_tswI (v := 4) C0 dX5_counted_1 (by rw [s_1_4]; rfl) (by decide) (by decide) rfl (tgt := 117) (by decide) ?_
    refine y_aload_n C0 0 dX5_counted_117 rfl rfl ?_
    refine y_iload_n C0 1 dX5_counted_118 rfl rfl ?_
    refine y_iconst (v := 2) C0 dX5_counted_119 (by decide) ?_
    refine y_isub C0 dX5_counted_120 ?_
    refine y_callS (As := [_, _]) (rest := _) (n := 2) C0 (mX5_like l D cy adr _ _ hj _ _ B hB eB) gX5_counted_X5_like rfl rfl rfl (by decide +kernel) ⟨by decide, by decide⟩ rfl rfl (Nat.le_of_ble_eq_true rfl) dX5_counted_121 ⟨by decide, by decide⟩ ?_
    exact y_iret C0 dX5_counted_124 (by simp [rCo, s_1_4]) rfl
  by_cases s_1_5 : w = 5
  · refine y_tswI (v := 5) C0 dX5_counted_1 (by rw [s_1_5]; rfl) (by decide) (by decide) rfl (tgt := 117) (by decide) ?_
    refine y_aload_n C0 0 dX5_counted_117 rfl rfl ?_
    refine y_iload_n C0 1 dX5_counted_118 rfl rfl ?_
    refine y_iconst (v := 2) C0 dX5_counted_119 (by decide) ?_
    refine y_isub C0 dX5_counted_120 ?_
    refine y_callS (As := [_, _]) (rest := _) (n := 2) C0 (mX5_like l D cy adr _ _ hj _ _ B hB eB) gX5_counted_X5_like rfl rfl rfl (by decide +kernel) ⟨by decide, by decide⟩ rfl rfl (Nat.le_of_ble_eq_true rfl) dX5_counted_121 ⟨by decide, by decide⟩ ?_
    exact y_iret C0 dX5_counted_124 (by simp [rCo, s_1_5]) rfl
  by_cases s_1_6 : w = 6
  · refine y_tswI (v := 6) C0 dX5_counted_1 (by rw [s_1_6]; rfl) (by decide) (by decide) rfl (tgt := 117) (by decide) ?_
    refine y_aload_n C0 0 dX5_counted_117 rfl rfl ?_
    refine y_iload_n C0 1 dX5_counted_118 rfl rfl ?_
    refine y_iconst (v := 2) C0 dX5_counted_119 (by decide) ?_
    refine y_isub C0 dX5_counted_120 ?_
    refine y_callS (As := [_, _]) (rest := _) (n := 2) C0 (mX5_like l D cy adr _ _ hj _ _ B hB eB) gX5_counted_X5_like rfl rfl rfl (by decide +kernel) ⟨by decide, by decide⟩ rfl rfl (Nat.le_of_ble_eq_true rfl) dX5_counted_121 ⟨by decide, by decide⟩ ?_
    exact y_iret C0 dX5_counted_124 (by simp [rCo, s_1_6]) rfl
  by_cases s_1_7 : w = 7
  · refine y_tswI (v := 7) C0 dX5_counted_1 (by rw [s_1_7]; rfl) (by decide) (by decide) rfl (tgt := 117) (by decide) ?_
    refine y_aload_n C0 0 dX5_counted_117 rfl rfl ?_
    refine y_iload_n C0 1 dX5_counted_118 rfl rfl ?_
    refine y_iconst (v := 2) C0 dX5_counted_119 (by decide) ?_
    refine y_isub C0 dX5_counted_120 ?_
    refine y_callS (As := [_, _]) (rest := _) (n := 2) C0 (mX5_like l D cy adr _ _ hj _ _ B hB eB) gX5_counted_X5_like rfl rfl rfl (by decide +kernel) ⟨by decide, by decide⟩ rfl rfl (Nat.le_of_ble_eq_true rfl) dX5_counted_121 ⟨by decide, by decide⟩ ?_
    exact y_iret C0 dX5_counted_124 (by simp [rCo, s_1_7]) rfl
  by_cases s_1_8 : w = 8
  · refine y_tswI (v := 8) C0 dX5_counted_1 (by rw [s_1_8]; rfl) (by decide) (by decide) rfl (tgt := 117) (by decide) ?_
    refine y_aload_n C0 0 dX5_counted_117 rfl rfl ?_
    refine y_iload_n C0 1 dX5_counted_118 rfl rfl ?_
    refine y_iconst (v := 2) C0 dX5_counted_119 (by decide) ?_
    refine y_isub C0 dX5_counted_120 ?_
    refine y_callS (As := [_, _]) (rest := _) (n := 2) C0 (mX5_like l D cy adr _ _ hj _ _ B hB eB) gX5_counted_X5_like rfl rfl rfl (by decide +kernel) ⟨by decide, by decide⟩ rfl rfl (Nat.le_of_ble_eq_true rfl) dX5_counted_121 ⟨by decide, by decide⟩ ?_
    exact y_iret C0 dX5_counted_124 (by simp [rCo, s_1_8]) rfl
  by_cases s_1_9 : w = 9
  · refine y_tswI (v := 9) C0 dX5_counted_1 (by rw [s_1_9]; rfl) (by decide) (by decide) rfl (tgt := 88) (by decide) ?_
    refine y_aload_n C0 0 dX5_counted_88 rfl rfl ?_
    refine y_sipush (v := 187) C0 dX5_counted_89 (by decide) ?_
    refine y_ialdU C0 (187) hj rfl (by omega) dX5_counted_92 ?_
    exact y_iret C0 dX5_counted_93 (by simp [rCo, s_1_9]) rfl
  by_cases s_1_10 : w = 10
  · refine y_tswI (v := 10) C0 dX5_counted_1 (by rw [s_1_10]; rfl) (by decide) (by decide) rfl (tgt := 94) (by decide) ?_
    refine y_aload_n C0 0 dX5_counted_94 rfl rfl ?_
    refine y_sipush (v := 184) C0 dX5_counted_95 (by decide) ?_
    refine y_iload_n C0 1 dX5_counted_98 rfl rfl ?_
    refine y_iadd C0 dX5_counted_99 ?_
    refine y_bipush (v := 10) C0 dX5_counted_100 (by decide) ?_
    refine y_isub C0 dX5_counted_102 ?_
    refine y_top (show 184 + w - 10 = nI 184 from by rw [s_1_10]; decide) ?_
    refine y_ialdU C0 (184) hj rfl (by omega) dX5_counted_103 ?_
    exact y_iret C0 dX5_counted_104 (by simp [rCo, s_1_10]) rfl
  by_cases s_1_11 : w = 11
  · refine y_tswI (v := 11) C0 dX5_counted_1 (by rw [s_1_11]; rfl) (by decide) (by decide) rfl (tgt := 94) (by decide) ?_
    refine y_aload_n C0 0 dX5_counted_94 rfl rfl ?_
    refine y_sipush (v := 184) C0 dX5_counted_95 (by decide) ?_
    refine y_iload_n C0 1 dX5_counted_98 rfl rfl ?_
    refine y_iadd C0 dX5_counted_99 ?_
    refine y_bipush (v := 10) C0 dX5_counted_100 (by decide) ?_
    refine y_isub C0 dX5_counted_102 ?_
    refine y_top (show 184 + w - 10 = nI 185 from by rw [s_1_11]; decide) ?_
    refine y_ialdU C0 (185) hj rfl (by omega) dX5_counted_103 ?_
    exact y_iret C0 dX5_counted_104 (by simp [rCo, s_1_11]) rfl
  by_cases s_1_12 : w = 12
  · refine y_tswI (v := 12) C0 dX5_counted_1 (by rw [s_1_12]; rfl) (by decide) (by decide) rfl (tgt := 94) (by decide) ?_
    refine y_aload_n C0 0 dX5_counted_94 rfl rfl ?_
    refine y_sipush (v := 184) C0 dX5_counted_95 (by decide) ?_
    refine y_iload_n C0 1 dX5_counted_98 rfl rfl ?_
    refine y_iadd C0 dX5_counted_99 ?_
    refine y_bipush (v := 10) C0 dX5_counted_100 (by decide) ?_
    refine y_isub C0 dX5_counted_102 ?_
    refine y_top (show 184 + w - 10 = nI 186 from by rw [s_1_12]; decide) ?_
    refine y_ialdU C0 (186) hj rfl (by omega) dX5_counted_103 ?_
    exact y_iret C0 dX5_counted_104 (by simp [rCo, s_1_12]) rfl
  by_cases s_1_13 : w = 13
  · refine y_tswI (v := 13) C0 dX5_counted_1 (by rw [s_1_13]; rfl) (by decide) (by decide) rfl (tgt := 105) (by decide) ?_
    refine y_aload_n C0 0 dX5_counted_105 rfl rfl ?_
    refine y_sipush (v := 191) C0 dX5_counted_106 (by decide) ?_
    refine y_ialdU C0 (191) hj rfl (by omega) dX5_counted_109 ?_
    exact y_iret C0 dX5_counted_110 (by simp [rCo, s_1_13]) rfl
  by_cases s_1_14 : w = 14
  · refine y_tswI (v := 14) C0 dX5_counted_1 (by rw [s_1_14]; rfl) (by decide) (by decide) rfl (tgt := 111) (by decide) ?_
    refine y_aload_n C0 0 dX5_counted_111 rfl rfl ?_
    refine y_sipush (v := 192) C0 dX5_counted_112 (by decide) ?_
    refine y_ialdU C0 (192) hj rfl (by omega) dX5_counted_115 ?_
    exact y_iret C0 dX5_counted_116 (by simp [rCo, s_1_14]) rfl
  refine y_tswO C0 dX5_counted_1 (by have z0 := lv_neT s_1_0 (a := 0) rfl; have z1 := lv_neT s_1_1 (a := 1) rfl; have z2 := lv_neT s_1_2 (a := 2) rfl; have z3 := lv_neT s_1_3 (a := 3) rfl; have z4 := lv_neT s_1_4 (a := 4) rfl; have z5 := lv_neT s_1_5 (a := 5) rfl; have z6 := lv_neT s_1_6 (a := 6) rfl; have z7 := lv_neT s_1_7 (a := 7) rfl; have z8 := lv_neT s_1_8 (a := 8) rfl; have z9 := lv_neT s_1_9 (a := 9) rfl; have z10 := lv_neT s_1_10 (a := 10) rfl; have z11 := lv_neT s_1_11 (a := 11) rfl; have z12 := lv_neT s_1_12 (a := 12) rfl; have z13 := lv_neT s_1_13 (a := 13) rfl; have z14 := lv_neT s_1_14 (a := 14) rfl; omega) (tgt := 117) (by decide) ?_
  refine y_aload_n C0 0 dX5_counted_117 rfl rfl ?_
  refine y_iload_n C0 1 dX5_counted_118 rfl rfl ?_
  refine y_iconst (v := 2) C0 dX5_counted_119 (by decide) ?_
  refine y_isub C0 dX5_counted_120 ?_
  refine y_callS (As := [_, _]) (rest := _) (n := 2) C0 (mX5_like l D cy adr _ _ hj _ _ B hB eB) gX5_counted_X5_like rfl rfl rfl (by decide +kernel) ⟨by decide, by decide⟩ rfl rfl (Nat.le_of_ble_eq_true rfl) dX5_counted_121 ⟨by decide, by decide⟩ ?_
  exact y_iret C0 dX5_counted_124 (by simp [rCo, s_1_0, s_1_1, s_1_2, s_1_3, s_1_4, s_1_5, s_1_6, s_1_7, s_1_8, s_1_9, s_1_10, s_1_11, s_1_12, s_1_13, s_1_14]) rfl
abbrev rX5_first : Room := { frames := 0, cells := 0, slots := 0, locals := 0 }
set_option maxRecDepth 100000 in
set_option maxHeartbeats 4000000 in
theorem mX5_first (l : Launch) (D : va_G) (cy : Nat → ClassId) (adr : Nat → Nat) (M : yM) (j : Nat) (hj : ykd j = 6) (R : Rw) (s : Int32) (B : Nat) (hB : B ≤ 15) (eB : R 189 = nI B) : Ct l yX5_first wsX5_first rX5_first D cy adr [.ref (adr j), .int s] (va_up M j R) (some (.int (rFr R s B))) (va_up M j R) 0 0 := by
  refine Ct.mk cX5_first 3 (some .int) RX5 (by decide) rfl rfl (Nat.le_of_ble_eq_true rfl) ?_
  intro K C0
  refine y_eq rfl (show ([(0, .ref (adr j)), (1, .int s)] : List (Nat × Value)) = lv_args 0 [.ref (adr j), .int s] from rfl) rfl ?_
  refine y_iconst (v := 0) C0 dX5_first_0 (by decide) ?_
  refine y_istore_n C0 [(2, _), (0, _), (1, _)] dX5_first_1 rfl (by decide) rfl ?_
  have hl_2 : ∀ (n : Nat) (i : Nat), B - i = n → i ≤ B → rFs R s i = none → Y K l rX5_first D cy adr 3 0 0 (QT K D cy adr (some (.int (rFr R s B))) (va_up M j R) 0 0) (va_up M j R) [] [(2, .int (nI i)), (1, .int s), (0, .ref (adr j))] 2 [] := by
    intro n
    induction n using Nat.strongRecOn with
    | _ n ih_2 =>
      intro i hn_2 hi hfi
      refine y_iload_n C0 0 dX5_first_2 rfl rfl ?_
      refine y_aload_n C0 2 dX5_first_3 rfl rfl ?_
      refine y_sipush (v := 189) C0 dX5_first_4 (by decide) ?_
      refine y_ialdU C0 (189) hj rfl (by omega) dX5_first_7 ?_
      refine y_icmp_ge C0 31 dX5_first_8 (by decide) (fun c_8 => ?_) (fun c_8 => ?_)
      · rw [eB] at c_8
        have he := ct_end (N := B) (by omega) hi c_8
        refine y_iconst (v := (-1)) C0 dX5_first_31 (by decide) ?_
        exact y_iret C0 dX5_first_32 (by rw [rFr_n (he ▸ hfi)]) rfl
      · rw [eB] at c_8
        have hlt := ct_lt (N := B) (by omega) hi c_8
        refine y_aload_n C0 2 dX5_first_11 rfl rfl ?_
        refine y_bipush (v := 11) C0 dX5_first_12 (by decide) ?_
        refine y_iload_n C0 0 dX5_first_14 rfl rfl ?_
        refine y_imulN C0 (a := 11) (b := i) rfl rfl dX5_first_15 ?_
        refine y_iconst (v := 3) C0 dX5_first_16 (by decide) ?_
        refine y_iaddN C0 (a := (11 * i)) (b := 3) rfl rfl dX5_first_17 ?_
        refine y_ialdU C0 (((11 * i) + 3)) hj rfl (by omega) dX5_first_18 ?_
        refine y_iload_n C0 1 dX5_first_19 rfl rfl ?_
        refine y_icmp_ne C0 25 dX5_first_20 (by decide) (fun c_20 => ?_) (fun c_20 => ?_)
        · refine y_iinc (v := nI (i + 1)) C0 0 [(2, _), (1, _), (0, _)] dX5_first_25 rfl (yinc_ok rfl rfl) (by decide) rfl ?_
          refine y_goto C0 2 dX5_first_28 (by decide) ?_
          refine y_sub [0, 1, 2] [(2, _), (1, _), (0, _)] rfl ?_
          exact y_eq rfl rfl rfl (ih_2 _ (by omega) (i + 1) rfl hlt (rFs_n hfi c_20))
        · refine y_iload_n C0 0 dX5_first_23 rfl rfl ?_
          exact y_iret C0 dX5_first_24 (by rw [rFr_s (rFs_s hfi c_20 hlt)]) rfl
  refine y_sub [0, 2, 1] [(2, _), (1, _), (0, _)] rfl ?_
  exact hl_2 _ 0 rfl (Nat.zero_le _) rfl
end YMG
