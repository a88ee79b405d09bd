section YBK
abbrev rX0_begin : Room := { frames := 0, cells := 0, slots := 0, locals := 0 }
set_option maxRecDepth 100000 in
set_option maxHeartbeats 4000000 in
theorem mX0_begin (l : Launch) (D : va_G) (cy : Nat → ClassId) (adr : Nat → Nat) (M : yM) (b : Nat) (hk : ykd b = 0) (x y z : Int32) : Ct l yX0_begin wsX0_begin rX0_begin D cy adr [.ref (adr b), .int x, .int y, .int z] M (none) (va_up M b (bBegin (M b) x y z)) 0 0 := by
  refine Ct.mk cX0_begin 4 none RX0 (by decide) rfl rfl (Nat.le_of_ble_eq_true rfl) ?_
  intro K C0
  refine y_eq rfl (show ([(0, .ref (adr b)), (1, .int x), (2, .int y), (3, .int z)] : List (Nat × Value)) = lv_args 0 [.ref (adr b), .int x, .int y, .int z] from rfl) rfl ?_
  have hin0 : ∀ w ∈ u_ws RX0 TX0 13, w ∈ wsX0_begin := by decide +kernel
  refine y_aload_n C0 0 dX0_begin_0 rfl rfl ?_
  refine y_iload_n C0 1 dX0_begin_1 rfl rfl ?_
  refine y_put C0 0 rfl rfl (by decide) hin0 tyX0 tyX0_ok nmX0 1 hk (by decide) (by decide +kernel) (yrn0 hk) rfl (by decide +kernel) dX0_begin_2 ?_
  refine y_aload_n C0 0 dX0_begin_5 rfl rfl ?_
  refine y_iload_n C0 2 dX0_begin_6 rfl rfl ?_
  refine y_put C0 0 rfl rfl (by decide) hin0 tyX0 tyX0_ok nmX0 2 hk (by decide) (by decide +kernel) (yrn0 hk) rfl (by decide +kernel) dX0_begin_7 ?_
  refine y_aload_n C0 0 dX0_begin_10 rfl rfl ?_
  refine y_iload_n C0 3 dX0_begin_11 rfl rfl ?_
  refine y_put C0 0 rfl rfl (by decide) hin0 tyX0 tyX0_ok nmX0 3 hk (by decide) (by decide +kernel) (yrn0 hk) rfl (by decide +kernel) dX0_begin_12 ?_
  refine y_aload_n C0 0 dX0_begin_15 rfl rfl ?_
  refine y_iconst (v := 0) C0 dX0_begin_16 (by decide) ?_
  refine y_put C0 0 rfl rfl (by decide) hin0 tyX0 tyX0_ok nmX0 4 hk (by decide) (by decide +kernel) (yrn0 hk) rfl (by decide +kernel) dX0_begin_17 ?_
  exact y_vret C0 dX0_begin_20 rfl (by simp_all [yst_ru, up_up, up_s, ru_i, up_id, -Int32.not_le, -Int32.not_lt, bBegin])
abbrev rX0_mount : Room := { frames := 0, cells := 0, slots := 0, locals := 0 }
set_option maxRecDepth 100000 in
set_option maxHeartbeats 4000000 in
theorem mX0_mount (l : Launch) (D : va_G) (cy : Nat → ClassId) (adr : Nat → Nat) (M : yM) (b : Nat) (hk : ykd b = 0) (x y : Int32) : Ct l yX0_mount wsX0_mount rX0_mount D cy adr [.ref (adr b), .int x, .int y] M (none) (va_up M b (bMount (M b) x y)) 0 0 := by
  refine Ct.mk cX0_mount 3 none RX0 (by decide) rfl rfl (Nat.le_of_ble_eq_true rfl) ?_
  intro K C0
  refine y_eq rfl (show ([(0, .ref (adr b)), (1, .int x), (2, .int y)] : List (Nat × Value)) = lv_args 0 [.ref (adr b), .int x, .int y] from rfl) rfl ?_
  have hin0 : ∀ w ∈ u_ws RX0 TX0 13, w ∈ wsX0_mount := by decide +kernel
  refine y_aload_n C0 0 dX0_mount_0 rfl rfl ?_
  refine y_iconst (v := 1) C0 dX0_mount_1 (by decide) ?_
  refine y_put C0 0 rfl rfl (by decide) hin0 tyX0 tyX0_ok nmX0 4 hk (by decide) (by decide +kernel) (yrn0 hk) rfl (by decide +kernel) dX0_mount_2 ?_
  refine y_aload_n C0 0 dX0_mount_5 rfl rfl ?_
  refine y_iload_n C0 1 dX0_mount_6 rfl rfl ?_
  refine y_put C0 0 rfl rfl (by decide) hin0 tyX0 tyX0_ok nmX0 5 hk (by decide) (by decide +kernel) (yrn0 hk) rfl (by decide +kernel) dX0_mount_7 ?_
  refine y_aload_n C0 0 dX0_mount_10 rfl rfl ?_
  refine y_iload_n C0 2 dX0_mount_11 rfl rfl ?_
  refine y_put C0 0 rfl rfl (by decide) hin0 tyX0 tyX0_ok nmX0 6 hk (by decide) (by decide +kernel) (yrn0 hk) rfl (by decide +kernel) dX0_mount_12 ?_
  exact y_vret C0 dX0_mount_15 rfl (by simp_all [yst_ru, up_up, up_s, ru_i, up_id, -Int32.not_le, -Int32.not_lt, bMount])
abbrev rX0_undo : Room := { frames := 0, cells := 0, slots := 0, locals := 0 }
set_option maxRecDepth 100000 in
set_option maxHeartbeats 4000000 in
theorem mX0_undo (l : Launch) (D : va_G) (cy : Nat → ClassId) (adr : Nat → Nat) (M : yM) (b : Nat) (hk : ykd b = 0) : Ct l yX0_undo wsX0_undo rX0_undo D cy adr [.ref (adr b)] M (none) (va_up M b (bUndo (M b))) 0 0 := by
  refine Ct.mk cX0_undo 1 none RX0 (by decide) rfl rfl (Nat.le_of_ble_eq_true rfl) ?_
  intro K C0
  refine y_eq rfl (show ([(0, .ref (adr b))] : List (Nat × Value)) = lv_args 0 [.ref (adr b)] from rfl) rfl ?_
  have hin0 : ∀ w ∈ u_ws RX0 TX0 13, w ∈ wsX0_undo := by decide +kernel
  refine y_aload_n C0 0 dX0_undo_0 rfl rfl ?_
  refine y_iconst (v := 0) C0 dX0_undo_1 (by decide) ?_
  refine y_put C0 0 rfl rfl (by decide) hin0 tyX0 tyX0_ok nmX0 4 hk (by decide) (by decide +kernel) (yrn0 hk) rfl (by decide +kernel) dX0_undo_2 ?_
  refine y_aload_n C0 0 dX0_undo_5 rfl rfl ?_
  refine y_iconst (v := (-1)) C0 dX0_undo_6 (by decide) ?_
  refine y_put C0 0 rfl rfl (by decide) hin0 tyX0 tyX0_ok nmX0 5 hk (by decide) (by decide +kernel) (yrn0 hk) rfl (by decide +kernel) dX0_undo_7 ?_
  refine y_aload_n C0 0 dX0_undo_10 rfl rfl ?_
  refine y_iconst (v := 0) C0 dX0_undo_11 (by decide) ?_
  refine y_put C0 0 rfl rfl (by decide) hin0 tyX0 tyX0_ok nmX0 6 hk (by decide) (by decide +kernel) (yrn0 hk) rfl (by decide +kernel) dX0_undo_12 ?_
  refine y_aload_n C0 0 dX0_undo_15 rfl rfl ?_
  refine y_iconst (v := 0) C0 dX0_undo_16 (by decide) ?_
  refine y_put C0 0 rfl rfl (by decide) hin0 tyX0 tyX0_ok nmX0 7 hk (by decide) (by decide +kernel) (yrn0 hk) rfl (by decide +kernel) dX0_undo_17 ?_
  refine y_aload_n C0 0 dX0_undo_20 rfl rfl ?_
  refine y_iconst (v := 0) C0 dX0_undo_21 (by decide) ?_
  refine y_put C0 0 rfl rfl (by decide) hin0 tyX0 tyX0_ok nmX0 8 hk (by decide) (by decide +kernel) (yrn0 hk) rfl (by decide +kernel) dX0_undo_22 ?_
  refine y_aload_n C0 0 dX0_undo_25 rfl rfl ?_
  refine y_iconst (v := 0) C0 dX0_undo_26 (by decide) ?_
  refine y_put C0 0 rfl rfl (by decide) hin0 tyX0 tyX0_ok nmX0 9 hk (by decide) (by decide +kernel) (yrn0 hk) rfl (by decide +kernel) dX0_undo_27 ?_
  refine y_aload_n C0 0 dX0_undo_30 rfl rfl ?_
  refine y_iconst (v := 0) C0 dX0_undo_31 (by decide) ?_
  refine y_put C0 0 rfl rfl (by decide) hin0 tyX0 tyX0_ok nmX0 10 hk (by decide) (by decide +kernel) (yrn0 hk) rfl (by decide +kernel) dX0_undo_32 ?_
  exact y_vret C0 dX0_undo_35 rfl (by simp_all [yst_ru, up_up, up_s, ru_i, up_id, -Int32.not_le, -Int32.not_lt, bUndo])
abbrev rX0_thickness : Room := { frames := 0, cells := 0, slots := 0, locals := 0 }
set_option maxRecDepth 100000 in
set_option maxHeartbeats 4000000 in
theorem mX0_thickness (l : Launch) (D : va_G) (cy : Nat → ClassId) (adr : Nat → Nat) (M : yM) (b : Nat) (hk : ykd b = 0) : Ct l yX0_thickness wsX0_thickness rX0_thickness D cy adr [.ref (adr b)] M (some (.int (bThick (M b)))) (M) 0 0 := by
  refine Ct.mk cX0_thickness 1 (some .int) RX0 (by decide) rfl rfl (Nat.le_of_ble_eq_true rfl) ?_
  intro K C0
  refine y_eq rfl (show ([(0, .ref (adr b))] : List (Nat × Value)) = lv_args 0 [.ref (adr b)] from rfl) rfl ?_
  have hin0 : ∀ w ∈ u_ws RX0 TX0 13, w ∈ wsX0_thickness := by decide +kernel
  refine y_aload_n C0 0 dX0_thickness_0 rfl rfl ?_
  refine y_get C0 0 rfl rfl (by decide) hin0 1 hk (by decide) (by decide +kernel) (yvi0 hk) dX0_thickness_1 ?_
  refine y_aload_n C0 0 dX0_thickness_4 rfl rfl ?_
  refine y_get C0 0 rfl rfl (by decide) hin0 2 hk (by decide) (by decide +kernel) (yvi0 hk) dX0_thickness_5 ?_
  refine y_imul C0 dX0_thickness_8 ?_
  exact y_iret C0 dX0_thickness_9 (by simp_all [yst_ru, up_up, up_s, ru_i, up_id, -Int32.not_le, -Int32.not_lt, bThick]) (by simp_all [yst_ru, up_up, up_s, ru_i, up_id, -Int32.not_le, -Int32.not_lt, bThick])
abbrev rX0_leavesForAnEdge : Room := { frames := 1, cells := 0, slots := 0, locals := 20 }
set_option maxRecDepth 100000 in
set_option maxHeartbeats 4000000 in
theorem mX0_leavesForAnEdge (l : Launch) (D : va_G) (cy : Nat → ClassId) (adr : Nat → Nat) (M : yM) (b : Nat) (hk : ykd b = 0) : Ct l yX0_leavesForAnEdge wsX0_leavesForAnEdge rX0_leavesForAnEdge D cy adr [.ref (adr b)] M (some (.int (bLeaves (M b)))) (M) 0 0 := by
  refine Ct.mk cX0_leavesForAnEdge 1 (some .int) RX0 (by decide) rfl rfl (Nat.le_of_ble_eq_true rfl) ?_
  intro K C0
  refine y_eq rfl (show ([(0, .ref (adr b))] : List (Nat × Value)) = lv_args 0 [.ref (adr b)] from rfl) rfl ?_
  refine y_iconst (v := 1) C0 dX0_leavesForAnEdge_0 (by decide) ?_
  refine y_aload_n C0 0 dX0_leavesForAnEdge_1 rfl rfl ?_
  refine y_callV (As := []) (rest := _) (n := 0) C0 (mX0_thickness l D cy adr _ _ hk) 0 rfl (by decide) hk gX0_leavesForAnEdge_X0_thickness rfl rfl rfl (by decide +kernel) ⟨by decide, by decide⟩ rfl rfl (Nat.le_of_ble_eq_true rfl) dX0_leavesForAnEdge_2 ⟨by decide, by decide⟩ ?_
  refine y_bipush (v := 16) C0 dX0_leavesForAnEdge_5 (by decide) ?_
  refine y_idiv C0 dX0_leavesForAnEdge_7 (by decide) ?_
  refine y_iadd C0 dX0_leavesForAnEdge_8 ?_
  exact y_iret C0 dX0_leavesForAnEdge_9 (by simp_all [yst_ru, up_up, up_s, ru_i, up_id, -Int32.not_le, -Int32.not_lt, bLeaves]) (by simp_all [yst_ru, up_up, up_s, ru_i, up_id, -Int32.not_le, -Int32.not_lt, bLeaves])
abbrev rX0_stitchesOfSignature : Room := { frames := 0, cells := 0, slots := 0, locals := 0 }
set_option maxRecDepth 100000 in
set_option maxHeartbeats 4000000 in
theorem mX0_stitchesOfSignature (l : Launch) (D : va_G) (cy : Nat → ClassId) (adr : Nat → Nat) (M : yM) (b : Nat) (hk : ykd b = 0) (x : Int32) : Ct l yX0_stitchesOfSignature wsX0_stitchesOfSignature rX0_stitchesOfSignature D cy adr [.ref (adr b), .int x] M (some (.int (bSos (M b) x))) (M) 0 0 := by
  refine Ct.mk cX0_stitchesOfSignature 3 (some .int) RX0 (by decide) rfl rfl (Nat.le_of_ble_eq_true rfl) ?_
  intro K C0
  refine y_eq rfl (show ([(0, .ref (adr b)), (1, .int x)] : List (Nat × Value)) = lv_args 0 [.ref (adr b), .int x] from rfl) rfl ?_
  have hin0 : ∀ w ∈ u_ws RX0 TX0 13, w ∈ wsX0_stitchesOfSignature := by decide +kernel
  refine y_aload_n C0 0 dX0_stitchesOfSignature_0 rfl rfl ?_
  refine y_get C0 0 rfl rfl (by decide) hin0 6 hk (by decide) (by decide +kernel) (yvi0 hk) dX0_stitchesOfSignature_1 ?_
  refine y_iconst (v := 2) C0 dX0_stitchesOfSignature_4 (by decide) ?_
  refine y_iadd C0 dX0_stitchesOfSignature_5 ?_
  refine y_istore_n C0 [(2, _), (0, _), (1, _)] dX0_stitchesOfSignature_6 rfl (by decide) rfl ?_
  refine y_iload_n C0 2 dX0_stitchesOfSignature_7 rfl rfl ?_
  refine y_if_ne C0 14 dX0_stitchesOfSignature_8 (by decide) (fun c_8 => ?_) (fun c_8 => ?_)
  · refine y_iload_n C0 2 dX0_stitchesOfSignature_14 rfl rfl ?_
    refine y_aload_n C0 1 dX0_stitchesOfSignature_15 rfl rfl ?_
    refine y_get C0 0 rfl rfl (by decide) hin0 1 hk (by decide) (by decide +kernel) (yvi0 hk) dX0_stitchesOfSignature_16 ?_
    refine y_iconst (v := 1) C0 dX0_stitchesOfSignature_19 (by decide) ?_
    refine y_isub C0 dX0_stitchesOfSignature_20 ?_
    refine y_icmp_ne C0 27 dX0_stitchesOfSignature_21 (by decide) (fun c_21 => ?_) (fun c_21 => ?_)
    · refine y_iload_n C0 0 dX0_stitchesOfSignature_27 rfl rfl ?_
      exact y_iret C0 dX0_stitchesOfSignature_28 (by simp_all [yst_ru, up_up, up_s, ru_i, up_id, -Int32.not_le, -Int32.not_lt, bSos]) (by simp_all [yst_ru, up_up, up_s, ru_i, up_id, -Int32.not_le, -Int32.not_lt, bSos])
    · refine y_iinc C0 0 [(2, _), (0, _), (1, _)] dX0_stitchesOfSignature_24 rfl rfl (by decide) rfl ?_
      refine y_iload_n C0 0 dX0_stitchesOfSignature_27 rfl rfl ?_
      exact y_iret C0 dX0_stitchesOfSignature_28 (by simp_all [yst_ru, up_up, up_s, ru_i, up_id, -Int32.not_le, -Int32.not_lt, bSos]) (by simp_all [yst_ru, up_up, up_s, ru_i, up_id, -Int32.not_le, -Int32.not_lt, bSos])
  · refine y_iinc C0 0 [(2, _), (0, _), (1, _)] dX0_stitchesOfSignature_11 rfl rfl (by decide) rfl ?_
    refine y_iload_n C0 2 dX0_stitchesOfSignature_14 rfl rfl ?_
    refine y_aload_n C0 1 dX0_stitchesOfSignature_15 rfl rfl ?_
    refine y_get C0 0 rfl rfl (by decide) hin0 1 hk (by decide) (by decide +kernel) (yvi0 hk) dX0_stitchesOfSignature_16 ?_
    refine y_iconst (v := 1) C0 dX0_stitchesOfSignature_19 (by decide) ?_
    refine y_isub C0 dX0_stitchesOfSignature_20 ?_
    refine y_icmp_ne C0 27 dX0_stitchesOfSignature_21 (by decide) (fun c_21 => ?_) (fun c_21 => ?_)
    · refine y_iload_n C0 0 dX0_stitchesOfSignature_27 rfl rfl ?_
      exact y_iret C0 dX0_stitchesOfSignature_28 (by simp_all [yst_ru, up_up, up_s, ru_i, up_id, -Int32.not_le, -Int32.not_lt, bSos]) (by simp_all [yst_ru, up_up, up_s, ru_i, up_id, -Int32.not_le, -Int32.not_lt, bSos])
    · refine y_iinc C0 0 [(2, _), (0, _), (1, _)] dX0_stitchesOfSignature_24 rfl rfl (by decide) rfl ?_
      refine y_iload_n C0 0 dX0_stitchesOfSignature_27 rfl rfl ?_
      exact y_iret C0 dX0_stitchesOfSignature_28 (by simp_all [yst_ru, up_up, up_s, ru_i, up_id, -Int32.not_le, -Int32.not_lt, bSos]) (by simp_all [yst_ru, up_up, up_s, ru_i, up_id, -Int32.not_le, -Int32.not_lt, bSos])
abbrev rX0_addStitch : Room := { frames := 1, cells := 0, slots := 0, locals := 22 }
set_option maxRecDepth 100000 in
set_option maxHeartbeats 4000000 in
theorem mX0_addStitch (l : Launch) (D : va_G) (cy : Nat → ClassId) (adr : Nat → Nat) (M : yM) (b : Nat) (hk : ykd b = 0) : Ct l yX0_addStitch wsX0_addStitch rX0_addStitch D cy adr [.ref (adr b)] M (some (.int (bAddR (M b)))) (va_up M b (bAdd (M b))) 0 0 := by
  refine Ct.mk cX0_addStitch 1 (some .boolean) RX0 (by decide) rfl rfl (Nat.le_of_ble_eq_true rfl) ?_
  intro K C0
  refine y_eq rfl (show ([(0, .ref (adr b))] : List (Nat × Value)) = lv_args 0 [.ref (adr b)] from rfl) rfl ?_
  have hin0 : ∀ w ∈ u_ws RX0 TX0 13, w ∈ wsX0_addStitch := by decide +kernel
  refine y_aload_n C0 0 dX0_addStitch_0 rfl rfl ?_
  refine y_dup C0 dX0_addStitch_1 rfl ?_
  refine y_get C0 0 rfl rfl (by decide) hin0 7 hk (by decide) (by decide +kernel) (yvi0 hk) dX0_addStitch_2 ?_
  refine y_iconst (v := 1) C0 dX0_addStitch_5 (by decide) ?_
  refine y_iadd C0 dX0_addStitch_6 ?_
  refine y_put C0 0 rfl rfl (by decide) hin0 tyX0 tyX0_ok nmX0 7 hk (by decide) (by decide +kernel) (yrn0 hk) rfl (by decide +kernel) dX0_addStitch_7 ?_
  refine y_aload_n C0 0 dX0_addStitch_10 rfl rfl ?_
  refine y_dup C0 dX0_addStitch_11 rfl ?_
  refine y_get C0 0 rfl rfl (by decide) hin0 9 hk (by decide) (by decide +kernel) (yvi0 hk) dX0_addStitch_12 ?_
  refine y_iconst (v := 1) C0 dX0_addStitch_15 (by decide) ?_
  refine y_iadd C0 dX0_addStitch_16 ?_
  refine y_put C0 0 rfl rfl (by decide) hin0 tyX0 tyX0_ok nmX0 9 hk (by decide) (by decide +kernel) (yrn0 hk) rfl (by decide +kernel) dX0_addStitch_17 ?_
  refine y_aload_n C0 0 dX0_addStitch_20 rfl rfl ?_
  refine y_get C0 0 rfl rfl (by decide) hin0 9 hk (by decide) (by decide +kernel) (yvi0 hk) dX0_addStitch_21 ?_
  refine y_aload_n C0 0 dX0_addStitch_24 rfl rfl ?_
  refine y_aload_n C0 0 dX0_addStitch_25 rfl rfl ?_
  refine y_get C0 0 rfl rfl (by decide) hin0 8 hk (by decide) (by decide +kernel) (yvi0 hk) dX0_addStitch_26 ?_
  refine y_callV (As := [_]) (rest := _) (n := 1) C0 (mX0_stitchesOfSignature l D cy adr _ _ hk _) 0 rfl (by decide) hk gX0_addStitch_X0_stitchesOfSignature rfl rfl rfl (by decide +kernel) ⟨by decide, by decide⟩ rfl rfl (Nat.le_of_ble_eq_true rfl) dX0_addStitch_29 ⟨by decide, by decide⟩ ?_
  refine y_icmp_ge C0 37 dX0_addStitch_32 (by decide) (fun c_32 => ?_) (fun c_32 => ?_)
  · refine y_aload_n C0 0 dX0_addStitch_37 rfl rfl ?_
    refine y_dup C0 dX0_addStitch_38 rfl ?_
    refine y_get C0 0 rfl rfl (by decide) hin0 8 hk (by decide) (by decide +kernel) (yvi0 hk) dX0_addStitch_39 ?_
    refine y_iconst (v := 1) C0 dX0_addStitch_42 (by decide) ?_
    refine y_iadd C0 dX0_addStitch_43 ?_
    refine y_put C0 0 rfl rfl (by decide) hin0 tyX0 tyX0_ok nmX0 8 hk (by decide) (by decide +kernel) (yrn0 hk) rfl (by decide +kernel) dX0_addStitch_44 ?_
    refine y_aload_n C0 0 dX0_addStitch_47 rfl rfl ?_
    refine y_iconst (v := 0) C0 dX0_addStitch_48 (by decide) ?_
    refine y_put C0 0 rfl rfl (by decide) hin0 tyX0 tyX0_ok nmX0 9 hk (by decide) (by decide +kernel) (yrn0 hk) rfl (by decide +kernel) dX0_addStitch_49 ?_
    refine y_iconst (v := 1) C0 dX0_addStitch_52 (by decide) ?_
    exact y_zret C0 rfl dX0_addStitch_53 (by simp_all [yst_ru, up_up, up_s, ru_i, up_id, -Int32.not_le, -Int32.not_lt, bAdd, bAddR, bInc, bSos]) (by simp_all [yst_ru, up_up, up_s, ru_i, up_id, -Int32.not_le, -Int32.not_lt, bAdd, bAddR, bInc, bSos])
  · refine y_iconst (v := 0) C0 dX0_addStitch_35 (by decide) ?_
    exact y_zret C0 rfl dX0_addStitch_36 (by simp_all [yst_ru, up_up, up_s, ru_i, up_id, -Int32.not_le, -Int32.not_lt, bAdd, bAddR, bInc, bSos]) (by simp_all [yst_ru, up_up, up_s, ru_i, up_id, -Int32.not_le, -Int32.not_lt, bAdd, bAddR, bInc, bSos])
abbrev rX0_isSewn : Room := { frames := 0, cells := 0, slots := 0, locals := 0 }
set_option maxRecDepth 100000 in
set_option maxHeartbeats 4000000 in
theorem mX0_isSewn (l : Launch) (D : va_G) (cy : Nat → ClassId) (adr : Nat → Nat) (M : yM) (b : Nat) (hk : ykd b = 0) : Ct l yX0_isSewn wsX0_isSewn rX0_isSewn D cy adr [.ref (adr b)] M (some (.int (bSewn (M b)))) (M) 0 0 := by
  refine Ct.mk cX0_isSewn 1 (some .boolean) RX0 (by decide) rfl rfl (Nat.le_of_ble_eq_true rfl) ?_
  intro K C0
  refine y_eq rfl (show ([(0, .ref (adr b))] : List (Nat × Value)) = lv_args 0 [.ref (adr b)] from rfl) rfl ?_
  have hin0 : ∀ w ∈ u_ws RX0 TX0 13, w ∈ wsX0_isSewn := by decide +kernel
  refine y_aload_n C0 0 dX0_isSewn_0 rfl rfl ?_
  refine y_get C0 0 rfl rfl (by decide) hin0 8 hk (by decide) (by decide +kernel) (yvi0 hk) dX0_isSewn_1 ?_
  refine y_aload_n C0 0 dX0_isSewn_4 rfl rfl ?_
  refine y_get C0 0 rfl rfl (by decide) hin0 1 hk (by decide) (by decide +kernel) (yvi0 hk) dX0_isSewn_5 ?_
  refine y_icmp_lt C0 15 dX0_isSewn_8 (by decide) (fun c_8 => ?_) (fun c_8 => ?_)
  · refine y_iconst (v := 0) C0 dX0_isSewn_15 (by decide) ?_
    exact y_zret C0 rfl dX0_isSewn_16 (by simp_all [yst_ru, up_up, up_s, ru_i, up_id, -Int32.not_le, -Int32.not_lt, bSewn]) (by simp_all [yst_ru, up_up, up_s, ru_i, up_id, -Int32.not_le, -Int32.not_lt, bSewn])
  · refine y_iconst (v := 1) C0 dX0_isSewn_11 (by decide) ?_
    refine y_goto C0 16 dX0_isSewn_12 (by decide) ?_
    exact y_zret C0 rfl dX0_isSewn_16 (by simp_all [yst_ru, up_up, up_s, ru_i, up_id, -Int32.not_le, -Int32.not_lt, bSewn]) (by simp_all [yst_ru, up_up, up_s, ru_i, up_id, -Int32.not_le, -Int32.not_lt, bSewn])
abbrev rX0_beginToDry : Room := { frames := 1, cells := 0, slots := 0, locals := 20 }
set_option maxRecDepth 100000 in
set_option maxHeartbeats 4000000 in
theorem mX0_beginToDry (l : Launch) (D : va_G) (cy : Nat → ClassId) (adr : Nat → Nat) (M : yM) (b : Nat) (hk : ykd b = 0) : Ct l yX0_beginToDry wsX0_beginToDry rX0_beginToDry D cy adr [.ref (adr b)] M (none) (va_up M b (bDryB (M b))) 0 0 := by
  refine Ct.mk cX0_beginToDry 1 none RX0 (by decide) rfl rfl (Nat.le_of_ble_eq_true rfl) ?_
  intro K C0
  refine y_eq rfl (show ([(0, .ref (adr b))] : List (Nat × Value)) = lv_args 0 [.ref (adr b)] from rfl) rfl ?_
  have hin0 : ∀ w ∈ u_ws RX0 TX0 13, w ∈ wsX0_beginToDry := by decide +kernel
  refine y_aload_n C0 0 dX0_beginToDry_0 rfl rfl ?_
  refine y_iconst (v := 2) C0 dX0_beginToDry_1 (by decide) ?_
  refine y_put C0 0 rfl rfl (by decide) hin0 tyX0 tyX0_ok nmX0 4 hk (by decide) (by decide +kernel) (yrn0 hk) rfl (by decide +kernel) dX0_beginToDry_2 ?_
  refine y_aload_n C0 0 dX0_beginToDry_5 rfl rfl ?_
  refine y_iconst (v := (-1)) C0 dX0_beginToDry_6 (by decide) ?_
  refine y_put C0 0 rfl rfl (by decide) hin0 tyX0 tyX0_ok nmX0 5 hk (by decide) (by decide +kernel) (yrn0 hk) rfl (by decide +kernel) dX0_beginToDry_7 ?_
  refine y_aload_n C0 0 dX0_beginToDry_10 rfl rfl ?_
  refine y_iconst (v := 2) C0 dX0_beginToDry_11 (by decide) ?_
  refine y_aload_n C0 0 dX0_beginToDry_12 rfl rfl ?_
  refine y_callV (As := []) (rest := _) (n := 0) C0 (mX0_thickness l D cy adr _ _ hk) 0 rfl (by decide) hk gX0_beginToDry_X0_thickness rfl rfl rfl (by decide +kernel) ⟨by decide, by decide⟩ rfl rfl (Nat.le_of_ble_eq_true rfl) dX0_beginToDry_13 ⟨by decide, by decide⟩ ?_
  refine y_bipush (v := 8) C0 dX0_beginToDry_16 (by decide) ?_
  refine y_idiv C0 dX0_beginToDry_18 (by decide) ?_
  refine y_iadd C0 dX0_beginToDry_19 ?_
  refine y_put C0 0 rfl rfl (by decide) hin0 tyX0 tyX0_ok nmX0 11 hk (by decide) (by decide +kernel) (yrn0 hk) rfl (by decide +kernel) dX0_beginToDry_20 ?_
  exact y_vret C0 dX0_beginToDry_23 rfl (by simp_all [yst_ru, up_up, up_s, ru_i, up_id, -Int32.not_le, -Int32.not_lt, bDryB, bThick])
abbrev rX0_dryForAnHour : Room := { frames := 0, cells := 0, slots := 0, locals := 0 }
set_option maxRecDepth 100000 in
set_option maxHeartbeats 4000000 in
theorem mX0_dryForAnHour (l : Launch) (D : va_G) (cy : Nat → ClassId) (adr : Nat → Nat) (M : yM) (b : Nat) (hk : ykd b = 0) : Ct l yX0_dryForAnHour wsX0_dryForAnHour rX0_dryForAnHour D cy adr [.ref (adr b)] M (none) (va_up M b (bDryH (M b))) 0 0 := by
  refine Ct.mk cX0_dryForAnHour 1 none RX0 (by decide) rfl rfl (Nat.le_of_ble_eq_true rfl) ?_
  intro K C0
  refine y_eq rfl (show ([(0, .ref (adr b))] : List (Nat × Value)) = lv_args 0 [.ref (adr b)] from rfl) rfl ?_
  have hin0 : ∀ w ∈ u_ws RX0 TX0 13, w ∈ wsX0_dryForAnHour := by decide +kernel
  refine y_aload_n C0 0 dX0_dryForAnHour_0 rfl rfl ?_
  refine y_dup C0 dX0_dryForAnHour_1 rfl ?_
  refine y_get C0 0 rfl rfl (by decide) hin0 11 hk (by decide) (by decide +kernel) (yvi0 hk) dX0_dryForAnHour_2 ?_
  refine y_iconst (v := 1) C0 dX0_dryForAnHour_5 (by decide) ?_
  refine y_isub C0 dX0_dryForAnHour_6 ?_
  refine y_put C0 0 rfl rfl (by decide) hin0 tyX0 tyX0_ok nmX0 11 hk (by decide) (by decide +kernel) (yrn0 hk) rfl (by decide +kernel) dX0_dryForAnHour_7 ?_
  refine y_aload_n C0 0 dX0_dryForAnHour_10 rfl rfl ?_
  refine y_get C0 0 rfl rfl (by decide) hin0 11 hk (by decide) (by decide +kernel) (yvi0 hk) dX0_dryForAnHour_11 ?_
  refine y_if_ne C0 22 dX0_dryForAnHour_14 (by decide) (fun c_14 => ?_) (fun c_14 => ?_)
  · exact y_vret C0 dX0_dryForAnHour_22 rfl (by simp_all [yst_ru, up_up, up_s, ru_i, up_id, -Int32.not_le, -Int32.not_lt, bDryH])
  · refine y_aload_n C0 0 dX0_dryForAnHour_17 rfl rfl ?_
    refine y_iconst (v := 3) C0 dX0_dryForAnHour_18 (by decide) ?_
    refine y_put C0 0 rfl rfl (by decide) hin0 tyX0 tyX0_ok nmX0 4 hk (by decide) (by decide +kernel) (yrn0 hk) rfl (by decide +kernel) dX0_dryForAnHour_19 ?_
    exact y_vret C0 dX0_dryForAnHour_22 rfl (by simp_all [yst_ru, up_up, up_s, ru_i, up_id, -Int32.not_le, -Int32.not_lt, bDryH])
abbrev rX0_bind : Room := { frames := 0, cells := 0, slots := 0, locals := 0 }
set_option maxRecDepth 100000 in
set_option maxHeartbeats 4000000 in
theorem mX0_bind (l : Launch) (D : va_G) (cy : Nat → ClassId) (adr : Nat → Nat) (M : yM) (b : Nat) (hk : ykd b = 0) : Ct l yX0_bind wsX0_bind rX0_bind D cy adr [.ref (adr b)] M (none) (va_up M b (bBind (M b))) 0 0 := by
  refine Ct.mk cX0_bind 1 none RX0 (by decide) rfl rfl (Nat.le_of_ble_eq_true rfl) ?_
  intro K C0
  refine y_eq rfl (show ([(0, .ref (adr b))] : List (Nat × Value)) = lv_args 0 [.ref (adr b)] from rfl) rfl ?_
  have hin0 : ∀ w ∈ u_ws RX0 TX0 13, w ∈ wsX0_bind := by decide +kernel
  refine y_aload_n C0 0 dX0_bind_0 rfl rfl ?_
  refine y_aload_n C0 0 dX0_bind_1 rfl rfl ?_
  refine y_get C0 0 rfl rfl (by decide) hin0 3 hk (by decide) (by decide +kernel) (yvi0 hk) dX0_bind_2 ?_
  refine y_if_ne C0 12 dX0_bind_5 (by decide) (fun c_5 => ?_) (fun c_5 => ?_)
  · refine y_iconst (v := 4) C0 dX0_bind_12 (by decide) ?_
    refine y_put C0 0 rfl rfl (by decide) hin0 tyX0 tyX0_ok nmX0 4 hk (by decide) (by decide +kernel) (yrn0 hk) rfl (by decide +kernel) dX0_bind_13 ?_
    exact y_vret C0 dX0_bind_16 rfl (by simp_all [yst_ru, up_up, up_s, ru_i, up_id, -Int32.not_le, -Int32.not_lt, bBind])
  · refine y_iconst (v := 5) C0 dX0_bind_8 (by decide) ?_
    refine y_goto C0 13 dX0_bind_9 (by decide) ?_
    refine y_put C0 0 rfl rfl (by decide) hin0 tyX0 tyX0_ok nmX0 4 hk (by decide) (by decide +kernel) (yrn0 hk) rfl (by decide +kernel) dX0_bind_13 ?_
    exact y_vret C0 dX0_bind_16 rfl (by simp_all [yst_ru, up_up, up_s, ru_i, up_id, -Int32.not_le, -Int32.not_lt, bBind])
abbrev rX0_gildAnEdge : Room := { frames := 0, cells := 0, slots := 0, locals := 0 }
set_option maxRecDepth 100000 in
set_option maxHeartbeats 4000000 in
theorem mX0_gildAnEdge (l : Launch) (D : va_G) (cy : Nat → ClassId) (adr : Nat → Nat) (M : yM) (b : Nat) (hk : ykd b = 0) : Ct l yX0_gildAnEdge wsX0_gildAnEdge rX0_gildAnEdge D cy adr [.ref (adr b)] M (none) (va_up M b (bGild (M b))) 0 0 := by
  refine Ct.mk cX0_gildAnEdge 1 none RX0 (by decide) rfl rfl (Nat.le_of_ble_eq_true rfl) ?_
  intro K C0
  refine y_eq rfl (show ([(0, .ref (adr b))] : List (Nat × Value)) = lv_args 0 [.ref (adr b)] from rfl) rfl ?_
  have hin0 : ∀ w ∈ u_ws RX0 TX0 13, w ∈ wsX0_gildAnEdge := by decide +kernel
  refine y_aload_n C0 0 dX0_gildAnEdge_0 rfl rfl ?_
  refine y_dup C0 dX0_gildAnEdge_1 rfl ?_
  refine y_get C0 0 rfl rfl (by decide) hin0 12 hk (by decide) (by decide +kernel) (yvi0 hk) dX0_gildAnEdge_2 ?_
  refine y_iconst (v := 1) C0 dX0_gildAnEdge_5 (by decide) ?_
  refine y_iadd C0 dX0_gildAnEdge_6 ?_
  refine y_put C0 0 rfl rfl (by decide) hin0 tyX0 tyX0_ok nmX0 12 hk (by decide) (by decide +kernel) (yrn0 hk) rfl (by decide +kernel) dX0_gildAnEdge_7 ?_
  refine y_aload_n C0 0 dX0_gildAnEdge_10 rfl rfl ?_
  refine y_get C0 0 rfl rfl (by decide) hin0 12 hk (by decide) (by decide +kernel) (yvi0 hk) dX0_gildAnEdge_11 ?_
  refine y_aload_n C0 0 dX0_gildAnEdge_14 rfl rfl ?_
  refine y_get C0 0 rfl rfl (by decide) hin0 3 hk (by decide) (by decide +kernel) (yvi0 hk) dX0_gildAnEdge_15 ?_
  refine y_icmp_lt C0 26 dX0_gildAnEdge_18 (by decide) (fun c_18 => ?_) (fun c_18 => ?_)
  · exact y_vret C0 dX0_gildAnEdge_26 rfl (by simp_all [yst_ru, up_up, up_s, ru_i, up_id, -Int32.not_le, -Int32.not_lt, bGild])
  · refine y_aload_n C0 0 dX0_gildAnEdge_21 rfl rfl ?_
    refine y_iconst (v := 5) C0 dX0_gildAnEdge_22 (by decide) ?_
    refine y_put C0 0 rfl rfl (by decide) hin0 tyX0 tyX0_ok nmX0 4 hk (by decide) (by decide +kernel) (yrn0 hk) rfl (by decide +kernel) dX0_gildAnEdge_23 ?_
    exact y_vret C0 dX0_gildAnEdge_26 rfl (by simp_all [yst_ru, up_up, up_s, ru_i, up_id, -Int32.not_le, -Int32.not_lt, bGild])
abbrev rX0_value : Room := { frames := 1, cells := 0, slots := 0, locals := 16 }
set_option maxRecDepth 100000 in
set_option maxHeartbeats 4000000 in
theorem mX0_value (l : Launch) (D : va_G) (cy : Nat → ClassId) (adr : Nat → Nat) (M : yM) (b : Nat) (hk : ykd b = 0) : Ct l yX0_value wsX0_value rX0_value D cy adr [.ref (adr b)] M (some (.int (bVal (M b)))) (M) 0 0 := by
  refine Ct.mk cX0_value 1 (some .int) RX0 (by decide) rfl rfl (Nat.le_of_ble_eq_true rfl) ?_
  intro K C0
  refine y_eq rfl (show ([(0, .ref (adr b))] : List (Nat × Value)) = lv_args 0 [.ref (adr b)] from rfl) rfl ?_
  have hin0 : ∀ w ∈ u_ws RX0 TX0 13, w ∈ wsX0_value := by decide +kernel
  refine y_iconst (v := 1) C0 dX0_value_0 (by decide) ?_
  refine y_iconst (v := 4) C0 dX0_value_1 (by decide) ?_
  refine y_aload_n C0 0 dX0_value_2 rfl rfl ?_
  refine y_get C0 0 rfl rfl (by decide) hin0 1 hk (by decide) (by decide +kernel) (yvi0 hk) dX0_value_3 ?_
  refine y_imul C0 dX0_value_6 ?_
  refine y_iconst (v := 2) C0 dX0_value_7 (by decide) ?_
  refine y_aload_n C0 0 dX0_value_8 rfl rfl ?_
  refine y_get C0 0 rfl rfl (by decide) hin0 6 hk (by decide) (by decide +kernel) (yvi0 hk) dX0_value_9 ?_
  refine y_imul C0 dX0_value_12 ?_
  refine y_iadd C0 dX0_value_13 ?_
  refine y_bipush (v := 6) C0 dX0_value_14 (by decide) ?_
  refine y_aload_n C0 0 dX0_value_16 rfl rfl ?_
  refine y_get C0 0 rfl rfl (by decide) hin0 12 hk (by decide) (by decide +kernel) (yvi0 hk) dX0_value_17 ?_
  refine y_imul C0 dX0_value_20 ?_
  refine y_iadd C0 dX0_value_21 ?_
  refine y_iconst (v := 3) C0 dX0_value_22 (by decide) ?_
  refine y_aload_n C0 0 dX0_value_23 rfl rfl ?_
  refine y_get C0 0 rfl rfl (by decide) hin0 10 hk (by decide) (by decide +kernel) (yvi0 hk) dX0_value_24 ?_
  refine y_imul C0 dX0_value_27 ?_
  refine y_isub C0 dX0_value_28 ?_
  refine y_mmax C0 (by decide +kernel) (by decide +kernel) (by decide +kernel) (by decide +kernel) (by decide) (Nat.le_of_ble_eq_true rfl) (by decide) (by decide) dX0_value_29 ?_
  exact y_iret C0 dX0_value_32 (by simp_all [yst_ru, up_up, up_s, ru_i, up_id, -Int32.not_le, -Int32.not_lt, bVal]) (by simp_all [yst_ru, up_up, up_s, ru_i, up_id, -Int32.not_le, -Int32.not_lt, bVal])
end YBK
