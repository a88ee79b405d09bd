section YMG
abbrev rX5_gild : Room := { frames := 1, cells := 0, slots := 0, locals := 22 }
set_option maxRecDepth 100000 in
set_option maxHeartbeats 4000000 in
theorem mX5_gild (l : Launch) (D : va_G) (cy : Nat → ClassId) (adr : Nat → Nat) (M : yM) (j : Nat) (hj : ykd j = 6) (R : Rw)  (B : Nat) (hB : B ≤ 15) (eB : R 189 = nI B) : Ct l yX5_gild wsX5_gild rX5_gild D cy adr [.ref (adr j)] (va_up M j R) (none) (va_up M j (rGild R B)) 0 0 := by
  refine Ct.mk cX5_gild 4 none RX5 (by decide) rfl rfl (Nat.le_of_ble_eq_true rfl) ?_
  intro K C0
  refine y_eq rfl (show ([(0, .ref (adr j))] : List (Nat × Value)) = lv_args 0 [.ref (adr j)] from rfl) rfl ?_
  refine y_aload_n C0 0 dX5_gild_0 rfl rfl ?_
  refine y_iconst (v := 4) C0 dX5_gild_1 (by decide) ?_
  refine y_callS (As := [_, _]) (rest := _) (n := 2) C0 (mX5_first l D cy adr _ _ hj _ _ B hB eB) gX5_gild_X5_first rfl rfl rfl (by decide +kernel) ⟨by decide, by decide⟩ rfl rfl (Nat.le_of_ble_eq_true rfl) dX5_gild_2 ⟨by decide, by decide⟩ ?_
  rcases hq : rFs R 4 B with _ | b
  · refine y_top (rFr_n hq) ?_
    refine y_istore_n C0 [(1, _), (0, _)] dX5_gild_5 rfl (by decide) rfl ?_
    refine y_iload_n C0 0 dX5_gild_6 rfl rfl ?_
    refine y_if_ge C0 11 dX5_gild_7 (by decide) (fun c_7 => ?_) (fun c_7 => ?_)
    · exact absurd c_7 (by decide)
    · exact y_vret C0 dX5_gild_10 rfl (congrArg (va_up M j) ((rGild_n hq).symm))
  · refine y_top (rFr_s hq) ?_
    have hb := rFs_lt hq
    refine y_istore_n C0 [(1, _), (0, _)] dX5_gild_5 rfl (by decide) rfl ?_
    refine y_iload_n C0 0 dX5_gild_6 rfl rfl ?_
    refine y_if_ge C0 11 dX5_gild_7 (by decide) (fun c_7 => ?_) (fun c_7 => ?_)
    · refine y_bipush (v := 11) C0 dX5_gild_11 (by decide) ?_
      refine y_iload_n C0 0 dX5_gild_13 rfl rfl ?_
      refine y_imulN C0 (a := 11) (b := b) rfl rfl dX5_gild_14 ?_
      refine y_istore_n C0 [(2, _), (1, _), (0, _)] dX5_gild_15 rfl (by decide) rfl ?_
      refine y_iconst (v := 1) C0 dX5_gild_16 (by decide) ?_
      refine y_aload_n C0 2 dX5_gild_17 rfl rfl ?_
      refine y_iload_n C0 0 dX5_gild_18 rfl rfl ?_
      refine y_callS (As := [_, _]) (rest := _) (n := 2) C0 (mX5_thick l D cy adr _ _ hj _ ((11 * b)) (by omega)) gX5_gild_X5_thick rfl rfl rfl (by decide +kernel) ⟨by decide, by decide⟩ rfl rfl (Nat.le_of_ble_eq_true rfl) dX5_gild_19 ⟨by decide, by decide⟩ ?_
      refine y_bipush (v := 16) C0 dX5_gild_22 (by decide) ?_
      refine y_idiv C0 dX5_gild_24 (by decide) ?_
      refine y_iadd C0 dX5_gild_25 ?_
      refine y_istore_n C0 [(3, _), (2, _), (1, _), (0, _)] dX5_gild_26 rfl (by decide) rfl ?_
      refine y_aload_n C0 3 dX5_gild_27 rfl rfl ?_
      refine y_sipush (v := 186) C0 dX5_gild_28 (by decide) ?_
      refine y_ialdU C0 (186) hj rfl (by omega) dX5_gild_31 ?_
      refine y_iload_n C0 0 dX5_gild_32 rfl rfl ?_
      refine y_icmp_ge C0 37 dX5_gild_33 (by decide) (fun c_33 => ?_) (fun c_33 => ?_)
      · refine y_aload_n C0 3 dX5_gild_37 rfl rfl ?_
        refine y_sipush (v := 186) C0 dX5_gild_38 (by decide) ?_
        refine y_dup2 C0 dX5_gild_41 rfl rfl ?_
        refine y_ialdU C0 (186) hj rfl (by omega) dX5_gild_42 ?_
        refine y_iload_n C0 0 dX5_gild_43 rfl rfl ?_
        refine y_isub C0 dX5_gild_44 ?_
        refine y_iastU C0 (186) hj rfl (by omega) dX5_gild_45 ?_
        refine y_aload_n C0 3 dX5_gild_46 rfl rfl ?_
        refine y_iload_n C0 1 dX5_gild_47 rfl rfl ?_
        refine y_bipush (v := 9) C0 dX5_gild_48 (by decide) ?_
        refine y_iaddN C0 (a := (11 * b)) (b := 9) rfl rfl dX5_gild_50 ?_
        refine y_dup2 C0 dX5_gild_51 rfl rfl ?_
        refine y_ialdU C0 (((11 * b) + 9)) hj rfl (by omega) dX5_gild_52 ?_
        refine y_iconst (v := 1) C0 dX5_gild_53 (by decide) ?_
        refine y_iadd C0 dX5_gild_54 ?_
        refine y_iastU C0 (((11 * b) + 9)) hj rfl (by omega) dX5_gild_55 ?_
        refine y_aload_n C0 3 dX5_gild_56 rfl rfl ?_
        refine y_iload_n C0 1 dX5_gild_57 rfl rfl ?_
        refine y_bipush (v := 9) C0 dX5_gild_58 (by decide) ?_
        refine y_iaddN C0 (a := (11 * b)) (b := 9) rfl rfl dX5_gild_60 ?_
        refine y_ialdU C0 (((11 * b) + 9)) hj rfl (by omega) dX5_gild_61 ?_
        refine y_aload_n C0 3 dX5_gild_62 rfl rfl ?_
        refine y_iload_n C0 1 dX5_gild_63 rfl rfl ?_
        refine y_iconst (v := 2) C0 dX5_gild_64 (by decide) ?_
        refine y_iaddN C0 (a := (11 * b)) (b := 2) rfl rfl dX5_gild_65 ?_
        refine y_ialdU C0 (((11 * b) + 2)) hj rfl (by omega) dX5_gild_66 ?_
        refine y_icmp_ne C0 76 dX5_gild_67 (by decide) (fun c_67 => ?_) (fun c_67 => ?_)
        · exact y_vret C0 dX5_gild_76 rfl (congrArg (va_up M j) (show _ = rGild R B from ((rGild_s hq).trans ((if_pos (show rLf R b ≤ R 186 from c_33)).trans (show rGc R b = _ from if_neg (show ¬ rGb R b (11 * b + 9) = rGb R b (11 * b + 2) from c_67)))).symm))
        · refine y_aload_n C0 3 dX5_gild_70 rfl rfl ?_
          refine y_iload_n C0 1 dX5_gild_71 rfl rfl ?_
          refine y_iconst (v := 3) C0 dX5_gild_72 (by decide) ?_
          refine y_iaddN C0 (a := (11 * b)) (b := 3) rfl rfl dX5_gild_73 ?_
          refine y_iconst (v := 5) C0 dX5_gild_74 (by decide) ?_
          refine y_iastU C0 (((11 * b) + 3)) hj rfl (by omega) dX5_gild_75 ?_
          exact y_vret C0 dX5_gild_76 rfl (congrArg (va_up M j) (show _ = rGild R B from ((rGild_s hq).trans ((if_pos (show rLf R b ≤ R 186 from c_33)).trans (show rGc R b = _ from if_pos (show  rGb R b (11 * b + 9) = rGb R b (11 * b + 2) from c_67)))).symm))
      · exact y_vret C0 dX5_gild_36 rfl (congrArg (va_up M j) (((rGild_s hq).trans (if_neg (show ¬ rLf R b ≤ R 186 from c_33))).symm))
    · exact absurd (nI_pos' (by omega)) c_7
abbrev rX5_board : Room := { frames := 0, cells := 0, slots := 0, locals := 0 }
set_option maxRecDepth 100000 in
set_option maxHeartbeats 4000000 in
theorem mX5_board (l : Launch) (D : va_G) (cy : Nat → ClassId) (adr : Nat → Nat) (M : yM) (j : Nat) (hj : ykd j = 6) (R : Rw) (a : Nat) (ha : a < 155) : Ct l yX5_board wsX5_board rX5_board D cy adr [.ref (adr j), .int (nI a)] (va_up M j R) (none) (va_up M j (rBd R a)) 0 0 := by
  refine Ct.mk cX5_board 2 none RX5 (by decide) rfl rfl (Nat.le_of_ble_eq_true rfl) ?_
  intro K C0
  refine y_eq rfl (show ([(0, .ref (adr j)), (1, .int (nI a))] : List (Nat × Value)) = lv_args 0 [.ref (adr j), .int (nI a)] from rfl) rfl ?_
  refine y_aload_n C0 0 dX5_board_0 rfl rfl ?_
  refine y_iload_n C0 1 dX5_board_1 rfl rfl ?_
  refine y_iconst (v := 3) C0 dX5_board_2 (by decide) ?_
  refine y_iaddN C0 (a := a) (b := 3) rfl rfl dX5_board_3 ?_
  refine y_ialdU C0 ((a + 3)) hj rfl (by omega) dX5_board_4 ?_
  refine y_iconst (v := 3) C0 dX5_board_5 (by decide) ?_
  refine y_icmp_ne C0 18 dX5_board_6 (by decide) (fun c_6 => ?_) (fun c_6 => ?_)
  · exact y_vret C0 dX5_board_18 rfl (congrArg (va_up M j) (by rw [rBd, if_neg c_6]))
  · refine y_aload_n C0 0 dX5_board_9 rfl rfl ?_
    refine y_sipush (v := 185) C0 dX5_board_10 (by decide) ?_
    refine y_ialdU C0 (185) hj rfl (by omega) dX5_board_13 ?_
    refine y_iconst (v := 2) C0 dX5_board_14 (by decide) ?_
    refine y_icmp_ge C0 19 dX5_board_15 (by decide) (fun c_15 => ?_) (fun c_15 => ?_)
    · refine y_aload_n C0 0 dX5_board_19 rfl rfl ?_
      refine y_sipush (v := 185) C0 dX5_board_20 (by decide) ?_
      refine y_dup2 C0 dX5_board_23 rfl rfl ?_
      refine y_ialdU C0 (185) hj rfl (by omega) dX5_board_24 ?_
      refine y_iconst (v := 2) C0 dX5_board_25 (by decide) ?_
      refine y_isub C0 dX5_board_26 ?_
      refine y_iastU C0 (185) hj rfl (by omega) dX5_board_27 ?_
      refine y_aload_n C0 0 dX5_board_28 rfl rfl ?_
      refine y_iload_n C0 1 dX5_board_29 rfl rfl ?_
      refine y_iconst (v := 3) C0 dX5_board_30 (by decide) ?_
      refine y_iaddN C0 (a := a) (b := 3) rfl rfl dX5_board_31 ?_
      refine y_aload_n C0 0 dX5_board_32 rfl rfl ?_
      refine y_iload_n C0 1 dX5_board_33 rfl rfl ?_
      refine y_iconst (v := 2) C0 dX5_board_34 (by decide) ?_
      refine y_iaddN C0 (a := a) (b := 2) rfl rfl dX5_board_35 ?_
      refine y_ialdU C0 ((a + 2)) hj rfl (by omega) dX5_board_36 ?_
      refine y_if_ne C0 44 dX5_board_37 (by decide) (fun c_37 => ?_) (fun c_37 => ?_)
      · refine y_iconst (v := 4) C0 dX5_board_44 (by decide) ?_
        refine y_iastU C0 ((a + 3)) hj rfl (by omega) dX5_board_45 ?_
        exact y_vret C0 dX5_board_46 rfl (congrArg (va_up M j) (show _ = rBd R a from (by rw [rBd, if_pos c_6, if_pos c_15, if_neg (show ¬ rdec R 185 2 (a + 2) = 0 from c_37)]; rfl)))
      · refine y_iconst (v := 5) C0 dX5_board_40 (by decide) ?_
        refine y_goto C0 45 dX5_board_41 (by decide) ?_
        refine y_iastU C0 ((a + 3)) hj rfl (by omega) dX5_board_45 ?_
        exact y_vret C0 dX5_board_46 rfl (congrArg (va_up M j) (show _ = rBd R a from (by rw [rBd, if_pos c_6, if_pos c_15, if_pos (show rdec R 185 2 (a + 2) = 0 from c_37)]; rfl)))
    · exact y_vret C0 dX5_board_18 rfl (congrArg (va_up M j) (by rw [rBd, if_pos c_6, if_neg c_15]))
abbrev rX5_dry : Room := { frames := 0, cells := 0, slots := 0, locals := 0 }
set_option maxRecDepth 100000 in
set_option maxHeartbeats 4000000 in
theorem mX5_dry (l : Launch) (D : va_G) (cy : Nat → ClassId) (adr : Nat → Nat) (M : yM) (j : Nat) (hj : ykd j = 6) (R : Rw) (a : Nat) (ha : a < 155) : Ct l yX5_dry wsX5_dry rX5_dry D cy adr [.ref (adr j), .int (nI a)] (va_up M j R) (none) (va_up M j (rDr R a)) 0 0 := by
  refine Ct.mk cX5_dry 2 none RX5 (by decide) rfl rfl (Nat.le_of_ble_eq_true rfl) ?_
  intro K C0
  refine y_eq rfl (show ([(0, .ref (adr j)), (1, .int (nI a))] : List (Nat × Value)) = lv_args 0 [.ref (adr j), .int (nI a)] from rfl) rfl ?_
  refine y_aload_n C0 0 dX5_dry_0 rfl rfl ?_
  refine y_iload_n C0 1 dX5_dry_1 rfl rfl ?_
  refine y_iconst (v := 3) C0 dX5_dry_2 (by decide) ?_
  refine y_iaddN C0 (a := a) (b := 3) rfl rfl dX5_dry_3 ?_
  refine y_ialdU C0 ((a + 3)) hj rfl (by omega) dX5_dry_4 ?_
  refine y_iconst (v := 2) C0 dX5_dry_5 (by decide) ?_
  refine y_icmp_eq C0 10 dX5_dry_6 (by decide) (fun c_6 => ?_) (fun c_6 => ?_)
  · refine y_aload_n C0 0 dX5_dry_10 rfl rfl ?_
    refine y_iload_n C0 1 dX5_dry_11 rfl rfl ?_
    refine y_bipush (v := 8) C0 dX5_dry_12 (by decide) ?_
    refine y_iaddN C0 (a := a) (b := 8) rfl rfl dX5_dry_14 ?_
    refine y_dup2 C0 dX5_dry_15 rfl rfl ?_
    refine y_ialdU C0 ((a + 8)) hj rfl (by omega) dX5_dry_16 ?_
    refine y_iconst (v := 1) C0 dX5_dry_17 (by decide) ?_
    refine y_isub C0 dX5_dry_18 ?_
    refine y_iastU C0 ((a + 8)) hj rfl (by omega) dX5_dry_19 ?_
    refine y_aload_n C0 0 dX5_dry_20 rfl rfl ?_
    refine y_iload_n C0 1 dX5_dry_21 rfl rfl ?_
    refine y_bipush (v := 8) C0 dX5_dry_22 (by decide) ?_
    refine y_iaddN C0 (a := a) (b := 8) rfl rfl dX5_dry_24 ?_
    refine y_ialdU C0 ((a + 8)) hj rfl (by omega) dX5_dry_25 ?_
    refine y_if_ne C0 35 dX5_dry_26 (by decide) (fun c_26 => ?_) (fun c_26 => ?_)
    · exact y_vret C0 dX5_dry_35 rfl (congrArg (va_up M j) (show _ = rDr R a from (by rw [rDr, if_pos c_6, if_neg (show ¬ rdec R (a + 8) 1 (a + 8) = 0 from c_26)]; rfl)))
    · refine y_aload_n C0 0 dX5_dry_29 rfl rfl ?_
      refine y_iload_n C0 1 dX5_dry_30 rfl rfl ?_
      refine y_iconst (v := 3) C0 dX5_dry_31 (by decide) ?_
      refine y_iaddN C0 (a := a) (b := 3) rfl rfl dX5_dry_32 ?_
      refine y_iconst (v := 3) C0 dX5_dry_33 (by decide) ?_
      refine y_iastU C0 ((a + 3)) hj rfl (by omega) dX5_dry_34 ?_
      exact y_vret C0 dX5_dry_35 rfl (congrArg (va_up M j) (show _ = rDr R a from (by rw [rDr, if_pos c_6, if_pos (show rdec R (a + 8) 1 (a + 8) = 0 from c_26)]; rfl)))
  · exact y_vret C0 dX5_dry_9 rfl (congrArg (va_up M j) (by rw [rDr, if_neg c_6]))
abbrev rX5_mount : Room := { frames := 1, cells := 0, slots := 0, locals := 22 }
set_option maxRecDepth 100000 in
set_option maxHeartbeats 4000000 in
theorem mX5_mount (l : Launch) (D : va_G) (cy : Nat → ClassId) (adr : Nat → Nat) (M : yM) (j : Nat) (hj : ykd j = 6) (R : Rw) (f : Nat) (hf : f < 3) (B : Nat) (hB : B ≤ 15) (eB : R 189 = nI B) : Ct l yX5_mount wsX5_mount rX5_mount D cy adr [.ref (adr j), .int (nI f)] (va_up M j R) (none) (va_up M j (rMt R f B)) 0 0 := by
  refine Ct.mk cX5_mount 4 none RX5 (by decide) rfl rfl (Nat.le_of_ble_eq_true rfl) ?_
  intro K C0
  refine y_eq rfl (show ([(0, .ref (adr j)), (1, .int (nI f))] : List (Nat × Value)) = lv_args 0 [.ref (adr j), .int (nI f)] from rfl) rfl ?_
  refine y_sipush (v := 165) C0 dX5_mount_0 (by decide) ?_
  refine y_iconst (v := 3) C0 dX5_mount_3 (by decide) ?_
  refine y_iload_n C0 1 dX5_mount_4 rfl rfl ?_
  refine y_imulN C0 (a := 3) (b := f) rfl rfl dX5_mount_5 ?_
  refine y_iaddN C0 (a := 165) (b := (3 * f)) rfl rfl dX5_mount_6 ?_
  refine y_istore_n C0 [(2, _), (0, _), (1, _)] dX5_mount_7 rfl (by decide) rfl ?_
  refine y_aload_n C0 1 dX5_mount_8 rfl rfl ?_
  refine y_iload_n C0 0 dX5_mount_9 rfl rfl ?_
  refine y_iconst (v := 1) C0 dX5_mount_10 (by decide) ?_
  refine y_iaddN C0 (a := (165 + (3 * f))) (b := 1) rfl rfl dX5_mount_11 ?_
  refine y_ialdU C0 (((165 + (3 * f)) + 1)) hj rfl (by omega) dX5_mount_12 ?_
  refine y_if_ge C0 24 dX5_mount_13 (by decide) (fun c_13 => ?_) (fun c_13 => ?_)
  · refine y_iconst (v := (-1)) C0 dX5_mount_24 (by decide) ?_
    refine y_istore_n C0 [(3, _), (2, _), (0, _), (1, _)] dX5_mount_25 rfl (by decide) rfl ?_
    refine y_iload_n C0 0 dX5_mount_26 rfl rfl ?_
    refine y_if_ge C0 31 dX5_mount_27 (by decide) (fun c_27 => ?_) (fun c_27 => ?_)
    · exact absurd c_27 (by decide)
    · exact y_vret C0 dX5_mount_30 rfl (congrArg (va_up M j) (by rw [rMt_f c_13]))
  · refine y_aload_n C0 1 dX5_mount_16 rfl rfl ?_
    refine y_iconst (v := 0) C0 dX5_mount_17 (by decide) ?_
    refine y_callS (As := [_, _]) (rest := _) (n := 2) C0 (mX5_first l D cy adr _ _ hj _ _ B hB eB) gX5_mount_X5_first rfl rfl rfl (by decide +kernel) ⟨by decide, by decide⟩ rfl rfl (Nat.le_of_ble_eq_true rfl) dX5_mount_18 ⟨by decide, by decide⟩ ?_
    rcases hq : rFs R 0 B with _ | b
    · refine y_top (rFr_n hq) ?_
      refine y_goto C0 25 dX5_mount_21 (by decide) ?_
      refine y_istore_n C0 [(3, _), (2, _), (0, _), (1, _)] dX5_mount_25 rfl (by decide) rfl ?_
      refine y_iload_n C0 0 dX5_mount_26 rfl rfl ?_
      refine y_if_ge C0 31 dX5_mount_27 (by decide) (fun c_27 => ?_) (fun c_27 => ?_)
      · exact absurd c_27 (by decide)
      · exact y_vret C0 dX5_mount_30 rfl (congrArg (va_up M j) (by rw [rMt_n c_13 hq]))
    · refine y_top (rFr_s hq) ?_
      have hb := rFs_lt hq
      refine y_goto C0 25 dX5_mount_21 (by decide) ?_
      refine y_istore_n C0 [(3, _), (2, _), (0, _), (1, _)] dX5_mount_25 rfl (by decide) rfl ?_
      refine y_iload_n C0 0 dX5_mount_26 rfl rfl ?_
      refine y_if_ge C0 31 dX5_mount_27 (by decide) (fun c_27 => ?_) (fun c_27 => ?_)
      · refine y_aload_n C0 2 dX5_mount_31 rfl rfl ?_
        refine y_iload_n C0 1 dX5_mount_32 rfl rfl ?_
        refine y_iconst (v := 1) C0 dX5_mount_33 (by decide) ?_
        refine y_iaddN C0 (a := (165 + (3 * f))) (b := 1) rfl rfl dX5_mount_34 ?_
        refine y_iload_n C0 0 dX5_mount_35 rfl rfl ?_
        refine y_iastU C0 (((165 + (3 * f)) + 1)) hj rfl (by omega) dX5_mount_36 ?_
        refine y_aload_n C0 2 dX5_mount_37 rfl rfl ?_
        refine y_bipush (v := 11) C0 dX5_mount_38 (by decide) ?_
        refine y_iload_n C0 0 dX5_mount_40 rfl rfl ?_
        refine y_imulN C0 (a := 11) (b := b) rfl rfl dX5_mount_41 ?_
        refine y_iconst (v := 3) C0 dX5_mount_42 (by decide) ?_
        refine y_iaddN C0 (a := (11 * b)) (b := 3) rfl rfl dX5_mount_43 ?_
        refine y_iconst (v := 1) C0 dX5_mount_44 (by decide) ?_
        refine y_iastU C0 (((11 * b) + 3)) hj rfl (by omega) dX5_mount_45 ?_
        refine y_aload_n C0 2 dX5_mount_46 rfl rfl ?_
        refine y_bipush (v := 11) C0 dX5_mount_47 (by decide) ?_
        refine y_iload_n C0 0 dX5_mount_49 rfl rfl ?_
        refine y_imulN C0 (a := 11) (b := b) rfl rfl dX5_mount_50 ?_
        refine y_iconst (v := 4) C0 dX5_mount_51 (by decide) ?_
        refine y_iaddN C0 (a := (11 * b)) (b := 4) rfl rfl dX5_mount_52 ?_
        refine y_iload_n C0 3 dX5_mount_53 rfl rfl ?_
        refine y_iastU C0 (((11 * b) + 4)) hj rfl (by omega) dX5_mount_54 ?_
        refine y_aload_n C0 2 dX5_mount_55 rfl rfl ?_
        refine y_bipush (v := 11) C0 dX5_mount_56 (by decide) ?_
        refine y_iload_n C0 0 dX5_mount_58 rfl rfl ?_
        refine y_imulN C0 (a := 11) (b := b) rfl rfl dX5_mount_59 ?_
        refine y_bipush (v := 10) C0 dX5_mount_60 (by decide) ?_
        refine y_iaddN C0 (a := (11 * b)) (b := 10) rfl rfl dX5_mount_62 ?_
        refine y_aload_n C0 2 dX5_mount_63 rfl rfl ?_
        refine y_iload_n C0 1 dX5_mount_64 rfl rfl ?_
        refine y_ialdU C0 ((165 + (3 * f))) hj rfl (by omega) dX5_mount_65 ?_
        refine y_iastU C0 (((11 * b) + 10)) hj rfl (by omega) dX5_mount_66 ?_
        exact y_vret C0 dX5_mount_67 rfl (congrArg (va_up M j) ((rMt_s c_13 hq).symm))
      · exact absurd (nI_pos' (by omega)) c_27
abbrev rX5_sew : Room := { frames := 2, cells := 0, slots := 0, locals := 40 }
set_option maxRecDepth 100000 in
set_option maxHeartbeats 4000000 in
theorem mX5_sew (l : Launch) (D : va_G) (cy : Nat → ClassId) (adr : Nat → Nat) (M : yM) (j : Nat) (hj : ykd j = 6) (R : Rw) (f : Nat) (hf : f < 3) (B S : Nat) (hok : mOK R B S) : Ct l yX5_sew wsX5_sew rX5_sew D cy adr [.ref (adr j), .int (nI f)] (va_up M j R) (none) (va_up M j (rSw R f S)) 0 0 := by
  refine Ct.mk cX5_sew 6 none RX5 (by decide) rfl rfl (Nat.le_of_ble_eq_true rfl) ?_
  intro K C0
  refine y_eq rfl (show ([(0, .ref (adr j)), (1, .int (nI f))] : List (Nat × Value)) = lv_args 0 [.ref (adr j), .int (nI f)] from rfl) rfl ?_
  refine y_sipush (v := 165) C0 dX5_sew_0 (by decide) ?_
  refine y_iconst (v := 3) C0 dX5_sew_3 (by decide) ?_
  refine y_iload_n C0 1 dX5_sew_4 rfl rfl ?_
  refine y_imulN C0 (a := 3) (b := f) rfl rfl dX5_sew_5 ?_
  refine y_iaddN C0 (a := 165) (b := (3 * f)) rfl rfl dX5_sew_6 ?_
  refine y_istore_n C0 [(2, _), (0, _), (1, _)] dX5_sew_7 rfl (by decide) rfl ?_
  refine y_aload_n C0 1 dX5_sew_8 rfl rfl ?_
  refine y_iload_n C0 2 dX5_sew_9 rfl rfl ?_
  refine y_callS (As := [_, _]) (rest := _) (n := 2) C0 (mX5_rate l D cy adr _ _ hj _ _ S hok.2.2.2.1 hok.2.2.1) gX5_sew_X5_rate rfl rfl rfl (by decide +kernel) ⟨by decide, by decide⟩ rfl rfl (Nat.le_of_ble_eq_true rfl) dX5_sew_10 ⟨by decide, by decide⟩ ?_
  refine y_istore_n C0 [(3, _), (2, _), (0, _), (1, _)] dX5_sew_13 rfl (by decide) rfl ?_
  refine y_iconst (v := 1) C0 dX5_sew_14 (by decide) ?_
  refine y_istore C0 [(4, _), (3, _), (2, _), (0, _), (1, _)] dX5_sew_15 (by decide) rfl ?_
  have hl_17 : ∀ (n : Nat) (i : Nat), (rRa R (nI f) S).toNatClampNeg - i = n → i ≤ (rRa R (nI f) S).toNatClampNeg → Y K l rX5_sew D cy adr 6 0 0 (QT K D cy adr (none) (va_up M j (rSw R f S)) 0 0) (va_up M j (rSew R f i)) [] [(4, .int (nI (i + 1))), (3, .int (rRa R (nI f) S)), (2, .int (nI (165 + (3 * f)))), (1, .int (nI f)), (0, .ref (adr j))] 17 [] := by
    intro n
    induction n using Nat.strongRecOn with
    | _ n ih_17 =>
      intro i hn_17 hi
      refine y_iload C0 0 dX5_sew_17 rfl ?_
      refine y_iload_n C0 1 dX5_sew_19 rfl rfl ?_
      refine y_icmp_gt C0 217 dX5_sew_20 (by decide) (fun c_20 => ?_) (fun c_20 => ?_)
      · have he := cg_end (rRa_le hok) hi c_20
        have hM : rSew R f i = rSw R f S := by rw [rSw, ← he]
        exact y_vret C0 dX5_sew_217 rfl (congrArg (va_up M j) (hM))
      · have hlt := cg_lt (rRa_le hok) hi c_20
        refine y_aload_n C0 4 dX5_sew_23 rfl rfl ?_
        refine y_iload_n C0 2 dX5_sew_24 rfl rfl ?_
        refine y_iconst (v := 1) C0 dX5_sew_25 (by decide) ?_
        refine y_iaddN C0 (a := (165 + (3 * f))) (b := 1) rfl rfl dX5_sew_26 ?_
        refine y_ialdU C0 (((165 + (3 * f)) + 1)) hj rfl (by omega) dX5_sew_27 ?_
        refine y_if_lt C0 217 dX5_sew_28 (by decide) (fun c_28 => ?_) (fun c_28 => ?_)
        · have hlt9 := cg_lt (rRa_le hok) hi c_20
          have hM : rSew R f i = rSw R f S := by
            have h9 := rSew_a c_28 ((rRa R (nI f) S).toNatClampNeg - i)
            rw [show i + ((rRa R (nI f) S).toNatClampNeg - i) = (rRa R (nI f) S).toNatClampNeg by omega] at h9
            exact h9.symm
          exact y_vret C0 dX5_sew_217 rfl (congrArg (va_up M j) (hM))
        · refine y_aload_n C0 4 dX5_sew_31 rfl rfl ?_
          refine y_sipush (v := 184) C0 dX5_sew_32 (by decide) ?_
          refine y_ialdU C0 (184) hj rfl (by omega) dX5_sew_35 ?_
          refine y_if_le C0 217 dX5_sew_36 (by decide) (fun c_36 => ?_) (fun c_36 => ?_)
          · have hlt9 := cg_lt (rRa_le hok) hi c_20
            have hM : rSew R f i = rSw R f S := by
              have h9 := rSew_b c_36 ((rRa R (nI f) S).toNatClampNeg - i)
              rw [show i + ((rRa R (nI f) S).toNatClampNeg - i) = (rRa R (nI f) S).toNatClampNeg by omega] at h9
              exact h9.symm
            exact y_vret C0 dX5_sew_217 rfl (congrArg (va_up M j) (hM))
          · obtain ⟨b, hb, eb⟩ : ∃ b, b < 15 ∧ rSew R f i (165 + 3 * f + 1) = nI b := ⟨_, (mFr_b (mOK_sew hok hf i).1 hf c_28).1, (mFr_b (mOK_sew hok hf i).1 hf c_28).2⟩
            refine y_bipush (v := 11) C0 dX5_sew_39 (by decide) ?_
            refine y_aload_n C0 4 dX5_sew_41 rfl rfl ?_
            refine y_iload_n C0 2 dX5_sew_42 rfl rfl ?_
            refine y_iconst (v := 1) C0 dX5_sew_43 (by decide) ?_
            refine y_iaddN C0 (a := (165 + (3 * f))) (b := 1) rfl rfl dX5_sew_44 ?_
            refine y_ialdU C0 (((165 + (3 * f)) + 1)) hj rfl (by omega) dX5_sew_45 ?_
            refine y_top eb ?_
            refine y_imulN C0 (a := 11) (b := b) rfl rfl dX5_sew_46 ?_
            refine y_istore C0 [(5, _), (4, _), (3, _), (2, _), (1, _), (0, _)] dX5_sew_47 (by decide) rfl ?_
            refine y_aload_n C0 5 dX5_sew_49 rfl rfl ?_
            refine y_sipush (v := 184) C0 dX5_sew_50 (by decide) ?_
            refine y_dup2 C0 dX5_sew_53 rfl rfl ?_
            refine y_ialdU C0 (184) hj rfl (by omega) dX5_sew_54 ?_
            refine y_iconst (v := 1) C0 dX5_sew_55 (by decide) ?_
            refine y_isub C0 dX5_sew_56 ?_
            refine y_iastU C0 (184) hj rfl (by omega) dX5_sew_57 ?_
            refine y_aload_n C0 5 dX5_sew_58 rfl rfl ?_
            refine y_iload_n C0 3 dX5_sew_59 rfl rfl ?_
            refine y_iconst (v := 2) C0 dX5_sew_60 (by decide) ?_
            refine y_iaddN C0 (a := (165 + (3 * f))) (b := 2) rfl rfl dX5_sew_61 ?_
            refine y_dup2 C0 dX5_sew_62 rfl rfl ?_
            refine y_ialdU C0 (((165 + (3 * f)) + 2)) hj rfl (by omega) dX5_sew_63 ?_
            refine y_iconst (v := 1) C0 dX5_sew_64 (by decide) ?_
            refine y_iadd C0 dX5_sew_65 ?_
            refine y_iastU C0 (((165 + (3 * f)) + 2)) hj rfl (by omega) dX5_sew_66 ?_
            refine y_aload_n C0 5 dX5_sew_67 rfl rfl ?_
            refine y_sipush (v := 191) C0 dX5_sew_68 (by decide) ?_
            refine y_dup2 C0 dX5_sew_71 rfl rfl ?_
            refine y_ialdU C0 (191) hj rfl (by omega) dX5_sew_72 ?_
            refine y_iconst (v := 1) C0 dX5_sew_73 (by decide) ?_
            refine y_iadd C0 dX5_sew_74 ?_
            refine y_iastU C0 (191) hj rfl (by omega) dX5_sew_75 ?_
            refine y_aload_n C0 5 dX5_sew_76 rfl rfl ?_
            refine y_iload C0 0 dX5_sew_77 rfl ?_
            refine y_bipush (v := 6) C0 dX5_sew_79 (by decide) ?_
            refine y_iaddN C0 (a := (11 * b)) (b := 6) rfl rfl dX5_sew_81 ?_
            refine y_dup2 C0 dX5_sew_82 rfl rfl ?_
            refine y_ialdU C0 (((11 * b) + 6)) hj rfl (by omega) dX5_sew_83 ?_
            refine y_iconst (v := 1) C0 dX5_sew_84 (by decide) ?_
            refine y_iadd C0 dX5_sew_85 ?_
            refine y_iastU C0 (((11 * b) + 6)) hj rfl (by omega) dX5_sew_86 ?_
            refine y_aload_n C0 5 dX5_sew_87 rfl rfl ?_
            refine y_iload C0 0 dX5_sew_88 rfl ?_
            refine y_bipush (v := 6) C0 dX5_sew_90 (by decide) ?_
            refine y_iaddN C0 (a := (11 * b)) (b := 6) rfl rfl dX5_sew_92 ?_
            refine y_ialdU C0 (((11 * b) + 6)) hj rfl (by omega) dX5_sew_93 ?_
            refine y_aload_n C0 5 dX5_sew_94 rfl rfl ?_
            refine y_iload C0 0 dX5_sew_95 rfl ?_
            refine y_aload_n C0 5 dX5_sew_97 rfl rfl ?_
            refine y_iload C0 0 dX5_sew_98 rfl ?_
            refine y_iconst (v := 5) C0 dX5_sew_100 (by decide) ?_
            refine y_iaddN C0 (a := (11 * b)) (b := 5) rfl rfl dX5_sew_101 ?_
            refine y_ialdU C0 (((11 * b) + 5)) hj rfl (by omega) dX5_sew_102 ?_
            refine y_callS (As := [_, _, _]) (rest := _) (n := 3) C0 (mX5_stitches l D cy adr _ _ hj _ ((11 * b)) _ (by omega)) gX5_sew_X5_stitches rfl rfl rfl (by decide +kernel) ⟨by decide, by decide⟩ rfl rfl (Nat.le_of_ble_eq_true rfl) dX5_sew_103 ⟨by decide, by decide⟩ ?_
            refine y_icmp_ge C0 112 dX5_sew_106 (by decide) (fun c_106 => ?_) (fun c_106 => ?_)
            · refine y_aload_n C0 5 dX5_sew_112 rfl rfl ?_
              refine y_iload C0 0 dX5_sew_113 rfl ?_
              refine y_bipush (v := 6) C0 dX5_sew_115 (by decide) ?_
              refine y_iaddN C0 (a := (11 * b)) (b := 6) rfl rfl dX5_sew_117 ?_
              refine y_iconst (v := 0) C0 dX5_sew_118 (by decide) ?_
              refine y_iastU C0 (((11 * b) + 6)) hj rfl (by omega) dX5_sew_119 ?_
              refine y_aload_n C0 5 dX5_sew_120 rfl rfl ?_
              refine y_iload C0 0 dX5_sew_121 rfl ?_
              refine y_iconst (v := 5) C0 dX5_sew_123 (by decide) ?_
              refine y_iaddN C0 (a := (11 * b)) (b := 5) rfl rfl dX5_sew_124 ?_
              refine y_dup2 C0 dX5_sew_125 rfl rfl ?_
              refine y_ialdU C0 (((11 * b) + 5)) hj rfl (by omega) dX5_sew_126 ?_
              refine y_iconst (v := 1) C0 dX5_sew_127 (by decide) ?_
              refine y_iadd C0 dX5_sew_128 ?_
              refine y_iastU C0 (((11 * b) + 5)) hj rfl (by omega) dX5_sew_129 ?_
              refine y_iload C0 1 dX5_sew_130 rfl ?_
              refine y_bipush (v := 10) C0 dX5_sew_132 (by decide) ?_
              refine y_icmp_lt C0 157 dX5_sew_134 (by decide) (fun c_134 => ?_) (fun c_134 => ?_)
              · refine y_aload_n C0 5 dX5_sew_157 rfl rfl ?_
                refine y_iload C0 0 dX5_sew_158 rfl ?_
                refine y_iconst (v := 5) C0 dX5_sew_160 (by decide) ?_
                refine y_iaddN C0 (a := (11 * b)) (b := 5) rfl rfl dX5_sew_161 ?_
                refine y_ialdU C0 (((11 * b) + 5)) hj rfl (by omega) dX5_sew_162 ?_
                refine y_aload_n C0 5 dX5_sew_163 rfl rfl ?_
                refine y_iload C0 0 dX5_sew_164 rfl ?_
                refine y_ialdU C0 ((11 * b)) hj rfl (by omega) dX5_sew_166 ?_
                refine y_icmp_ge C0 173 dX5_sew_167 (by decide) (fun c_167 => ?_) (fun c_167 => ?_)
                · refine y_aload_n C0 5 dX5_sew_173 rfl rfl ?_
                  refine y_iload C0 0 dX5_sew_174 rfl ?_
                  refine y_iconst (v := 3) C0 dX5_sew_176 (by decide) ?_
                  refine y_iaddN C0 (a := (11 * b)) (b := 3) rfl rfl dX5_sew_177 ?_
                  refine y_iconst (v := 2) C0 dX5_sew_178 (by decide) ?_
                  refine y_iastU C0 (((11 * b) + 3)) hj rfl (by omega) dX5_sew_179 ?_
                  refine y_aload_n C0 5 dX5_sew_180 rfl rfl ?_
                  refine y_iload C0 0 dX5_sew_181 rfl ?_
                  refine y_iconst (v := 4) C0 dX5_sew_183 (by decide) ?_
                  refine y_iaddN C0 (a := (11 * b)) (b := 4) rfl rfl dX5_sew_184 ?_
                  refine y_iconst (v := (-1)) C0 dX5_sew_185 (by decide) ?_
                  refine y_iastU C0 (((11 * b) + 4)) hj rfl (by omega) dX5_sew_186 ?_
                  refine y_aload_n C0 5 dX5_sew_187 rfl rfl ?_
                  refine y_iload C0 0 dX5_sew_188 rfl ?_
                  refine y_bipush (v := 8) C0 dX5_sew_190 (by decide) ?_
                  refine y_iaddN C0 (a := (11 * b)) (b := 8) rfl rfl dX5_sew_192 ?_
                  refine y_iconst (v := 2) C0 dX5_sew_193 (by decide) ?_
                  refine y_aload_n C0 5 dX5_sew_194 rfl rfl ?_
                  refine y_iload C0 0 dX5_sew_195 rfl ?_
                  refine y_callS (As := [_, _]) (rest := _) (n := 2) C0 (mX5_thick l D cy adr _ _ hj _ ((11 * b)) (by omega)) gX5_sew_X5_thick rfl rfl rfl (by decide +kernel) ⟨by decide, by decide⟩ rfl rfl (Nat.le_of_ble_eq_true rfl) dX5_sew_197 ⟨by decide, by decide⟩ ?_
                  refine y_bipush (v := 8) C0 dX5_sew_200 (by decide) ?_
                  refine y_idiv C0 dX5_sew_202 (by decide) ?_
                  refine y_iadd C0 dX5_sew_203 ?_
                  refine y_iastU C0 (((11 * b) + 8)) hj rfl (by omega) dX5_sew_204 ?_
                  refine y_aload_n C0 5 dX5_sew_205 rfl rfl ?_
                  refine y_iload_n C0 3 dX5_sew_206 rfl rfl ?_
                  refine y_iconst (v := 1) C0 dX5_sew_207 (by decide) ?_
                  refine y_iaddN C0 (a := (165 + (3 * f))) (b := 1) rfl rfl dX5_sew_208 ?_
                  refine y_iconst (v := (-1)) C0 dX5_sew_209 (by decide) ?_
                  refine y_iastU C0 (((165 + (3 * f)) + 1)) hj rfl (by omega) dX5_sew_210 ?_
                  refine y_iinc (v := nI (i + 1 + 1)) C0 1 [(4, _), (5, _), (3, _), (2, _), (1, _), (0, _)] dX5_sew_211 rfl (yinc_ok rfl rfl) (by decide) rfl ?_
                  refine y_goto C0 17 dX5_sew_214 (by decide) ?_
                  refine y_sub [0, 2, 3, 4, 5] [(4, _), (3, _), (2, _), (1, _), (0, _)] rfl ?_
                  exact y_eq (congrArg (va_up M j) ((rSew_go c_28 c_36 eb hb).trans ((rStitch_b (Int32.not_lt.mpr c_106) c_134).trans (rS5_b (Int32.not_lt.mpr c_167))))) rfl rfl (ih_17 _ (by omega) (i + 1) rfl hlt)
                · refine y_goto C0 211 dX5_sew_170 (by decide) ?_
                  refine y_iinc (v := nI (i + 1 + 1)) C0 1 [(4, _), (5, _), (3, _), (2, _), (1, _), (0, _)] dX5_sew_211 rfl (yinc_ok rfl rfl) (by decide) rfl ?_
                  refine y_goto C0 17 dX5_sew_214 (by decide) ?_
                  refine y_sub [0, 2, 3, 4, 5] [(4, _), (3, _), (2, _), (1, _), (0, _)] rfl ?_
                  exact y_eq (congrArg (va_up M j) ((rSew_go c_28 c_36 eb hb).trans ((rStitch_b (Int32.not_lt.mpr c_106) c_134).trans (rS5_a (Int32.not_le.mp c_167))))) rfl rfl (ih_17 _ (by omega) (i + 1) rfl hlt)
              · refine y_aload_n C0 5 dX5_sew_137 rfl rfl ?_
                refine y_iload C0 0 dX5_sew_138 rfl ?_
                refine y_bipush (v := 7) C0 dX5_sew_140 (by decide) ?_
                refine y_iaddN C0 (a := (11 * b)) (b := 7) rfl rfl dX5_sew_142 ?_
                refine y_dup2 C0 dX5_sew_143 rfl rfl ?_
                refine y_ialdU C0 (((11 * b) + 7)) hj rfl (by omega) dX5_sew_144 ?_
                refine y_iconst (v := 1) C0 dX5_sew_145 (by decide) ?_
                refine y_iadd C0 dX5_sew_146 ?_
                refine y_iastU C0 (((11 * b) + 7)) hj rfl (by omega) dX5_sew_147 ?_
                refine y_aload_n C0 5 dX5_sew_148 rfl rfl ?_
                refine y_sipush (v := 192) C0 dX5_sew_149 (by decide) ?_
                refine y_dup2 C0 dX5_sew_152 rfl rfl ?_
                refine y_ialdU C0 (192) hj rfl (by omega) dX5_sew_153 ?_
                refine y_iconst (v := 1) C0 dX5_sew_154 (by decide) ?_
                refine y_iadd C0 dX5_sew_155 ?_
                refine y_iastU C0 (192) hj rfl (by omega) dX5_sew_156 ?_
                refine y_aload_n C0 5 dX5_sew_157 rfl rfl ?_
                refine y_iload C0 0 dX5_sew_158 rfl ?_
                refine y_iconst (v := 5) C0 dX5_sew_160 (by decide) ?_
                refine y_iaddN C0 (a := (11 * b)) (b := 5) rfl rfl dX5_sew_161 ?_
                refine y_ialdU C0 (((11 * b) + 5)) hj rfl (by omega) dX5_sew_162 ?_
                refine y_aload_n C0 5 dX5_sew_163 rfl rfl ?_
                refine y_iload C0 0 dX5_sew_164 rfl ?_
                refine y_ialdU C0 ((11 * b)) hj rfl (by omega) dX5_sew_166 ?_
                refine y_icmp_ge C0 173 dX5_sew_167 (by decide) (fun c_167 => ?_) (fun c_167 => ?_)
                · refine y_aload_n C0 5 dX5_sew_173 rfl rfl ?_
                  refine y_iload C0 0 dX5_sew_174 rfl ?_
                  refine y_iconst (v := 3) C0 dX5_sew_176 (by decide) ?_
                  refine y_iaddN C0 (a := (11 * b)) (b := 3) rfl rfl dX5_sew_177 ?_
                  refine y_iconst (v := 2) C0 dX5_sew_178 (by decide) ?_
                  refine y_iastU C0 (((11 * b) + 3)) hj rfl (by omega) dX5_sew_179 ?_
                  refine y_aload_n C0 5 dX5_sew_180 rfl rfl ?_
                  refine y_iload C0 0 dX5_sew_181 rfl ?_
                  refine y_iconst (v := 4) C0 dX5_sew_183 (by decide) ?_
                  refine y_iaddN C0 (a := (11 * b)) (b := 4) rfl rfl dX5_sew_184 ?_
                  refine y_iconst (v := (-1)) C0 dX5_sew_185 (by decide) ?_
                  refine y_iastU C0 (((11 * b) + 4)) hj rfl (by omega) dX5_sew_186 ?_
                  refine y_aload_n C0 5 dX5_sew_187 rfl rfl ?_
                  refine y_iload C0 0 dX5_sew_188 rfl ?_
                  refine y_bipush (v := 8) C0 dX5_sew_190 (by decide) ?_
                  refine y_iaddN C0 (a := (11 * b)) (b := 8) rfl rfl dX5_sew_192 ?_
                  refine y_iconst (v := 2) C0 dX5_sew_193 (by decide) ?_
                  refine y_aload_n C0 5 dX5_sew_194 rfl rfl ?_
                  refine y_iload C0 0 dX5_sew_195 rfl ?_
                  refine y_callS (As := [_, _]) (rest := _) (n := 2) C0 (mX5_thick l D cy adr _ _ hj _ ((11 * b)) (by omega)) gX5_sew_X5_thick rfl rfl rfl (by decide +kernel) ⟨by decide, by decide⟩ rfl rfl (Nat.le_of_ble_eq_true rfl) dX5_sew_197 ⟨by decide, by decide⟩ ?_
                  refine y_bipush (v := 8) C0 dX5_sew_200 (by decide) ?_
                  refine y_idiv C0 dX5_sew_202 (by decide) ?_
                  refine y_iadd C0 dX5_sew_203 ?_
                  refine y_iastU C0 (((11 * b) + 8)) hj rfl (by omega) dX5_sew_204 ?_
                  refine y_aload_n C0 5 dX5_sew_205 rfl rfl ?_
                  refine y_iload_n C0 3 dX5_sew_206 rfl rfl ?_
                  refine y_iconst (v := 1) C0 dX5_sew_207 (by decide) ?_
                  refine y_iaddN C0 (a := (165 + (3 * f))) (b := 1) rfl rfl dX5_sew_208 ?_
                  refine y_iconst (v := (-1)) C0 dX5_sew_209 (by decide) ?_
                  refine y_iastU C0 (((165 + (3 * f)) + 1)) hj rfl (by omega) dX5_sew_210 ?_
                  refine y_iinc (v := nI (i + 1 + 1)) C0 1 [(4, _), (5, _), (3, _), (2, _), (1, _), (0, _)] dX5_sew_211 rfl (yinc_ok rfl rfl) (by decide) rfl ?_
                  refine y_goto C0 17 dX5_sew_214 (by decide) ?_
                  refine y_sub [0, 2, 3, 4, 5] [(4, _), (3, _), (2, _), (1, _), (0, _)] rfl ?_
                  exact y_eq (congrArg (va_up M j) ((rSew_go c_28 c_36 eb hb).trans ((rStitch_c (Int32.not_lt.mpr c_106) c_134).trans (rS5_b (Int32.not_lt.mpr c_167))))) rfl rfl (ih_17 _ (by omega) (i + 1) rfl hlt)
                · refine y_goto C0 211 dX5_sew_170 (by decide) ?_
                  refine y_iinc (v := nI (i + 1 + 1)) C0 1 [(4, _), (5, _), (3, _), (2, _), (1, _), (0, _)] dX5_sew_211 rfl (yinc_ok rfl rfl) (by decide) rfl ?_
                  refine y_goto C0 17 dX5_sew_214 (by decide) ?_
                  refine y_sub [0, 2, 3, 4, 5] [(4, _), (3, _), (2, _), (1, _), (0, _)] rfl ?_
                  exact y_eq (congrArg (va_up M j) ((rSew_go c_28 c_36 eb hb).trans ((rStitch_c (Int32.not_lt.mpr c_106) c_134).trans (rS5_a (Int32.not_le.mp c_167))))) rfl rfl (ih_17 _ (by omega) (i + 1) rfl hlt)
            · refine y_goto C0 211 dX5_sew_109 (by decide) ?_
              refine y_iinc (v := nI (i + 1 + 1)) C0 1 [(4, _), (5, _), (3, _), (2, _), (1, _), (0, _)] dX5_sew_211 rfl (yinc_ok rfl rfl) (by decide) rfl ?_
              refine y_goto C0 17 dX5_sew_214 (by decide) ?_
              refine y_sub [0, 2, 3, 4, 5] [(4, _), (3, _), (2, _), (1, _), (0, _)] rfl ?_
              exact y_eq (congrArg (va_up M j) ((rSew_go c_28 c_36 eb hb).trans (rStitch_a (Int32.not_le.mp c_106)))) rfl rfl (ih_17 _ (by omega) (i + 1) rfl hlt)
  refine y_sub [0, 1, 2, 4, 3] [(4, _), (3, _), (2, _), (1, _), (0, _)] rfl ?_
  exact hl_17 _ 0 rfl (Nat.zero_le _)
abbrev rX5_pass : Room := { frames := 3, cells := 0, slots := 0, locals := 65 }
set_option maxRecDepth 100000 in
set_option maxHeartbeats 4000000 in
theorem mX5_pass (l : Launch) (D : va_G) (cy : Nat → ClassId) (adr : Nat → Nat) (M : yM) (j : Nat) (hj : ykd j = 6) (R : Rw)  (B S : Nat) (hok : mOK R B S) : Ct l yX5_pass wsX5_pass rX5_pass D cy adr [.ref (adr j)] (va_up M j R) (none) (va_up M j (rPass R B S)) 0 0 := by
  refine Ct.mk cX5_pass 2 none RX5 (by decide) rfl rfl (Nat.le_of_ble_eq_true rfl) ?_
  intro K C0
  refine y_eq rfl (show ([(0, .ref (adr j))] : List (Nat × Value)) = lv_args 0 [.ref (adr j)] from rfl) rfl ?_
  have hB := hok.2.1
  have eB := hok.1
  have hokA : mOK (rGild R B) B S := hok.out (mOut_gild hB)
  have hokC : mOK (rBds (rGild R B) B) B S := hokA.out (mOut_bds B hB)
  have hokP : mOK (rPa R B) B S := mOK_pa hok
  refine y_aload_n C0 0 dX5_pass_0 rfl rfl ?_
  refine y_callS (As := [_]) (rest := _) (n := 1) C0 (mX5_gild l D cy adr _ _ hj _ B hB eB) gX5_pass_X5_gild rfl rfl rfl (by decide +kernel) ⟨by decide, by decide⟩ rfl rfl (Nat.le_of_ble_eq_true rfl) dX5_pass_1 ⟨by decide, by decide⟩ ?_
  refine y_iconst (v := 0) C0 dX5_pass_4 (by decide) ?_
  refine y_istore_n C0 [(1, _), (0, _)] dX5_pass_5 rfl (by decide) rfl ?_
  have hl_6 : ∀ (n : Nat) (i : Nat), B - i = n → i ≤ B → Y K l rX5_pass D cy adr 2 0 0 (QT K D cy adr (none) (va_up M j (rPass R B S)) 0 0) (va_up M j (rBds (rGild R B) i)) [] [(1, .int (nI i)), (0, .ref (adr j))] 6 [] := by
    intro n
    induction n using Nat.strongRecOn with
    | _ n ih_6 =>
      intro i hn_6 hi
      refine y_iload_n C0 0 dX5_pass_6 rfl rfl ?_
      refine y_aload_n C0 1 dX5_pass_7 rfl rfl ?_
      refine y_sipush (v := 189) C0 dX5_pass_8 (by decide) ?_
      refine y_ialdU C0 (189) hj rfl (by omega) dX5_pass_11 ?_
      refine y_icmp_ge C0 29 dX5_pass_12 (by decide) (fun c_12 => ?_) (fun c_12 => ?_)
      · rw [(hokA.out (mOut_bds i (by omega))).1] at c_12
        have he := ct_end (N := B) (by omega) hi c_12
        rw [he]
        refine y_iconst (v := 0) C0 dX5_pass_29 (by decide) ?_
        refine y_istore_n C0 [(1, _), (0, _)] dX5_pass_30 rfl (by decide) rfl ?_
        have hl_31 : ∀ (n : Nat) (i : Nat), B - i = n → i ≤ B → Y K l rX5_pass D cy adr 2 0 0 (QT K D cy adr (none) (va_up M j (rPass R B S)) 0 0) (va_up M j (rDrs (rBds (rGild R B) B) i)) [] [(1, .int (nI i)), (0, .ref (adr j))] 31 [] := by
          intro n
          induction n using Nat.strongRecOn with
          | _ n ih_31 =>
            intro i hn_31 hi
            refine y_iload_n C0 0 dX5_pass_31 rfl rfl ?_
            refine y_aload_n C0 1 dX5_pass_32 rfl rfl ?_
            refine y_sipush (v := 189) C0 dX5_pass_33 (by decide) ?_
            refine y_ialdU C0 (189) hj rfl (by omega) dX5_pass_36 ?_
            refine y_icmp_ge C0 54 dX5_pass_37 (by decide) (fun c_37 => ?_) (fun c_37 => ?_)
            · rw [(hokC.out (mOut_drs i (by omega))).1] at c_37
              have he := ct_end (N := B) (by omega) hi c_37
              rw [he]
              refine y_iconst (v := 0) C0 dX5_pass_54 (by decide) ?_
              refine y_istore_n C0 [(1, _), (0, _)] dX5_pass_55 rfl (by decide) rfl ?_
              have hl_56 : ∀ (n : Nat) (i : Nat), 3 - i = n → i ≤ 3 → Y K l rX5_pass D cy adr 2 0 0 (QT K D cy adr (none) (va_up M j (rPass R B S)) 0 0) (va_up M j (rSws (rPa R B) S i)) [] [(1, .int (nI i)), (0, .ref (adr j))] 56 [] := by
                intro n
                induction n using Nat.strongRecOn with
                | _ n ih_56 =>
                  intro i hn_56 hi
                  refine y_iload_n C0 0 dX5_pass_56 rfl rfl ?_
                  refine y_iconst (v := 3) C0 dX5_pass_57 (by decide) ?_
                  refine y_icmp_ge C0 72 dX5_pass_58 (by decide) (fun c_58 => ?_) (fun c_58 => ?_)
                  · have he := ct_end (N := 3) (by decide) hi c_58
                    rw [he]
                    refine y_iconst (v := 0) C0 dX5_pass_72 (by decide) ?_
                    refine y_istore_n C0 [(1, _), (0, _)] dX5_pass_73 rfl (by decide) rfl ?_
                    have hl_74 : ∀ (n : Nat) (i : Nat), 3 - i = n → i ≤ 3 → Y K l rX5_pass D cy adr 2 0 0 (QT K D cy adr (none) (va_up M j (rPass R B S)) 0 0) (va_up M j (rMts (rSws (rPa R B) S 3) B i)) [] [(1, .int (nI i)), (0, .ref (adr j))] 74 [] := by
                      intro n
                      induction n using Nat.strongRecOn with
                      | _ n ih_74 =>
                        intro i hn_74 hi
                        refine y_iload_n C0 0 dX5_pass_74 rfl rfl ?_
                        refine y_iconst (v := 3) C0 dX5_pass_75 (by decide) ?_
                        refine y_icmp_ge C0 90 dX5_pass_76 (by decide) (fun c_76 => ?_) (fun c_76 => ?_)
                        · have he := ct_end (N := 3) (by decide) hi c_76
                          rw [he]
                          refine y_aload_n C0 1 dX5_pass_90 rfl rfl ?_
                          refine y_sipush (v := 188) C0 dX5_pass_91 (by decide) ?_
                          refine y_dup2 C0 dX5_pass_94 rfl rfl ?_
                          refine y_ialdU C0 (188) hj rfl (by omega) dX5_pass_95 ?_
                          refine y_iconst (v := 1) C0 dX5_pass_96 (by decide) ?_
                          refine y_iadd C0 dX5_pass_97 ?_
                          refine y_iastU C0 (188) hj rfl (by omega) dX5_pass_98 ?_
                          exact y_vret C0 dX5_pass_99 rfl rfl
                        · have hli := ct_lt (N := 3) (by decide) hi c_76
                          have eB9 := (mOK_mts (mOK_sws hokP 3 (Nat.le_refl _)) i (by omega)).1
                          refine y_aload_n C0 1 dX5_pass_79 rfl rfl ?_
                          refine y_iload_n C0 0 dX5_pass_80 rfl rfl ?_
                          refine y_callS (As := [_, _]) (rest := _) (n := 2) C0 (mX5_mount l D cy adr _ _ hj _ i hli B hB eB9) gX5_pass_X5_mount rfl rfl rfl (by decide +kernel) ⟨by decide, by decide⟩ rfl rfl (Nat.le_of_ble_eq_true rfl) dX5_pass_81 ⟨by decide, by decide⟩ ?_
                          refine y_iinc (v := nI (i + 1)) C0 0 [(1, _), (0, _)] dX5_pass_84 rfl (yinc_ok rfl rfl) (by decide) rfl ?_
                          refine y_goto C0 74 dX5_pass_87 (by decide) ?_
                          refine y_sub [0, 1] [(1, _), (0, _)] rfl ?_
                          exact y_eq rfl rfl rfl (ih_74 _ (by omega) (i + 1) rfl hli)
                    refine y_sub [0, 1] [(1, _), (0, _)] rfl ?_
                    exact hl_74 _ 0 rfl (Nat.zero_le _)
                  · have hli := ct_lt (N := 3) (by decide) hi c_58
                    refine y_aload_n C0 1 dX5_pass_61 rfl rfl ?_
                    refine y_iload_n C0 0 dX5_pass_62 rfl rfl ?_
                    refine y_callS (As := [_, _]) (rest := _) (n := 2) C0 (mX5_sew l D cy adr _ _ hj _ (i) hli _ S (mOK_sws hokP i (by omega))) gX5_pass_X5_sew rfl rfl rfl (by decide +kernel) ⟨by decide, by decide⟩ rfl rfl (Nat.le_of_ble_eq_true rfl) dX5_pass_63 ⟨by decide, by decide⟩ ?_
                    refine y_iinc (v := nI (i + 1)) C0 0 [(1, _), (0, _)] dX5_pass_66 rfl (yinc_ok rfl rfl) (by decide) rfl ?_
                    refine y_goto C0 56 dX5_pass_69 (by decide) ?_
                    refine y_sub [0, 1] [(1, _), (0, _)] rfl ?_
                    exact y_eq rfl rfl rfl (ih_56 _ (by omega) (i + 1) rfl hli)
              refine y_sub [0, 1] [(1, _), (0, _)] rfl ?_
              exact hl_56 _ 0 rfl (Nat.zero_le _)
            · rw [(hokC.out (mOut_drs i (by omega))).1] at c_37
              have hli := ct_lt (N := B) (by omega) hi c_37
              refine y_aload_n C0 1 dX5_pass_40 rfl rfl ?_
              refine y_bipush (v := 11) C0 dX5_pass_41 (by decide) ?_
              refine y_iload_n C0 0 dX5_pass_43 rfl rfl ?_
              refine y_imulN C0 (a := 11) (b := i) rfl rfl dX5_pass_44 ?_
              refine y_callS (As := [_, _]) (rest := _) (n := 2) C0 (mX5_dry l D cy adr _ _ hj _ ((11 * i)) (by omega)) gX5_pass_X5_dry rfl rfl rfl (by decide +kernel) ⟨by decide, by decide⟩ rfl rfl (Nat.le_of_ble_eq_true rfl) dX5_pass_45 ⟨by decide, by decide⟩ ?_
              refine y_iinc (v := nI (i + 1)) C0 0 [(1, _), (0, _)] dX5_pass_48 rfl (yinc_ok rfl rfl) (by decide) rfl ?_
              refine y_goto C0 31 dX5_pass_51 (by decide) ?_
              refine y_sub [0, 1] [(1, _), (0, _)] rfl ?_
              exact y_eq rfl rfl rfl (ih_31 _ (by omega) (i + 1) rfl hli)
        refine y_sub [0, 1] [(1, _), (0, _)] rfl ?_
        exact hl_31 _ 0 rfl (Nat.zero_le _)
      · rw [(hokA.out (mOut_bds i (by omega))).1] at c_12
        have hli := ct_lt (N := B) (by omega) hi c_12
        refine y_aload_n C0 1 dX5_pass_15 rfl rfl ?_
        refine y_bipush (v := 11) C0 dX5_pass_16 (by decide) ?_
        refine y_iload_n C0 0 dX5_pass_18 rfl rfl ?_
        refine y_imulN C0 (a := 11) (b := i) rfl rfl dX5_pass_19 ?_
        refine y_callS (As := [_, _]) (rest := _) (n := 2) C0 (mX5_board l D cy adr _ _ hj _ ((11 * i)) (by omega)) gX5_pass_X5_board rfl rfl rfl (by decide +kernel) ⟨by decide, by decide⟩ rfl rfl (Nat.le_of_ble_eq_true rfl) dX5_pass_20 ⟨by decide, by decide⟩ ?_
        refine y_iinc (v := nI (i + 1)) C0 0 [(1, _), (0, _)] dX5_pass_23 rfl (yinc_ok rfl rfl) (by decide) rfl ?_
        refine y_goto C0 6 dX5_pass_26 (by decide) ?_
        refine y_sub [0, 1] [(1, _), (0, _)] rfl ?_
        exact y_eq rfl rfl rfl (ih_6 _ (by omega) (i + 1) rfl hli)
  refine y_sub [0, 1] [(1, _), (0, _)] rfl ?_
  exact hl_6 _ 0 rfl (Nat.zero_le _)
abbrev rX5_passAll : Room := { frames := 4, cells := 0, slots := 0, locals := 86 }
set_option maxRecDepth 100000 in
set_option maxHeartbeats 4000000 in
theorem mX5_passAll (l : Launch) (D : va_G) (cy : Nat → ClassId) (adr : Nat → Nat) (M : yM) (j : Nat) (hj : ykd j = 6) (R : Rw) (h : Int32) (B S : Nat) (hok : mOK R B S) : Ct l yX5_passAll wsX5_passAll rX5_passAll D cy adr [.ref (adr j), .int h] (va_up M j R) (none) (va_up M j (rHours R B S h.toNatClampNeg)) 0 0 := by
  refine Ct.mk cX5_passAll 3 none RX5 (by decide) rfl rfl (Nat.le_of_ble_eq_true rfl) ?_
  intro K C0
  refine y_eq rfl (show ([(0, .ref (adr j)), (1, .int h)] : List (Nat × Value)) = lv_args 0 [.ref (adr j), .int h] from rfl) rfl ?_
  refine y_iconst (v := 0) C0 dX5_passAll_0 (by decide) ?_
  refine y_istore_n C0 [(2, _), (0, _), (1, _)] dX5_passAll_1 rfl (by decide) rfl ?_
  have hl_2 : ∀ (n : Nat) (i : Nat), h.toNatClampNeg - i = n → i ≤ h.toNatClampNeg → Y K l rX5_passAll D cy adr 3 0 0 (QT K D cy adr (none) (va_up M j (rHours R B S h.toNatClampNeg)) 0 0) (va_up M j (rHours R B S i)) [] [(2, .int (nI i)), (1, .int h), (0, .ref (adr j))] 2 [] := by
    intro n
    induction n using Nat.strongRecOn with
    | _ n ih_2 =>
      intro i hn_2 hi
      refine y_iload_n C0 0 dX5_passAll_2 rfl rfl ?_
      refine y_iload_n C0 1 dX5_passAll_3 rfl rfl ?_
      refine y_icmp_ge C0 17 dX5_passAll_4 (by decide) (fun c_4 => ?_) (fun c_4 => ?_)
      · have he := cl_end hi c_4
        rw [he]
        exact y_vret C0 dX5_passAll_17 rfl rfl
      · have hlt := cl_lt hi c_4
        have hok9 := mOK_hours hok i
        refine y_aload_n C0 2 dX5_passAll_7 rfl rfl ?_
        refine y_callS (As := [_]) (rest := _) (n := 1) C0 (mX5_pass l D cy adr _ _ hj _ B S hok9) gX5_passAll_X5_pass rfl rfl rfl (by decide +kernel) ⟨by decide, by decide⟩ rfl rfl (Nat.le_of_ble_eq_true rfl) dX5_passAll_8 ⟨by decide, by decide⟩ ?_
        refine y_iinc (v := nI (i + 1)) C0 0 [(2, _), (1, _), (0, _)] dX5_passAll_11 rfl (yinc_ok rfl rfl) (by decide) rfl ?_
        refine y_goto C0 2 dX5_passAll_14 (by decide) ?_
        refine y_sub [0, 1, 2] [(2, _), (1, _), (0, _)] rfl ?_
        exact y_eq rfl rfl rfl (ih_2 _ (by omega) (i + 1) rfl hlt)
  refine y_sub [0, 2, 1] [(2, _), (1, _), (0, _)] rfl ?_
  exact hl_2 _ 0 rfl (Nat.zero_le _)
abbrev rX5_lookAhead : Room := { frames := 1, cells := 0, slots := 0, locals := 26 }
set_option maxRecDepth 100000 in
set_option maxHeartbeats 4000000 in
theorem mX5_lookAhead (l : Launch) (D : va_G) (cy : Nat → ClassId) (adr : Nat → Nat) (M : yM) (R : Rw)   : Ct l yX5_lookAhead wsX5_lookAhead rX5_lookAhead D cy adr [.ref (adr 55)] (va_up M 56 R) (none) (va_up (va_up M 56 R) 57 R) 0 0 := by
  refine Ct.mk cX5_lookAhead 1 none RX5 (by decide) rfl rfl (Nat.le_of_ble_eq_true rfl) ?_
  intro K C0
  refine y_eq rfl (show ([(0, .ref (adr 55))] : List (Nat × Value)) = lv_args 0 [.ref (adr 55)] from rfl) rfl ?_
  have hin5 : ∀ w ∈ u_ws RX5 TX5 3, w ∈ wsX5_lookAhead := by decide +kernel
  refine y_aload_n C0 0 dX5_lookAhead_0 rfl rfl ?_
  refine y_get C0 5 rfl rfl (by decide) hin5 1 ykd_55 (by decide) (by decide +kernel) yv5_now dX5_lookAhead_1 ?_
  refine y_iconst (v := 0) C0 dX5_lookAhead_4 (by decide) ?_
  refine y_aload_n C0 0 dX5_lookAhead_5 rfl rfl ?_
  refine y_get C0 5 rfl rfl (by decide) hin5 2 ykd_55 (by decide) (by decide +kernel) yv5_ahead dX5_lookAhead_6 ?_
  refine y_iconst (v := 0) C0 dX5_lookAhead_9 (by decide) ?_
  refine y_aload_n C0 0 dX5_lookAhead_10 rfl rfl ?_
  refine y_get C0 5 rfl rfl (by decide) hin5 1 ykd_55 (by decide) (by decide +kernel) yv5_now dX5_lookAhead_11 ?_
  refine y_alen6 C0 ykd_56 dX5_lookAhead_14 ?_
  refine y_cpy C0 (by decide +kernel) (by decide +kernel) (by decide +kernel) (by decide +kernel) (by decide) (Nat.le_of_ble_eq_true rfl) dX5_lookAhead_15 ?_
  exact y_vret C0 dX5_lookAhead_18 rfl rfl
end YMG
