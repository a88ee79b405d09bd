section YMG
abbrev rX5_order : Room := { frames := 1, cells := 0, slots := 0, locals := 22 }
set_option maxRecDepth 100000 in
set_option maxHeartbeats 4000000 in
theorem mX5_order (l : Launch) (D : va_G) (cy : Nat → ClassId) (adr : Nat → Nat) (M : yM) (R : Rw) (s : Int32) (h : Int32) (e : Int32) (B : Nat) (hB : B ≤ 15) (eB : R 189 = nI B) : Ct l yX5_order wsX5_order rX5_order D cy adr [.ref (adr 55), .int s, .int h, .int e] (va_up M 56 R) (some (.int (mr (ordC B s h e) (mOrd R B s h e 189 - 1)))) (mo2 (ordC B s h e) (va_up (TN M 0) 56 (mOrd R B s h e)) (va_up (TN M (ordC B s h e)) 56 R)) 0 0 := by
  refine Ct.mk cX5_order 5 (some .int) RX5 (by decide) rfl rfl (Nat.le_of_ble_eq_true rfl) ?_
  intro K C0
  refine y_eq rfl (show ([(0, .ref (adr 55)), (1, .int s), (2, .int h), (3, .int e)] : List (Nat × Value)) = lv_args 0 [.ref (adr 55), .int s, .int h, .int e] from rfl) rfl ?_
  have hin5 : ∀ w ∈ u_ws RX5 TX5 3, w ∈ wsX5_order := by decide +kernel
  refine y_aload_n C0 0 dX5_order_0 rfl rfl ?_
  refine y_iconst (v := 0) C0 dX5_order_1 (by decide) ?_
  refine y_thU C0 hin5 (by decide +kernel) (by decide) dX5_order_2 ?_
  refine y_iload_n C0 1 dX5_order_5 rfl rfl ?_
  refine y_iconst (v := 1) C0 dX5_order_6 (by decide) ?_
  refine y_bipush (v := 24) C0 dX5_order_7 (by decide) ?_
  refine y_callS (As := [_, _, _]) (rest := _) (n := 3) C0 (mX5_isIn l D cy adr _ _ _ _) gX5_order_X5_isIn rfl rfl rfl (by decide +kernel) ⟨by decide, by decide⟩ rfl rfl (Nat.le_of_ble_eq_true rfl) dX5_order_9 ⟨by decide, by decide⟩ ?_
  refine y_if_eq C0 34 dX5_order_12 (by decide) (fun c_12 => ?_) (fun c_12 => ?_)
  · refine y_aload_n C0 0 dX5_order_34 rfl rfl ?_
    refine y_iconst (v := 1) C0 dX5_order_35 (by decide) ?_
    refine y_callV (As := [_]) (rest := _) (n := 1) C0 (mX5_no l D cy adr _ _ _) 5 rfl (by decide) ykd_55 gX5_order_X5_no rfl rfl rfl (by decide +kernel) ⟨by decide, by decide⟩ rfl rfl (Nat.le_of_ble_eq_true rfl) dX5_order_36 ⟨by decide, by decide⟩ ?_
    have hc9 : ordC B s h e = 1 := by simp [ordC, c_12]
    exact y_iret C0 dX5_order_39 (mr_n hc9 (by decide)) (mo2_n hc9 (by decide))
  · refine y_iload_n C0 2 dX5_order_15 rfl rfl ?_
    refine y_iconst (v := 1) C0 dX5_order_16 (by decide) ?_
    refine y_bipush (v := 8) C0 dX5_order_17 (by decide) ?_
    refine y_callS (As := [_, _, _]) (rest := _) (n := 3) C0 (mX5_isIn l D cy adr _ _ _ _) gX5_order_X5_isIn rfl rfl rfl (by decide +kernel) ⟨by decide, by decide⟩ rfl rfl (Nat.le_of_ble_eq_true rfl) dX5_order_19 ⟨by decide, by decide⟩ ?_
    refine y_if_eq C0 34 dX5_order_22 (by decide) (fun c_22 => ?_) (fun c_22 => ?_)
    · refine y_aload_n C0 0 dX5_order_34 rfl rfl ?_
      refine y_iconst (v := 1) C0 dX5_order_35 (by decide) ?_
      refine y_callV (As := [_]) (rest := _) (n := 1) C0 (mX5_no l D cy adr _ _ _) 5 rfl (by decide) ykd_55 gX5_order_X5_no rfl rfl rfl (by decide +kernel) ⟨by decide, by decide⟩ rfl rfl (Nat.le_of_ble_eq_true rfl) dX5_order_36 ⟨by decide, by decide⟩ ?_
      have hc9 : ordC B s h e = 1 := by simp [ordC, c_12, c_22]
      exact y_iret C0 dX5_order_39 (mr_n hc9 (by decide)) (mo2_n hc9 (by decide))
    · refine y_iload_n C0 3 dX5_order_25 rfl rfl ?_
      refine y_iconst (v := 0) C0 dX5_order_26 (by decide) ?_
      refine y_iconst (v := 3) C0 dX5_order_27 (by decide) ?_
      refine y_callS (As := [_, _, _]) (rest := _) (n := 3) C0 (mX5_isIn l D cy adr _ _ _ _) gX5_order_X5_isIn rfl rfl rfl (by decide +kernel) ⟨by decide, by decide⟩ rfl rfl (Nat.le_of_ble_eq_true rfl) dX5_order_28 ⟨by decide, by decide⟩ ?_
      refine y_if_ne C0 40 dX5_order_31 (by decide) (fun c_31 => ?_) (fun c_31 => ?_)
      · refine y_aload_n C0 0 dX5_order_40 rfl rfl ?_
        refine y_get C0 5 rfl rfl (by decide) hin5 1 ykd_55 (by decide) (by decide +kernel) yv5_now dX5_order_41 ?_
        refine y_sipush (v := 189) C0 dX5_order_44 (by decide) ?_
        refine y_ialdU C0 (189) ykd_56 rfl (by omega) dX5_order_47 ?_
        refine y_top eB ?_
        refine y_bipush (v := 15) C0 dX5_order_48 (by decide) ?_
        refine y_icmp_ne C0 59 dX5_order_50 (by decide) (fun c_50 => ?_) (fun c_50 => ?_)
        · have hB9 : B < 15 := by
            have h9 : B ≠ 15 := fun q => c_50 (by rw [q]; rfl)
            omega
          refine y_bipush (v := 11) C0 dX5_order_59 (by decide) ?_
          refine y_aload_n C0 0 dX5_order_61 rfl rfl ?_
          refine y_get C0 5 rfl rfl (by decide) hin5 1 ykd_55 (by decide) (by decide +kernel) yv5_now dX5_order_62 ?_
          refine y_sipush (v := 189) C0 dX5_order_65 (by decide) ?_
          refine y_ialdU C0 (189) ykd_56 rfl (by omega) dX5_order_68 ?_
          refine y_top eB ?_
          refine y_imulN C0 (a := 11) (b := B) rfl rfl dX5_order_69 ?_
          refine y_istore C0 [(4, _), (0, _), (1, _), (2, _), (3, _)] dX5_order_70 (by decide) rfl ?_
          refine y_aload_n C0 1 dX5_order_72 rfl rfl ?_
          refine y_get C0 5 rfl rfl (by decide) hin5 1 ykd_55 (by decide) (by decide +kernel) yv5_now dX5_order_73 ?_
          refine y_iload C0 0 dX5_order_76 rfl ?_
          refine y_iload_n C0 2 dX5_order_78 rfl rfl ?_
          refine y_iastU C0 ((11 * B)) ykd_56 rfl (by omega) dX5_order_79 ?_
          refine y_aload_n C0 1 dX5_order_80 rfl rfl ?_
          refine y_get C0 5 rfl rfl (by decide) hin5 1 ykd_55 (by decide) (by decide +kernel) yv5_now dX5_order_81 ?_
          refine y_iload C0 0 dX5_order_84 rfl ?_
          refine y_iconst (v := 1) C0 dX5_order_86 (by decide) ?_
          refine y_iaddN C0 (a := (11 * B)) (b := 1) rfl rfl dX5_order_87 ?_
          refine y_iload_n C0 3 dX5_order_88 rfl rfl ?_
          refine y_iastU C0 (((11 * B) + 1)) ykd_56 rfl (by omega) dX5_order_89 ?_
          refine y_aload_n C0 1 dX5_order_90 rfl rfl ?_
          refine y_get C0 5 rfl rfl (by decide) hin5 1 ykd_55 (by decide) (by decide +kernel) yv5_now dX5_order_91 ?_
          refine y_iload C0 0 dX5_order_94 rfl ?_
          refine y_iconst (v := 2) C0 dX5_order_96 (by decide) ?_
          refine y_iaddN C0 (a := (11 * B)) (b := 2) rfl rfl dX5_order_97 ?_
          refine y_iload_n C0 4 dX5_order_98 rfl rfl ?_
          refine y_iastU C0 (((11 * B) + 2)) ykd_56 rfl (by omega) dX5_order_99 ?_
          refine y_aload_n C0 1 dX5_order_100 rfl rfl ?_
          refine y_get C0 5 rfl rfl (by decide) hin5 1 ykd_55 (by decide) (by decide +kernel) yv5_now dX5_order_101 ?_
          refine y_iload C0 0 dX5_order_104 rfl ?_
          refine y_iconst (v := 4) C0 dX5_order_106 (by decide) ?_
          refine y_iaddN C0 (a := (11 * B)) (b := 4) rfl rfl dX5_order_107 ?_
          refine y_iconst (v := (-1)) C0 dX5_order_108 (by decide) ?_
          refine y_iastU C0 (((11 * B) + 4)) ykd_56 rfl (by omega) dX5_order_109 ?_
          refine y_aload_n C0 1 dX5_order_110 rfl rfl ?_
          refine y_get C0 5 rfl rfl (by decide) hin5 1 ykd_55 (by decide) (by decide +kernel) yv5_now dX5_order_111 ?_
          refine y_sipush (v := 189) C0 dX5_order_114 (by decide) ?_
          refine y_dup2 C0 dX5_order_117 rfl rfl ?_
          refine y_ialdU C0 (189) ykd_56 rfl (by omega) dX5_order_118 ?_
          refine y_iconst (v := 1) C0 dX5_order_119 (by decide) ?_
          refine y_iadd C0 dX5_order_120 ?_
          refine y_iastU C0 (189) ykd_56 rfl (by omega) dX5_order_121 ?_
          refine y_aload_n C0 1 dX5_order_122 rfl rfl ?_
          refine y_get C0 5 rfl rfl (by decide) hin5 1 ykd_55 (by decide) (by decide +kernel) yv5_now dX5_order_123 ?_
          refine y_sipush (v := 189) C0 dX5_order_126 (by decide) ?_
          refine y_ialdU C0 (189) ykd_56 rfl (by omega) dX5_order_129 ?_
          refine y_iconst (v := 1) C0 dX5_order_130 (by decide) ?_
          refine y_isub C0 dX5_order_131 ?_
          have hc9 : ordC B s h e = 0 := by simp [ordC, c_12, c_22, c_31, c_50]
          exact y_iret C0 dX5_order_132 (mr_0 hc9 rfl) (mo2_0 hc9 rfl)
        · refine y_aload_n C0 0 dX5_order_53 rfl rfl ?_
          refine y_iconst (v := 2) C0 dX5_order_54 (by decide) ?_
          refine y_callV (As := [_]) (rest := _) (n := 1) C0 (mX5_no l D cy adr _ _ _) 5 rfl (by decide) ykd_55 gX5_order_X5_no rfl rfl rfl (by decide +kernel) ⟨by decide, by decide⟩ rfl rfl (Nat.le_of_ble_eq_true rfl) dX5_order_55 ⟨by decide, by decide⟩ ?_
          have hc9 : ordC B s h e = 2 := by simp [ordC, c_12, c_22, c_31, c_50]
          exact y_iret C0 dX5_order_58 (mr_n hc9 (by decide)) (mo2_n hc9 (by decide))
      · refine y_aload_n C0 0 dX5_order_34 rfl rfl ?_
        refine y_iconst (v := 1) C0 dX5_order_35 (by decide) ?_
        refine y_callV (As := [_]) (rest := _) (n := 1) C0 (mX5_no l D cy adr _ _ _) 5 rfl (by decide) ykd_55 gX5_order_X5_no rfl rfl rfl (by decide +kernel) ⟨by decide, by decide⟩ rfl rfl (Nat.le_of_ble_eq_true rfl) dX5_order_36 ⟨by decide, by decide⟩ ?_
        have hc9 : ordC B s h e = 1 := by simp [ordC, c_12, c_22, c_31]
        exact y_iret C0 dX5_order_39 (mr_n hc9 (by decide)) (mo2_n hc9 (by decide))
abbrev rX5_unpick : Room := { frames := 3, cells := 1, slots := 5, locals := 67 }
set_option maxRecDepth 100000 in
set_option maxHeartbeats 4000000 in
theorem mX5_unpick (l : Launch) (D : va_G) (cy : Nat → ClassId) (adr : Nat → Nat) (M : yM) (R : Rw) (x : Int32) (B : Nat) (hB : B ≤ 15) (eB : R 189 = nI B) (hfr : ∀ b, b < B → R (11 * b + 3) = 1 → cN (R (11 * b + 4)) < 3 ∧ R (11 * b + 4) = nI (cN (R (11 * b + 4)))) : Ct l yX5_unpick wsX5_unpick rX5_unpick D cy adr [.ref (adr 55), .int x] (va_up M 56 R) (some (.int (mr (unpC R B x) (rIn R (11 * cN x))))) (mo2 (unpC R B x) (va_up (TN M 0) 56 (rUn (rUp2 R (cN x)) (cN x) 5)) (va_up (TN M (unpC R B x)) 56 R)) 1 5 := by
  refine Ct.mk cX5_unpick 9 (some .int) RX5 (by decide) rfl rfl (Nat.le_of_ble_eq_true rfl) ?_
  intro K C0
  refine y_eq rfl (show ([(0, .ref (adr 55)), (1, .int x)] : List (Nat × Value)) = lv_args 0 [.ref (adr 55), .int x] from rfl) rfl ?_
  have hin5 : ∀ w ∈ u_ws RX5 TX5 3, w ∈ wsX5_unpick := by decide +kernel
  refine y_aload_n C0 0 dX5_unpick_0 rfl rfl ?_
  refine y_iconst (v := 0) C0 dX5_unpick_1 (by decide) ?_
  refine y_thU C0 hin5 (by decide +kernel) (by decide) dX5_unpick_2 ?_
  refine y_aload_n C0 0 dX5_unpick_5 rfl rfl ?_
  refine y_iload_n C0 1 dX5_unpick_6 rfl rfl ?_
  refine y_callV (As := [_]) (rest := _) (n := 1) C0 (mX5_isBook l D cy adr _ _ _) 5 rfl (by decide) ykd_55 gX5_unpick_X5_isBook rfl rfl rfl (by decide +kernel) ⟨by decide, by decide⟩ rfl rfl (Nat.le_of_ble_eq_true rfl) dX5_unpick_7 ⟨by decide, by decide⟩ ?_
  refine y_top (show mI x 0 (R 189 - 1) = mI x 0 (nI B - 1) by rw [eB]) ?_
  refine y_if_ne C0 19 dX5_unpick_10 (by decide) (fun c_10 => ?_) (fun c_10 => ?_)
  · obtain ⟨hb, eb⟩ := mI_n (n := B) (by omega) c_10
    refine y_bipush (v := 11) C0 dX5_unpick_19 (by decide) ?_
    refine y_iload_n C0 1 dX5_unpick_21 rfl rfl ?_
    refine y_top eb ?_
    refine y_imulN C0 (a := 11) (b := cN x) rfl rfl dX5_unpick_22 ?_
    refine y_istore_n C0 [(2, _), (0, _), (1, _)] dX5_unpick_23 rfl (by decide) rfl ?_
    refine y_aload_n C0 1 dX5_unpick_24 rfl rfl ?_
    refine y_get C0 5 rfl rfl (by decide) hin5 1 ykd_55 (by decide) (by decide +kernel) yv5_now dX5_unpick_25 ?_
    refine y_iload_n C0 0 dX5_unpick_28 rfl rfl ?_
    refine y_iconst (v := 3) C0 dX5_unpick_29 (by decide) ?_
    refine y_iaddN C0 (a := (11 * cN x)) (b := 3) rfl rfl dX5_unpick_30 ?_
    refine y_ialdU C0 (((11 * cN x) + 3)) ykd_56 rfl (by omega) dX5_unpick_31 ?_
    refine y_iconst (v := 1) C0 dX5_unpick_32 (by decide) ?_
    refine y_icmp_eq C0 42 dX5_unpick_33 (by decide) (fun c_33 => ?_) (fun c_33 => ?_)
    · obtain ⟨hf, ef⟩ := hfr (cN x) hb c_33
      refine y_aload_n C0 1 dX5_unpick_42 rfl rfl ?_
      refine y_get C0 5 rfl rfl (by decide) hin5 1 ykd_55 (by decide) (by decide +kernel) yv5_now dX5_unpick_43 ?_
      refine y_iload_n C0 0 dX5_unpick_46 rfl rfl ?_
      refine y_callS (As := [_, _]) (rest := _) (n := 2) C0 (mX5_inBook l D cy adr _ _ ykd_56 _ ((11 * cN x)) (by omega)) gX5_unpick_X5_inBook rfl rfl rfl (by decide +kernel) ⟨by decide, by decide⟩ rfl rfl (Nat.le_of_ble_eq_true rfl) dX5_unpick_47 ⟨by decide, by decide⟩ ?_
      refine y_istore_n C0 [(3, _), (2, _), (0, _), (1, _)] dX5_unpick_50 rfl (by decide) rfl ?_
      refine y_aload_n C0 2 dX5_unpick_51 rfl rfl ?_
      refine y_get C0 5 rfl rfl (by decide) hin5 1 ykd_55 (by decide) (by decide +kernel) yv5_now dX5_unpick_52 ?_
      refine y_sipush (v := 165) C0 dX5_unpick_55 (by decide) ?_
      refine y_iconst (v := 3) C0 dX5_unpick_58 (by decide) ?_
      refine y_aload_n C0 2 dX5_unpick_59 rfl rfl ?_
      refine y_get C0 5 rfl rfl (by decide) hin5 1 ykd_55 (by decide) (by decide +kernel) yv5_now dX5_unpick_60 ?_
      refine y_iload_n C0 1 dX5_unpick_63 rfl rfl ?_
      refine y_iconst (v := 4) C0 dX5_unpick_64 (by decide) ?_
      refine y_iaddN C0 (a := (11 * cN x)) (b := 4) rfl rfl dX5_unpick_65 ?_
      refine y_ialdU C0 (((11 * cN x) + 4)) ykd_56 rfl (by omega) dX5_unpick_66 ?_
      refine y_top ef ?_
      refine y_imulN C0 (a := 3) (b := cN (R (11 * cN x + 4))) rfl rfl dX5_unpick_67 ?_
      refine y_iaddN C0 (a := 165) (b := (3 * cN (R (11 * cN x + 4)))) rfl rfl dX5_unpick_68 ?_
      refine y_iconst (v := 1) C0 dX5_unpick_69 (by decide) ?_
      refine y_iaddN C0 (a := (165 + (3 * cN (R (11 * cN x + 4))))) (b := 1) rfl rfl dX5_unpick_70 ?_
      refine y_iconst (v := (-1)) C0 dX5_unpick_71 (by decide) ?_
      refine y_iastU C0 (((165 + (3 * cN (R (11 * cN x + 4)))) + 1)) ykd_56 rfl (by omega) dX5_unpick_72 ?_
      refine y_aload_n C0 2 dX5_unpick_73 rfl rfl ?_
      refine y_get C0 5 rfl rfl (by decide) hin5 1 ykd_55 (by decide) (by decide +kernel) yv5_now dX5_unpick_74 ?_
      refine y_iload_n C0 1 dX5_unpick_77 rfl rfl ?_
      refine y_iconst (v := 4) C0 dX5_unpick_78 (by decide) ?_
      refine y_iaddN C0 (a := (11 * cN x)) (b := 4) rfl rfl dX5_unpick_79 ?_
      refine y_iconst (v := (-1)) C0 dX5_unpick_80 (by decide) ?_
      refine y_iastU C0 (((11 * cN x) + 4)) ykd_56 rfl (by omega) dX5_unpick_81 ?_
      refine y_iconst (v := 5) C0 dX5_unpick_82 (by decide) ?_
      refine y_newE C0 (by decide +kernel) dX5_unpick_83 (by decide) (by decide) (fun q => ?_)
      refine y_dup C0 dX5_unpick_85 rfl ?_
      refine y_iconst (v := 0) C0 dX5_unpick_86 (by decide) ?_
      refine y_iconst (v := 3) C0 dX5_unpick_87 (by decide) ?_
      refine y_iastE C0 (0) rfl (by omega) dX5_unpick_88 ?_
      refine y_dup C0 dX5_unpick_89 rfl ?_
      refine y_iconst (v := 1) C0 dX5_unpick_90 (by decide) ?_
      refine y_iconst (v := 5) C0 dX5_unpick_91 (by decide) ?_
      refine y_iastE C0 (1) rfl (by omega) dX5_unpick_92 ?_
      refine y_dup C0 dX5_unpick_93 rfl ?_
      refine y_iconst (v := 2) C0 dX5_unpick_94 (by decide) ?_
      refine y_bipush (v := 6) C0 dX5_unpick_95 (by decide) ?_
      refine y_iastE C0 (2) rfl (by omega) dX5_unpick_97 ?_
      refine y_dup C0 dX5_unpick_98 rfl ?_
      refine y_iconst (v := 3) C0 dX5_unpick_99 (by decide) ?_
      refine y_bipush (v := 7) C0 dX5_unpick_100 (by decide) ?_
      refine y_iastE C0 (3) rfl (by omega) dX5_unpick_102 ?_
      refine y_dup C0 dX5_unpick_103 rfl ?_
      refine y_iconst (v := 4) C0 dX5_unpick_104 (by decide) ?_
      refine y_bipush (v := 10) C0 dX5_unpick_105 (by decide) ?_
      refine y_iastE C0 (4) rfl (by omega) dX5_unpick_107 ?_
      refine y_astore C0 [(4, _), (3, _), (2, _), (0, _), (1, _)] dX5_unpick_108 (by decide) rfl ?_
      refine y_aload C0 0 dX5_unpick_110 rfl ?_
      refine y_astore C0 [(5, _), (4, _), (3, _), (2, _), (0, _), (1, _)] dX5_unpick_112 (by decide) rfl ?_
      refine y_aload C0 0 dX5_unpick_114 rfl ?_
      refine y_alenE C0 dX5_unpick_116 ?_
      refine y_istore C0 [(6, _), (5, _), (4, _), (3, _), (2, _), (0, _), (1, _)] dX5_unpick_117 (by decide) rfl ?_
      refine y_iconst (v := 0) C0 dX5_unpick_119 (by decide) ?_
      refine y_istore C0 [(7, _), (6, _), (5, _), (4, _), (3, _), (2, _), (0, _), (1, _)] dX5_unpick_120 (by decide) rfl ?_
      have hl_122 : ∀ (n : Nat) (i : Nat), 5 - i = n → i ≤ 5 → Y K l rX5_unpick D cy adr 9 (0 + 1) (0 + 5) (QT K D cy adr (some (.int (mr (unpC R B x) (rIn R (11 * cN x))))) (mo2 (unpC R B x) (va_up (TN M 0) 56 (rUn (rUp2 R (cN x)) (cN x) 5)) (va_up (TN M (unpC R B x)) 56 R)) 1 5) (va_up (TN M 0) 56 (rUn (rUp2 R (cN x)) (cN x) i)) [(q, .inl (cy 0, 5, .inl mQ))] [(7, .int (nI i)), (6, .int (nI 5)), (5, .ref q), (3, .int (rIn R (11 * cN x))), (2, .int (nI (11 * cN x))), (1, .int x), (0, .ref (adr 55))] 122 [] := by
        intro n
        induction n using Nat.strongRecOn with
        | _ n ih_122 =>
          intro i hn_122 hi
          refine y_iload C0 0 dX5_unpick_122 rfl ?_
          refine y_iload C0 1 dX5_unpick_124 rfl ?_
          refine y_icmp_ge C0 152 dX5_unpick_126 (by decide) (fun c_126 => ?_) (fun c_126 => ?_)
          · have he := ct_end (N := 5) (by decide) hi c_126
            rw [he]
            refine y_iload_n C0 3 dX5_unpick_152 rfl rfl ?_
            have hc9 : unpC R B x = 0 := by simp [unpC, c_10, c_33, c_126]
            refine y_widen (k := 1) (n := 5) (by decide) (by decide) ?_
            exact y_iret C0 dX5_unpick_153 (mr_0 hc9 rfl) (mo2_0 hc9 rfl)
          · have hlt := ct_lt (N := 5) (by decide) hi c_126
            have hw9 := mW_lt (i := i)
            refine y_aload C0 2 dX5_unpick_129 rfl ?_
            refine y_iload C0 0 dX5_unpick_131 rfl ?_
            refine y_ialdE C0 (i) rfl (by omega) dX5_unpick_133 ?_
            refine y_istore C0 [(8, _), (7, _), (6, _), (5, _), (3, _), (2, _), (1, _), (0, _)] dX5_unpick_134 (by decide) rfl ?_
            refine y_aload_n C0 7 dX5_unpick_136 rfl rfl ?_
            refine y_get C0 5 rfl rfl (by decide) hin5 1 ykd_55 (by decide) (by decide +kernel) yv5_now dX5_unpick_137 ?_
            refine y_iload_n C0 5 dX5_unpick_140 rfl rfl ?_
            refine y_iload C0 0 dX5_unpick_141 rfl ?_
            refine y_top (mQ_e hlt) ?_
            refine y_iaddN C0 (a := (11 * cN x)) (b := mW i) rfl rfl dX5_unpick_143 ?_
            refine y_iconst (v := 0) C0 dX5_unpick_144 (by decide) ?_
            refine y_iastU C0 (((11 * cN x) + mW i)) ykd_56 rfl (by omega) dX5_unpick_145 ?_
            refine y_iinc (v := nI (i + 1)) C0 1 [(7, _), (8, _), (6, _), (5, _), (3, _), (2, _), (1, _), (0, _)] dX5_unpick_146 rfl (yinc_ok rfl rfl) (by decide) rfl ?_
            refine y_goto C0 122 dX5_unpick_149 (by decide) ?_
            refine y_sub [0, 2, 3, 4, 5, 6, 7] [(7, _), (6, _), (5, _), (3, _), (2, _), (1, _), (0, _)] rfl ?_
            exact y_eq rfl rfl rfl (ih_122 _ (by omega) (i + 1) rfl hlt)
      refine y_sub [0, 1, 2, 4, 5, 7, 6] [(7, _), (6, _), (5, _), (3, _), (2, _), (1, _), (0, _)] rfl ?_
      exact hl_122 _ 0 rfl (Nat.zero_le _)
    · refine y_aload_n C0 1 dX5_unpick_36 rfl rfl ?_
      refine y_iconst (v := 2) C0 dX5_unpick_37 (by decide) ?_
      refine y_callV (As := [_]) (rest := _) (n := 1) C0 (mX5_no l D cy adr _ _ _) 5 rfl (by decide) ykd_55 gX5_unpick_X5_no rfl rfl rfl (by decide +kernel) ⟨by decide, by decide⟩ rfl rfl (Nat.le_of_ble_eq_true rfl) dX5_unpick_38 ⟨by decide, by decide⟩ ?_
      have hc9 : unpC R B x = 2 := by simp [unpC, c_10, c_33]
      refine y_widen (k := 1) (n := 5) (by decide) (by decide) ?_
      exact y_iret C0 dX5_unpick_41 (mr_n hc9 (by decide)) (mo2_n hc9 (by decide))
  · refine y_aload_n C0 0 dX5_unpick_13 rfl rfl ?_
    refine y_iconst (v := 1) C0 dX5_unpick_14 (by decide) ?_
    refine y_callV (As := [_]) (rest := _) (n := 1) C0 (mX5_no l D cy adr _ _ _) 5 rfl (by decide) ykd_55 gX5_unpick_X5_no rfl rfl rfl (by decide +kernel) ⟨by decide, by decide⟩ rfl rfl (Nat.le_of_ble_eq_true rfl) dX5_unpick_15 ⟨by decide, by decide⟩ ?_
    have hc9 : unpC R B x = 1 := by simp [unpC, c_10]
    refine y_widen (k := 1) (n := 5) (by decide) (by decide) ?_
    exact y_iret C0 dX5_unpick_18 (mr_n hc9 (by decide)) (mo2_n hc9 (by decide))
abbrev rX5_sell : Room := { frames := 2, cells := 0, slots := 0, locals := 43 }
set_option maxRecDepth 100000 in
set_option maxHeartbeats 4000000 in
theorem mX5_sell (l : Launch) (D : va_G) (cy : Nat → ClassId) (adr : Nat → Nat) (M : yM) (R : Rw) (x : Int32) (B : Nat) (hB : B ≤ 15) (eB : R 189 = nI B) : Ct l yX5_sell wsX5_sell rX5_sell D cy adr [.ref (adr 55), .int x] (va_up M 56 R) (some (.int (mr (selC R B x) (mSel R (cN x) 187)))) (mo2 (selC R B x) (va_up (TN M 0) 56 (mSel R (cN x))) (va_up (TN M (selC R B x)) 56 R)) 0 0 := by
  refine Ct.mk cX5_sell 3 (some .int) RX5 (by decide) rfl rfl (Nat.le_of_ble_eq_true rfl) ?_
  intro K C0
  refine y_eq rfl (show ([(0, .ref (adr 55)), (1, .int x)] : List (Nat × Value)) = lv_args 0 [.ref (adr 55), .int x] from rfl) rfl ?_
  have hin5 : ∀ w ∈ u_ws RX5 TX5 3, w ∈ wsX5_sell := by decide +kernel
  refine y_aload_n C0 0 dX5_sell_0 rfl rfl ?_
  refine y_iconst (v := 0) C0 dX5_sell_1 (by decide) ?_
  refine y_thU C0 hin5 (by decide +kernel) (by decide) dX5_sell_2 ?_
  refine y_aload_n C0 0 dX5_sell_5 rfl rfl ?_
  refine y_iload_n C0 1 dX5_sell_6 rfl rfl ?_
  refine y_callV (As := [_]) (rest := _) (n := 1) C0 (mX5_isBook l D cy adr _ _ _) 5 rfl (by decide) ykd_55 gX5_sell_X5_isBook rfl rfl rfl (by decide +kernel) ⟨by decide, by decide⟩ rfl rfl (Nat.le_of_ble_eq_true rfl) dX5_sell_7 ⟨by decide, by decide⟩ ?_
  refine y_top (show mI x 0 (R 189 - 1) = mI x 0 (nI B - 1) by rw [eB]) ?_
  refine y_if_ne C0 19 dX5_sell_10 (by decide) (fun c_10 => ?_) (fun c_10 => ?_)
  · obtain ⟨hb, eb⟩ := mI_n (n := B) (by omega) c_10
    refine y_bipush (v := 11) C0 dX5_sell_19 (by decide) ?_
    refine y_iload_n C0 1 dX5_sell_21 rfl rfl ?_
    refine y_top eb ?_
    refine y_imulN C0 (a := 11) (b := cN x) rfl rfl dX5_sell_22 ?_
    refine y_istore_n C0 [(2, _), (0, _), (1, _)] dX5_sell_23 rfl (by decide) rfl ?_
    refine y_aload_n C0 1 dX5_sell_24 rfl rfl ?_
    refine y_get C0 5 rfl rfl (by decide) hin5 1 ykd_55 (by decide) (by decide +kernel) yv5_now dX5_sell_25 ?_
    refine y_iload_n C0 0 dX5_sell_28 rfl rfl ?_
    refine y_iconst (v := 3) C0 dX5_sell_29 (by decide) ?_
    refine y_iaddN C0 (a := (11 * cN x)) (b := 3) rfl rfl dX5_sell_30 ?_
    refine y_ialdU C0 (((11 * cN x) + 3)) ykd_56 rfl (by omega) dX5_sell_31 ?_
    refine y_iconst (v := 5) C0 dX5_sell_32 (by decide) ?_
    refine y_icmp_eq C0 42 dX5_sell_33 (by decide) (fun c_33 => ?_) (fun c_33 => ?_)
    · refine y_aload_n C0 1 dX5_sell_42 rfl rfl ?_
      refine y_get C0 5 rfl rfl (by decide) hin5 1 ykd_55 (by decide) (by decide +kernel) yv5_now dX5_sell_43 ?_
      refine y_iload_n C0 0 dX5_sell_46 rfl rfl ?_
      refine y_iconst (v := 3) C0 dX5_sell_47 (by decide) ?_
      refine y_iaddN C0 (a := (11 * cN x)) (b := 3) rfl rfl dX5_sell_48 ?_
      refine y_bipush (v := 6) C0 dX5_sell_49 (by decide) ?_
      refine y_iastU C0 (((11 * cN x) + 3)) ykd_56 rfl (by omega) dX5_sell_51 ?_
      refine y_aload_n C0 1 dX5_sell_52 rfl rfl ?_
      refine y_get C0 5 rfl rfl (by decide) hin5 1 ykd_55 (by decide) (by decide +kernel) yv5_now dX5_sell_53 ?_
      refine y_sipush (v := 187) C0 dX5_sell_56 (by decide) ?_
      refine y_dup2 C0 dX5_sell_59 rfl rfl ?_
      refine y_ialdU C0 (187) ykd_56 rfl (by omega) dX5_sell_60 ?_
      refine y_aload_n C0 1 dX5_sell_61 rfl rfl ?_
      refine y_get C0 5 rfl rfl (by decide) hin5 1 ykd_55 (by decide) (by decide +kernel) yv5_now dX5_sell_62 ?_
      refine y_iload_n C0 0 dX5_sell_65 rfl rfl ?_
      refine y_callS (As := [_, _]) (rest := _) (n := 2) C0 (mX5_worthOf l D cy adr _ _ ykd_56 _ ((11 * cN x)) (by omega)) gX5_sell_X5_worthOf rfl rfl rfl (by decide +kernel) ⟨by decide, by decide⟩ rfl rfl (Nat.le_of_ble_eq_true rfl) dX5_sell_66 ⟨by decide, by decide⟩ ?_
      refine y_iadd C0 dX5_sell_69 ?_
      refine y_iastU C0 (187) ykd_56 rfl (by omega) dX5_sell_70 ?_
      refine y_aload_n C0 1 dX5_sell_71 rfl rfl ?_
      refine y_get C0 5 rfl rfl (by decide) hin5 1 ykd_55 (by decide) (by decide +kernel) yv5_now dX5_sell_72 ?_
      refine y_sipush (v := 187) C0 dX5_sell_75 (by decide) ?_
      refine y_ialdU C0 (187) ykd_56 rfl (by omega) dX5_sell_78 ?_
      have hc9 : selC R B x = 0 := by simp [selC, c_10, c_33]
      exact y_iret C0 dX5_sell_79 (mr_0 hc9 rfl) (mo2_0 hc9 rfl)
    · refine y_aload_n C0 1 dX5_sell_36 rfl rfl ?_
      refine y_iconst (v := 2) C0 dX5_sell_37 (by decide) ?_
      refine y_callV (As := [_]) (rest := _) (n := 1) C0 (mX5_no l D cy adr _ _ _) 5 rfl (by decide) ykd_55 gX5_sell_X5_no rfl rfl rfl (by decide +kernel) ⟨by decide, by decide⟩ rfl rfl (Nat.le_of_ble_eq_true rfl) dX5_sell_38 ⟨by decide, by decide⟩ ?_
      have hc9 : selC R B x = 2 := by simp [selC, c_10, c_33]
      exact y_iret C0 dX5_sell_41 (mr_n hc9 (by decide)) (mo2_n hc9 (by decide))
  · refine y_aload_n C0 0 dX5_sell_13 rfl rfl ?_
    refine y_iconst (v := 1) C0 dX5_sell_14 (by decide) ?_
    refine y_callV (As := [_]) (rest := _) (n := 1) C0 (mX5_no l D cy adr _ _ _) 5 rfl (by decide) ykd_55 gX5_sell_X5_no rfl rfl rfl (by decide +kernel) ⟨by decide, by decide⟩ rfl rfl (Nat.le_of_ble_eq_true rfl) dX5_sell_15 ⟨by decide, by decide⟩ ?_
    have hc9 : selC R B x = 1 := by simp [selC, c_10]
    exact y_iret C0 dX5_sell_18 (mr_n hc9 (by decide)) (mo2_n hc9 (by decide))
abbrev rX5_told : Room := { frames := 3, cells := 0, slots := 0, locals := 59 }
set_option maxRecDepth 100000 in
set_option maxHeartbeats 4000000 in
theorem mX5_told (l : Launch) (D : va_G) (cy : Nat → ClassId) (adr : Nat → Nat) (M : yM) (R : Rw) (x : Int32) (w : Int32) (B : Nat) (hB : B ≤ 15) (eB : R 189 = nI B) : Ct l yX5_told wsX5_told rX5_told D cy adr [.ref (adr 55), .int x, .int w] (va_up M 56 R) (some (.int (mr (tolC B x w) (rBT R (cN x) w)))) (mo2 (tolC B x w) (va_up (TN M 0) 56 (R)) (va_up (TN M (tolC B x w)) 56 R)) 0 0 := by
  refine Ct.mk cX5_told 3 (some .int) RX5 (by decide) rfl rfl (Nat.le_of_ble_eq_true rfl) ?_
  intro K C0
  refine y_eq rfl (show ([(0, .ref (adr 55)), (1, .int x), (2, .int w)] : List (Nat × Value)) = lv_args 0 [.ref (adr 55), .int x, .int w] from rfl) rfl ?_
  have hin5 : ∀ w ∈ u_ws RX5 TX5 3, w ∈ wsX5_told := by decide +kernel
  refine y_aload_n C0 0 dX5_told_0 rfl rfl ?_
  refine y_iconst (v := 0) C0 dX5_told_1 (by decide) ?_
  refine y_thU C0 hin5 (by decide +kernel) (by decide) dX5_told_2 ?_
  refine y_aload_n C0 0 dX5_told_5 rfl rfl ?_
  refine y_iload_n C0 1 dX5_told_6 rfl rfl ?_
  refine y_callV (As := [_]) (rest := _) (n := 1) C0 (mX5_isBook l D cy adr _ _ _) 5 rfl (by decide) ykd_55 gX5_told_X5_isBook rfl rfl rfl (by decide +kernel) ⟨by decide, by decide⟩ rfl rfl (Nat.le_of_ble_eq_true rfl) dX5_told_7 ⟨by decide, by decide⟩ ?_
  refine y_top (show mI x 0 (R 189 - 1) = mI x 0 (nI B - 1) by rw [eB]) ?_
  refine y_if_eq C0 32 dX5_told_10 (by decide) (fun c_10 => ?_) (fun c_10 => ?_)
  · refine y_aload_n C0 0 dX5_told_32 rfl rfl ?_
    refine y_iconst (v := 1) C0 dX5_told_33 (by decide) ?_
    refine y_callV (As := [_]) (rest := _) (n := 1) C0 (mX5_no l D cy adr _ _ _) 5 rfl (by decide) ykd_55 gX5_told_X5_no rfl rfl rfl (by decide +kernel) ⟨by decide, by decide⟩ rfl rfl (Nat.le_of_ble_eq_true rfl) dX5_told_34 ⟨by decide, by decide⟩ ?_
    have hc9 : tolC B x w = 1 := by simp [tolC, c_10]
    exact y_iret C0 dX5_told_37 (mr_n hc9 (by decide)) (mo2_n hc9 (by decide))
  · refine y_iload_n C0 2 dX5_told_13 rfl rfl ?_
    refine y_iconst (v := 0) C0 dX5_told_14 (by decide) ?_
    refine y_bipush (v := 10) C0 dX5_told_15 (by decide) ?_
    refine y_callS (As := [_, _, _]) (rest := _) (n := 3) C0 (mX5_isIn l D cy adr _ _ _ _) gX5_told_X5_isIn rfl rfl rfl (by decide +kernel) ⟨by decide, by decide⟩ rfl rfl (Nat.le_of_ble_eq_true rfl) dX5_told_17 ⟨by decide, by decide⟩ ?_
    refine y_if_eq C0 32 dX5_told_20 (by decide) (fun c_20 => ?_) (fun c_20 => ?_)
    · refine y_aload_n C0 0 dX5_told_32 rfl rfl ?_
      refine y_iconst (v := 1) C0 dX5_told_33 (by decide) ?_
      refine y_callV (As := [_]) (rest := _) (n := 1) C0 (mX5_no l D cy adr _ _ _) 5 rfl (by decide) ykd_55 gX5_told_X5_no rfl rfl rfl (by decide +kernel) ⟨by decide, by decide⟩ rfl rfl (Nat.le_of_ble_eq_true rfl) dX5_told_34 ⟨by decide, by decide⟩ ?_
      have hc9 : tolC B x w = 1 := by simp [tolC, c_10, c_20]
      exact y_iret C0 dX5_told_37 (mr_n hc9 (by decide)) (mo2_n hc9 (by decide))
    · obtain ⟨hb, eb⟩ := mI_n (n := B) (by omega) c_10
      obtain ⟨hw, ew⟩ := mI_k (n := 10) (by decide) (show ¬ mI w 0 (nI 10) = 0 from c_20)
      refine y_aload_n C0 0 dX5_told_23 rfl rfl ?_
      refine y_iload_n C0 1 dX5_told_24 rfl rfl ?_
      refine y_top eb ?_
      refine y_iload_n C0 2 dX5_told_25 rfl rfl ?_
      refine y_callV (As := [_, _]) (rest := _) (n := 2) C0 (mX5_bookTold l D cy adr _ _ (cN x) _ (by omega) (by omega) ew) 5 rfl (by decide) ykd_55 gX5_told_X5_bookTold rfl rfl rfl (by decide +kernel) ⟨by decide, by decide⟩ rfl rfl (Nat.le_of_ble_eq_true rfl) dX5_told_26 ⟨by decide, by decide⟩ ?_
      refine y_goto C0 37 dX5_told_29 (by decide) ?_
      have hc9 : tolC B x w = 0 := by simp [tolC, c_10, c_20]
      exact y_iret C0 dX5_told_37 (mr_0 hc9 rfl) (mo2_0 hc9 rfl)
abbrev rX5_hire : Room := { frames := 1, cells := 0, slots := 0, locals := 22 }
set_option maxRecDepth 100000 in
set_option maxHeartbeats 4000000 in
theorem mX5_hire (l : Launch) (D : va_G) (cy : Nat → ClassId) (adr : Nat → Nat) (M : yM) (R : Rw) (s : Int32) (S : Nat) (hS : S ≤ 5) (eS : R 190 = nI S) : Ct l yX5_hire wsX5_hire rX5_hire D cy adr [.ref (adr 55), .int s] (va_up M 56 R) (some (.int (mr (hirC S s) (mHir R S s 190 - 1)))) (mo2 (hirC S s) (va_up (TN M 0) 56 (mHir R S s)) (va_up (TN M (hirC S s)) 56 R)) 0 0 := by
  refine Ct.mk cX5_hire 2 (some .int) RX5 (by decide) rfl rfl (Nat.le_of_ble_eq_true rfl) ?_
  intro K C0
  refine y_eq rfl (show ([(0, .ref (adr 55)), (1, .int s)] : List (Nat × Value)) = lv_args 0 [.ref (adr 55), .int s] from rfl) rfl ?_
  have hin5 : ∀ w ∈ u_ws RX5 TX5 3, w ∈ wsX5_hire := by decide +kernel
  refine y_aload_n C0 0 dX5_hire_0 rfl rfl ?_
  refine y_iconst (v := 0) C0 dX5_hire_1 (by decide) ?_
  refine y_thU C0 hin5 (by decide +kernel) (by decide) dX5_hire_2 ?_
  refine y_iload_n C0 1 dX5_hire_5 rfl rfl ?_
  refine y_iconst (v := 1) C0 dX5_hire_6 (by decide) ?_
  refine y_bipush (v := 9) C0 dX5_hire_7 (by decide) ?_
  refine y_callS (As := [_, _, _]) (rest := _) (n := 3) C0 (mX5_isIn l D cy adr _ _ _ _) gX5_hire_X5_isIn rfl rfl rfl (by decide +kernel) ⟨by decide, by decide⟩ rfl rfl (Nat.le_of_ble_eq_true rfl) dX5_hire_9 ⟨by decide, by decide⟩ ?_
  refine y_if_ne C0 21 dX5_hire_12 (by decide) (fun c_12 => ?_) (fun c_12 => ?_)
  · refine y_aload_n C0 0 dX5_hire_21 rfl rfl ?_
    refine y_get C0 5 rfl rfl (by decide) hin5 1 ykd_55 (by decide) (by decide +kernel) yv5_now dX5_hire_22 ?_
    refine y_sipush (v := 190) C0 dX5_hire_25 (by decide) ?_
    refine y_ialdU C0 (190) ykd_56 rfl (by omega) dX5_hire_28 ?_
    refine y_top eS ?_
    refine y_iconst (v := 5) C0 dX5_hire_29 (by decide) ?_
    refine y_icmp_ne C0 39 dX5_hire_30 (by decide) (fun c_30 => ?_) (fun c_30 => ?_)
    · have hS9 : S < 5 := by
        have h9 : S ≠ 5 := fun q => c_30 (by rw [q]; rfl)
        omega
      refine y_aload_n C0 0 dX5_hire_39 rfl rfl ?_
      refine y_get C0 5 rfl rfl (by decide) hin5 1 ykd_55 (by decide) (by decide +kernel) yv5_now dX5_hire_40 ?_
      refine y_sipush (v := 174) C0 dX5_hire_43 (by decide) ?_
      refine y_iconst (v := 2) C0 dX5_hire_46 (by decide) ?_
      refine y_aload_n C0 0 dX5_hire_47 rfl rfl ?_
      refine y_get C0 5 rfl rfl (by decide) hin5 1 ykd_55 (by decide) (by decide +kernel) yv5_now dX5_hire_48 ?_
      refine y_sipush (v := 190) C0 dX5_hire_51 (by decide) ?_
      refine y_ialdU C0 (190) ykd_56 rfl (by omega) dX5_hire_54 ?_
      refine y_top eS ?_
      refine y_imulN C0 (a := 2) (b := S) rfl rfl dX5_hire_55 ?_
      refine y_iaddN C0 (a := 174) (b := (2 * S)) rfl rfl dX5_hire_56 ?_
      refine y_iload_n C0 1 dX5_hire_57 rfl rfl ?_
      refine y_iastU C0 ((174 + (2 * S))) ykd_56 rfl (by omega) dX5_hire_58 ?_
      refine y_aload_n C0 0 dX5_hire_59 rfl rfl ?_
      refine y_get C0 5 rfl rfl (by decide) hin5 1 ykd_55 (by decide) (by decide +kernel) yv5_now dX5_hire_60 ?_
      refine y_sipush (v := 174) C0 dX5_hire_63 (by decide) ?_
      refine y_iconst (v := 2) C0 dX5_hire_66 (by decide) ?_
      refine y_aload_n C0 0 dX5_hire_67 rfl rfl ?_
      refine y_get C0 5 rfl rfl (by decide) hin5 1 ykd_55 (by decide) (by decide +kernel) yv5_now dX5_hire_68 ?_
      refine y_sipush (v := 190) C0 dX5_hire_71 (by decide) ?_
      refine y_ialdU C0 (190) ykd_56 rfl (by omega) dX5_hire_74 ?_
      refine y_top ((ru_n (by omega)).trans eS) ?_
      refine y_imulN C0 (a := 2) (b := S) rfl rfl dX5_hire_75 ?_
      refine y_iaddN C0 (a := 174) (b := (2 * S)) rfl rfl dX5_hire_76 ?_
      refine y_iconst (v := 1) C0 dX5_hire_77 (by decide) ?_
      refine y_iaddN C0 (a := (174 + (2 * S))) (b := 1) rfl rfl dX5_hire_78 ?_
      refine y_iconst (v := (-1)) C0 dX5_hire_79 (by decide) ?_
      refine y_iastU C0 (((174 + (2 * S)) + 1)) ykd_56 rfl (by omega) dX5_hire_80 ?_
      refine y_aload_n C0 0 dX5_hire_81 rfl rfl ?_
      refine y_get C0 5 rfl rfl (by decide) hin5 1 ykd_55 (by decide) (by decide +kernel) yv5_now dX5_hire_82 ?_
      refine y_sipush (v := 190) C0 dX5_hire_85 (by decide) ?_
      refine y_dup2 C0 dX5_hire_88 rfl rfl ?_
      refine y_ialdU C0 (190) ykd_56 rfl (by omega) dX5_hire_89 ?_
      refine y_iconst (v := 1) C0 dX5_hire_90 (by decide) ?_
      refine y_iadd C0 dX5_hire_91 ?_
      refine y_iastU C0 (190) ykd_56 rfl (by omega) dX5_hire_92 ?_
      refine y_aload_n C0 0 dX5_hire_93 rfl rfl ?_
      refine y_get C0 5 rfl rfl (by decide) hin5 1 ykd_55 (by decide) (by decide +kernel) yv5_now dX5_hire_94 ?_
      refine y_sipush (v := 190) C0 dX5_hire_97 (by decide) ?_
      refine y_ialdU C0 (190) ykd_56 rfl (by omega) dX5_hire_100 ?_
      refine y_iconst (v := 1) C0 dX5_hire_101 (by decide) ?_
      refine y_isub C0 dX5_hire_102 ?_
      have hc9 : hirC S s = 0 := by simp [hirC, c_12, c_30]
      exact y_iret C0 dX5_hire_103 (mr_0 hc9 rfl) (mo2_0 hc9 rfl)
    · refine y_aload_n C0 0 dX5_hire_33 rfl rfl ?_
      refine y_iconst (v := 2) C0 dX5_hire_34 (by decide) ?_
      refine y_callV (As := [_]) (rest := _) (n := 1) C0 (mX5_no l D cy adr _ _ _) 5 rfl (by decide) ykd_55 gX5_hire_X5_no rfl rfl rfl (by decide +kernel) ⟨by decide, by decide⟩ rfl rfl (Nat.le_of_ble_eq_true rfl) dX5_hire_35 ⟨by decide, by decide⟩ ?_
      have hc9 : hirC S s = 2 := by simp [hirC, c_12, c_30]
      exact y_iret C0 dX5_hire_38 (mr_n hc9 (by decide)) (mo2_n hc9 (by decide))
  · refine y_aload_n C0 0 dX5_hire_15 rfl rfl ?_
    refine y_iconst (v := 1) C0 dX5_hire_16 (by decide) ?_
    refine y_callV (As := [_]) (rest := _) (n := 1) C0 (mX5_no l D cy adr _ _ _) 5 rfl (by decide) ykd_55 gX5_hire_X5_no rfl rfl rfl (by decide +kernel) ⟨by decide, by decide⟩ rfl rfl (Nat.le_of_ble_eq_true rfl) dX5_hire_17 ⟨by decide, by decide⟩ ?_
    have hc9 : hirC S s = 1 := by simp [hirC, c_12]
    exact y_iret C0 dX5_hire_20 (mr_n hc9 (by decide)) (mo2_n hc9 (by decide))
abbrev rX5_seat : Room := { frames := 2, cells := 0, slots := 0, locals := 43 }
set_option maxRecDepth 100000 in
set_option maxHeartbeats 4000000 in
theorem mX5_seat (l : Launch) (D : va_G) (cy : Nat → ClassId) (adr : Nat → Nat) (M : yM) (R : Rw) (x : Int32) (f : Int32) (S : Nat) (hS : S ≤ 5) (eS : R 190 = nI S) : Ct l yX5_seat wsX5_seat rX5_seat D cy adr [.ref (adr 55), .int x, .int f] (va_up M 56 R) (some (.int (mr (seaC R S x f) (R (174 + 2 * cN x + 1))))) (mo2 (seaC R S x f) (va_up (TN M 0) 56 (ru R (174 + 2 * cN x + 1) f)) (va_up (TN M (seaC R S x f)) 56 R)) 0 0 := by
  refine Ct.mk cX5_seat 4 (some .int) RX5 (by decide) rfl rfl (Nat.le_of_ble_eq_true rfl) ?_
  intro K C0
  refine y_eq rfl (show ([(0, .ref (adr 55)), (1, .int x), (2, .int f)] : List (Nat × Value)) = lv_args 0 [.ref (adr 55), .int x, .int f] from rfl) rfl ?_
  have hin5 : ∀ w ∈ u_ws RX5 TX5 3, w ∈ wsX5_seat := by decide +kernel
  refine y_aload_n C0 0 dX5_seat_0 rfl rfl ?_
  refine y_iconst (v := 0) C0 dX5_seat_1 (by decide) ?_
  refine y_thU C0 hin5 (by decide +kernel) (by decide) dX5_seat_2 ?_
  refine y_aload_n C0 0 dX5_seat_5 rfl rfl ?_
  refine y_iload_n C0 1 dX5_seat_6 rfl rfl ?_
  refine y_callV (As := [_]) (rest := _) (n := 1) C0 (mX5_isSewer l D cy adr _ _ _) 5 rfl (by decide) ykd_55 gX5_seat_X5_isSewer rfl rfl rfl (by decide +kernel) ⟨by decide, by decide⟩ rfl rfl (Nat.le_of_ble_eq_true rfl) dX5_seat_7 ⟨by decide, by decide⟩ ?_
  refine y_top (show mI x 0 (R 190 - 1) = mI x 0 (nI S - 1) by rw [eS]) ?_
  refine y_if_eq C0 22 dX5_seat_10 (by decide) (fun c_10 => ?_) (fun c_10 => ?_)
  · refine y_aload_n C0 0 dX5_seat_22 rfl rfl ?_
    refine y_iconst (v := 1) C0 dX5_seat_23 (by decide) ?_
    refine y_callV (As := [_]) (rest := _) (n := 1) C0 (mX5_no l D cy adr _ _ _) 5 rfl (by decide) ykd_55 gX5_seat_X5_no rfl rfl rfl (by decide +kernel) ⟨by decide, by decide⟩ rfl rfl (Nat.le_of_ble_eq_true rfl) dX5_seat_24 ⟨by decide, by decide⟩ ?_
    have hc9 : seaC R S x f = 1 := by simp [seaC, c_10]
    exact y_iret C0 dX5_seat_27 (mr_n hc9 (by decide)) (mo2_n hc9 (by decide))
  · refine y_iload_n C0 2 dX5_seat_13 rfl rfl ?_
    refine y_iconst (v := (-1)) C0 dX5_seat_14 (by decide) ?_
    refine y_iconst (v := 2) C0 dX5_seat_15 (by decide) ?_
    refine y_callS (As := [_, _, _]) (rest := _) (n := 3) C0 (mX5_isIn l D cy adr _ _ _ _) gX5_seat_X5_isIn rfl rfl rfl (by decide +kernel) ⟨by decide, by decide⟩ rfl rfl (Nat.le_of_ble_eq_true rfl) dX5_seat_16 ⟨by decide, by decide⟩ ?_
    refine y_if_ne C0 28 dX5_seat_19 (by decide) (fun c_19 => ?_) (fun c_19 => ?_)
    · obtain ⟨hs, ex⟩ := mI_n (n := S) (by omega) c_10
      refine y_iload_n C0 2 dX5_seat_28 rfl rfl ?_
      refine y_if_lt C0 48 dX5_seat_29 (by decide) (fun c_29 => ?_) (fun c_29 => ?_)
      · refine y_aload_n C0 0 dX5_seat_48 rfl rfl ?_
        refine y_get C0 5 rfl rfl (by decide) hin5 1 ykd_55 (by decide) (by decide +kernel) yv5_now dX5_seat_49 ?_
        refine y_sipush (v := 174) C0 dX5_seat_52 (by decide) ?_
        refine y_iconst (v := 2) C0 dX5_seat_55 (by decide) ?_
        refine y_iload_n C0 1 dX5_seat_56 rfl rfl ?_
        refine y_top ex ?_
        refine y_imulN C0 (a := 2) (b := cN x) rfl rfl dX5_seat_57 ?_
        refine y_iaddN C0 (a := 174) (b := (2 * cN x)) rfl rfl dX5_seat_58 ?_
        refine y_iconst (v := 1) C0 dX5_seat_59 (by decide) ?_
        refine y_iaddN C0 (a := (174 + (2 * cN x))) (b := 1) rfl rfl dX5_seat_60 ?_
        refine y_ialdU C0 (((174 + (2 * cN x)) + 1)) ykd_56 rfl (by omega) dX5_seat_61 ?_
        refine y_istore_n C0 [(3, _), (0, _), (1, _), (2, _)] dX5_seat_62 rfl (by decide) rfl ?_
        refine y_aload_n C0 1 dX5_seat_63 rfl rfl ?_
        refine y_get C0 5 rfl rfl (by decide) hin5 1 ykd_55 (by decide) (by decide +kernel) yv5_now dX5_seat_64 ?_
        refine y_sipush (v := 174) C0 dX5_seat_67 (by decide) ?_
        refine y_iconst (v := 2) C0 dX5_seat_70 (by decide) ?_
        refine y_iload_n C0 2 dX5_seat_71 rfl rfl ?_
        refine y_top ex ?_
        refine y_imulN C0 (a := 2) (b := cN x) rfl rfl dX5_seat_72 ?_
        refine y_iaddN C0 (a := 174) (b := (2 * cN x)) rfl rfl dX5_seat_73 ?_
        refine y_iconst (v := 1) C0 dX5_seat_74 (by decide) ?_
        refine y_iaddN C0 (a := (174 + (2 * cN x))) (b := 1) rfl rfl dX5_seat_75 ?_
        refine y_iload_n C0 3 dX5_seat_76 rfl rfl ?_
        refine y_iastU C0 (((174 + (2 * cN x)) + 1)) ykd_56 rfl (by omega) dX5_seat_77 ?_
        refine y_iload_n C0 0 dX5_seat_78 rfl rfl ?_
        have hc9 : seaC R S x f = 0 := by simp [seaC, c_10, c_19, c_29]
        exact y_iret C0 dX5_seat_79 (mr_0 hc9 rfl) (mo2_0 hc9 rfl)
      · refine y_aload_n C0 0 dX5_seat_32 rfl rfl ?_
        refine y_iload_n C0 1 dX5_seat_33 rfl rfl ?_
        refine y_iload_n C0 2 dX5_seat_34 rfl rfl ?_
        refine y_callV (As := [_, _]) (rest := _) (n := 2) C0 (mX5_others l D cy adr _ _ _ _ S hS eS) 5 rfl (by decide) ykd_55 gX5_seat_X5_others rfl rfl rfl (by decide +kernel) ⟨by decide, by decide⟩ rfl rfl (Nat.le_of_ble_eq_true rfl) dX5_seat_35 ⟨by decide, by decide⟩ ?_
        refine y_iconst (v := 1) C0 dX5_seat_38 (by decide) ?_
        refine y_icmp_le C0 48 dX5_seat_39 (by decide) (fun c_39 => ?_) (fun c_39 => ?_)
        · refine y_aload_n C0 0 dX5_seat_48 rfl rfl ?_
          refine y_get C0 5 rfl rfl (by decide) hin5 1 ykd_55 (by decide) (by decide +kernel) yv5_now dX5_seat_49 ?_
          refine y_sipush (v := 174) C0 dX5_seat_52 (by decide) ?_
          refine y_iconst (v := 2) C0 dX5_seat_55 (by decide) ?_
          refine y_iload_n C0 1 dX5_seat_56 rfl rfl ?_
          refine y_top ex ?_
          refine y_imulN C0 (a := 2) (b := cN x) rfl rfl dX5_seat_57 ?_
          refine y_iaddN C0 (a := 174) (b := (2 * cN x)) rfl rfl dX5_seat_58 ?_
          refine y_iconst (v := 1) C0 dX5_seat_59 (by decide) ?_
          refine y_iaddN C0 (a := (174 + (2 * cN x))) (b := 1) rfl rfl dX5_seat_60 ?_
          refine y_ialdU C0 (((174 + (2 * cN x)) + 1)) ykd_56 rfl (by omega) dX5_seat_61 ?_
          refine y_istore_n C0 [(3, _), (0, _), (1, _), (2, _)] dX5_seat_62 rfl (by decide) rfl ?_
          refine y_aload_n C0 1 dX5_seat_63 rfl rfl ?_
          refine y_get C0 5 rfl rfl (by decide) hin5 1 ykd_55 (by decide) (by decide +kernel) yv5_now dX5_seat_64 ?_
          refine y_sipush (v := 174) C0 dX5_seat_67 (by decide) ?_
          refine y_iconst (v := 2) C0 dX5_seat_70 (by decide) ?_
          refine y_iload_n C0 2 dX5_seat_71 rfl rfl ?_
          refine y_top ex ?_
          refine y_imulN C0 (a := 2) (b := cN x) rfl rfl dX5_seat_72 ?_
          refine y_iaddN C0 (a := 174) (b := (2 * cN x)) rfl rfl dX5_seat_73 ?_
          refine y_iconst (v := 1) C0 dX5_seat_74 (by decide) ?_
          refine y_iaddN C0 (a := (174 + (2 * cN x))) (b := 1) rfl rfl dX5_seat_75 ?_
          refine y_iload_n C0 3 dX5_seat_76 rfl rfl ?_
          refine y_iastU C0 (((174 + (2 * cN x)) + 1)) ykd_56 rfl (by omega) dX5_seat_77 ?_
          refine y_iload_n C0 0 dX5_seat_78 rfl rfl ?_
          have hc9 : seaC R S x f = 0 := by simp [seaC, c_10, c_19, c_29, c_39]
          exact y_iret C0 dX5_seat_79 (mr_0 hc9 rfl) (mo2_0 hc9 rfl)
        · refine y_aload_n C0 0 dX5_seat_42 rfl rfl ?_
          refine y_iconst (v := 2) C0 dX5_seat_43 (by decide) ?_
          refine y_callV (As := [_]) (rest := _) (n := 1) C0 (mX5_no l D cy adr _ _ _) 5 rfl (by decide) ykd_55 gX5_seat_X5_no rfl rfl rfl (by decide +kernel) ⟨by decide, by decide⟩ rfl rfl (Nat.le_of_ble_eq_true rfl) dX5_seat_44 ⟨by decide, by decide⟩ ?_
          have hc9 : seaC R S x f = 2 := by simp [seaC, c_10, c_19, c_29, c_39]
          exact y_iret C0 dX5_seat_47 (mr_n hc9 (by decide)) (mo2_n hc9 (by decide))
    · refine y_aload_n C0 0 dX5_seat_22 rfl rfl ?_
      refine y_iconst (v := 1) C0 dX5_seat_23 (by decide) ?_
      refine y_callV (As := [_]) (rest := _) (n := 1) C0 (mX5_no l D cy adr _ _ _) 5 rfl (by decide) ykd_55 gX5_seat_X5_no rfl rfl rfl (by decide +kernel) ⟨by decide, by decide⟩ rfl rfl (Nat.le_of_ble_eq_true rfl) dX5_seat_24 ⟨by decide, by decide⟩ ?_
      have hc9 : seaC R S x f = 1 := by simp [seaC, c_10, c_19]
      exact y_iret C0 dX5_seat_27 (mr_n hc9 (by decide)) (mo2_n hc9 (by decide))
abbrev rX5_sewer : Room := { frames := 2, cells := 0, slots := 0, locals := 43 }
set_option maxRecDepth 100000 in
set_option maxHeartbeats 4000000 in
theorem mX5_sewer (l : Launch) (D : va_G) (cy : Nat → ClassId) (adr : Nat → Nat) (M : yM) (R : Rw) (x : Int32) (w : Int32) (S : Nat) (hS : S ≤ 5) (eS : R 190 = nI S) : Ct l yX5_sewer wsX5_sewer rX5_sewer D cy adr [.ref (adr 55), .int x, .int w] (va_up M 56 R) (some (.int (mr (sewC S x w) (R (174 + 2 * cN x + cN w))))) (mo2 (sewC S x w) (va_up (TN M 0) 56 (R)) (va_up (TN M (sewC S x w)) 56 R)) 0 0 := by
  refine Ct.mk cX5_sewer 3 (some .int) RX5 (by decide) rfl rfl (Nat.le_of_ble_eq_true rfl) ?_
  intro K C0
  refine y_eq rfl (show ([(0, .ref (adr 55)), (1, .int x), (2, .int w)] : List (Nat × Value)) = lv_args 0 [.ref (adr 55), .int x, .int w] from rfl) rfl ?_
  have hin5 : ∀ w ∈ u_ws RX5 TX5 3, w ∈ wsX5_sewer := by decide +kernel
  refine y_aload_n C0 0 dX5_sewer_0 rfl rfl ?_
  refine y_iconst (v := 0) C0 dX5_sewer_1 (by decide) ?_
  refine y_thU C0 hin5 (by decide +kernel) (by decide) dX5_sewer_2 ?_
  refine y_aload_n C0 0 dX5_sewer_5 rfl rfl ?_
  refine y_iload_n C0 1 dX5_sewer_6 rfl rfl ?_
  refine y_callV (As := [_]) (rest := _) (n := 1) C0 (mX5_isSewer l D cy adr _ _ _) 5 rfl (by decide) ykd_55 gX5_sewer_X5_isSewer rfl rfl rfl (by decide +kernel) ⟨by decide, by decide⟩ rfl rfl (Nat.le_of_ble_eq_true rfl) dX5_sewer_7 ⟨by decide, by decide⟩ ?_
  refine y_top (show mI x 0 (R 190 - 1) = mI x 0 (nI S - 1) by rw [eS]) ?_
  refine y_if_eq C0 39 dX5_sewer_10 (by decide) (fun c_10 => ?_) (fun c_10 => ?_)
  · refine y_aload_n C0 0 dX5_sewer_39 rfl rfl ?_
    refine y_iconst (v := 1) C0 dX5_sewer_40 (by decide) ?_
    refine y_callV (As := [_]) (rest := _) (n := 1) C0 (mX5_no l D cy adr _ _ _) 5 rfl (by decide) ykd_55 gX5_sewer_X5_no rfl rfl rfl (by decide +kernel) ⟨by decide, by decide⟩ rfl rfl (Nat.le_of_ble_eq_true rfl) dX5_sewer_41 ⟨by decide, by decide⟩ ?_
    have hc9 : sewC S x w = 1 := by simp [sewC, c_10]
    exact y_iret C0 dX5_sewer_44 (mr_n hc9 (by decide)) (mo2_n hc9 (by decide))
  · refine y_iload_n C0 2 dX5_sewer_13 rfl rfl ?_
    refine y_iconst (v := 0) C0 dX5_sewer_14 (by decide) ?_
    refine y_iconst (v := 1) C0 dX5_sewer_15 (by decide) ?_
    refine y_callS (As := [_, _, _]) (rest := _) (n := 3) C0 (mX5_isIn l D cy adr _ _ _ _) gX5_sewer_X5_isIn rfl rfl rfl (by decide +kernel) ⟨by decide, by decide⟩ rfl rfl (Nat.le_of_ble_eq_true rfl) dX5_sewer_16 ⟨by decide, by decide⟩ ?_
    refine y_if_eq C0 39 dX5_sewer_19 (by decide) (fun c_19 => ?_) (fun c_19 => ?_)
    · refine y_aload_n C0 0 dX5_sewer_39 rfl rfl ?_
      refine y_iconst (v := 1) C0 dX5_sewer_40 (by decide) ?_
      refine y_callV (As := [_]) (rest := _) (n := 1) C0 (mX5_no l D cy adr _ _ _) 5 rfl (by decide) ykd_55 gX5_sewer_X5_no rfl rfl rfl (by decide +kernel) ⟨by decide, by decide⟩ rfl rfl (Nat.le_of_ble_eq_true rfl) dX5_sewer_41 ⟨by decide, by decide⟩ ?_
      have hc9 : sewC S x w = 1 := by simp [sewC, c_10, c_19]
      exact y_iret C0 dX5_sewer_44 (mr_n hc9 (by decide)) (mo2_n hc9 (by decide))
    · obtain ⟨hs, ex⟩ := mI_n (n := S) (by omega) c_10
      obtain ⟨hw, ew⟩ := mI_k (n := 1) (by decide) (show ¬ mI w 0 (nI 1) = 0 from c_19)
      refine y_aload_n C0 0 dX5_sewer_22 rfl rfl ?_
      refine y_get C0 5 rfl rfl (by decide) hin5 1 ykd_55 (by decide) (by decide +kernel) yv5_now dX5_sewer_23 ?_
      refine y_sipush (v := 174) C0 dX5_sewer_26 (by decide) ?_
      refine y_iconst (v := 2) C0 dX5_sewer_29 (by decide) ?_
      refine y_iload_n C0 1 dX5_sewer_30 rfl rfl ?_
      refine y_top ex ?_
      refine y_imulN C0 (a := 2) (b := cN x) rfl rfl dX5_sewer_31 ?_
      refine y_iaddN C0 (a := 174) (b := (2 * cN x)) rfl rfl dX5_sewer_32 ?_
      refine y_iload_n C0 2 dX5_sewer_33 rfl rfl ?_
      refine y_top ew ?_
      refine y_iaddN C0 (a := (174 + (2 * cN x))) (b := cN w) rfl rfl dX5_sewer_34 ?_
      refine y_ialdU C0 (((174 + (2 * cN x)) + cN w)) ykd_56 rfl (by omega) dX5_sewer_35 ?_
      refine y_goto C0 44 dX5_sewer_36 (by decide) ?_
      have hc9 : sewC S x w = 0 := by simp [sewC, c_10, c_19]
      exact y_iret C0 dX5_sewer_44 (mr_0 hc9 rfl) (mo2_0 hc9 rfl)
abbrev rX5_string : Room := { frames := 2, cells := 0, slots := 0, locals := 42 }
set_option maxRecDepth 100000 in
set_option maxHeartbeats 4000000 in
theorem mX5_string (l : Launch) (D : va_G) (cy : Nat → ClassId) (adr : Nat → Nat) (M : yM) (R : Rw) (f : Int32) (c : Int32)  : Ct l yX5_string wsX5_string rX5_string D cy adr [.ref (adr 55), .int f, .int c] (va_up M 56 R) (some (.int (mr (strC R f c) (R (165 + 3 * cN f))))) (mo2 (strC R f c) (va_up (TN M 0) 56 (ru R (165 + 3 * cN f) c)) (va_up (TN M (strC R f c)) 56 R)) 0 0 := by
  refine Ct.mk cX5_string 4 (some .int) RX5 (by decide) rfl rfl (Nat.le_of_ble_eq_true rfl) ?_
  intro K C0
  refine y_eq rfl (show ([(0, .ref (adr 55)), (1, .int f), (2, .int c)] : List (Nat × Value)) = lv_args 0 [.ref (adr 55), .int f, .int c] from rfl) rfl ?_
  have hin5 : ∀ w ∈ u_ws RX5 TX5 3, w ∈ wsX5_string := by decide +kernel
  refine y_aload_n C0 0 dX5_string_0 rfl rfl ?_
  refine y_iconst (v := 0) C0 dX5_string_1 (by decide) ?_
  refine y_thU C0 hin5 (by decide +kernel) (by decide) dX5_string_2 ?_
  refine y_iload_n C0 1 dX5_string_5 rfl rfl ?_
  refine y_callS (As := [_]) (rest := _) (n := 1) C0 (mX5_isFrame l D cy adr _ _) gX5_string_X5_isFrame rfl rfl rfl (by decide +kernel) ⟨by decide, by decide⟩ rfl rfl (Nat.le_of_ble_eq_true rfl) dX5_string_6 ⟨by decide, by decide⟩ ?_
  refine y_if_ne C0 18 dX5_string_9 (by decide) (fun c_9 => ?_) (fun c_9 => ?_)
  · obtain ⟨hf, ef⟩ := mI_k (n := 2) (by decide) (show ¬ mI f 0 (nI 2) = 0 from c_9)
    refine y_iload_n C0 2 dX5_string_18 rfl rfl ?_
    refine y_iconst (v := 2) C0 dX5_string_19 (by decide) ?_
    refine y_bipush (v := 6) C0 dX5_string_20 (by decide) ?_
    refine y_callS (As := [_, _, _]) (rest := _) (n := 3) C0 (mX5_isIn l D cy adr _ _ _ _) gX5_string_X5_isIn rfl rfl rfl (by decide +kernel) ⟨by decide, by decide⟩ rfl rfl (Nat.le_of_ble_eq_true rfl) dX5_string_22 ⟨by decide, by decide⟩ ?_
    refine y_if_ne C0 34 dX5_string_25 (by decide) (fun c_25 => ?_) (fun c_25 => ?_)
    · refine y_aload_n C0 0 dX5_string_34 rfl rfl ?_
      refine y_get C0 5 rfl rfl (by decide) hin5 1 ykd_55 (by decide) (by decide +kernel) yv5_now dX5_string_35 ?_
      refine y_sipush (v := 165) C0 dX5_string_38 (by decide) ?_
      refine y_iconst (v := 3) C0 dX5_string_41 (by decide) ?_
      refine y_iload_n C0 1 dX5_string_42 rfl rfl ?_
      refine y_top ef ?_
      refine y_imulN C0 (a := 3) (b := cN f) rfl rfl dX5_string_43 ?_
      refine y_iaddN C0 (a := 165) (b := (3 * cN f)) rfl rfl dX5_string_44 ?_
      refine y_iconst (v := 1) C0 dX5_string_45 (by decide) ?_
      refine y_iaddN C0 (a := (165 + (3 * cN f))) (b := 1) rfl rfl dX5_string_46 ?_
      refine y_ialdU C0 (((165 + (3 * cN f)) + 1)) ykd_56 rfl (by omega) dX5_string_47 ?_
      refine y_if_lt C0 57 dX5_string_48 (by decide) (fun c_48 => ?_) (fun c_48 => ?_)
      · refine y_aload_n C0 0 dX5_string_57 rfl rfl ?_
        refine y_get C0 5 rfl rfl (by decide) hin5 1 ykd_55 (by decide) (by decide +kernel) yv5_now dX5_string_58 ?_
        refine y_sipush (v := 165) C0 dX5_string_61 (by decide) ?_
        refine y_iconst (v := 3) C0 dX5_string_64 (by decide) ?_
        refine y_iload_n C0 1 dX5_string_65 rfl rfl ?_
        refine y_top ef ?_
        refine y_imulN C0 (a := 3) (b := cN f) rfl rfl dX5_string_66 ?_
        refine y_iaddN C0 (a := 165) (b := (3 * cN f)) rfl rfl dX5_string_67 ?_
        refine y_ialdU C0 ((165 + (3 * cN f))) ykd_56 rfl (by omega) dX5_string_68 ?_
        refine y_istore_n C0 [(3, _), (0, _), (1, _), (2, _)] dX5_string_69 rfl (by decide) rfl ?_
        refine y_aload_n C0 1 dX5_string_70 rfl rfl ?_
        refine y_get C0 5 rfl rfl (by decide) hin5 1 ykd_55 (by decide) (by decide +kernel) yv5_now dX5_string_71 ?_
        refine y_sipush (v := 165) C0 dX5_string_74 (by decide) ?_
        refine y_iconst (v := 3) C0 dX5_string_77 (by decide) ?_
        refine y_iload_n C0 2 dX5_string_78 rfl rfl ?_
        refine y_top ef ?_
        refine y_imulN C0 (a := 3) (b := cN f) rfl rfl dX5_string_79 ?_
        refine y_iaddN C0 (a := 165) (b := (3 * cN f)) rfl rfl dX5_string_80 ?_
        refine y_iload_n C0 3 dX5_string_81 rfl rfl ?_
        refine y_iastU C0 ((165 + (3 * cN f))) ykd_56 rfl (by omega) dX5_string_82 ?_
        refine y_iload_n C0 0 dX5_string_83 rfl rfl ?_
        have hc9 : strC R f c = 0 := by simp [strC, c_9, c_25, c_48]
        exact y_iret C0 dX5_string_84 (mr_0 hc9 rfl) (mo2_0 hc9 rfl)
      · refine y_aload_n C0 0 dX5_string_51 rfl rfl ?_
        refine y_iconst (v := 3) C0 dX5_string_52 (by decide) ?_
        refine y_callV (As := [_]) (rest := _) (n := 1) C0 (mX5_no l D cy adr _ _ _) 5 rfl (by decide) ykd_55 gX5_string_X5_no rfl rfl rfl (by decide +kernel) ⟨by decide, by decide⟩ rfl rfl (Nat.le_of_ble_eq_true rfl) dX5_string_53 ⟨by decide, by decide⟩ ?_
        have hc9 : strC R f c = 3 := by simp [strC, c_9, c_25, c_48]
        exact y_iret C0 dX5_string_56 (mr_n hc9 (by decide)) (mo2_n hc9 (by decide))
    · refine y_aload_n C0 0 dX5_string_28 rfl rfl ?_
      refine y_iconst (v := 2) C0 dX5_string_29 (by decide) ?_
      refine y_callV (As := [_]) (rest := _) (n := 1) C0 (mX5_no l D cy adr _ _ _) 5 rfl (by decide) ykd_55 gX5_string_X5_no rfl rfl rfl (by decide +kernel) ⟨by decide, by decide⟩ rfl rfl (Nat.le_of_ble_eq_true rfl) dX5_string_30 ⟨by decide, by decide⟩ ?_
      have hc9 : strC R f c = 2 := by simp [strC, c_9, c_25]
      exact y_iret C0 dX5_string_33 (mr_n hc9 (by decide)) (mo2_n hc9 (by decide))
  · refine y_aload_n C0 0 dX5_string_12 rfl rfl ?_
    refine y_iconst (v := 1) C0 dX5_string_13 (by decide) ?_
    refine y_callV (As := [_]) (rest := _) (n := 1) C0 (mX5_no l D cy adr _ _ _) 5 rfl (by decide) ykd_55 gX5_string_X5_no rfl rfl rfl (by decide +kernel) ⟨by decide, by decide⟩ rfl rfl (Nat.le_of_ble_eq_true rfl) dX5_string_14 ⟨by decide, by decide⟩ ?_
    have hc9 : strC R f c = 1 := by simp [strC, c_9]
    exact y_iret C0 dX5_string_17 (mr_n hc9 (by decide)) (mo2_n hc9 (by decide))
abbrev rX5_frame : Room := { frames := 5, cells := 0, slots := 0, locals := 111 }
set_option maxRecDepth 100000 in
set_option maxHeartbeats 4000000 in
theorem mX5_frame (l : Launch) (D : va_G) (cy : Nat → ClassId) (adr : Nat → Nat) (M : yM) (R : Rw) (f : Int32) (w : Int32) (B S : Nat) (hok : mOK R B S) : Ct l yX5_frame wsX5_frame rX5_frame D cy adr [.ref (adr 55), .int f, .int w] (va_up M 56 R) (some (.int (mr (fraC f w) (rFT R (cN f) w S)))) (mo2 (fraC f w) (va_up (TN M 0) 56 (R)) (va_up (TN M (fraC f w)) 56 R)) 0 0 := by
  refine Ct.mk cX5_frame 3 (some .int) RX5 (by decide) rfl rfl (Nat.le_of_ble_eq_true rfl) ?_
  intro K C0
  refine y_eq rfl (show ([(0, .ref (adr 55)), (1, .int f), (2, .int w)] : List (Nat × Value)) = lv_args 0 [.ref (adr 55), .int f, .int w] from rfl) rfl ?_
  have hin5 : ∀ w ∈ u_ws RX5 TX5 3, w ∈ wsX5_frame := by decide +kernel
  have hS := hok.2.2.2.1
  have eS := hok.2.2.1
  refine y_aload_n C0 0 dX5_frame_0 rfl rfl ?_
  refine y_iconst (v := 0) C0 dX5_frame_1 (by decide) ?_
  refine y_thU C0 hin5 (by decide +kernel) (by decide) dX5_frame_2 ?_
  refine y_iload_n C0 1 dX5_frame_5 rfl rfl ?_
  refine y_callS (As := [_]) (rest := _) (n := 1) C0 (mX5_isFrame l D cy adr _ _) gX5_frame_X5_isFrame rfl rfl rfl (by decide +kernel) ⟨by decide, by decide⟩ rfl rfl (Nat.le_of_ble_eq_true rfl) dX5_frame_6 ⟨by decide, by decide⟩ ?_
  refine y_if_eq C0 30 dX5_frame_9 (by decide) (fun c_9 => ?_) (fun c_9 => ?_)
  · refine y_aload_n C0 0 dX5_frame_30 rfl rfl ?_
    refine y_iconst (v := 1) C0 dX5_frame_31 (by decide) ?_
    refine y_callV (As := [_]) (rest := _) (n := 1) C0 (mX5_no l D cy adr _ _ _) 5 rfl (by decide) ykd_55 gX5_frame_X5_no rfl rfl rfl (by decide +kernel) ⟨by decide, by decide⟩ rfl rfl (Nat.le_of_ble_eq_true rfl) dX5_frame_32 ⟨by decide, by decide⟩ ?_
    have hc9 : fraC f w = 1 := by simp [fraC, c_9]
    exact y_iret C0 dX5_frame_35 (mr_n hc9 (by decide)) (mo2_n hc9 (by decide))
  · refine y_iload_n C0 2 dX5_frame_12 rfl rfl ?_
    refine y_iconst (v := 0) C0 dX5_frame_13 (by decide) ?_
    refine y_iconst (v := 5) C0 dX5_frame_14 (by decide) ?_
    refine y_callS (As := [_, _, _]) (rest := _) (n := 3) C0 (mX5_isIn l D cy adr _ _ _ _) gX5_frame_X5_isIn rfl rfl rfl (by decide +kernel) ⟨by decide, by decide⟩ rfl rfl (Nat.le_of_ble_eq_true rfl) dX5_frame_15 ⟨by decide, by decide⟩ ?_
    refine y_if_eq C0 30 dX5_frame_18 (by decide) (fun c_18 => ?_) (fun c_18 => ?_)
    · refine y_aload_n C0 0 dX5_frame_30 rfl rfl ?_
      refine y_iconst (v := 1) C0 dX5_frame_31 (by decide) ?_
      refine y_callV (As := [_]) (rest := _) (n := 1) C0 (mX5_no l D cy adr _ _ _) 5 rfl (by decide) ykd_55 gX5_frame_X5_no rfl rfl rfl (by decide +kernel) ⟨by decide, by decide⟩ rfl rfl (Nat.le_of_ble_eq_true rfl) dX5_frame_32 ⟨by decide, by decide⟩ ?_
      have hc9 : fraC f w = 1 := by simp [fraC, c_9, c_18]
      exact y_iret C0 dX5_frame_35 (mr_n hc9 (by decide)) (mo2_n hc9 (by decide))
    · obtain ⟨hf, ef⟩ := mI_k (n := 2) (by decide) (show ¬ mI f 0 (nI 2) = 0 from c_9)
      obtain ⟨hw, ew⟩ := mI_k (n := 5) (by decide) (show ¬ mI w 0 (nI 5) = 0 from c_18)
      refine y_aload_n C0 0 dX5_frame_21 rfl rfl ?_
      refine y_iload_n C0 1 dX5_frame_22 rfl rfl ?_
      refine y_top ef ?_
      refine y_iload_n C0 2 dX5_frame_23 rfl rfl ?_
      refine y_callV (As := [_, _]) (rest := _) (n := 2) C0 (mX5_frameTold l D cy adr _ _ (cN f) _ (by omega) (by omega) ew (mOK_le hok (by omega)) S hS eS) 5 rfl (by decide) ykd_55 gX5_frame_X5_frameTold rfl rfl rfl (by decide +kernel) ⟨by decide, by decide⟩ rfl rfl (Nat.le_of_ble_eq_true rfl) dX5_frame_24 ⟨by decide, by decide⟩ ?_
      refine y_goto C0 35 dX5_frame_27 (by decide) ?_
      have hc9 : fraC f w = 0 := by simp [fraC, c_9, c_18]
      exact y_iret C0 dX5_frame_35 (mr_0 hc9 rfl) (mo2_0 hc9 rfl)
abbrev rX5_buy : Room := { frames := 1, cells := 0, slots := 0, locals := 22 }
set_option maxRecDepth 100000 in
set_option maxHeartbeats 4000000 in
theorem mX5_buy (l : Launch) (D : va_G) (cy : Nat → ClassId) (adr : Nat → Nat) (M : yM) (R : Rw) (w : Int32) (x : Int32)  : Ct l yX5_buy wsX5_buy rX5_buy D cy adr [.ref (adr 55), .int w, .int x] (va_up M 56 R) (some (.int (mr (buyC R w x) (mBuy R w x (184 + cN w))))) (mo2 (buyC R w x) (va_up (TN M 0) 56 (mBuy R w x)) (va_up (TN M (buyC R w x)) 56 R)) 0 0 := by
  refine Ct.mk cX5_buy 4 (some .int) RX5 (by decide) rfl rfl (Nat.le_of_ble_eq_true rfl) ?_
  intro K C0
  refine y_eq rfl (show ([(0, .ref (adr 55)), (1, .int w), (2, .int x)] : List (Nat × Value)) = lv_args 0 [.ref (adr 55), .int w, .int x] from rfl) rfl ?_
  have hin5 : ∀ w ∈ u_ws RX5 TX5 3, w ∈ wsX5_buy := by decide +kernel
  refine y_aload_n C0 0 dX5_buy_0 rfl rfl ?_
  refine y_iconst (v := 0) C0 dX5_buy_1 (by decide) ?_
  refine y_thU C0 hin5 (by decide +kernel) (by decide) dX5_buy_2 ?_
  refine y_iload_n C0 1 dX5_buy_5 rfl rfl ?_
  refine y_iconst (v := 0) C0 dX5_buy_6 (by decide) ?_
  refine y_iconst (v := 2) C0 dX5_buy_7 (by decide) ?_
  refine y_callS (As := [_, _, _]) (rest := _) (n := 3) C0 (mX5_isIn l D cy adr _ _ _ _) gX5_buy_X5_isIn rfl rfl rfl (by decide +kernel) ⟨by decide, by decide⟩ rfl rfl (Nat.le_of_ble_eq_true rfl) dX5_buy_8 ⟨by decide, by decide⟩ ?_
  refine y_if_ne C0 20 dX5_buy_11 (by decide) (fun c_11 => ?_) (fun c_11 => ?_)
  · refine y_iload_n C0 2 dX5_buy_20 rfl rfl ?_
    refine y_iconst (v := 1) C0 dX5_buy_21 (by decide) ?_
    refine y_sipush (v := 200) C0 dX5_buy_22 (by decide) ?_
    refine y_callS (As := [_, _, _]) (rest := _) (n := 3) C0 (mX5_isIn l D cy adr _ _ _ _) gX5_buy_X5_isIn rfl rfl rfl (by decide +kernel) ⟨by decide, by decide⟩ rfl rfl (Nat.le_of_ble_eq_true rfl) dX5_buy_25 ⟨by decide, by decide⟩ ?_
    refine y_if_ne C0 37 dX5_buy_28 (by decide) (fun c_28 => ?_) (fun c_28 => ?_)
    · obtain ⟨hw, ew⟩ := mI_k (n := 2) (by decide) (show ¬ mI w 0 (nI 2) = 0 from c_11)
      refine y_iload_n C0 1 dX5_buy_37 rfl rfl ?_
      refine y_if_ne C0 49 dX5_buy_38 (by decide) (fun c_38 => ?_) (fun c_38 => ?_)
      · refine y_iload_n C0 1 dX5_buy_49 rfl rfl ?_
        refine y_iconst (v := 1) C0 dX5_buy_50 (by decide) ?_
        refine y_icmp_ne C0 60 dX5_buy_51 (by decide) (fun c_51 => ?_) (fun c_51 => ?_)
        · refine y_iconst (v := 2) C0 dX5_buy_60 (by decide) ?_
          refine y_iload_n C0 2 dX5_buy_61 rfl rfl ?_
          refine y_imul C0 dX5_buy_62 ?_
          refine y_top (show 2 * x = prc w x from by simp [prc, c_38, c_51]) ?_
          refine y_istore_n C0 [(3, _), (0, _), (1, _), (2, _)] dX5_buy_63 rfl (by decide) rfl ?_
          refine y_aload_n C0 1 dX5_buy_64 rfl rfl ?_
          refine y_get C0 5 rfl rfl (by decide) hin5 1 ykd_55 (by decide) (by decide +kernel) yv5_now dX5_buy_65 ?_
          refine y_sipush (v := 187) C0 dX5_buy_68 (by decide) ?_
          refine y_ialdU C0 (187) ykd_56 rfl (by omega) dX5_buy_71 ?_
          refine y_iload_n C0 0 dX5_buy_72 rfl rfl ?_
          refine y_icmp_ge C0 82 dX5_buy_73 (by decide) (fun c_73 => ?_) (fun c_73 => ?_)
          · refine y_aload_n C0 1 dX5_buy_82 rfl rfl ?_
            refine y_get C0 5 rfl rfl (by decide) hin5 1 ykd_55 (by decide) (by decide +kernel) yv5_now dX5_buy_83 ?_
            refine y_sipush (v := 187) C0 dX5_buy_86 (by decide) ?_
            refine y_dup2 C0 dX5_buy_89 rfl rfl ?_
            refine y_ialdU C0 (187) ykd_56 rfl (by omega) dX5_buy_90 ?_
            refine y_iload_n C0 0 dX5_buy_91 rfl rfl ?_
            refine y_isub C0 dX5_buy_92 ?_
            refine y_iastU C0 (187) ykd_56 rfl (by omega) dX5_buy_93 ?_
            refine y_aload_n C0 1 dX5_buy_94 rfl rfl ?_
            refine y_get C0 5 rfl rfl (by decide) hin5 1 ykd_55 (by decide) (by decide +kernel) yv5_now dX5_buy_95 ?_
            refine y_sipush (v := 184) C0 dX5_buy_98 (by decide) ?_
            refine y_iload_n C0 2 dX5_buy_101 rfl rfl ?_
            refine y_top ew ?_
            refine y_iaddN C0 (a := 184) (b := cN w) rfl rfl dX5_buy_102 ?_
            refine y_dup2 C0 dX5_buy_103 rfl rfl ?_
            refine y_ialdU C0 ((184 + cN w)) ykd_56 rfl (by omega) dX5_buy_104 ?_
            refine y_iload_n C0 3 dX5_buy_105 rfl rfl ?_
            refine y_iadd C0 dX5_buy_106 ?_
            refine y_iastU C0 ((184 + cN w)) ykd_56 rfl (by omega) dX5_buy_107 ?_
            refine y_aload_n C0 1 dX5_buy_108 rfl rfl ?_
            refine y_get C0 5 rfl rfl (by decide) hin5 1 ykd_55 (by decide) (by decide +kernel) yv5_now dX5_buy_109 ?_
            refine y_sipush (v := 184) C0 dX5_buy_112 (by decide) ?_
            refine y_iload_n C0 2 dX5_buy_115 rfl rfl ?_
            refine y_top ew ?_
            refine y_iaddN C0 (a := 184) (b := cN w) rfl rfl dX5_buy_116 ?_
            refine y_ialdU C0 ((184 + cN w)) ykd_56 rfl (by omega) dX5_buy_117 ?_
            have hc9 : buyC R w x = 0 := by first | (simp [buyC, c_11, c_28, c_73]; done) | (simp only [buyC, c_11, c_28, c_73, if_true, if_false])
            exact y_iret C0 dX5_buy_118 (mr_0 hc9 rfl) (mo2_0 hc9 rfl)
          · refine y_aload_n C0 1 dX5_buy_76 rfl rfl ?_
            refine y_iconst (v := 3) C0 dX5_buy_77 (by decide) ?_
            refine y_callV (As := [_]) (rest := _) (n := 1) C0 (mX5_no l D cy adr _ _ _) 5 rfl (by decide) ykd_55 gX5_buy_X5_no rfl rfl rfl (by decide +kernel) ⟨by decide, by decide⟩ rfl rfl (Nat.le_of_ble_eq_true rfl) dX5_buy_78 ⟨by decide, by decide⟩ ?_
            have hc9 : buyC R w x = 3 := by first | (simp [buyC, c_11, c_28, c_73]; done) | (simp only [buyC, c_11, c_28, c_73, if_true, if_false])
            exact y_iret C0 dX5_buy_81 (mr_n hc9 (by decide)) (mo2_n hc9 (by decide))
        · refine y_iconst (v := 3) C0 dX5_buy_54 (by decide) ?_
          refine y_iload_n C0 2 dX5_buy_55 rfl rfl ?_
          refine y_imul C0 dX5_buy_56 ?_
          refine y_goto C0 63 dX5_buy_57 (by decide) ?_
          refine y_top (show 3 * x = prc w x from by simp [prc, c_38, c_51]) ?_
          refine y_istore_n C0 [(3, _), (0, _), (1, _), (2, _)] dX5_buy_63 rfl (by decide) rfl ?_
          refine y_aload_n C0 1 dX5_buy_64 rfl rfl ?_
          refine y_get C0 5 rfl rfl (by decide) hin5 1 ykd_55 (by decide) (by decide +kernel) yv5_now dX5_buy_65 ?_
          refine y_sipush (v := 187) C0 dX5_buy_68 (by decide) ?_
          refine y_ialdU C0 (187) ykd_56 rfl (by omega) dX5_buy_71 ?_
          refine y_iload_n C0 0 dX5_buy_72 rfl rfl ?_
          refine y_icmp_ge C0 82 dX5_buy_73 (by decide) (fun c_73 => ?_) (fun c_73 => ?_)
          · refine y_aload_n C0 1 dX5_buy_82 rfl rfl ?_
            refine y_get C0 5 rfl rfl (by decide) hin5 1 ykd_55 (by decide) (by decide +kernel) yv5_now dX5_buy_83 ?_
            refine y_sipush (v := 187) C0 dX5_buy_86 (by decide) ?_
            refine y_dup2 C0 dX5_buy_89 rfl rfl ?_
            refine y_ialdU C0 (187) ykd_56 rfl (by omega) dX5_buy_90 ?_
            refine y_iload_n C0 0 dX5_buy_91 rfl rfl ?_
            refine y_isub C0 dX5_buy_92 ?_
            refine y_iastU C0 (187) ykd_56 rfl (by omega) dX5_buy_93 ?_
            refine y_aload_n C0 1 dX5_buy_94 rfl rfl ?_
            refine y_get C0 5 rfl rfl (by decide) hin5 1 ykd_55 (by decide) (by decide +kernel) yv5_now dX5_buy_95 ?_
            refine y_sipush (v := 184) C0 dX5_buy_98 (by decide) ?_
            refine y_iload_n C0 2 dX5_buy_101 rfl rfl ?_
            refine y_top ew ?_
            refine y_iaddN C0 (a := 184) (b := cN w) rfl rfl dX5_buy_102 ?_
            refine y_dup2 C0 dX5_buy_103 rfl rfl ?_
            refine y_ialdU C0 ((184 + cN w)) ykd_56 rfl (by omega) dX5_buy_104 ?_
            refine y_iload_n C0 3 dX5_buy_105 rfl rfl ?_
            refine y_iadd C0 dX5_buy_106 ?_
            refine y_iastU C0 ((184 + cN w)) ykd_56 rfl (by omega) dX5_buy_107 ?_
            refine y_aload_n C0 1 dX5_buy_108 rfl rfl ?_
            refine y_get C0 5 rfl rfl (by decide) hin5 1 ykd_55 (by decide) (by decide +kernel) yv5_now dX5_buy_109 ?_
            refine y_sipush (v := 184) C0 dX5_buy_112 (by decide) ?_
            refine y_iload_n C0 2 dX5_buy_115 rfl rfl ?_
            refine y_top ew ?_
            refine y_iaddN C0 (a := 184) (b := cN w) rfl rfl dX5_buy_116 ?_
            refine y_ialdU C0 ((184 + cN w)) ykd_56 rfl (by omega) dX5_buy_117 ?_
            have hc9 : buyC R w x = 0 := by first | (simp [buyC, c_11, c_28, c_73]; done) | (simp only [buyC, c_11, c_28, c_73, if_true, if_false])
            exact y_iret C0 dX5_buy_118 (mr_0 hc9 rfl) (mo2_0 hc9 rfl)
          · refine y_aload_n C0 1 dX5_buy_76 rfl rfl ?_
            refine y_iconst (v := 3) C0 dX5_buy_77 (by decide) ?_
            refine y_callV (As := [_]) (rest := _) (n := 1) C0 (mX5_no l D cy adr _ _ _) 5 rfl (by decide) ykd_55 gX5_buy_X5_no rfl rfl rfl (by decide +kernel) ⟨by decide, by decide⟩ rfl rfl (Nat.le_of_ble_eq_true rfl) dX5_buy_78 ⟨by decide, by decide⟩ ?_
            have hc9 : buyC R w x = 3 := by first | (simp [buyC, c_11, c_28, c_73]; done) | (simp only [buyC, c_11, c_28, c_73, if_true, if_false])
            exact y_iret C0 dX5_buy_81 (mr_n hc9 (by decide)) (mo2_n hc9 (by decide))
      · refine y_iload_n C0 2 dX5_buy_41 rfl rfl ?_
        refine y_iconst (v := 4) C0 dX5_buy_42 (by decide) ?_
        refine y_iadd C0 dX5_buy_43 ?_
        refine y_iconst (v := 5) C0 dX5_buy_44 (by decide) ?_
        refine y_idiv C0 dX5_buy_45 (by decide) ?_
        refine y_goto C0 63 dX5_buy_46 (by decide) ?_
        refine y_top (show (x + 4) / 5 = prc w x from by simp [prc, c_38]) ?_
        refine y_istore_n C0 [(3, _), (0, _), (1, _), (2, _)] dX5_buy_63 rfl (by decide) rfl ?_
        refine y_aload_n C0 1 dX5_buy_64 rfl rfl ?_
        refine y_get C0 5 rfl rfl (by decide) hin5 1 ykd_55 (by decide) (by decide +kernel) yv5_now dX5_buy_65 ?_
        refine y_sipush (v := 187) C0 dX5_buy_68 (by decide) ?_
        refine y_ialdU C0 (187) ykd_56 rfl (by omega) dX5_buy_71 ?_
        refine y_iload_n C0 0 dX5_buy_72 rfl rfl ?_
        refine y_icmp_ge C0 82 dX5_buy_73 (by decide) (fun c_73 => ?_) (fun c_73 => ?_)
        · refine y_aload_n C0 1 dX5_buy_82 rfl rfl ?_
          refine y_get C0 5 rfl rfl (by decide) hin5 1 ykd_55 (by decide) (by decide +kernel) yv5_now dX5_buy_83 ?_
          refine y_sipush (v := 187) C0 dX5_buy_86 (by decide) ?_
          refine y_dup2 C0 dX5_buy_89 rfl rfl ?_
          refine y_ialdU C0 (187) ykd_56 rfl (by omega) dX5_buy_90 ?_
          refine y_iload_n C0 0 dX5_buy_91 rfl rfl ?_
          refine y_isub C0 dX5_buy_92 ?_
          refine y_iastU C0 (187) ykd_56 rfl (by omega) dX5_buy_93 ?_
          refine y_aload_n C0 1 dX5_buy_94 rfl rfl ?_
          refine y_get C0 5 rfl rfl (by decide) hin5 1 ykd_55 (by decide) (by decide +kernel) yv5_now dX5_buy_95 ?_
          refine y_sipush (v := 184) C0 dX5_buy_98 (by decide) ?_
          refine y_iload_n C0 2 dX5_buy_101 rfl rfl ?_
          refine y_top ew ?_
          refine y_iaddN C0 (a := 184) (b := cN w) rfl rfl dX5_buy_102 ?_
          refine y_dup2 C0 dX5_buy_103 rfl rfl ?_
          refine y_ialdU C0 ((184 + cN w)) ykd_56 rfl (by omega) dX5_buy_104 ?_
          refine y_iload_n C0 3 dX5_buy_105 rfl rfl ?_
          refine y_iadd C0 dX5_buy_106 ?_
          refine y_iastU C0 ((184 + cN w)) ykd_56 rfl (by omega) dX5_buy_107 ?_
          refine y_aload_n C0 1 dX5_buy_108 rfl rfl ?_
          refine y_get C0 5 rfl rfl (by decide) hin5 1 ykd_55 (by decide) (by decide +kernel) yv5_now dX5_buy_109 ?_
          refine y_sipush (v := 184) C0 dX5_buy_112 (by decide) ?_
          refine y_iload_n C0 2 dX5_buy_115 rfl rfl ?_
          refine y_top ew ?_
          refine y_iaddN C0 (a := 184) (b := cN w) rfl rfl dX5_buy_116 ?_
          refine y_ialdU C0 ((184 + cN w)) ykd_56 rfl (by omega) dX5_buy_117 ?_
          have hc9 : buyC R w x = 0 := by first | (simp [buyC, c_11, c_28, c_73]; done) | (simp only [buyC, c_11, c_28, c_73, if_true, if_false])
          exact y_iret C0 dX5_buy_118 (mr_0 hc9 rfl) (mo2_0 hc9 rfl)
        · refine y_aload_n C0 1 dX5_buy_76 rfl rfl ?_
          refine y_iconst (v := 3) C0 dX5_buy_77 (by decide) ?_
          refine y_callV (As := [_]) (rest := _) (n := 1) C0 (mX5_no l D cy adr _ _ _) 5 rfl (by decide) ykd_55 gX5_buy_X5_no rfl rfl rfl (by decide +kernel) ⟨by decide, by decide⟩ rfl rfl (Nat.le_of_ble_eq_true rfl) dX5_buy_78 ⟨by decide, by decide⟩ ?_
          have hc9 : buyC R w x = 3 := by first | (simp [buyC, c_11, c_28, c_73]; done) | (simp only [buyC, c_11, c_28, c_73, if_true, if_false])
          exact y_iret C0 dX5_buy_81 (mr_n hc9 (by decide)) (mo2_n hc9 (by decide))
    · refine y_aload_n C0 0 dX5_buy_31 rfl rfl ?_
      refine y_iconst (v := 2) C0 dX5_buy_32 (by decide) ?_
      refine y_callV (As := [_]) (rest := _) (n := 1) C0 (mX5_no l D cy adr _ _ _) 5 rfl (by decide) ykd_55 gX5_buy_X5_no rfl rfl rfl (by decide +kernel) ⟨by decide, by decide⟩ rfl rfl (Nat.le_of_ble_eq_true rfl) dX5_buy_33 ⟨by decide, by decide⟩ ?_
      have hc9 : buyC R w x = 2 := by first | (simp [buyC, c_11, c_28]; done) | (simp only [buyC, c_11, c_28, if_true, if_false])
      exact y_iret C0 dX5_buy_36 (mr_n hc9 (by decide)) (mo2_n hc9 (by decide))
  · refine y_aload_n C0 0 dX5_buy_14 rfl rfl ?_
    refine y_iconst (v := 1) C0 dX5_buy_15 (by decide) ?_
    refine y_callV (As := [_]) (rest := _) (n := 1) C0 (mX5_no l D cy adr _ _ _) 5 rfl (by decide) ykd_55 gX5_buy_X5_no rfl rfl rfl (by decide +kernel) ⟨by decide, by decide⟩ rfl rfl (Nat.le_of_ble_eq_true rfl) dX5_buy_16 ⟨by decide, by decide⟩ ?_
    have hc9 : buyC R w x = 1 := by first | (simp [buyC, c_11]; done) | (simp only [buyC, c_11, if_true, if_false])
    exact y_iret C0 dX5_buy_19 (mr_n hc9 (by decide)) (mo2_n hc9 (by decide))
abbrev rX5_count : Room := { frames := 2, cells := 0, slots := 0, locals := 44 }
set_option maxRecDepth 100000 in
set_option maxHeartbeats 4000000 in
theorem mX5_count (l : Launch) (D : va_G) (cy : Nat → ClassId) (adr : Nat → Nat) (M : yM) (R : Rw) (w : Int32) (B : Nat) (hB : B ≤ 15) (eB : R 189 = nI B) : Ct l yX5_count wsX5_count rX5_count D cy adr [.ref (adr 55), .int w] (va_up M 56 R) (some (.int (mr (couC w) (rCo R w B)))) (mo2 (couC w) (va_up (TN M 0) 56 (R)) (va_up (TN M (couC w)) 56 R)) 0 0 := by
  refine Ct.mk cX5_count 2 (some .int) RX5 (by decide) rfl rfl (Nat.le_of_ble_eq_true rfl) ?_
  intro K C0
  refine y_eq rfl (show ([(0, .ref (adr 55)), (1, .int w)] : List (Nat × Value)) = lv_args 0 [.ref (adr 55), .int w] from rfl) rfl ?_
  have hin5 : ∀ w ∈ u_ws RX5 TX5 3, w ∈ wsX5_count := by decide +kernel
  refine y_aload_n C0 0 dX5_count_0 rfl rfl ?_
  refine y_iconst (v := 0) C0 dX5_count_1 (by decide) ?_
  refine y_thU C0 hin5 (by decide +kernel) (by decide) dX5_count_2 ?_
  refine y_iload_n C0 1 dX5_count_5 rfl rfl ?_
  refine y_iconst (v := 0) C0 dX5_count_6 (by decide) ?_
  refine y_bipush (v := 14) C0 dX5_count_7 (by decide) ?_
  refine y_callS (As := [_, _, _]) (rest := _) (n := 3) C0 (mX5_isIn l D cy adr _ _ _ _) gX5_count_X5_isIn rfl rfl rfl (by decide +kernel) ⟨by decide, by decide⟩ rfl rfl (Nat.le_of_ble_eq_true rfl) dX5_count_9 ⟨by decide, by decide⟩ ?_
  refine y_if_eq C0 26 dX5_count_12 (by decide) (fun c_12 => ?_) (fun c_12 => ?_)
  · refine y_aload_n C0 0 dX5_count_26 rfl rfl ?_
    refine y_iconst (v := 1) C0 dX5_count_27 (by decide) ?_
    refine y_callV (As := [_]) (rest := _) (n := 1) C0 (mX5_no l D cy adr _ _ _) 5 rfl (by decide) ykd_55 gX5_count_X5_no rfl rfl rfl (by decide +kernel) ⟨by decide, by decide⟩ rfl rfl (Nat.le_of_ble_eq_true rfl) dX5_count_28 ⟨by decide, by decide⟩ ?_
    have hc9 : couC w = 1 := by simp [couC, c_12]
    exact y_iret C0 dX5_count_31 (mr_n hc9 (by decide)) (mo2_n hc9 (by decide))
  · refine y_aload_n C0 0 dX5_count_15 rfl rfl ?_
    refine y_get C0 5 rfl rfl (by decide) hin5 1 ykd_55 (by decide) (by decide +kernel) yv5_now dX5_count_16 ?_
    refine y_iload_n C0 1 dX5_count_19 rfl rfl ?_
    refine y_callS (As := [_, _]) (rest := _) (n := 2) C0 (mX5_counted l D cy adr _ _ ykd_56 _ _ B hB eB) gX5_count_X5_counted rfl rfl rfl (by decide +kernel) ⟨by decide, by decide⟩ rfl rfl (Nat.le_of_ble_eq_true rfl) dX5_count_20 ⟨by decide, by decide⟩ ?_
    refine y_goto C0 31 dX5_count_23 (by decide) ?_
    have hc9 : couC w = 0 := by simp [couC, c_12]
    exact y_iret C0 dX5_count_31 (mr_0 hc9 rfl) (mo2_0 hc9 rfl)
abbrev rX5_pass_ : Room := { frames := 5, cells := 0, slots := 0, locals := 108 }
set_option maxRecDepth 100000 in
set_option maxHeartbeats 4000000 in
theorem mX5_pass_ (l : Launch) (D : va_G) (cy : Nat → ClassId) (adr : Nat → Nat) (M : yM) (R : Rw) (h : Int32) (B S : Nat) (hok : mOK R B S) : Ct l yX5_pass_ wsX5_pass_ rX5_pass_ D cy adr [.ref (adr 55), .int h] (va_up M 56 R) (some (.int (mr (pasC h) (rLk (rHours R B S h.toNatClampNeg) 5 B - rLk R 5 B)))) (mo2 (pasC h) (va_up (TN M 0) 56 (rHours R B S h.toNatClampNeg)) (va_up (TN M (pasC h)) 56 R)) 0 0 := by
  refine Ct.mk cX5_pass_ 3 (some .int) RX5 (by decide) rfl rfl (Nat.le_of_ble_eq_true rfl) ?_
  intro K C0
  refine y_eq rfl (show ([(0, .ref (adr 55)), (1, .int h)] : List (Nat × Value)) = lv_args 0 [.ref (adr 55), .int h] from rfl) rfl ?_
  have hin5 : ∀ w ∈ u_ws RX5 TX5 3, w ∈ wsX5_pass_ := by decide +kernel
  have hB := hok.2.1
  have eB := hok.1
  refine y_aload_n C0 0 dX5_pass__0 rfl rfl ?_
  refine y_iconst (v := 0) C0 dX5_pass__1 (by decide) ?_
  refine y_thU C0 hin5 (by decide +kernel) (by decide) dX5_pass__2 ?_
  refine y_iload_n C0 1 dX5_pass__5 rfl rfl ?_
  refine y_iconst (v := 1) C0 dX5_pass__6 (by decide) ?_
  refine y_bipush (v := 120) C0 dX5_pass__7 (by decide) ?_
  refine y_callS (As := [_, _, _]) (rest := _) (n := 3) C0 (mX5_isIn l D cy adr _ _ _ _) gX5_pass__X5_isIn rfl rfl rfl (by decide +kernel) ⟨by decide, by decide⟩ rfl rfl (Nat.le_of_ble_eq_true rfl) dX5_pass__9 ⟨by decide, by decide⟩ ?_
  refine y_if_ne C0 21 dX5_pass__12 (by decide) (fun c_12 => ?_) (fun c_12 => ?_)
  · refine y_aload_n C0 0 dX5_pass__21 rfl rfl ?_
    refine y_get C0 5 rfl rfl (by decide) hin5 1 ykd_55 (by decide) (by decide +kernel) yv5_now dX5_pass__22 ?_
    refine y_iconst (v := 5) C0 dX5_pass__25 (by decide) ?_
    refine y_callS (As := [_, _]) (rest := _) (n := 2) C0 (mX5_like l D cy adr _ _ ykd_56 _ _ B hB eB) gX5_pass__X5_like rfl rfl rfl (by decide +kernel) ⟨by decide, by decide⟩ rfl rfl (Nat.le_of_ble_eq_true rfl) dX5_pass__26 ⟨by decide, by decide⟩ ?_
    refine y_istore_n C0 [(2, _), (0, _), (1, _)] dX5_pass__29 rfl (by decide) rfl ?_
    refine y_aload_n C0 1 dX5_pass__30 rfl rfl ?_
    refine y_get C0 5 rfl rfl (by decide) hin5 1 ykd_55 (by decide) (by decide +kernel) yv5_now dX5_pass__31 ?_
    refine y_iload_n C0 2 dX5_pass__34 rfl rfl ?_
    refine y_callS (As := [_, _]) (rest := _) (n := 2) C0 (mX5_passAll l D cy adr _ _ ykd_56 _ _ B S hok) gX5_pass__X5_passAll rfl rfl rfl (by decide +kernel) ⟨by decide, by decide⟩ rfl rfl (Nat.le_of_ble_eq_true rfl) dX5_pass__35 ⟨by decide, by decide⟩ ?_
    refine y_aload_n C0 1 dX5_pass__38 rfl rfl ?_
    refine y_get C0 5 rfl rfl (by decide) hin5 1 ykd_55 (by decide) (by decide +kernel) yv5_now dX5_pass__39 ?_
    refine y_iconst (v := 5) C0 dX5_pass__42 (by decide) ?_
    refine y_callS (As := [_, _]) (rest := _) (n := 2) C0 (mX5_like l D cy adr _ _ ykd_56 _ _ B hB (mOK_hours hok _).1) gX5_pass__X5_like rfl rfl rfl (by decide +kernel) ⟨by decide, by decide⟩ rfl rfl (Nat.le_of_ble_eq_true rfl) dX5_pass__43 ⟨by decide, by decide⟩ ?_
    refine y_iload_n C0 0 dX5_pass__46 rfl rfl ?_
    refine y_isub C0 dX5_pass__47 ?_
    have hc9 : pasC h = 0 := by simp [pasC, c_12]
    exact y_iret C0 dX5_pass__48 (mr_0 hc9 rfl) (mo2_0 hc9 rfl)
  · refine y_aload_n C0 0 dX5_pass__15 rfl rfl ?_
    refine y_iconst (v := 1) C0 dX5_pass__16 (by decide) ?_
    refine y_callV (As := [_]) (rest := _) (n := 1) C0 (mX5_no l D cy adr _ _ _) 5 rfl (by decide) ykd_55 gX5_pass__X5_no rfl rfl rfl (by decide +kernel) ⟨by decide, by decide⟩ rfl rfl (Nat.le_of_ble_eq_true rfl) dX5_pass__17 ⟨by decide, by decide⟩ ?_
    have hc9 : pasC h = 1 := by simp [pasC, c_12]
    exact y_iret C0 dX5_pass__20 (mr_n hc9 (by decide)) (mo2_n hc9 (by decide))
abbrev rX5_foresee : Room := { frames := 5, cells := 0, slots := 0, locals := 108 }
set_option maxRecDepth 100000 in
set_option maxHeartbeats 4000000 in
theorem mX5_foresee (l : Launch) (D : va_G) (cy : Nat → ClassId) (adr : Nat → Nat) (M : yM) (R : Rw) (h : Int32) (w : Int32) (B S : Nat) (hok : mOK R B S) : Ct l yX5_foresee wsX5_foresee rX5_foresee D cy adr [.ref (adr 55), .int h, .int w] (va_up M 56 R) (some (.int (mr (forC h w) (rCo (rHours R B S h.toNatClampNeg) w B)))) (mo2 (forC h w) (va_up (va_up (TN M 0) 56 R) 57 (rHours R B S h.toNatClampNeg)) (va_up (TN M (forC h w)) 56 R)) 0 0 := by
  refine Ct.mk cX5_foresee 3 (some .int) RX5 (by decide) rfl rfl (Nat.le_of_ble_eq_true rfl) ?_
  intro K C0
  refine y_eq rfl (show ([(0, .ref (adr 55)), (1, .int h), (2, .int w)] : List (Nat × Value)) = lv_args 0 [.ref (adr 55), .int h, .int w] from rfl) rfl ?_
  have hin5 : ∀ w ∈ u_ws RX5 TX5 3, w ∈ wsX5_foresee := by decide +kernel
  have hB := hok.2.1
  refine y_aload_n C0 0 dX5_foresee_0 rfl rfl ?_
  refine y_iconst (v := 0) C0 dX5_foresee_1 (by decide) ?_
  refine y_thU C0 hin5 (by decide +kernel) (by decide) dX5_foresee_2 ?_
  refine y_iload_n C0 1 dX5_foresee_5 rfl rfl ?_
  refine y_iconst (v := 1) C0 dX5_foresee_6 (by decide) ?_
  refine y_bipush (v := 120) C0 dX5_foresee_7 (by decide) ?_
  refine y_callS (As := [_, _, _]) (rest := _) (n := 3) C0 (mX5_isIn l D cy adr _ _ _ _) gX5_foresee_X5_isIn rfl rfl rfl (by decide +kernel) ⟨by decide, by decide⟩ rfl rfl (Nat.le_of_ble_eq_true rfl) dX5_foresee_9 ⟨by decide, by decide⟩ ?_
  refine y_if_ne C0 21 dX5_foresee_12 (by decide) (fun c_12 => ?_) (fun c_12 => ?_)
  · refine y_iload_n C0 2 dX5_foresee_21 rfl rfl ?_
    refine y_iconst (v := 2) C0 dX5_foresee_22 (by decide) ?_
    refine y_bipush (v := 7) C0 dX5_foresee_23 (by decide) ?_
    refine y_callS (As := [_, _, _]) (rest := _) (n := 3) C0 (mX5_isIn l D cy adr _ _ _ _) gX5_foresee_X5_isIn rfl rfl rfl (by decide +kernel) ⟨by decide, by decide⟩ rfl rfl (Nat.le_of_ble_eq_true rfl) dX5_foresee_25 ⟨by decide, by decide⟩ ?_
    refine y_if_ne C0 48 dX5_foresee_28 (by decide) (fun c_28 => ?_) (fun c_28 => ?_)
    · refine y_aload_n C0 0 dX5_foresee_48 rfl rfl ?_
      refine y_callV (As := []) (rest := _) (n := 0) C0 (mX5_lookAhead l D cy adr _ _) 5 rfl (by decide) ykd_55 gX5_foresee_X5_lookAhead rfl rfl rfl (by decide +kernel) ⟨by decide, by decide⟩ rfl rfl (Nat.le_of_ble_eq_true rfl) dX5_foresee_49 ⟨by decide, by decide⟩ ?_
      refine y_aload_n C0 0 dX5_foresee_52 rfl rfl ?_
      refine y_get C0 5 rfl rfl (by decide) hin5 2 ykd_55 (by decide) (by decide +kernel) yv5_ahead dX5_foresee_53 ?_
      refine y_iload_n C0 1 dX5_foresee_56 rfl rfl ?_
      refine y_callS (As := [_, _]) (rest := _) (n := 2) C0 (mX5_passAll l D cy adr _ _ ykd_57 _ _ B S hok) gX5_foresee_X5_passAll rfl rfl rfl (by decide +kernel) ⟨by decide, by decide⟩ rfl rfl (Nat.le_of_ble_eq_true rfl) dX5_foresee_57 ⟨by decide, by decide⟩ ?_
      refine y_aload_n C0 0 dX5_foresee_60 rfl rfl ?_
      refine y_get C0 5 rfl rfl (by decide) hin5 2 ykd_55 (by decide) (by decide +kernel) yv5_ahead dX5_foresee_61 ?_
      refine y_iload_n C0 2 dX5_foresee_64 rfl rfl ?_
      refine y_callS (As := [_, _]) (rest := _) (n := 2) C0 (mX5_counted l D cy adr _ _ ykd_57 _ _ B hB (mOK_hours hok _).1) gX5_foresee_X5_counted rfl rfl rfl (by decide +kernel) ⟨by decide, by decide⟩ rfl rfl (Nat.le_of_ble_eq_true rfl) dX5_foresee_65 ⟨by decide, by decide⟩ ?_
      have hc9 : forC h w = 0 := by simp [forC, c_12, c_28]
      exact y_iret C0 dX5_foresee_68 (mr_0 hc9 rfl) (mo2_0 hc9 rfl)
    · refine y_iload_n C0 2 dX5_foresee_31 rfl rfl ?_
      refine y_bipush (v := 10) C0 dX5_foresee_32 (by decide) ?_
      refine y_bipush (v := 14) C0 dX5_foresee_34 (by decide) ?_
      refine y_callS (As := [_, _, _]) (rest := _) (n := 3) C0 (mX5_isIn l D cy adr _ _ _ _) gX5_foresee_X5_isIn rfl rfl rfl (by decide +kernel) ⟨by decide, by decide⟩ rfl rfl (Nat.le_of_ble_eq_true rfl) dX5_foresee_36 ⟨by decide, by decide⟩ ?_
      refine y_if_ne C0 48 dX5_foresee_39 (by decide) (fun c_39 => ?_) (fun c_39 => ?_)
      · refine y_aload_n C0 0 dX5_foresee_48 rfl rfl ?_
        refine y_callV (As := []) (rest := _) (n := 0) C0 (mX5_lookAhead l D cy adr _ _) 5 rfl (by decide) ykd_55 gX5_foresee_X5_lookAhead rfl rfl rfl (by decide +kernel) ⟨by decide, by decide⟩ rfl rfl (Nat.le_of_ble_eq_true rfl) dX5_foresee_49 ⟨by decide, by decide⟩ ?_
        refine y_aload_n C0 0 dX5_foresee_52 rfl rfl ?_
        refine y_get C0 5 rfl rfl (by decide) hin5 2 ykd_55 (by decide) (by decide +kernel) yv5_ahead dX5_foresee_53 ?_
        refine y_iload_n C0 1 dX5_foresee_56 rfl rfl ?_
        refine y_callS (As := [_, _]) (rest := _) (n := 2) C0 (mX5_passAll l D cy adr _ _ ykd_57 _ _ B S hok) gX5_foresee_X5_passAll rfl rfl rfl (by decide +kernel) ⟨by decide, by decide⟩ rfl rfl (Nat.le_of_ble_eq_true rfl) dX5_foresee_57 ⟨by decide, by decide⟩ ?_
        refine y_aload_n C0 0 dX5_foresee_60 rfl rfl ?_
        refine y_get C0 5 rfl rfl (by decide) hin5 2 ykd_55 (by decide) (by decide +kernel) yv5_ahead dX5_foresee_61 ?_
        refine y_iload_n C0 2 dX5_foresee_64 rfl rfl ?_
        refine y_callS (As := [_, _]) (rest := _) (n := 2) C0 (mX5_counted l D cy adr _ _ ykd_57 _ _ B hB (mOK_hours hok _).1) gX5_foresee_X5_counted rfl rfl rfl (by decide +kernel) ⟨by decide, by decide⟩ rfl rfl (Nat.le_of_ble_eq_true rfl) dX5_foresee_65 ⟨by decide, by decide⟩ ?_
        have hc9 : forC h w = 0 := by simp [forC, c_12, c_28, c_39]
        exact y_iret C0 dX5_foresee_68 (mr_0 hc9 rfl) (mo2_0 hc9 rfl)
      · refine y_aload_n C0 0 dX5_foresee_42 rfl rfl ?_
        refine y_iconst (v := 2) C0 dX5_foresee_43 (by decide) ?_
        refine y_callV (As := [_]) (rest := _) (n := 1) C0 (mX5_no l D cy adr _ _ _) 5 rfl (by decide) ykd_55 gX5_foresee_X5_no rfl rfl rfl (by decide +kernel) ⟨by decide, by decide⟩ rfl rfl (Nat.le_of_ble_eq_true rfl) dX5_foresee_44 ⟨by decide, by decide⟩ ?_
        have hc9 : forC h w = 2 := by simp [forC, c_12, c_28, c_39]
        exact y_iret C0 dX5_foresee_47 (mr_n hc9 (by decide)) (mo2_n hc9 (by decide))
  · refine y_aload_n C0 0 dX5_foresee_15 rfl rfl ?_
    refine y_iconst (v := 1) C0 dX5_foresee_16 (by decide) ?_
    refine y_callV (As := [_]) (rest := _) (n := 1) C0 (mX5_no l D cy adr _ _ _) 5 rfl (by decide) ykd_55 gX5_foresee_X5_no rfl rfl rfl (by decide +kernel) ⟨by decide, by decide⟩ rfl rfl (Nat.le_of_ble_eq_true rfl) dX5_foresee_17 ⟨by decide, by decide⟩ ?_
    have hc9 : forC h w = 1 := by simp [forC, c_12]
    exact y_iret C0 dX5_foresee_20 (mr_n hc9 (by decide)) (mo2_n hc9 (by decide))
end YMG
