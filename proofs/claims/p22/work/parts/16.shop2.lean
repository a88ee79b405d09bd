section YZ
abbrev rX3_store : Room := { frames := 0, cells := 0, slots := 0, locals := 0 }
set_option maxRecDepth 100000 in
set_option maxHeartbeats 4000000 in
theorem mX3_store (l : Launch) (D : va_G) (cy : Nat → ClassId) (adr : Nat → Nat) (M : yM) (o : Nat) (ho : o = 0 ∨ o = 27) (x : Int32) (y : Int32)  : Ct l yX3_store wsX3_store rX3_store D cy adr [.ref (adr o), .int x, .int y] M (some (.int (wStoreR M o x y))) (wStore M o x y) 0 0 := by
  refine Ct.mk cX3_store 3 (some .int) RX3 (by decide) rfl rfl (Nat.le_of_ble_eq_true rfl) ?_
  intro K C0
  refine y_eq rfl (show ([(0, .ref (adr o)), (1, .int x), (2, .int y)] : List (Nat × Value)) = lv_args 0 [.ref (adr o), .int x, .int y] from rfl) rfl ?_
  have hin3 : ∀ w ∈ u_ws RX3 TX3 12, w ∈ wsX3_store := by decide +kernel
  refine y_iload_n C0 1 dX3_store_0 rfl rfl ?_
  by_cases s_1_0 : x = 0
  · refine y_lsw (off := 27) C0 dX3_store_1 rfl (by rw [s_1_0]; try rfl) (tgt := 28) (by decide) ?_
    refine y_aload_n C0 0 dX3_store_28 rfl rfl ?_
    refine y_dup C0 dX3_store_29 rfl ?_
    refine y_get C0 3 rfl rfl (by decide) hin3 7 (ykd_w ho) (by decide) (by decide +kernel) (yvi3 (ykd_w ho) (by decide)) dX3_store_30 ?_
    refine y_iload_n C0 2 dX3_store_33 rfl rfl ?_
    refine y_iadd C0 dX3_store_34 ?_
    refine y_put C0 3 rfl rfl (by decide) hin3 tyX3 tyX3_ok nmX3 7 (ykd_w ho) (by decide) (by decide +kernel) (yrn3 (ykd_w ho) (by decide)) rfl (by decide +kernel) dX3_store_35 ?_
    refine y_aload_n C0 0 dX3_store_38 rfl rfl ?_
    refine y_get C0 3 rfl rfl (by decide) hin3 7 (ykd_w ho) (by decide) (by decide +kernel) (yvi3 (ykd_w ho) (by decide)) dX3_store_39 ?_
    exact y_iret C0 dX3_store_42 (by simp [wStoreR, yst, s_1_0]) (by simp [wStore, s_1_0])
  by_cases s_1_1 : x = 1
  · refine y_lsw (off := 42) C0 dX3_store_1 rfl (by rw [s_1_1]; try rfl) (tgt := 43) (by decide) ?_
    refine y_aload_n C0 0 dX3_store_43 rfl rfl ?_
    refine y_dup C0 dX3_store_44 rfl ?_
    refine y_get C0 3 rfl rfl (by decide) hin3 8 (ykd_w ho) (by decide) (by decide +kernel) (yvi3 (ykd_w ho) (by decide)) dX3_store_45 ?_
    refine y_iload_n C0 2 dX3_store_48 rfl rfl ?_
    refine y_iadd C0 dX3_store_49 ?_
    refine y_put C0 3 rfl rfl (by decide) hin3 tyX3 tyX3_ok nmX3 8 (ykd_w ho) (by decide) (by decide +kernel) (yrn3 (ykd_w ho) (by decide)) rfl (by decide +kernel) dX3_store_50 ?_
    refine y_aload_n C0 0 dX3_store_53 rfl rfl ?_
    refine y_get C0 3 rfl rfl (by decide) hin3 8 (ykd_w ho) (by decide) (by decide +kernel) (yvi3 (ykd_w ho) (by decide)) dX3_store_54 ?_
    exact y_iret C0 dX3_store_57 (by simp [wStoreR, yst, s_1_1]) (by simp [wStore, s_1_1])
  refine y_lsw (off := 57) C0 dX3_store_1 rfl ((lv_osw s_1_0 rfl).trans (lv_osw s_1_1 rfl)) (tgt := 58) (by decide) ?_
  refine y_aload_n C0 0 dX3_store_58 rfl rfl ?_
  refine y_dup C0 dX3_store_59 rfl ?_
  refine y_get C0 3 rfl rfl (by decide) hin3 9 (ykd_w ho) (by decide) (by decide +kernel) (yvi3 (ykd_w ho) (by decide)) dX3_store_60 ?_
  refine y_iload_n C0 2 dX3_store_63 rfl rfl ?_
  refine y_iadd C0 dX3_store_64 ?_
  refine y_put C0 3 rfl rfl (by decide) hin3 tyX3 tyX3_ok nmX3 9 (ykd_w ho) (by decide) (by decide +kernel) (yrn3 (ykd_w ho) (by decide)) rfl (by decide +kernel) dX3_store_65 ?_
  refine y_aload_n C0 0 dX3_store_68 rfl rfl ?_
  refine y_get C0 3 rfl rfl (by decide) hin3 9 (ykd_w ho) (by decide) (by decide +kernel) (yvi3 (ykd_w ho) (by decide)) dX3_store_69 ?_
  exact y_iret C0 dX3_store_72 (by simp [wStoreR, yst, s_1_0, s_1_1]) (by simp [wStore, s_1_0, s_1_1])
abbrev rX3_tellOfAll : Room := { frames := 1, cells := 0, slots := 0, locals := 26 }
set_option maxRecDepth 100000 in
set_option maxHeartbeats 4000000 in
theorem mX3_tellOfAll (l : Launch) (D : va_G) (cy : Nat → ClassId) (adr : Nat → Nat) (M : yM) (o : Nat) (ho : o = 0 ∨ o = 27) (x : Int32)  : Ct l yX3_tellOfAll wsX3_tellOfAll rX3_tellOfAll D cy adr [.ref (adr o), .int x] M (some (.int (wTellA M o x))) (M) 0 0 := by
  refine Ct.mk cX3_tellOfAll 2 (some .int) RX3 (by decide) rfl rfl (Nat.le_of_ble_eq_true rfl) ?_
  intro K C0
  refine y_eq rfl (show ([(0, .ref (adr o)), (1, .int x)] : List (Nat × Value)) = lv_args 0 [.ref (adr o), .int x] from rfl) rfl ?_
  have hin3 : ∀ w ∈ u_ws RX3 TX3 12, w ∈ wsX3_tellOfAll := by decide +kernel
  refine y_iload_n C0 1 dX3_tellOfAll_0 rfl rfl ?_
  by_cases s_1_0 : x = 0
  · refine y_tswI (v := 0) C0 dX3_tellOfAll_1 (by rw [s_1_0]; rfl) (by decide) (by decide) rfl (tgt := 76) (by decide) ?_
    refine y_aload_n C0 0 dX3_tellOfAll_76 rfl rfl ?_
    refine y_get C0 3 rfl rfl (by decide) hin3 5 (ykd_w ho) (by decide) (by decide +kernel) (yvi3 (ykd_w ho) (by decide)) dX3_tellOfAll_77 ?_
    exact y_iret C0 dX3_tellOfAll_80 (by simp [wTellA, s_1_0]) rfl
  by_cases s_1_1 : x = 1
  · refine y_tswI (v := 1) C0 dX3_tellOfAll_1 (by rw [s_1_1]; rfl) (by decide) (by decide) rfl (tgt := 81) (by decide) ?_
    refine y_aload_n C0 0 dX3_tellOfAll_81 rfl rfl ?_
    refine y_get C0 3 rfl rfl (by decide) hin3 3 (ykd_w ho) (by decide) (by decide +kernel) (yvi3 (ykd_w ho) (by decide)) dX3_tellOfAll_82 ?_
    exact y_iret C0 dX3_tellOfAll_85 (by simp [wTellA, s_1_1]) rfl
  by_cases s_1_2 : x = 2
  · refine y_tswI (v := 2) C0 dX3_tellOfAll_1 (by rw [s_1_2]; rfl) (by decide) (by decide) rfl (tgt := 116) (by decide) ?_
    refine y_aload_n C0 0 dX3_tellOfAll_116 rfl rfl ?_
    refine y_iload_n C0 1 dX3_tellOfAll_117 rfl rfl ?_
    refine y_iconst (v := 2) C0 dX3_tellOfAll_118 (by decide) ?_
    refine y_isub C0 dX3_tellOfAll_119 ?_
    refine y_callV (As := [_]) (rest := _) (n := 1) C0 (mX3_booksAt l D cy adr _ _ ho _) 3 rfl (by decide) (ykd_w ho) gX3_tellOfAll_X3_booksAt rfl rfl rfl (by decide +kernel) ⟨by decide, by decide⟩ rfl rfl (Nat.le_of_ble_eq_true rfl) dX3_tellOfAll_120 ⟨by decide, by decide⟩ ?_
    exact y_iret C0 dX3_tellOfAll_123 (by simp [wTellA, s_1_2]) rfl
  by_cases s_1_3 : x = 3
  · refine y_tswI (v := 3) C0 dX3_tellOfAll_1 (by rw [s_1_3]; rfl) (by decide) (by decide) rfl (tgt := 116) (by decide) ?_
    refine y_aload_n C0 0 dX3_tellOfAll_116 rfl rfl ?_
    refine y_iload_n C0 1 dX3_tellOfAll_117 rfl rfl ?_
    refine y_iconst (v := 2) C0 dX3_tellOfAll_118 (by decide) ?_
    refine y_isub C0 dX3_tellOfAll_119 ?_
    refine y_callV (As := [_]) (rest := _) (n := 1) C0 (mX3_booksAt l D cy adr _ _ ho _) 3 rfl (by decide) (ykd_w ho) gX3_tellOfAll_X3_booksAt rfl rfl rfl (by decide +kernel) ⟨by decide, by decide⟩ rfl rfl (Nat.le_of_ble_eq_true rfl) dX3_tellOfAll_120 ⟨by decide, by decide⟩ ?_
    exact y_iret C0 dX3_tellOfAll_123 (by simp [wTellA, s_1_3]) rfl
  by_cases s_1_4 : x = 4
  · refine y_tswI (v := 4) C0 dX3_tellOfAll_1 (by rw [s_1_4]; rfl) (by decide) (by decide) rfl (tgt := 116) (by decide) ?_
    refine y_aload_n C0 0 dX3_tellOfAll_116 rfl rfl ?_
    refine y_iload_n C0 1 dX3_tellOfAll_117 rfl rfl ?_
    refine y_iconst (v := 2) C0 dX3_tellOfAll_118 (by decide) ?_
    refine y_isub C0 dX3_tellOfAll_119 ?_
    refine y_callV (As := [_]) (rest := _) (n := 1) C0 (mX3_booksAt l D cy adr _ _ ho _) 3 rfl (by decide) (ykd_w ho) gX3_tellOfAll_X3_booksAt rfl rfl rfl (by decide +kernel) ⟨by decide, by decide⟩ rfl rfl (Nat.le_of_ble_eq_true rfl) dX3_tellOfAll_120 ⟨by decide, by decide⟩ ?_
    exact y_iret C0 dX3_tellOfAll_123 (by simp [wTellA, s_1_4]) rfl
  by_cases s_1_5 : x = 5
  · refine y_tswI (v := 5) C0 dX3_tellOfAll_1 (by rw [s_1_5]; rfl) (by decide) (by decide) rfl (tgt := 116) (by decide) ?_
    refine y_aload_n C0 0 dX3_tellOfAll_116 rfl rfl ?_
    refine y_iload_n C0 1 dX3_tellOfAll_117 rfl rfl ?_
    refine y_iconst (v := 2) C0 dX3_tellOfAll_118 (by decide) ?_
    refine y_isub C0 dX3_tellOfAll_119 ?_
    refine y_callV (As := [_]) (rest := _) (n := 1) C0 (mX3_booksAt l D cy adr _ _ ho _) 3 rfl (by decide) (ykd_w ho) gX3_tellOfAll_X3_booksAt rfl rfl rfl (by decide +kernel) ⟨by decide, by decide⟩ rfl rfl (Nat.le_of_ble_eq_true rfl) dX3_tellOfAll_120 ⟨by decide, by decide⟩ ?_
    exact y_iret C0 dX3_tellOfAll_123 (by simp [wTellA, s_1_5]) rfl
  by_cases s_1_6 : x = 6
  · refine y_tswI (v := 6) C0 dX3_tellOfAll_1 (by rw [s_1_6]; rfl) (by decide) (by decide) rfl (tgt := 116) (by decide) ?_
    refine y_aload_n C0 0 dX3_tellOfAll_116 rfl rfl ?_
    refine y_iload_n C0 1 dX3_tellOfAll_117 rfl rfl ?_
    refine y_iconst (v := 2) C0 dX3_tellOfAll_118 (by decide) ?_
    refine y_isub C0 dX3_tellOfAll_119 ?_
    refine y_callV (As := [_]) (rest := _) (n := 1) C0 (mX3_booksAt l D cy adr _ _ ho _) 3 rfl (by decide) (ykd_w ho) gX3_tellOfAll_X3_booksAt rfl rfl rfl (by decide +kernel) ⟨by decide, by decide⟩ rfl rfl (Nat.le_of_ble_eq_true rfl) dX3_tellOfAll_120 ⟨by decide, by decide⟩ ?_
    exact y_iret C0 dX3_tellOfAll_123 (by simp [wTellA, s_1_6]) rfl
  by_cases s_1_7 : x = 7
  · refine y_tswI (v := 7) C0 dX3_tellOfAll_1 (by rw [s_1_7]; rfl) (by decide) (by decide) rfl (tgt := 116) (by decide) ?_
    refine y_aload_n C0 0 dX3_tellOfAll_116 rfl rfl ?_
    refine y_iload_n C0 1 dX3_tellOfAll_117 rfl rfl ?_
    refine y_iconst (v := 2) C0 dX3_tellOfAll_118 (by decide) ?_
    refine y_isub C0 dX3_tellOfAll_119 ?_
    refine y_callV (As := [_]) (rest := _) (n := 1) C0 (mX3_booksAt l D cy adr _ _ ho _) 3 rfl (by decide) (ykd_w ho) gX3_tellOfAll_X3_booksAt rfl rfl rfl (by decide +kernel) ⟨by decide, by decide⟩ rfl rfl (Nat.le_of_ble_eq_true rfl) dX3_tellOfAll_120 ⟨by decide, by decide⟩ ?_
    exact y_iret C0 dX3_tellOfAll_123 (by simp [wTellA, s_1_7]) rfl
  by_cases s_1_8 : x = 8
  · refine y_tswI (v := 8) C0 dX3_tellOfAll_1 (by rw [s_1_8]; rfl) (by decide) (by decide) rfl (tgt := 116) (by decide) ?_
    refine y_aload_n C0 0 dX3_tellOfAll_116 rfl rfl ?_
    refine y_iload_n C0 1 dX3_tellOfAll_117 rfl rfl ?_
    refine y_iconst (v := 2) C0 dX3_tellOfAll_118 (by decide) ?_
    refine y_isub C0 dX3_tellOfAll_119 ?_
    refine y_callV (As := [_]) (rest := _) (n := 1) C0 (mX3_booksAt l D cy adr _ _ ho _) 3 rfl (by decide) (ykd_w ho) gX3_tellOfAll_X3_booksAt rfl rfl rfl (by decide +kernel) ⟨by decide, by decide⟩ rfl rfl (Nat.le_of_ble_eq_true rfl) dX3_tellOfAll_120 ⟨by decide, by decide⟩ ?_
    exact y_iret C0 dX3_tellOfAll_123 (by simp [wTellA, s_1_8]) rfl
  by_cases s_1_9 : x = 9
  · refine y_tswI (v := 9) C0 dX3_tellOfAll_1 (by rw [s_1_9]; rfl) (by decide) (by decide) rfl (tgt := 86) (by decide) ?_
    refine y_aload_n C0 0 dX3_tellOfAll_86 rfl rfl ?_
    refine y_get C0 3 rfl rfl (by decide) hin3 6 (ykd_w ho) (by decide) (by decide +kernel) (yvi3 (ykd_w ho) (by decide)) dX3_tellOfAll_87 ?_
    exact y_iret C0 dX3_tellOfAll_90 (by simp [wTellA, s_1_9]) rfl
  by_cases s_1_10 : x = 10
  · refine y_tswI (v := 10) C0 dX3_tellOfAll_1 (by rw [s_1_10]; rfl) (by decide) (by decide) rfl (tgt := 91) (by decide) ?_
    refine y_aload_n C0 0 dX3_tellOfAll_91 rfl rfl ?_
    refine y_get C0 3 rfl rfl (by decide) hin3 7 (ykd_w ho) (by decide) (by decide +kernel) (yvi3 (ykd_w ho) (by decide)) dX3_tellOfAll_92 ?_
    exact y_iret C0 dX3_tellOfAll_95 (by simp [wTellA, s_1_10]) rfl
  by_cases s_1_11 : x = 11
  · refine y_tswI (v := 11) C0 dX3_tellOfAll_1 (by rw [s_1_11]; rfl) (by decide) (by decide) rfl (tgt := 96) (by decide) ?_
    refine y_aload_n C0 0 dX3_tellOfAll_96 rfl rfl ?_
    refine y_get C0 3 rfl rfl (by decide) hin3 8 (ykd_w ho) (by decide) (by decide +kernel) (yvi3 (ykd_w ho) (by decide)) dX3_tellOfAll_97 ?_
    exact y_iret C0 dX3_tellOfAll_100 (by simp [wTellA, s_1_11]) rfl
  by_cases s_1_12 : x = 12
  · refine y_tswI (v := 12) C0 dX3_tellOfAll_1 (by rw [s_1_12]; rfl) (by decide) (by decide) rfl (tgt := 101) (by decide) ?_
    refine y_aload_n C0 0 dX3_tellOfAll_101 rfl rfl ?_
    refine y_get C0 3 rfl rfl (by decide) hin3 9 (ykd_w ho) (by decide) (by decide +kernel) (yvi3 (ykd_w ho) (by decide)) dX3_tellOfAll_102 ?_
    exact y_iret C0 dX3_tellOfAll_105 (by simp [wTellA, s_1_12]) rfl
  by_cases s_1_13 : x = 13
  · refine y_tswI (v := 13) C0 dX3_tellOfAll_1 (by rw [s_1_13]; rfl) (by decide) (by decide) rfl (tgt := 106) (by decide) ?_
    refine y_aload_n C0 0 dX3_tellOfAll_106 rfl rfl ?_
    refine y_get C0 3 rfl rfl (by decide) hin3 10 (ykd_w ho) (by decide) (by decide +kernel) (yvi3 (ykd_w ho) (by decide)) dX3_tellOfAll_107 ?_
    exact y_iret C0 dX3_tellOfAll_110 (by simp [wTellA, s_1_13]) rfl
  by_cases s_1_14 : x = 14
  · refine y_tswI (v := 14) C0 dX3_tellOfAll_1 (by rw [s_1_14]; rfl) (by decide) (by decide) rfl (tgt := 111) (by decide) ?_
    refine y_aload_n C0 0 dX3_tellOfAll_111 rfl rfl ?_
    refine y_get C0 3 rfl rfl (by decide) hin3 11 (ykd_w ho) (by decide) (by decide +kernel) (yvi3 (ykd_w ho) (by decide)) dX3_tellOfAll_112 ?_
    exact y_iret C0 dX3_tellOfAll_115 (by simp [wTellA, s_1_14]) rfl
  refine y_tswO C0 dX3_tellOfAll_1 (by have z0 := lv_neT s_1_0 (a := 0) rfl; have z1 := lv_neT s_1_1 (a := 1) rfl; have z2 := lv_neT s_1_2 (a := 2) rfl; have z3 := lv_neT s_1_3 (a := 3) rfl; have z4 := lv_neT s_1_4 (a := 4) rfl; have z5 := lv_neT s_1_5 (a := 5) rfl; have z6 := lv_neT s_1_6 (a := 6) rfl; have z7 := lv_neT s_1_7 (a := 7) rfl; have z8 := lv_neT s_1_8 (a := 8) rfl; have z9 := lv_neT s_1_9 (a := 9) rfl; have z10 := lv_neT s_1_10 (a := 10) rfl; have z11 := lv_neT s_1_11 (a := 11) rfl; have z12 := lv_neT s_1_12 (a := 12) rfl; have z13 := lv_neT s_1_13 (a := 13) rfl; have z14 := lv_neT s_1_14 (a := 14) rfl; omega) (tgt := 116) (by decide) ?_
  refine y_aload_n C0 0 dX3_tellOfAll_116 rfl rfl ?_
  refine y_iload_n C0 1 dX3_tellOfAll_117 rfl rfl ?_
  refine y_iconst (v := 2) C0 dX3_tellOfAll_118 (by decide) ?_
  refine y_isub C0 dX3_tellOfAll_119 ?_
  refine y_callV (As := [_]) (rest := _) (n := 1) C0 (mX3_booksAt l D cy adr _ _ ho _) 3 rfl (by decide) (ykd_w ho) gX3_tellOfAll_X3_booksAt rfl rfl rfl (by decide +kernel) ⟨by decide, by decide⟩ rfl rfl (Nat.le_of_ble_eq_true rfl) dX3_tellOfAll_120 ⟨by decide, by decide⟩ ?_
  exact y_iret C0 dX3_tellOfAll_123 (by simp [wTellA, s_1_0, s_1_1, s_1_2, s_1_3, s_1_4, s_1_5, s_1_6, s_1_7, s_1_8, s_1_9, s_1_10, s_1_11, s_1_12, s_1_13, s_1_14]) rfl
abbrev rX3_gild : Room := { frames := 2, cells := 0, slots := 0, locals := 40 }
set_option maxRecDepth 100000 in
set_option maxHeartbeats 4000000 in
theorem mX3_gild (l : Launch) (D : va_G) (cy : Nat → ClassId) (adr : Nat → Nat) (M : yM) (o : Nat) (ho : o = 0 ∨ o = 27)   : Ct l yX3_gild wsX3_gild rX3_gild D cy adr [.ref (adr o)] M (none) (wGild M o) 0 0 := by
  refine Ct.mk cX3_gild 6 none RX3 (by decide) rfl rfl (Nat.le_of_ble_eq_true rfl) ?_
  intro K C0
  refine y_eq rfl (show ([(0, .ref (adr o))] : List (Nat × Value)) = lv_args 0 [.ref (adr o)] from rfl) rfl ?_
  have hin0 : ∀ w ∈ u_ws RX0 TX0 13, w ∈ wsX3_gild := by decide +kernel
  have hin3 : ∀ w ∈ u_ws RX3 TX3 12, w ∈ wsX3_gild := by decide +kernel
  refine y_aload_n C0 0 dX3_gild_0 rfl rfl ?_
  refine y_get C0 3 rfl rfl (by decide) hin3 0 (ykd_w ho) (by decide) (by decide +kernel) (yv3_books (ykd_w ho)) dX3_gild_1 ?_
  refine y_astore_n C0 [(1, _), (0, _)] dX3_gild_4 rfl (by decide) rfl ?_
  refine y_aload_n C0 0 dX3_gild_5 rfl rfl ?_
  refine y_alen C0 7 (ykd_w1 ho) (by decide) (by decide) dX3_gild_6 ?_
  refine y_istore_n C0 [(2, _), (1, _), (0, _)] dX3_gild_7 rfl (by decide) rfl ?_
  refine y_iconst (v := 0) C0 dX3_gild_8 (by decide) ?_
  refine y_istore_n C0 [(3, _), (2, _), (1, _), (0, _)] dX3_gild_9 rfl (by decide) rfl ?_
  have hl_10 : ∀ (n : Nat) (i : Nat), 15 - i = n → i ≤ 15 → wFst M o 4 i = none → Y K l rX3_gild D cy adr 6 0 0 (QT K D cy adr (none) (wGild M o) 0 0) M [] [(3, .int (nI i)), (2, .int (nI 15)), (1, .ref (adr (o + 1))), (0, .ref (adr o))] 10 [] := by
    intro n
    induction n using Nat.strongRecOn with
    | _ n ih_10 =>
      intro i hn_10 hi hfi
      refine y_iload_n C0 0 dX3_gild_10 rfl rfl ?_
      refine y_iload_n C0 1 dX3_gild_11 rfl rfl ?_
      refine y_icmp_ge C0 68 dX3_gild_12 (by decide) (fun c_12 => ?_) (fun c_12 => ?_)
      · have he := ct_end (N := 15) (by decide) hi c_12
        subst he
        exact y_vret C0 dX3_gild_68 rfl (wGild_none hfi)
      · have hlt := ct_lt (N := 15) (by decide) hi c_12
        refine y_aload_n C0 2 dX3_gild_15 rfl rfl ?_
        refine y_iload_n C0 0 dX3_gild_16 rfl rfl ?_
        refine y_aald C0 (i) 7 (ykd_w1 ho) (by decide) (by decide) rfl (by omega : i < 15) (yel_bk ho) dX3_gild_17 ?_
        refine y_astore C0 [(4, _), (3, _), (2, _), (1, _), (0, _)] dX3_gild_18 (by decide) rfl ?_
        refine y_aload C0 0 dX3_gild_20 rfl ?_
        refine y_get C0 0 rfl rfl (by decide) hin0 4 (ykd_bk ho (by omega : i < 15)) (by decide) (by decide +kernel) (yvi0 (ykd_bk ho (by omega : i < 15))) dX3_gild_22 ?_
        refine y_iconst (v := 4) C0 dX3_gild_25 (by decide) ?_
        refine y_icmp_ne C0 62 dX3_gild_26 (by decide) (fun c_26 => ?_) (fun c_26 => ?_)
        · refine y_iinc (v := nI (i + 1)) C0 1 [(3, _), (4, _), (2, _), (1, _), (0, _)] dX3_gild_62 rfl (yinc_ok rfl rfl) (by decide) rfl ?_
          refine y_goto C0 10 dX3_gild_65 (by decide) ?_
          refine y_sub [0, 2, 3, 4] [(3, _), (2, _), (1, _), (0, _)] rfl ?_
          exact y_eq (by first | rfl | simp [c_12, c_26]) (by first | rfl | simp [c_12, c_26]) rfl (ih_10 _ (by omega) (i + 1) rfl hlt (by simp [wFst, hfi, c_26]))
        · refine y_aload C0 0 dX3_gild_29 rfl ?_
          refine y_callV (As := []) (rest := _) (n := 0) C0 (mX0_leavesForAnEdge l D cy adr _ _ (ykd_bk ho (by omega : i < 15))) 0 rfl (by decide) (ykd_bk ho (by omega : i < 15)) gX3_gild_X0_leavesForAnEdge rfl rfl rfl (by decide +kernel) ⟨by decide, by decide⟩ rfl rfl (Nat.le_of_ble_eq_true rfl) dX3_gild_31 ⟨by decide, by decide⟩ ?_
          refine y_istore C0 [(5, _), (4, _), (3, _), (2, _), (1, _), (0, _)] dX3_gild_34 (by decide) rfl ?_
          refine y_aload_n C0 5 dX3_gild_36 rfl rfl ?_
          refine y_get C0 3 rfl rfl (by decide) hin3 9 (ykd_w ho) (by decide) (by decide +kernel) (yvi3 (ykd_w ho) (by decide)) dX3_gild_37 ?_
          refine y_iload C0 0 dX3_gild_40 rfl ?_
          refine y_icmp_lt C0 61 dX3_gild_42 (by decide) (fun c_42 => ?_) (fun c_42 => ?_)
          · exact y_vret C0 dX3_gild_61 rfl (by rw [wGild_some (wFst_at hfi c_26 hlt), wGildAt, if_pos c_42])
          · refine y_aload_n C0 5 dX3_gild_45 rfl rfl ?_
            refine y_dup C0 dX3_gild_46 rfl ?_
            refine y_get C0 3 rfl rfl (by decide) hin3 9 (ykd_w ho) (by decide) (by decide +kernel) (yvi3 (ykd_w ho) (by decide)) dX3_gild_47 ?_
            refine y_iload C0 0 dX3_gild_50 rfl ?_
            refine y_isub C0 dX3_gild_52 ?_
            refine y_put C0 3 rfl rfl (by decide) hin3 tyX3 tyX3_ok nmX3 9 (ykd_w ho) (by decide) (by decide +kernel) (yrn3 (ykd_w ho) (by decide)) rfl (by decide +kernel) dX3_gild_53 ?_
            refine y_aload C0 1 dX3_gild_56 rfl ?_
            refine y_callV (As := []) (rest := _) (n := 0) C0 (mX0_gildAnEdge l D cy adr _ _ (ykd_bk ho (by omega : i < 15))) 0 rfl (by decide) (ykd_bk ho (by omega : i < 15)) gX3_gild_X0_gildAnEdge rfl rfl rfl (by decide +kernel) ⟨by decide, by decide⟩ rfl rfl (Nat.le_of_ble_eq_true rfl) dX3_gild_58 ⟨by decide, by decide⟩ ?_
            exact y_vret C0 dX3_gild_61 rfl (by rw [wGild_some (wFst_at hfi c_26 hlt), wGildAt, if_neg c_42]; rfl)
  refine y_sub [0, 1, 2, 3] [(3, _), (2, _), (1, _), (0, _)] rfl ?_
  exact hl_10 _ 0 rfl (Nat.zero_le _) rfl
abbrev rX3_giveBoards : Room := { frames := 1, cells := 0, slots := 0, locals := 20 }
set_option maxRecDepth 100000 in
set_option maxHeartbeats 4000000 in
theorem mX3_giveBoards (l : Launch) (D : va_G) (cy : Nat → ClassId) (adr : Nat → Nat) (M : yM) (o : Nat) (ho : o = 0 ∨ o = 27)   : Ct l yX3_giveBoards wsX3_giveBoards rX3_giveBoards D cy adr [.ref (adr o)] M (none) (wBoard M o 15) 0 0 := by
  refine Ct.mk cX3_giveBoards 5 none RX3 (by decide) rfl rfl (Nat.le_of_ble_eq_true rfl) ?_
  intro K C0
  refine y_eq rfl (show ([(0, .ref (adr o))] : List (Nat × Value)) = lv_args 0 [.ref (adr o)] from rfl) rfl ?_
  have hin0 : ∀ w ∈ u_ws RX0 TX0 13, w ∈ wsX3_giveBoards := by decide +kernel
  have hin3 : ∀ w ∈ u_ws RX3 TX3 12, w ∈ wsX3_giveBoards := by decide +kernel
  refine y_aload_n C0 0 dX3_giveBoards_0 rfl rfl ?_
  refine y_get C0 3 rfl rfl (by decide) hin3 0 (ykd_w ho) (by decide) (by decide +kernel) (yv3_books (ykd_w ho)) dX3_giveBoards_1 ?_
  refine y_astore_n C0 [(1, _), (0, _)] dX3_giveBoards_4 rfl (by decide) rfl ?_
  refine y_aload_n C0 0 dX3_giveBoards_5 rfl rfl ?_
  refine y_alen C0 7 (ykd_w1 ho) (by decide) (by decide) dX3_giveBoards_6 ?_
  refine y_istore_n C0 [(2, _), (1, _), (0, _)] dX3_giveBoards_7 rfl (by decide) rfl ?_
  refine y_iconst (v := 0) C0 dX3_giveBoards_8 (by decide) ?_
  refine y_istore_n C0 [(3, _), (2, _), (1, _), (0, _)] dX3_giveBoards_9 rfl (by decide) rfl ?_
  have hl_10 : ∀ (n : Nat) (i : Nat), 15 - i = n → i ≤ 15 → Y K l rX3_giveBoards D cy adr 5 0 0 (QT K D cy adr (none) (wBoard M o 15) 0 0) (wBoard M o i) [] [(3, .int (nI i)), (2, .int (nI 15)), (1, .ref (adr (o + 1))), (0, .ref (adr o))] 10 [] := by
    intro n
    induction n using Nat.strongRecOn with
    | _ n ih_10 =>
      intro i hn_10 hi
      refine y_iload_n C0 0 dX3_giveBoards_10 rfl rfl ?_
      refine y_iload_n C0 1 dX3_giveBoards_11 rfl rfl ?_
      refine y_icmp_ge C0 58 dX3_giveBoards_12 (by decide) (fun c_12 => ?_) (fun c_12 => ?_)
      · have he := ct_end (N := 15) (by decide) hi c_12
        subst he
        exact y_vret C0 dX3_giveBoards_58 rfl rfl
      · have hlt := ct_lt (N := 15) (by decide) hi c_12
        refine y_aload_n C0 2 dX3_giveBoards_15 rfl rfl ?_
        refine y_iload_n C0 0 dX3_giveBoards_16 rfl rfl ?_
        refine y_aald C0 (i) 7 (ykd_w1 ho) (by decide) (by decide) rfl (by omega : i < 15) (yel_bk ho) dX3_giveBoards_17 ?_
        refine y_astore C0 [(4, _), (3, _), (2, _), (1, _), (0, _)] dX3_giveBoards_18 (by decide) rfl ?_
        refine y_aload C0 0 dX3_giveBoards_20 rfl ?_
        refine y_get C0 0 rfl rfl (by decide) hin0 4 (ykd_bk ho (by omega : i < 15)) (by decide) (by decide +kernel) (yvi0 (ykd_bk ho (by omega : i < 15))) dX3_giveBoards_22 ?_
        refine y_iconst (v := 3) C0 dX3_giveBoards_25 (by decide) ?_
        refine y_icmp_ne C0 52 dX3_giveBoards_26 (by decide) (fun c_26 => ?_) (fun c_26 => ?_)
        · refine y_iinc (v := nI (i + 1)) C0 1 [(3, _), (4, _), (2, _), (1, _), (0, _)] dX3_giveBoards_52 rfl (yinc_ok rfl rfl) (by decide) rfl ?_
          refine y_goto C0 10 dX3_giveBoards_55 (by decide) ?_
          refine y_sub [0, 2, 3, 4] [(3, _), (2, _), (1, _), (0, _)] rfl ?_
          exact y_eq (by simp only [wBoard, c_12, c_26, if_true, if_false]; try rfl) (by first | rfl | simp [wBoard, c_12, c_26]) rfl (ih_10 _ (by omega) (i + 1) rfl hlt)
        · refine y_aload_n C0 4 dX3_giveBoards_29 rfl rfl ?_
          refine y_get C0 3 rfl rfl (by decide) hin3 8 (ykd_w ho) (by decide) (by decide +kernel) (yvi3 (ykd_w ho) (by decide)) dX3_giveBoards_30 ?_
          refine y_iconst (v := 2) C0 dX3_giveBoards_33 (by decide) ?_
          refine y_icmp_lt C0 52 dX3_giveBoards_34 (by decide) (fun c_34 => ?_) (fun c_34 => ?_)
          · refine y_iinc (v := nI (i + 1)) C0 1 [(3, _), (4, _), (2, _), (1, _), (0, _)] dX3_giveBoards_52 rfl (yinc_ok rfl rfl) (by decide) rfl ?_
            refine y_goto C0 10 dX3_giveBoards_55 (by decide) ?_
            refine y_sub [0, 2, 3, 4] [(3, _), (2, _), (1, _), (0, _)] rfl ?_
            exact y_eq (by simp only [wBoard, c_12, c_26, c_34, if_true, if_false]; try rfl) (by first | rfl | simp [wBoard, c_12, c_26, c_34]) rfl (ih_10 _ (by omega) (i + 1) rfl hlt)
          · refine y_aload_n C0 4 dX3_giveBoards_37 rfl rfl ?_
            refine y_dup C0 dX3_giveBoards_38 rfl ?_
            refine y_get C0 3 rfl rfl (by decide) hin3 8 (ykd_w ho) (by decide) (by decide +kernel) (yvi3 (ykd_w ho) (by decide)) dX3_giveBoards_39 ?_
            refine y_iconst (v := 2) C0 dX3_giveBoards_42 (by decide) ?_
            refine y_isub C0 dX3_giveBoards_43 ?_
            refine y_put C0 3 rfl rfl (by decide) hin3 tyX3 tyX3_ok nmX3 8 (ykd_w ho) (by decide) (by decide +kernel) (yrn3 (ykd_w ho) (by decide)) rfl (by decide +kernel) dX3_giveBoards_44 ?_
            refine y_aload C0 0 dX3_giveBoards_47 rfl ?_
            refine y_callV (As := []) (rest := _) (n := 0) C0 (mX0_bind l D cy adr _ _ (ykd_bk ho (by omega : i < 15))) 0 rfl (by decide) (ykd_bk ho (by omega : i < 15)) gX3_giveBoards_X0_bind rfl rfl rfl (by decide +kernel) ⟨by decide, by decide⟩ rfl rfl (Nat.le_of_ble_eq_true rfl) dX3_giveBoards_49 ⟨by decide, by decide⟩ ?_
            refine y_iinc (v := nI (i + 1)) C0 1 [(3, _), (4, _), (2, _), (1, _), (0, _)] dX3_giveBoards_52 rfl (yinc_ok rfl rfl) (by decide) rfl ?_
            refine y_goto C0 10 dX3_giveBoards_55 (by decide) ?_
            refine y_sub [0, 2, 3, 4] [(3, _), (2, _), (1, _), (0, _)] rfl ?_
            exact y_eq (by simp only [wBoard, c_12, c_26, c_34, if_true, if_false]; try rfl) (by first | rfl | simp [wBoard, c_12, c_26, c_34]) rfl (ih_10 _ (by omega) (i + 1) rfl hlt)
  refine y_sub [0, 1, 2, 3] [(3, _), (2, _), (1, _), (0, _)] rfl ?_
  exact hl_10 _ 0 rfl (Nat.zero_le _)
abbrev rX3_dry : Room := { frames := 1, cells := 0, slots := 0, locals := 20 }
set_option maxRecDepth 100000 in
set_option maxHeartbeats 4000000 in
theorem mX3_dry (l : Launch) (D : va_G) (cy : Nat → ClassId) (adr : Nat → Nat) (M : yM) (o : Nat) (ho : o = 0 ∨ o = 27)   : Ct l yX3_dry wsX3_dry rX3_dry D cy adr [.ref (adr o)] M (none) (wDry M o 15) 0 0 := by
  refine Ct.mk cX3_dry 5 none RX3 (by decide) rfl rfl (Nat.le_of_ble_eq_true rfl) ?_
  intro K C0
  refine y_eq rfl (show ([(0, .ref (adr o))] : List (Nat × Value)) = lv_args 0 [.ref (adr o)] from rfl) rfl ?_
  have hin0 : ∀ w ∈ u_ws RX0 TX0 13, w ∈ wsX3_dry := by decide +kernel
  have hin3 : ∀ w ∈ u_ws RX3 TX3 12, w ∈ wsX3_dry := by decide +kernel
  refine y_aload_n C0 0 dX3_dry_0 rfl rfl ?_
  refine y_get C0 3 rfl rfl (by decide) hin3 0 (ykd_w ho) (by decide) (by decide +kernel) (yv3_books (ykd_w ho)) dX3_dry_1 ?_
  refine y_astore_n C0 [(1, _), (0, _)] dX3_dry_4 rfl (by decide) rfl ?_
  refine y_aload_n C0 0 dX3_dry_5 rfl rfl ?_
  refine y_alen C0 7 (ykd_w1 ho) (by decide) (by decide) dX3_dry_6 ?_
  refine y_istore_n C0 [(2, _), (1, _), (0, _)] dX3_dry_7 rfl (by decide) rfl ?_
  refine y_iconst (v := 0) C0 dX3_dry_8 (by decide) ?_
  refine y_istore_n C0 [(3, _), (2, _), (1, _), (0, _)] dX3_dry_9 rfl (by decide) rfl ?_
  have hl_10 : ∀ (n : Nat) (i : Nat), 15 - i = n → i ≤ 15 → Y K l rX3_dry D cy adr 5 0 0 (QT K D cy adr (none) (wDry M o 15) 0 0) (wDry M o i) [] [(3, .int (nI i)), (2, .int (nI 15)), (1, .ref (adr (o + 1))), (0, .ref (adr o))] 10 [] := by
    intro n
    induction n using Nat.strongRecOn with
    | _ n ih_10 =>
      intro i hn_10 hi
      refine y_iload_n C0 0 dX3_dry_10 rfl rfl ?_
      refine y_iload_n C0 1 dX3_dry_11 rfl rfl ?_
      refine y_icmp_ge C0 40 dX3_dry_12 (by decide) (fun c_12 => ?_) (fun c_12 => ?_)
      · have he := ct_end (N := 15) (by decide) hi c_12
        subst he
        exact y_vret C0 dX3_dry_40 rfl rfl
      · have hlt := ct_lt (N := 15) (by decide) hi c_12
        refine y_aload_n C0 2 dX3_dry_15 rfl rfl ?_
        refine y_iload_n C0 0 dX3_dry_16 rfl rfl ?_
        refine y_aald C0 (i) 7 (ykd_w1 ho) (by decide) (by decide) rfl (by omega : i < 15) (yel_bk ho) dX3_dry_17 ?_
        refine y_astore C0 [(4, _), (3, _), (2, _), (1, _), (0, _)] dX3_dry_18 (by decide) rfl ?_
        refine y_aload C0 0 dX3_dry_20 rfl ?_
        refine y_get C0 0 rfl rfl (by decide) hin0 4 (ykd_bk ho (by omega : i < 15)) (by decide) (by decide +kernel) (yvi0 (ykd_bk ho (by omega : i < 15))) dX3_dry_22 ?_
        refine y_iconst (v := 2) C0 dX3_dry_25 (by decide) ?_
        refine y_icmp_ne C0 34 dX3_dry_26 (by decide) (fun c_26 => ?_) (fun c_26 => ?_)
        · refine y_iinc (v := nI (i + 1)) C0 1 [(3, _), (4, _), (2, _), (1, _), (0, _)] dX3_dry_34 rfl (yinc_ok rfl rfl) (by decide) rfl ?_
          refine y_goto C0 10 dX3_dry_37 (by decide) ?_
          refine y_sub [0, 2, 3, 4] [(3, _), (2, _), (1, _), (0, _)] rfl ?_
          exact y_eq (by simp only [wDry, c_12, c_26, if_true, if_false]; try rfl) (by first | rfl | simp [wDry, c_12, c_26]) rfl (ih_10 _ (by omega) (i + 1) rfl hlt)
        · refine y_aload C0 0 dX3_dry_29 rfl ?_
          refine y_callV (As := []) (rest := _) (n := 0) C0 (mX0_dryForAnHour l D cy adr _ _ (ykd_bk ho (by omega : i < 15))) 0 rfl (by decide) (ykd_bk ho (by omega : i < 15)) gX3_dry_X0_dryForAnHour rfl rfl rfl (by decide +kernel) ⟨by decide, by decide⟩ rfl rfl (Nat.le_of_ble_eq_true rfl) dX3_dry_31 ⟨by decide, by decide⟩ ?_
          refine y_iinc (v := nI (i + 1)) C0 1 [(3, _), (4, _), (2, _), (1, _), (0, _)] dX3_dry_34 rfl (yinc_ok rfl rfl) (by decide) rfl ?_
          refine y_goto C0 10 dX3_dry_37 (by decide) ?_
          refine y_sub [0, 2, 3, 4] [(3, _), (2, _), (1, _), (0, _)] rfl ?_
          exact y_eq (by simp only [wDry, c_12, c_26, if_true, if_false]; try rfl) (by first | rfl | simp [wDry, c_12, c_26]) rfl (ih_10 _ (by omega) (i + 1) rfl hlt)
  refine y_sub [0, 1, 2, 3] [(3, _), (2, _), (1, _), (0, _)] rfl ?_
  exact hl_10 _ 0 rfl (Nat.zero_le _)
abbrev rX3_mountOn : Room := { frames := 1, cells := 0, slots := 0, locals := 22 }
set_option maxRecDepth 100000 in
set_option maxHeartbeats 4000000 in
theorem mX3_mountOn (l : Launch) (D : va_G) (cy : Nat → ClassId) (adr : Nat → Nat) (M : yM) (o : Nat) (ho : o = 0 ∨ o = 27) (f : Nat) (hf : f < 3)  : Ct l yX3_mountOn wsX3_mountOn rX3_mountOn D cy adr [.ref (adr o), .ref (adr (o + 24 + f))] M (none) (wMount M o f) 0 0 := by
  refine Ct.mk cX3_mountOn 6 none RX3 (by decide) rfl rfl (Nat.le_of_ble_eq_true rfl) ?_
  intro K C0
  refine y_eq rfl (show ([(0, .ref (adr o)), (1, .ref (adr (o + 24 + f)))] : List (Nat × Value)) = lv_args 0 [.ref (adr o), .ref (adr (o + 24 + f))] from rfl) rfl ?_
  have hin0 : ∀ w ∈ u_ws RX0 TX0 13, w ∈ wsX3_mountOn := by decide +kernel
  have hin1 : ∀ w ∈ u_ws RX1 TX1 4, w ∈ wsX3_mountOn := by decide +kernel
  have hin3 : ∀ w ∈ u_ws RX3 TX3 12, w ∈ wsX3_mountOn := by decide +kernel
  refine y_aload_n C0 0 dX3_mountOn_0 rfl rfl ?_
  refine y_get C0 3 rfl rfl (by decide) hin3 0 (ykd_w ho) (by decide) (by decide +kernel) (yv3_books (ykd_w ho)) dX3_mountOn_1 ?_
  refine y_astore_n C0 [(2, _), (0, _), (1, _)] dX3_mountOn_4 rfl (by decide) rfl ?_
  refine y_aload_n C0 0 dX3_mountOn_5 rfl rfl ?_
  refine y_alen C0 7 (ykd_w1 ho) (by decide) (by decide) dX3_mountOn_6 ?_
  refine y_istore_n C0 [(3, _), (2, _), (0, _), (1, _)] dX3_mountOn_7 rfl (by decide) rfl ?_
  refine y_iconst (v := 0) C0 dX3_mountOn_8 (by decide) ?_
  refine y_istore C0 [(4, _), (3, _), (2, _), (0, _), (1, _)] dX3_mountOn_9 (by decide) rfl ?_
  have hl_11 : ∀ (n : Nat) (i : Nat), 15 - i = n → i ≤ 15 → wFst M o 0 i = none → Y K l rX3_mountOn D cy adr 6 0 0 (QT K D cy adr (none) (wMount M o f) 0 0) M [] [(4, .int (nI i)), (3, .int (nI 15)), (2, .ref (adr (o + 1))), (1, .ref (adr (o + 24 + f))), (0, .ref (adr o))] 11 [] := by
    intro n
    induction n using Nat.strongRecOn with
    | _ n ih_11 =>
      intro i hn_11 hi hfi
      refine y_iload C0 0 dX3_mountOn_11 rfl ?_
      refine y_iload_n C0 1 dX3_mountOn_13 rfl rfl ?_
      refine y_icmp_ge C0 60 dX3_mountOn_14 (by decide) (fun c_14 => ?_) (fun c_14 => ?_)
      · have he := ct_end (N := 15) (by decide) hi c_14
        subst he
        exact y_vret C0 dX3_mountOn_60 rfl (wMount_none hfi)
      · have hlt := ct_lt (N := 15) (by decide) hi c_14
        refine y_aload_n C0 2 dX3_mountOn_17 rfl rfl ?_
        refine y_iload C0 0 dX3_mountOn_18 rfl ?_
        refine y_aald C0 (i) 7 (ykd_w1 ho) (by decide) (by decide) rfl (by omega : i < 15) (yel_bk ho) dX3_mountOn_20 ?_
        refine y_astore C0 [(5, _), (4, _), (3, _), (2, _), (1, _), (0, _)] dX3_mountOn_21 (by decide) rfl ?_
        refine y_aload C0 0 dX3_mountOn_23 rfl ?_
        refine y_get C0 0 rfl rfl (by decide) hin0 4 (ykd_bk ho (by omega : i < 15)) (by decide) (by decide +kernel) (yvi0 (ykd_bk ho (by omega : i < 15))) dX3_mountOn_25 ?_
        refine y_if_ne C0 54 dX3_mountOn_28 (by decide) (fun c_28 => ?_) (fun c_28 => ?_)
        · refine y_iinc (v := nI (i + 1)) C0 1 [(4, _), (5, _), (3, _), (2, _), (1, _), (0, _)] dX3_mountOn_54 rfl (yinc_ok rfl rfl) (by decide) rfl ?_
          refine y_goto C0 11 dX3_mountOn_57 (by decide) ?_
          refine y_sub [0, 2, 3, 4, 5] [(4, _), (3, _), (2, _), (1, _), (0, _)] rfl ?_
          exact y_eq (by first | rfl | simp [c_14, c_28]) (by first | rfl | simp [c_14, c_28]) rfl (ih_11 _ (by omega) (i + 1) rfl hlt (by simp [wFst, hfi, c_28]))
        · refine y_aload C0 0 dX3_mountOn_31 rfl ?_
          refine y_aload_n C0 4 dX3_mountOn_33 rfl rfl ?_
          refine y_get C0 1 rfl rfl (by decide) hin1 0 (ykd_fr ho hf) (by decide) (by decide +kernel) (yvi1 (ykd_fr ho hf)) dX3_mountOn_34 ?_
          refine y_aload_n C0 4 dX3_mountOn_37 rfl rfl ?_
          refine y_get C0 1 rfl rfl (by decide) hin1 1 (ykd_fr ho hf) (by decide) (by decide +kernel) (yvi1 (ykd_fr ho hf)) dX3_mountOn_38 ?_
          refine y_callV (As := [_, _]) (rest := _) (n := 2) C0 (mX0_mount l D cy adr _ _ (ykd_bk ho (by omega : i < 15)) _ _) 0 rfl (by decide) (ykd_bk ho (by omega : i < 15)) gX3_mountOn_X0_mount rfl rfl rfl (by decide +kernel) ⟨by decide, by decide⟩ rfl rfl (Nat.le_of_ble_eq_true rfl) dX3_mountOn_41 ⟨by decide, by decide⟩ ?_
          refine y_aload_n C0 4 dX3_mountOn_44 rfl rfl ?_
          refine y_aload C0 0 dX3_mountOn_45 rfl ?_
          refine y_get C0 0 rfl rfl (by decide) hin0 0 (ykd_bk ho (by omega : i < 15)) (by decide) (by decide +kernel) (yvi0 (ykd_bk ho (by omega : i < 15))) dX3_mountOn_47 ?_
          refine y_put C0 1 rfl rfl (by decide) hin1 tyX1 tyX1_ok nmX1 2 (ykd_fr ho hf) (by decide) (by decide +kernel) (yrn1 (ykd_fr ho hf)) rfl (by decide +kernel) dX3_mountOn_50 ?_
          exact y_vret C0 dX3_mountOn_53 rfl (by rw [wMount_some (wFst_at hfi c_28 hlt)]; rfl)
  refine y_sub [0, 1, 2, 4, 3] [(4, _), (3, _), (2, _), (1, _), (0, _)] rfl ?_
  exact hl_11 _ 0 rfl (Nat.zero_le _) rfl
abbrev rX3_sewAt : Room := { frames := 2, cells := 0, slots := 0, locals := 43 }
set_option maxRecDepth 100000 in
set_option maxHeartbeats 4000000 in
theorem mX3_sewAt (l : Launch) (D : va_G) (cy : Nat → ClassId) (adr : Nat → Nat) (M : yM) (o : Nat) (ho : o = 0 ∨ o = 27) (f : Nat) (hf : f < 3) (hsp : wSpOK M o) : Ct l yX3_sewAt wsX3_sewAt rX3_sewAt D cy adr [.ref (adr o), .ref (adr (o + 24 + f))] M (none) (wSew M o f) 0 0 := by
  refine Ct.mk cX3_sewAt 6 none RX3 (by decide) rfl rfl (Nat.le_of_ble_eq_true rfl) ?_
  intro K C0
  refine y_eq rfl (show ([(0, .ref (adr o)), (1, .ref (adr (o + 24 + f)))] : List (Nat × Value)) = lv_args 0 [.ref (adr o), .ref (adr (o + 24 + f))] from rfl) rfl ?_
  have hin0 : ∀ w ∈ u_ws RX0 TX0 13, w ∈ wsX3_sewAt := by decide +kernel
  have hin1 : ∀ w ∈ u_ws RX1 TX1 4, w ∈ wsX3_sewAt := by decide +kernel
  have hin3 : ∀ w ∈ u_ws RX3 TX3 12, w ∈ wsX3_sewAt := by decide +kernel
  refine y_aload_n C0 0 dX3_sewAt_0 rfl rfl ?_
  refine y_aload_n C0 1 dX3_sewAt_1 rfl rfl ?_
  refine y_get C0 1 rfl rfl (by decide) hin1 2 (ykd_fr ho hf) (by decide) (by decide +kernel) (yvi1 (ykd_fr ho hf)) dX3_sewAt_2 ?_
  by_cases hn : wNo M o (M (o + 24 + f) 2)
  · refine y_callV (As := [_]) (rest := _) (n := 1) C0 (mX3_bookNumbered_n l D cy adr _ _ ho _ hn) 3 rfl (by decide) (ykd_w ho) gX3_sewAt_X3_bookNumbered rfl rfl rfl (by decide +kernel) ⟨by decide, by decide⟩ rfl rfl (Nat.le_of_ble_eq_true rfl) dX3_sewAt_5 ⟨by decide, by decide⟩ ?_
    refine y_astore_nN C0 [(2, _), (0, _), (1, _)] dX3_sewAt_8 rfl (by decide) rfl ?_
    refine y_aload_nN C0 0 dX3_sewAt_9 rfl rfl ?_
    refine y_ifnonnullN C0 dX3_sewAt_10 ?_
    exact y_vret C0 dX3_sewAt_13 rfl (wSew_no hn).symm
  obtain ⟨b, hb, eb, hcb⟩ := wNo_not hn
  refine y_top eb ?_
  refine y_callV (As := [_]) (rest := _) (n := 1) C0 (mX3_bookNumbered l D cy adr _ _ ho b hb hcb) 3 rfl (by decide) (ykd_w ho) gX3_sewAt_X3_bookNumbered rfl rfl rfl (by decide +kernel) ⟨by decide, by decide⟩ rfl rfl (Nat.le_of_ble_eq_true rfl) dX3_sewAt_5 ⟨by decide, by decide⟩ ?_
  refine y_astore_n C0 [(2, _), (0, _), (1, _)] dX3_sewAt_8 rfl (by decide) rfl ?_
  refine y_aload_n C0 0 dX3_sewAt_9 rfl rfl ?_
  refine y_ifnonnull C0 14 dX3_sewAt_10 (by decide) ?_
  refine y_aload_n C0 1 dX3_sewAt_14 rfl rfl ?_
  refine y_aload_n C0 2 dX3_sewAt_15 rfl rfl ?_
  refine y_get C0 1 rfl rfl (by decide) hin1 0 (ykd_fr ho hf) (by decide) (by decide +kernel) (yvi1 (ykd_fr ho hf)) dX3_sewAt_16 ?_
  refine y_callV (As := [_]) (rest := _) (n := 1) C0 (mX3_stitchesAnHour l D cy adr _ _ ho _) 3 rfl (by decide) (ykd_w ho) gX3_sewAt_X3_stitchesAnHour rfl rfl rfl (by decide +kernel) ⟨by decide, by decide⟩ rfl rfl (Nat.le_of_ble_eq_true rfl) dX3_sewAt_19 ⟨by decide, by decide⟩ ?_
  refine y_aload_n C0 1 dX3_sewAt_22 rfl rfl ?_
  refine y_get C0 3 rfl rfl (by decide) hin3 7 (ykd_w ho) (by decide) (by decide +kernel) (yvi3 (ykd_w ho) (by decide)) dX3_sewAt_23 ?_
  refine y_mmin C0 (by decide +kernel) (by decide +kernel) (by decide +kernel) (by decide +kernel) (by decide) (Nat.le_of_ble_eq_true rfl) (by decide) (by decide) dX3_sewAt_26 ?_
  refine y_istore_n C0 [(3, _), (2, _), (0, _), (1, _)] dX3_sewAt_29 rfl (by decide) rfl ?_
  refine y_iconst (v := 1) C0 dX3_sewAt_30 (by decide) ?_
  refine y_istore C0 [(4, _), (3, _), (2, _), (0, _), (1, _)] dX3_sewAt_31 (by decide) rfl ?_
  have hl_33 : ∀ (n : Nat) (i : Nat), (wMost M o f).toNatClampNeg - i = n → i ≤ (wMost M o f).toNatClampNeg → Y K l rX3_sewAt D cy adr 6 0 0 (QT K D cy adr (none) (wSew M o f) 0 0) (wSewL M o f b i) [] [(4, .int (nI (i + 1))), (3, .int (wMost M o f)), (2, .ref (adr (o + 4 + b))), (1, .ref (adr (o + 24 + f))), (0, .ref (adr o))] 33 [] := by
    intro n
    induction n using Nat.strongRecOn with
    | _ n ih_33 =>
      intro i hn_33 hi
      refine y_iload C0 0 dX3_sewAt_33 rfl ?_
      refine y_iload_n C0 1 dX3_sewAt_35 rfl rfl ?_
      refine y_icmp_gt C0 120 dX3_sewAt_36 (by decide) (fun c_36 => ?_) (fun c_36 => ?_)
      · have he := cg_end (wMost_le hsp) hi c_36
        refine y_mem (congrArg (wSewL M o f b) he) ?_
        refine y_aload_n C0 2 dX3_sewAt_120 rfl rfl ?_
        refine y_callV (As := []) (rest := _) (n := 0) C0 (mX0_isSewn l D cy adr _ _ (ykd_bk ho hb)) 0 rfl (by decide) (ykd_bk ho hb) gX3_sewAt_X0_isSewn rfl rfl rfl (by decide +kernel) ⟨by decide, by decide⟩ rfl rfl (Nat.le_of_ble_eq_true rfl) dX3_sewAt_121 ⟨by decide, by decide⟩ ?_
        refine y_if_eq C0 136 dX3_sewAt_124 (by decide) (fun c_124 => ?_) (fun c_124 => ?_)
        · exact y_vret C0 dX3_sewAt_136 rfl (by rw [wSew_b hn hb eb, wSewB, wSewE, if_pos c_124])
        · refine y_aload_n C0 3 dX3_sewAt_127 rfl rfl ?_
          refine y_iconst (v := (-1)) C0 dX3_sewAt_128 (by decide) ?_
          refine y_put C0 1 rfl rfl (by decide) hin1 tyX1 tyX1_ok nmX1 2 (ykd_fr ho hf) (by decide) (by decide +kernel) (yrn1 (ykd_fr ho hf)) rfl (by decide +kernel) dX3_sewAt_129 ?_
          refine y_aload_n C0 2 dX3_sewAt_132 rfl rfl ?_
          refine y_callV (As := []) (rest := _) (n := 0) C0 (mX0_beginToDry l D cy adr _ _ (ykd_bk ho hb)) 0 rfl (by decide) (ykd_bk ho hb) gX3_sewAt_X0_beginToDry rfl rfl rfl (by decide +kernel) ⟨by decide, by decide⟩ rfl rfl (Nat.le_of_ble_eq_true rfl) dX3_sewAt_133 ⟨by decide, by decide⟩ ?_
          exact y_vret C0 dX3_sewAt_136 rfl (by rw [wSew_b hn hb eb, wSewB, wSewE, if_neg c_124]; rfl)
      · have hlt := cg_lt (wMost_le hsp) hi c_36
        refine y_aload_n C0 2 dX3_sewAt_39 rfl rfl ?_
        refine y_callV (As := []) (rest := _) (n := 0) C0 (mX0_isSewn l D cy adr _ _ (ykd_bk ho hb)) 0 rfl (by decide) (ykd_bk ho hb) gX3_sewAt_X0_isSewn rfl rfl rfl (by decide +kernel) ⟨by decide, by decide⟩ rfl rfl (Nat.le_of_ble_eq_true rfl) dX3_sewAt_40 ⟨by decide, by decide⟩ ?_
        refine y_if_ne C0 120 dX3_sewAt_43 (by decide) (fun c_43 => ?_) (fun c_43 => ?_)
        · have hM : wSewL M o f b i = wSewL M o f b (wMost M o f).toNatClampNeg := by
            have h9 := wSewL_stop c_43 ((wMost M o f).toNatClampNeg - i)
            rw [show i + ((wMost M o f).toNatClampNeg - i) = (wMost M o f).toNatClampNeg by omega] at h9
            exact h9.symm
          refine y_mem hM ?_
          refine y_aload_n C0 2 dX3_sewAt_120 rfl rfl ?_
          refine y_callV (As := []) (rest := _) (n := 0) C0 (mX0_isSewn l D cy adr _ _ (ykd_bk ho hb)) 0 rfl (by decide) (ykd_bk ho hb) gX3_sewAt_X0_isSewn rfl rfl rfl (by decide +kernel) ⟨by decide, by decide⟩ rfl rfl (Nat.le_of_ble_eq_true rfl) dX3_sewAt_121 ⟨by decide, by decide⟩ ?_
          refine y_if_eq C0 136 dX3_sewAt_124 (by decide) (fun c_124 => ?_) (fun c_124 => ?_)
          · exact y_vret C0 dX3_sewAt_136 rfl (by rw [wSew_b hn hb eb, wSewB, wSewE, if_pos c_124])
          · refine y_aload_n C0 3 dX3_sewAt_127 rfl rfl ?_
            refine y_iconst (v := (-1)) C0 dX3_sewAt_128 (by decide) ?_
            refine y_put C0 1 rfl rfl (by decide) hin1 tyX1 tyX1_ok nmX1 2 (ykd_fr ho hf) (by decide) (by decide +kernel) (yrn1 (ykd_fr ho hf)) rfl (by decide +kernel) dX3_sewAt_129 ?_
            refine y_aload_n C0 2 dX3_sewAt_132 rfl rfl ?_
            refine y_callV (As := []) (rest := _) (n := 0) C0 (mX0_beginToDry l D cy adr _ _ (ykd_bk ho hb)) 0 rfl (by decide) (ykd_bk ho hb) gX3_sewAt_X0_beginToDry rfl rfl rfl (by decide +kernel) ⟨by decide, by decide⟩ rfl rfl (Nat.le_of_ble_eq_true rfl) dX3_sewAt_133 ⟨by decide, by decide⟩ ?_
            exact y_vret C0 dX3_sewAt_136 rfl (by rw [wSew_b hn hb eb, wSewB, wSewE, if_neg c_124]; rfl)
        · refine y_aload_n C0 4 dX3_sewAt_46 rfl rfl ?_
          refine y_dup C0 dX3_sewAt_47 rfl ?_
          refine y_get C0 3 rfl rfl (by decide) hin3 7 (ykd_w ho) (by decide) (by decide +kernel) (yvi3 (ykd_w ho) (by decide)) dX3_sewAt_48 ?_
          refine y_iconst (v := 1) C0 dX3_sewAt_51 (by decide) ?_
          refine y_isub C0 dX3_sewAt_52 ?_
          refine y_put C0 3 rfl rfl (by decide) hin3 tyX3 tyX3_ok nmX3 7 (ykd_w ho) (by decide) (by decide +kernel) (yrn3 (ykd_w ho) (by decide)) rfl (by decide +kernel) dX3_sewAt_53 ?_
          refine y_aload_n C0 4 dX3_sewAt_56 rfl rfl ?_
          refine y_dup C0 dX3_sewAt_57 rfl ?_
          refine y_get C0 3 rfl rfl (by decide) hin3 10 (ykd_w ho) (by decide) (by decide +kernel) (yvi3 (ykd_w ho) (by decide)) dX3_sewAt_58 ?_
          refine y_iconst (v := 1) C0 dX3_sewAt_61 (by decide) ?_
          refine y_iadd C0 dX3_sewAt_62 ?_
          refine y_put C0 3 rfl rfl (by decide) hin3 tyX3 tyX3_ok nmX3 10 (ykd_w ho) (by decide) (by decide +kernel) (yrn3 (ykd_w ho) (by decide)) rfl (by decide +kernel) dX3_sewAt_63 ?_
          refine y_aload_n C0 3 dX3_sewAt_66 rfl rfl ?_
          refine y_dup C0 dX3_sewAt_67 rfl ?_
          refine y_get C0 1 rfl rfl (by decide) hin1 3 (ykd_fr ho hf) (by decide) (by decide +kernel) (yvi1 (ykd_fr ho hf)) dX3_sewAt_68 ?_
          refine y_iconst (v := 1) C0 dX3_sewAt_71 (by decide) ?_
          refine y_iadd C0 dX3_sewAt_72 ?_
          refine y_put C0 1 rfl rfl (by decide) hin1 tyX1 tyX1_ok nmX1 3 (ykd_fr ho hf) (by decide) (by decide +kernel) (yrn1 (ykd_fr ho hf)) rfl (by decide +kernel) dX3_sewAt_73 ?_
          refine y_aload_n C0 2 dX3_sewAt_76 rfl rfl ?_
          refine y_callV (As := []) (rest := _) (n := 0) C0 (mX0_addStitch l D cy adr _ _ (ykd_bk ho hb)) 0 rfl (by decide) (ykd_bk ho hb) gX3_sewAt_X0_addStitch rfl rfl rfl (by decide +kernel) ⟨by decide, by decide⟩ rfl rfl (Nat.le_of_ble_eq_true rfl) dX3_sewAt_77 ⟨by decide, by decide⟩ ?_
          refine y_istore C0 [(5, _), (4, _), (3, _), (2, _), (1, _), (0, _)] dX3_sewAt_80 (by decide) rfl ?_
          refine y_iload C0 0 dX3_sewAt_82 rfl ?_
          refine y_if_eq C0 114 dX3_sewAt_84 (by decide) (fun c_84 => ?_) (fun c_84 => ?_)
          · refine y_iinc (v := nI (i + 1 + 1)) C0 1 [(4, _), (5, _), (3, _), (2, _), (1, _), (0, _)] dX3_sewAt_114 rfl (yinc_ok rfl rfl) (by decide) rfl ?_
            refine y_goto C0 33 dX3_sewAt_117 (by decide) ?_
            refine y_sub [0, 2, 3, 4, 5] [(4, _), (3, _), (2, _), (1, _), (0, _)] rfl ?_
            exact y_eq ((wSewL_go c_43).trans (wStitch_a c_84)) (by first | rfl | simp [c_36, c_43, c_84]) rfl (ih_33 _ (by omega) (i + 1) rfl hlt)
          · refine y_iload C0 1 dX3_sewAt_87 rfl ?_
            refine y_bipush (v := 10) C0 dX3_sewAt_89 (by decide) ?_
            refine y_icmp_lt C0 114 dX3_sewAt_91 (by decide) (fun c_91 => ?_) (fun c_91 => ?_)
            · refine y_iinc (v := nI (i + 1 + 1)) C0 1 [(4, _), (5, _), (3, _), (2, _), (1, _), (0, _)] dX3_sewAt_114 rfl (yinc_ok rfl rfl) (by decide) rfl ?_
              refine y_goto C0 33 dX3_sewAt_117 (by decide) ?_
              refine y_sub [0, 2, 3, 4, 5] [(4, _), (3, _), (2, _), (1, _), (0, _)] rfl ?_
              exact y_eq ((wSewL_go c_43).trans (wStitch_b c_84 c_91)) (by first | rfl | simp [c_36, c_43, c_84, c_91]) rfl (ih_33 _ (by omega) (i + 1) rfl hlt)
            · refine y_aload_n C0 3 dX3_sewAt_94 rfl rfl ?_
              refine y_dup C0 dX3_sewAt_95 rfl ?_
              refine y_get C0 0 rfl rfl (by decide) hin0 10 (ykd_bk ho hb) (by decide) (by decide +kernel) (yvi0 (ykd_bk ho hb)) dX3_sewAt_96 ?_
              refine y_iconst (v := 1) C0 dX3_sewAt_99 (by decide) ?_
              refine y_iadd C0 dX3_sewAt_100 ?_
              refine y_put C0 0 rfl rfl (by decide) hin0 tyX0 tyX0_ok nmX0 10 (ykd_bk ho hb) (by decide) (by decide +kernel) (yrn0 (ykd_bk ho hb)) rfl (by decide +kernel) dX3_sewAt_101 ?_
              refine y_aload_n C0 5 dX3_sewAt_104 rfl rfl ?_
              refine y_dup C0 dX3_sewAt_105 rfl ?_
              refine y_get C0 3 rfl rfl (by decide) hin3 11 (ykd_w ho) (by decide) (by decide +kernel) (yvi3 (ykd_w ho) (by decide)) dX3_sewAt_106 ?_
              refine y_iconst (v := 1) C0 dX3_sewAt_109 (by decide) ?_
              refine y_iadd C0 dX3_sewAt_110 ?_
              refine y_put C0 3 rfl rfl (by decide) hin3 tyX3 tyX3_ok nmX3 11 (ykd_w ho) (by decide) (by decide +kernel) (yrn3 (ykd_w ho) (by decide)) rfl (by decide +kernel) dX3_sewAt_111 ?_
              refine y_iinc (v := nI (i + 1 + 1)) C0 1 [(4, _), (5, _), (3, _), (2, _), (1, _), (0, _)] dX3_sewAt_114 rfl (yinc_ok rfl rfl) (by decide) rfl ?_
              refine y_goto C0 33 dX3_sewAt_117 (by decide) ?_
              refine y_sub [0, 2, 3, 4, 5] [(4, _), (3, _), (2, _), (1, _), (0, _)] rfl ?_
              exact y_eq ((wSewL_go c_43).trans (wStitch_c c_84 c_91)) (by first | rfl | simp [c_36, c_43, c_84, c_91]) rfl (ih_33 _ (by omega) (i + 1) rfl hlt)
  refine y_sub [0, 1, 2, 4, 3] [(4, _), (3, _), (2, _), (1, _), (0, _)] rfl ?_
  exact hl_33 _ 0 rfl (Nat.zero_le _)
end YZ
