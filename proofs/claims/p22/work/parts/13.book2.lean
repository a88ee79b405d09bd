section YBK2
theorem bSet_e (f g : Rw) : ru (ru (ru (ru (ru (ru (ru (ru (ru (ru (ru (ru (f) 1 (g 1)) 2 (g 2)) 3 (g 3)) 4 (g 4)) 5 (g 5)) 6 (g 6)) 7 (g 7)) 8 (g 8)) 9 (g 9)) 10 (g 10)) 11 (g 11)) 12 (g 12) = bSet f g := by
  funext k
  unfold bSet
  simp only [ru_i]
  by_cases h : k = 1 ∨ k = 2 ∨ k = 3 ∨ k = 4 ∨ k = 5 ∨ k = 6 ∨ k = 7 ∨ k = 8 ∨ k = 9 ∨ k = 10 ∨ k = 11 ∨ k = 12
  · rcases h with rfl | rfl | rfl | rfl | rfl | rfl | rfl | rfl | rfl | rfl | rfl | rfl <;> simp
  · simp only [not_or] at h
    simp [h]
    intros
    omega
theorem fSet_e (f g : Rw) : ru (ru (ru (f) 1 (g 1)) 2 (g 2)) 3 (g 3) = fSet f g := by
  funext k
  unfold fSet
  simp only [ru_i]
  by_cases h : k = 1 ∨ k = 2 ∨ k = 3
  · rcases h with rfl | rfl | rfl <;> simp
  · simp only [not_or] at h
    simp [h]
    intros
    omega
theorem sSet_e (f g : Rw) : ru (ru (f) 1 (g 1)) 2 (g 2) = sSet f g := by
  funext k
  unfold sSet
  simp only [ru_i]
  by_cases h : k = 1 ∨ k = 2
  · rcases h with rfl | rfl <;> simp
  · simp only [not_or] at h
    simp [h]
    intros
    omega
abbrev rX0_stitchesToSew : Room := { frames := 1, cells := 0, slots := 0, locals := 22 }
set_option maxRecDepth 100000 in
set_option maxHeartbeats 4000000 in
theorem mX0_stitchesToSew (l : Launch) (D : va_G) (cy : Nat → ClassId) (adr : Nat → Nat) (M : yM) (b : Nat) (hk : ykd b = 0) : Ct l yX0_stitchesToSew wsX0_stitchesToSew rX0_stitchesToSew D cy adr [.ref (adr b)] M (some (.int (bToSew (M b)))) (M) 0 0 := by
  refine Ct.mk cX0_stitchesToSew 3 (some .int) RX0 (by decide) rfl rfl (Nat.le_of_ble_eq_true rfl) ?_
  intro K C0
  refine y_eq rfl (show ([(0, .ref (adr b))] : List (Nat × Value)) = lv_args 0 [.ref (adr b)] from rfl) rfl ?_
  have hin0 : ∀ w ∈ u_ws RX0 TX0 13, w ∈ wsX0_stitchesToSew := by decide +kernel
  refine y_iconst (v := 0) C0 dX0_stitchesToSew_0 (by decide) ?_
  refine y_istore_n C0 [(1, _), (0, _)] dX0_stitchesToSew_1 rfl (by decide) rfl ?_
  refine y_iconst (v := 0) C0 dX0_stitchesToSew_2 (by decide) ?_
  refine y_istore_n C0 [(2, _), (1, _), (0, _)] dX0_stitchesToSew_3 rfl (by decide) rfl ?_
  have hl_4 : ∀ (n : Nat) (i : Nat), (M b 1).toNatClampNeg - i = n → i ≤ (M b 1).toNatClampNeg → Y K l rX0_stitchesToSew D cy adr 3 0 0 (QT K D cy adr (some (.int (bToSew (M b)))) (M) 0 0) M [] [(2, .int (nI i)), (1, .int (bSum (M b) i)), (0, .ref (adr b))] 4 [] := by
    intro n
    induction n using Nat.strongRecOn with
    | _ n ih_4 =>
      intro i hn_4 hi
      refine y_iload_n C0 0 dX0_stitchesToSew_4 rfl rfl ?_
      refine y_aload_n C0 2 dX0_stitchesToSew_5 rfl rfl ?_
      refine y_get C0 0 rfl rfl (by decide) hin0 1 hk (by decide) (by decide +kernel) (yvi0 hk) dX0_stitchesToSew_6 ?_
      refine y_icmp_ge C0 26 dX0_stitchesToSew_9 (by decide) (fun c_9 => ?_) (fun c_9 => ?_)
      · have he := cl_end hi c_9
        rw [he]
        refine y_iload_n C0 1 dX0_stitchesToSew_26 rfl rfl ?_
        refine y_aload_n C0 2 dX0_stitchesToSew_27 rfl rfl ?_
        refine y_get C0 0 rfl rfl (by decide) hin0 7 hk (by decide) (by decide +kernel) (yvi0 hk) dX0_stitchesToSew_28 ?_
        refine y_isub C0 dX0_stitchesToSew_31 ?_
        exact y_iret C0 dX0_stitchesToSew_32 (by rw [bToSew]) rfl
      · have hlt := cl_lt hi c_9
        refine y_iload_n C0 1 dX0_stitchesToSew_12 rfl rfl ?_
        refine y_aload_n C0 2 dX0_stitchesToSew_13 rfl rfl ?_
        refine y_iload_n C0 0 dX0_stitchesToSew_14 rfl rfl ?_
        refine y_callV (As := [_]) (rest := _) (n := 1) C0 (mX0_stitchesOfSignature l D cy adr _ _ hk _) 0 rfl (by decide) hk gX0_stitchesToSew_X0_stitchesOfSignature rfl rfl rfl (by decide +kernel) ⟨by decide, by decide⟩ rfl rfl (Nat.le_of_ble_eq_true rfl) dX0_stitchesToSew_15 ⟨by decide, by decide⟩ ?_
        refine y_iadd C0 dX0_stitchesToSew_18 ?_
        refine y_istore_n C0 [(1, _), (2, _), (0, _)] dX0_stitchesToSew_19 rfl (by decide) rfl ?_
        refine y_iinc (v := nI (i + 1)) C0 1 [(2, _), (1, _), (0, _)] dX0_stitchesToSew_20 rfl (yinc_ok rfl rfl) (by decide) rfl ?_
        refine y_goto C0 4 dX0_stitchesToSew_23 (by decide) ?_
        refine y_sub [0, 1, 2] [(2, _), (1, _), (0, _)] rfl ?_
        exact y_eq (by first | rfl | simp [bSum, c_9]) (by first | rfl | simp [bSum, c_9]) rfl (ih_4 _ (by omega) (i + 1) rfl hlt)
  refine y_sub [0, 1, 2] [(2, _), (1, _), (0, _)] rfl ?_
  exact hl_4 _ 0 rfl (Nat.zero_le _)
abbrev rX0_tell : Room := { frames := 2, cells := 0, slots := 0, locals := 36 }
set_option maxRecDepth 100000 in
set_option maxHeartbeats 4000000 in
theorem mX0_tell (l : Launch) (D : va_G) (cy : Nat → ClassId) (adr : Nat → Nat) (M : yM) (b : Nat) (hk : ykd b = 0) (x : Int32) : Ct l yX0_tell wsX0_tell rX0_tell D cy adr [.ref (adr b), .int x] M (some (.int (bTell (M b) x))) (M) 0 0 := by
  refine Ct.mk cX0_tell 2 (some .int) RX0 (by decide) rfl rfl (Nat.le_of_ble_eq_true rfl) ?_
  intro K C0
  refine y_eq rfl (show ([(0, .ref (adr b)), (1, .int x)] : List (Nat × Value)) = lv_args 0 [.ref (adr b), .int x] from rfl) rfl ?_
  have hin0 : ∀ w ∈ u_ws RX0 TX0 13, w ∈ wsX0_tell := by decide +kernel
  refine y_iload_n C0 1 dX0_tell_0 rfl rfl ?_
  by_cases s_1_0 : x = 0
  · refine y_tswI (v := 0) C0 dX0_tell_1 (by rw [s_1_0]; rfl) (by decide) (by decide) rfl (tgt := 56) (by decide) ?_
    refine y_aload_n C0 0 dX0_tell_56 rfl rfl ?_
    refine y_get C0 0 rfl rfl (by decide) hin0 1 hk (by decide) (by decide +kernel) (yvi0 hk) dX0_tell_57 ?_
    exact y_iret C0 dX0_tell_60 (by simp_all [yst_ru, up_up, up_s, ru_i, up_id, -Int32.not_le, -Int32.not_lt, bTell]) (by simp_all [yst_ru, up_up, up_s, ru_i, up_id, -Int32.not_le, -Int32.not_lt, bTell])
  by_cases s_1_1 : x = 1
  · refine y_tswI (v := 1) C0 dX0_tell_1 (by rw [s_1_1]; rfl) (by decide) (by decide) rfl (tgt := 61) (by decide) ?_
    refine y_aload_n C0 0 dX0_tell_61 rfl rfl ?_
    refine y_get C0 0 rfl rfl (by decide) hin0 2 hk (by decide) (by decide +kernel) (yvi0 hk) dX0_tell_62 ?_
    exact y_iret C0 dX0_tell_65 (by simp_all [yst_ru, up_up, up_s, ru_i, up_id, -Int32.not_le, -Int32.not_lt, bTell]) (by simp_all [yst_ru, up_up, up_s, ru_i, up_id, -Int32.not_le, -Int32.not_lt, bTell])
  by_cases s_1_2 : x = 2
  · refine y_tswI (v := 2) C0 dX0_tell_1 (by rw [s_1_2]; rfl) (by decide) (by decide) rfl (tgt := 66) (by decide) ?_
    refine y_aload_n C0 0 dX0_tell_66 rfl rfl ?_
    refine y_get C0 0 rfl rfl (by decide) hin0 3 hk (by decide) (by decide +kernel) (yvi0 hk) dX0_tell_67 ?_
    exact y_iret C0 dX0_tell_70 (by simp_all [yst_ru, up_up, up_s, ru_i, up_id, -Int32.not_le, -Int32.not_lt, bTell]) (by simp_all [yst_ru, up_up, up_s, ru_i, up_id, -Int32.not_le, -Int32.not_lt, bTell])
  by_cases s_1_3 : x = 3
  · refine y_tswI (v := 3) C0 dX0_tell_1 (by rw [s_1_3]; rfl) (by decide) (by decide) rfl (tgt := 71) (by decide) ?_
    refine y_aload_n C0 0 dX0_tell_71 rfl rfl ?_
    refine y_get C0 0 rfl rfl (by decide) hin0 4 hk (by decide) (by decide +kernel) (yvi0 hk) dX0_tell_72 ?_
    exact y_iret C0 dX0_tell_75 (by simp_all [yst_ru, up_up, up_s, ru_i, up_id, -Int32.not_le, -Int32.not_lt, bTell]) (by simp_all [yst_ru, up_up, up_s, ru_i, up_id, -Int32.not_le, -Int32.not_lt, bTell])
  by_cases s_1_4 : x = 4
  · refine y_tswI (v := 4) C0 dX0_tell_1 (by rw [s_1_4]; rfl) (by decide) (by decide) rfl (tgt := 76) (by decide) ?_
    refine y_aload_n C0 0 dX0_tell_76 rfl rfl ?_
    refine y_get C0 0 rfl rfl (by decide) hin0 5 hk (by decide) (by decide +kernel) (yvi0 hk) dX0_tell_77 ?_
    exact y_iret C0 dX0_tell_80 (by simp_all [yst_ru, up_up, up_s, ru_i, up_id, -Int32.not_le, -Int32.not_lt, bTell]) (by simp_all [yst_ru, up_up, up_s, ru_i, up_id, -Int32.not_le, -Int32.not_lt, bTell])
  by_cases s_1_5 : x = 5
  · refine y_tswI (v := 5) C0 dX0_tell_1 (by rw [s_1_5]; rfl) (by decide) (by decide) rfl (tgt := 81) (by decide) ?_
    refine y_aload_n C0 0 dX0_tell_81 rfl rfl ?_
    refine y_get C0 0 rfl rfl (by decide) hin0 8 hk (by decide) (by decide +kernel) (yvi0 hk) dX0_tell_82 ?_
    exact y_iret C0 dX0_tell_85 (by simp_all [yst_ru, up_up, up_s, ru_i, up_id, -Int32.not_le, -Int32.not_lt, bTell]) (by simp_all [yst_ru, up_up, up_s, ru_i, up_id, -Int32.not_le, -Int32.not_lt, bTell])
  by_cases s_1_6 : x = 6
  · refine y_tswI (v := 6) C0 dX0_tell_1 (by rw [s_1_6]; rfl) (by decide) (by decide) rfl (tgt := 86) (by decide) ?_
    refine y_aload_n C0 0 dX0_tell_86 rfl rfl ?_
    refine y_get C0 0 rfl rfl (by decide) hin0 9 hk (by decide) (by decide +kernel) (yvi0 hk) dX0_tell_87 ?_
    exact y_iret C0 dX0_tell_90 (by simp_all [yst_ru, up_up, up_s, ru_i, up_id, -Int32.not_le, -Int32.not_lt, bTell]) (by simp_all [yst_ru, up_up, up_s, ru_i, up_id, -Int32.not_le, -Int32.not_lt, bTell])
  by_cases s_1_7 : x = 7
  · refine y_tswI (v := 7) C0 dX0_tell_1 (by rw [s_1_7]; rfl) (by decide) (by decide) rfl (tgt := 91) (by decide) ?_
    refine y_aload_n C0 0 dX0_tell_91 rfl rfl ?_
    refine y_get C0 0 rfl rfl (by decide) hin0 10 hk (by decide) (by decide +kernel) (yvi0 hk) dX0_tell_92 ?_
    exact y_iret C0 dX0_tell_95 (by simp_all [yst_ru, up_up, up_s, ru_i, up_id, -Int32.not_le, -Int32.not_lt, bTell]) (by simp_all [yst_ru, up_up, up_s, ru_i, up_id, -Int32.not_le, -Int32.not_lt, bTell])
  by_cases s_1_8 : x = 8
  · refine y_tswI (v := 8) C0 dX0_tell_1 (by rw [s_1_8]; rfl) (by decide) (by decide) rfl (tgt := 96) (by decide) ?_
    refine y_aload_n C0 0 dX0_tell_96 rfl rfl ?_
    refine y_get C0 0 rfl rfl (by decide) hin0 11 hk (by decide) (by decide +kernel) (yvi0 hk) dX0_tell_97 ?_
    exact y_iret C0 dX0_tell_100 (by simp_all [yst_ru, up_up, up_s, ru_i, up_id, -Int32.not_le, -Int32.not_lt, bTell]) (by simp_all [yst_ru, up_up, up_s, ru_i, up_id, -Int32.not_le, -Int32.not_lt, bTell])
  by_cases s_1_9 : x = 9
  · refine y_tswI (v := 9) C0 dX0_tell_1 (by rw [s_1_9]; rfl) (by decide) (by decide) rfl (tgt := 101) (by decide) ?_
    refine y_aload_n C0 0 dX0_tell_101 rfl rfl ?_
    refine y_get C0 0 rfl rfl (by decide) hin0 12 hk (by decide) (by decide +kernel) (yvi0 hk) dX0_tell_102 ?_
    exact y_iret C0 dX0_tell_105 (by simp_all [yst_ru, up_up, up_s, ru_i, up_id, -Int32.not_le, -Int32.not_lt, bTell]) (by simp_all [yst_ru, up_up, up_s, ru_i, up_id, -Int32.not_le, -Int32.not_lt, bTell])
  refine y_tswO C0 dX0_tell_1 (by have z0 := lv_neT s_1_0 (a := 0) rfl; have z1 := lv_neT s_1_1 (a := 1) rfl; have z2 := lv_neT s_1_2 (a := 2) rfl; have z3 := lv_neT s_1_3 (a := 3) rfl; have z4 := lv_neT s_1_4 (a := 4) rfl; have z5 := lv_neT s_1_5 (a := 5) rfl; have z6 := lv_neT s_1_6 (a := 6) rfl; have z7 := lv_neT s_1_7 (a := 7) rfl; have z8 := lv_neT s_1_8 (a := 8) rfl; have z9 := lv_neT s_1_9 (a := 9) rfl; omega) (tgt := 106) (by decide) ?_
  refine y_aload_n C0 0 dX0_tell_106 rfl rfl ?_
  refine y_callV (As := []) (rest := _) (n := 0) C0 (mX0_value l D cy adr _ _ hk) 0 rfl (by decide) hk gX0_tell_X0_value rfl rfl rfl (by decide +kernel) ⟨by decide, by decide⟩ rfl rfl (Nat.le_of_ble_eq_true rfl) dX0_tell_107 ⟨by decide, by decide⟩ ?_
  exact y_iret C0 dX0_tell_110 (by simp_all [yst_ru, up_up, up_s, ru_i, up_id, -Int32.not_le, -Int32.not_lt, bTell]) (by simp_all [yst_ru, up_up, up_s, ru_i, up_id, -Int32.not_le, -Int32.not_lt, bTell])
abbrev rX0_setTo : Room := { frames := 0, cells := 0, slots := 0, locals := 0 }
set_option maxRecDepth 100000 in
set_option maxHeartbeats 4000000 in
theorem mX0_setTo (l : Launch) (D : va_G) (cy : Nat → ClassId) (adr : Nat → Nat) (M : yM) (b a : Nat) (hk : ykd b = 0) (ha : ykd a = 0) (hne : a ≠ b) : Ct l yX0_setTo wsX0_setTo rX0_setTo D cy adr [.ref (adr b), .ref (adr a)] M (none) (va_up M b (bSet (M b) (M a))) 0 0 := by
  refine Ct.mk cX0_setTo 2 none RX0 (by decide) rfl rfl (Nat.le_of_ble_eq_true rfl) ?_
  intro K C0
  refine y_eq rfl (show ([(0, .ref (adr b)), (1, .ref (adr a))] : List (Nat × Value)) = lv_args 0 [.ref (adr b), .ref (adr a)] from rfl) rfl ?_
  have hin0 : ∀ w ∈ u_ws RX0 TX0 13, w ∈ wsX0_setTo := by decide +kernel
  refine y_aload_n C0 0 dX0_setTo_0 rfl rfl ?_
  refine y_aload_n C0 1 dX0_setTo_1 rfl rfl ?_
  refine y_get C0 0 rfl rfl (by decide) hin0 1 ha (by decide) (by decide +kernel) (yvi0 ha) dX0_setTo_2 ?_
  refine y_put C0 0 rfl rfl (by decide) hin0 tyX0 tyX0_ok nmX0 1 hk (by decide) (by decide +kernel) (yrn0 hk) rfl (by decide +kernel) dX0_setTo_5 ?_
  refine y_aload_n C0 0 dX0_setTo_8 rfl rfl ?_
  refine y_aload_n C0 1 dX0_setTo_9 rfl rfl ?_
  refine y_get C0 0 rfl rfl (by decide) hin0 2 ha (by decide) (by decide +kernel) (yvi0 ha) dX0_setTo_10 ?_
  refine y_put C0 0 rfl rfl (by decide) hin0 tyX0 tyX0_ok nmX0 2 hk (by decide) (by decide +kernel) (yrn0 hk) rfl (by decide +kernel) dX0_setTo_13 ?_
  refine y_aload_n C0 0 dX0_setTo_16 rfl rfl ?_
  refine y_aload_n C0 1 dX0_setTo_17 rfl rfl ?_
  refine y_get C0 0 rfl rfl (by decide) hin0 3 ha (by decide) (by decide +kernel) (yvi0 ha) dX0_setTo_18 ?_
  refine y_put C0 0 rfl rfl (by decide) hin0 tyX0 tyX0_ok nmX0 3 hk (by decide) (by decide +kernel) (yrn0 hk) rfl (by decide +kernel) dX0_setTo_21 ?_
  refine y_aload_n C0 0 dX0_setTo_24 rfl rfl ?_
  refine y_aload_n C0 1 dX0_setTo_25 rfl rfl ?_
  refine y_get C0 0 rfl rfl (by decide) hin0 4 ha (by decide) (by decide +kernel) (yvi0 ha) dX0_setTo_26 ?_
  refine y_put C0 0 rfl rfl (by decide) hin0 tyX0 tyX0_ok nmX0 4 hk (by decide) (by decide +kernel) (yrn0 hk) rfl (by decide +kernel) dX0_setTo_29 ?_
  refine y_aload_n C0 0 dX0_setTo_32 rfl rfl ?_
  refine y_aload_n C0 1 dX0_setTo_33 rfl rfl ?_
  refine y_get C0 0 rfl rfl (by decide) hin0 5 ha (by decide) (by decide +kernel) (yvi0 ha) dX0_setTo_34 ?_
  refine y_put C0 0 rfl rfl (by decide) hin0 tyX0 tyX0_ok nmX0 5 hk (by decide) (by decide +kernel) (yrn0 hk) rfl (by decide +kernel) dX0_setTo_37 ?_
  refine y_aload_n C0 0 dX0_setTo_40 rfl rfl ?_
  refine y_aload_n C0 1 dX0_setTo_41 rfl rfl ?_
  refine y_get C0 0 rfl rfl (by decide) hin0 6 ha (by decide) (by decide +kernel) (yvi0 ha) dX0_setTo_42 ?_
  refine y_put C0 0 rfl rfl (by decide) hin0 tyX0 tyX0_ok nmX0 6 hk (by decide) (by decide +kernel) (yrn0 hk) rfl (by decide +kernel) dX0_setTo_45 ?_
  refine y_aload_n C0 0 dX0_setTo_48 rfl rfl ?_
  refine y_aload_n C0 1 dX0_setTo_49 rfl rfl ?_
  refine y_get C0 0 rfl rfl (by decide) hin0 7 ha (by decide) (by decide +kernel) (yvi0 ha) dX0_setTo_50 ?_
  refine y_put C0 0 rfl rfl (by decide) hin0 tyX0 tyX0_ok nmX0 7 hk (by decide) (by decide +kernel) (yrn0 hk) rfl (by decide +kernel) dX0_setTo_53 ?_
  refine y_aload_n C0 0 dX0_setTo_56 rfl rfl ?_
  refine y_aload_n C0 1 dX0_setTo_57 rfl rfl ?_
  refine y_get C0 0 rfl rfl (by decide) hin0 8 ha (by decide) (by decide +kernel) (yvi0 ha) dX0_setTo_58 ?_
  refine y_put C0 0 rfl rfl (by decide) hin0 tyX0 tyX0_ok nmX0 8 hk (by decide) (by decide +kernel) (yrn0 hk) rfl (by decide +kernel) dX0_setTo_61 ?_
  refine y_aload_n C0 0 dX0_setTo_64 rfl rfl ?_
  refine y_aload_n C0 1 dX0_setTo_65 rfl rfl ?_
  refine y_get C0 0 rfl rfl (by decide) hin0 9 ha (by decide) (by decide +kernel) (yvi0 ha) dX0_setTo_66 ?_
  refine y_put C0 0 rfl rfl (by decide) hin0 tyX0 tyX0_ok nmX0 9 hk (by decide) (by decide +kernel) (yrn0 hk) rfl (by decide +kernel) dX0_setTo_69 ?_
  refine y_aload_n C0 0 dX0_setTo_72 rfl rfl ?_
  refine y_aload_n C0 1 dX0_setTo_73 rfl rfl ?_
  refine y_get C0 0 rfl rfl (by decide) hin0 10 ha (by decide) (by decide +kernel) (yvi0 ha) dX0_setTo_74 ?_
  refine y_put C0 0 rfl rfl (by decide) hin0 tyX0 tyX0_ok nmX0 10 hk (by decide) (by decide +kernel) (yrn0 hk) rfl (by decide +kernel) dX0_setTo_77 ?_
  refine y_aload_n C0 0 dX0_setTo_80 rfl rfl ?_
  refine y_aload_n C0 1 dX0_setTo_81 rfl rfl ?_
  refine y_get C0 0 rfl rfl (by decide) hin0 11 ha (by decide) (by decide +kernel) (yvi0 ha) dX0_setTo_82 ?_
  refine y_put C0 0 rfl rfl (by decide) hin0 tyX0 tyX0_ok nmX0 11 hk (by decide) (by decide +kernel) (yrn0 hk) rfl (by decide +kernel) dX0_setTo_85 ?_
  refine y_aload_n C0 0 dX0_setTo_88 rfl rfl ?_
  refine y_aload_n C0 1 dX0_setTo_89 rfl rfl ?_
  refine y_get C0 0 rfl rfl (by decide) hin0 12 ha (by decide) (by decide +kernel) (yvi0 ha) dX0_setTo_90 ?_
  refine y_put C0 0 rfl rfl (by decide) hin0 tyX0 tyX0_ok nmX0 12 hk (by decide) (by decide +kernel) (yrn0 hk) rfl (by decide +kernel) dX0_setTo_93 ?_
  exact y_vret C0 dX0_setTo_96 rfl (by simp only [yst_ru, up_up, up_s, up_n hne]; exact congrArg (va_up M b) (bSet_e (M b) (M a)))
abbrev rX1_setTo : Room := { frames := 0, cells := 0, slots := 0, locals := 0 }
set_option maxRecDepth 100000 in
set_option maxHeartbeats 4000000 in
theorem mX1_setTo (l : Launch) (D : va_G) (cy : Nat → ClassId) (adr : Nat → Nat) (M : yM) (b a : Nat) (hk : ykd b = 1) (ha : ykd a = 1) (hne : a ≠ b) : Ct l yX1_setTo wsX1_setTo rX1_setTo D cy adr [.ref (adr b), .ref (adr a)] M (none) (va_up M b (fSet (M b) (M a))) 0 0 := by
  refine Ct.mk cX1_setTo 2 none RX1 (by decide) rfl rfl (Nat.le_of_ble_eq_true rfl) ?_
  intro K C0
  refine y_eq rfl (show ([(0, .ref (adr b)), (1, .ref (adr a))] : List (Nat × Value)) = lv_args 0 [.ref (adr b), .ref (adr a)] from rfl) rfl ?_
  have hin1 : ∀ w ∈ u_ws RX1 TX1 4, w ∈ wsX1_setTo := by decide +kernel
  refine y_aload_n C0 0 dX1_setTo_0 rfl rfl ?_
  refine y_aload_n C0 1 dX1_setTo_1 rfl rfl ?_
  refine y_get C0 1 rfl rfl (by decide) hin1 1 ha (by decide) (by decide +kernel) (yvi1 ha) dX1_setTo_2 ?_
  refine y_put C0 1 rfl rfl (by decide) hin1 tyX1 tyX1_ok nmX1 1 hk (by decide) (by decide +kernel) (yrn1 hk) rfl (by decide +kernel) dX1_setTo_5 ?_
  refine y_aload_n C0 0 dX1_setTo_8 rfl rfl ?_
  refine y_aload_n C0 1 dX1_setTo_9 rfl rfl ?_
  refine y_get C0 1 rfl rfl (by decide) hin1 2 ha (by decide) (by decide +kernel) (yvi1 ha) dX1_setTo_10 ?_
  refine y_put C0 1 rfl rfl (by decide) hin1 tyX1 tyX1_ok nmX1 2 hk (by decide) (by decide +kernel) (yrn1 hk) rfl (by decide +kernel) dX1_setTo_13 ?_
  refine y_aload_n C0 0 dX1_setTo_16 rfl rfl ?_
  refine y_aload_n C0 1 dX1_setTo_17 rfl rfl ?_
  refine y_get C0 1 rfl rfl (by decide) hin1 3 ha (by decide) (by decide +kernel) (yvi1 ha) dX1_setTo_18 ?_
  refine y_put C0 1 rfl rfl (by decide) hin1 tyX1 tyX1_ok nmX1 3 hk (by decide) (by decide +kernel) (yrn1 hk) rfl (by decide +kernel) dX1_setTo_21 ?_
  exact y_vret C0 dX1_setTo_24 rfl (by simp only [yst_ru, up_up, up_s, up_n hne]; exact congrArg (va_up M b) (fSet_e (M b) (M a)))
abbrev rX2_setTo : Room := { frames := 0, cells := 0, slots := 0, locals := 0 }
set_option maxRecDepth 100000 in
set_option maxHeartbeats 4000000 in
theorem mX2_setTo (l : Launch) (D : va_G) (cy : Nat → ClassId) (adr : Nat → Nat) (M : yM) (b a : Nat) (hk : ykd b = 2) (ha : ykd a = 2) (hne : a ≠ b) : Ct l yX2_setTo wsX2_setTo rX2_setTo D cy adr [.ref (adr b), .ref (adr a)] M (none) (va_up M b (sSet (M b) (M a))) 0 0 := by
  refine Ct.mk cX2_setTo 2 none RX2 (by decide) rfl rfl (Nat.le_of_ble_eq_true rfl) ?_
  intro K C0
  refine y_eq rfl (show ([(0, .ref (adr b)), (1, .ref (adr a))] : List (Nat × Value)) = lv_args 0 [.ref (adr b), .ref (adr a)] from rfl) rfl ?_
  have hin2 : ∀ w ∈ u_ws RX2 TX2 3, w ∈ wsX2_setTo := by decide +kernel
  refine y_aload_n C0 0 dX2_setTo_0 rfl rfl ?_
  refine y_aload_n C0 1 dX2_setTo_1 rfl rfl ?_
  refine y_get C0 2 rfl rfl (by decide) hin2 1 ha (by decide) (by decide +kernel) (yvi2 ha) dX2_setTo_2 ?_
  refine y_put C0 2 rfl rfl (by decide) hin2 tyX2 tyX2_ok nmX2 1 hk (by decide) (by decide +kernel) (yrn2 hk) rfl (by decide +kernel) dX2_setTo_5 ?_
  refine y_aload_n C0 0 dX2_setTo_8 rfl rfl ?_
  refine y_aload_n C0 1 dX2_setTo_9 rfl rfl ?_
  refine y_get C0 2 rfl rfl (by decide) hin2 2 ha (by decide) (by decide +kernel) (yvi2 ha) dX2_setTo_10 ?_
  refine y_put C0 2 rfl rfl (by decide) hin2 tyX2 tyX2_ok nmX2 2 hk (by decide) (by decide +kernel) (yrn2 hk) rfl (by decide +kernel) dX2_setTo_13 ?_
  exact y_vret C0 dX2_setTo_16 rfl (by simp only [yst_ru, up_up, up_s, up_n hne]; exact congrArg (va_up M b) (sSet_e (M b) (M a)))
abbrev rX2_tell : Room := { frames := 0, cells := 0, slots := 0, locals := 0 }
set_option maxRecDepth 100000 in
set_option maxHeartbeats 4000000 in
theorem mX2_tell (l : Launch) (D : va_G) (cy : Nat → ClassId) (adr : Nat → Nat) (M : yM) (b : Nat) (hk : ykd b = 2) (x : Int32) : Ct l yX2_tell wsX2_tell rX2_tell D cy adr [.ref (adr b), .int x] M (some (.int (sTell (M b) x))) (M) 0 0 := by
  refine Ct.mk cX2_tell 2 (some .int) RX2 (by decide) rfl rfl (Nat.le_of_ble_eq_true rfl) ?_
  intro K C0
  refine y_eq rfl (show ([(0, .ref (adr b)), (1, .int x)] : List (Nat × Value)) = lv_args 0 [.ref (adr b), .int x] from rfl) rfl ?_
  have hin2 : ∀ w ∈ u_ws RX2 TX2 3, w ∈ wsX2_tell := by decide +kernel
  refine y_iload_n C0 1 dX2_tell_0 rfl rfl ?_
  refine y_if_ne C0 11 dX2_tell_1 (by decide) (fun c_1 => ?_) (fun c_1 => ?_)
  · refine y_aload_n C0 0 dX2_tell_11 rfl rfl ?_
    refine y_get C0 2 rfl rfl (by decide) hin2 2 hk (by decide) (by decide +kernel) (yvi2 hk) dX2_tell_12 ?_
    exact y_iret C0 dX2_tell_15 (by simp_all [yst_ru, up_up, up_s, ru_i, up_id, -Int32.not_le, -Int32.not_lt, sTell]) (by simp_all [yst_ru, up_up, up_s, ru_i, up_id, -Int32.not_le, -Int32.not_lt, sTell])
  · refine y_aload_n C0 0 dX2_tell_4 rfl rfl ?_
    refine y_get C0 2 rfl rfl (by decide) hin2 1 hk (by decide) (by decide +kernel) (yvi2 hk) dX2_tell_5 ?_
    refine y_goto C0 15 dX2_tell_8 (by decide) ?_
    exact y_iret C0 dX2_tell_15 (by simp_all [yst_ru, up_up, up_s, ru_i, up_id, -Int32.not_le, -Int32.not_lt, sTell]) (by simp_all [yst_ru, up_up, up_s, ru_i, up_id, -Int32.not_le, -Int32.not_lt, sTell])
end YBK2
