section YMG
abbrev rX5_doneIn : Room := { frames := 4, cells := 0, slots := 0, locals := 86 }
set_option maxRecDepth 100000 in
set_option maxHeartbeats 4000000 in
theorem mX5_doneIn (l : Launch) (D : va_G) (cy : Nat → ClassId) (adr : Nat → Nat) (M : yM) (R : Rw) (b : Nat) (hb : b < 15) (B S : Nat) (hok : mOK R B S) : Ct l yX5_doneIn wsX5_doneIn rX5_doneIn D cy adr [.ref (adr 55), .int (nI b)] (va_up M 56 R) (some (.int (dnR R B S b))) (va_up (va_up M 56 R) 57 (dnM R B S b)) 0 0 := by
  refine Ct.mk cX5_doneIn 3 (some .int) RX5 (by decide) rfl rfl (Nat.le_of_ble_eq_true rfl) ?_
  intro K C0
  refine y_eq rfl (show ([(0, .ref (adr 55)), (1, .int (nI b))] : List (Nat × Value)) = lv_args 0 [.ref (adr 55), .int (nI b)] from rfl) rfl ?_
  have hin5 : ∀ w ∈ u_ws RX5 TX5 3, w ∈ wsX5_doneIn := by decide +kernel
  refine y_aload_n C0 0 dX5_doneIn_0 rfl rfl ?_
  refine y_callV (As := []) (rest := _) (n := 0) C0 (mX5_lookAhead l D cy adr _ _) 5 rfl (by decide) ykd_55 gX5_doneIn_X5_lookAhead rfl rfl rfl (by decide +kernel) ⟨by decide, by decide⟩ rfl rfl (Nat.le_of_ble_eq_true rfl) dX5_doneIn_1 ⟨by decide, by decide⟩ ?_
  refine y_iconst (v := 0) C0 dX5_doneIn_4 (by decide) ?_
  refine y_istore_n C0 [(2, _), (0, _), (1, _)] dX5_doneIn_5 rfl (by decide) rfl ?_
  have hl_6 : ∀ (n : Nat) (i : Nat), 251 - i = n → i ≤ 251 → hF (dnP R B S b) i = none → Y K l rX5_doneIn D cy adr 3 0 0 (QT K D cy adr (some (.int (dnR R B S b))) (va_up (va_up M 56 R) 57 (dnM R B S b)) 0 0) (va_up (va_up M 56 R) 57 (rHours R B S i)) [] [(2, .int (nI i)), (1, .int (nI b)), (0, .ref (adr 55))] 6 [] := by
    intro n
    induction n using Nat.strongRecOn with
    | _ n ih_6 =>
      intro i hn_6 hi hfi
      refine y_iload_n C0 0 dX5_doneIn_6 rfl rfl ?_
      refine y_sipush (v := 250) C0 dX5_doneIn_7 (by decide) ?_
      refine y_icmp_gt C0 43 dX5_doneIn_10 (by decide) (fun c_10 => ?_) (fun c_10 => ?_)
      · have he : i = 251 := by
          have h9 := (nI_ltI (a := 250) (b := i) (by decide) (by omega)).mp c_10
          omega
        subst he
        refine y_iconst (v := (-1)) C0 dX5_doneIn_43 (by decide) ?_
        exact y_iret C0 dX5_doneIn_44 (by rw [(dn_n hfi).1]) (congrArg _ (dn_n hfi).2.symm)
      · have hlt : i < 251 := by
          rcases Nat.lt_or_ge i 251 with q | q
          · exact q
          · exact absurd (show nI 250 < nI i from nI_lt (by omega) (by omega)) c_10
        have hok9 := mOK_hours hok i
        refine y_aload_n C0 2 dX5_doneIn_13 rfl rfl ?_
        refine y_get C0 5 rfl rfl (by decide) hin5 2 ykd_55 (by decide) (by decide +kernel) yv5_ahead dX5_doneIn_14 ?_
        refine y_bipush (v := 11) C0 dX5_doneIn_17 (by decide) ?_
        refine y_iload_n C0 1 dX5_doneIn_19 rfl rfl ?_
        refine y_imulN C0 (a := 11) (b := b) rfl rfl dX5_doneIn_20 ?_
        refine y_iconst (v := 3) C0 dX5_doneIn_21 (by decide) ?_
        refine y_iaddN C0 (a := (11 * b)) (b := 3) rfl rfl dX5_doneIn_22 ?_
        refine y_ialdU C0 (((11 * b) + 3)) ykd_57 rfl (by omega) dX5_doneIn_23 ?_
        refine y_iconst (v := 5) C0 dX5_doneIn_24 (by decide) ?_
        refine y_icmp_lt C0 30 dX5_doneIn_25 (by decide) (fun c_25 => ?_) (fun c_25 => ?_)
        · refine y_aload_n C0 2 dX5_doneIn_30 rfl rfl ?_
          refine y_get C0 5 rfl rfl (by decide) hin5 2 ykd_55 (by decide) (by decide +kernel) yv5_ahead dX5_doneIn_31 ?_
          refine y_callS (As := [_]) (rest := _) (n := 1) C0 (mX5_pass l D cy adr _ _ ykd_57 _ B S hok9) gX5_doneIn_X5_pass rfl rfl rfl (by decide +kernel) ⟨by decide, by decide⟩ rfl rfl (Nat.le_of_ble_eq_true rfl) dX5_doneIn_34 ⟨by decide, by decide⟩ ?_
          refine y_iinc (v := nI (i + 1)) C0 0 [(2, _), (1, _), (0, _)] dX5_doneIn_37 rfl (yinc_ok rfl rfl) (by decide) rfl ?_
          refine y_goto C0 6 dX5_doneIn_40 (by decide) ?_
          refine y_sub [0, 1, 2] [(2, _), (1, _), (0, _)] rfl ?_
          exact y_eq rfl rfl rfl (ih_6 _ (by omega) (i + 1) rfl hlt (dn_k hfi c_25))
        · refine y_iload_n C0 0 dX5_doneIn_28 rfl rfl ?_
          exact y_iret C0 dX5_doneIn_29 (by rw [(dn_s hfi c_25 hlt).1]) (congrArg _ (dn_s hfi c_25 hlt).2.symm)
  refine y_sub [0, 2, 1] [(2, _), (1, _), (0, _)] rfl ?_
  exact hl_6 _ 0 rfl (Nat.zero_le _) rfl
abbrev rX5_until : Room := { frames := 5, cells := 0, slots := 0, locals := 108 }
set_option maxRecDepth 100000 in
set_option maxHeartbeats 4000000 in
theorem mX5_until (l : Launch) (D : va_G) (cy : Nat → ClassId) (adr : Nat → Nat) (M : yM) (R : Rw) (x : Int32) (B S : Nat) (hok : mOK R B S) : Ct l yX5_until wsX5_until rX5_until D cy adr [.ref (adr 55), .int x] (va_up M 56 R) (some (.int (mr (untC B x) (dnR R B S (cN x))))) (mo2 (untC B x) (va_up (va_up (TN M 0) 56 R) 57 (dnM R B S (cN x))) (va_up (TN M (untC B x)) 56 R)) 0 0 := by
  refine Ct.mk cX5_until 2 (some .int) RX5 (by decide) rfl rfl (Nat.le_of_ble_eq_true rfl) ?_
  intro K C0
  refine y_eq rfl (show ([(0, .ref (adr 55)), (1, .int x)] : List (Nat × Value)) = lv_args 0 [.ref (adr 55), .int x] from rfl) rfl ?_
  have hin5 : ∀ w ∈ u_ws RX5 TX5 3, w ∈ wsX5_until := by decide +kernel
  have hB := hok.2.1
  have eB := hok.1
  refine y_aload_n C0 0 dX5_until_0 rfl rfl ?_
  refine y_iconst (v := 0) C0 dX5_until_1 (by decide) ?_
  refine y_thU C0 hin5 (by decide +kernel) (by decide) dX5_until_2 ?_
  refine y_aload_n C0 0 dX5_until_5 rfl rfl ?_
  refine y_iload_n C0 1 dX5_until_6 rfl rfl ?_
  refine y_callV (As := [_]) (rest := _) (n := 1) C0 (mX5_isBook l D cy adr _ _ _) 5 rfl (by decide) ykd_55 gX5_until_X5_isBook rfl rfl rfl (by decide +kernel) ⟨by decide, by decide⟩ rfl rfl (Nat.le_of_ble_eq_true rfl) dX5_until_7 ⟨by decide, by decide⟩ ?_
  refine y_top (show mI x 0 (R 189 - 1) = mI x 0 (nI B - 1) by rw [eB]) ?_
  refine y_if_eq C0 21 dX5_until_10 (by decide) (fun c_10 => ?_) (fun c_10 => ?_)
  · refine y_aload_n C0 0 dX5_until_21 rfl rfl ?_
    refine y_iconst (v := 1) C0 dX5_until_22 (by decide) ?_
    refine y_callV (As := [_]) (rest := _) (n := 1) C0 (mX5_no l D cy adr _ _ _) 5 rfl (by decide) ykd_55 gX5_until_X5_no rfl rfl rfl (by decide +kernel) ⟨by decide, by decide⟩ rfl rfl (Nat.le_of_ble_eq_true rfl) dX5_until_23 ⟨by decide, by decide⟩ ?_
    have hc9 : untC B x = 1 := by simp [untC, c_10]
    exact y_iret C0 dX5_until_26 (mr_n hc9 (by decide)) (mo2_n hc9 (by decide))
  · obtain ⟨hb, eb⟩ := mI_n (n := B) (by omega) c_10
    refine y_aload_n C0 0 dX5_until_13 rfl rfl ?_
    refine y_iload_n C0 1 dX5_until_14 rfl rfl ?_
    refine y_top eb ?_
    refine y_callV (As := [_]) (rest := _) (n := 1) C0 (mX5_doneIn l D cy adr _ _ (cN x) (by omega) B S hok) 5 rfl (by decide) ykd_55 gX5_until_X5_doneIn rfl rfl rfl (by decide +kernel) ⟨by decide, by decide⟩ rfl rfl (Nat.le_of_ble_eq_true rfl) dX5_until_15 ⟨by decide, by decide⟩ ?_
    refine y_goto C0 26 dX5_until_18 (by decide) ?_
    have hc9 : untC B x = 0 := by simp [untC, c_10]
    exact y_iret C0 dX5_until_26 (mr_0 hc9 rfl) (mo2_0 hc9 rfl)
abbrev rX5_next : Room := { frames := 5, cells := 0, slots := 0, locals := 108 }
set_option maxRecDepth 100000 in
set_option maxHeartbeats 4000000 in
theorem mX5_next (l : Launch) (D : va_G) (cy : Nat → ClassId) (adr : Nat → Nat) (M : yM) (R : Rw)  (B S : Nat) (hok : mOK R B S) : Ct l yX5_next wsX5_next rX5_next D cy adr [.ref (adr 55)] (va_up M 56 R) (some (.int (mnB R B S B))) ((va_up (va_up (TN M 0) 57 (mnP R (M 57) B S B)) 56 R)) 0 0 := by
  refine Ct.mk cX5_next 5 (some .int) RX5 (by decide) rfl rfl (Nat.le_of_ble_eq_true rfl) ?_
  intro K C0
  refine y_eq rfl (show ([(0, .ref (adr 55))] : List (Nat × Value)) = lv_args 0 [.ref (adr 55)] from rfl) rfl ?_
  have hin5 : ∀ w ∈ u_ws RX5 TX5 3, w ∈ wsX5_next := by decide +kernel
  have hB := hok.2.1
  have eB := hok.1
  refine y_aload_n C0 0 dX5_next_0 rfl rfl ?_
  refine y_iconst (v := 0) C0 dX5_next_1 (by decide) ?_
  refine y_thU C0 hin5 (by decide +kernel) (by decide) dX5_next_2 ?_
  refine y_iconst (v := (-1)) C0 dX5_next_5 (by decide) ?_
  refine y_istore_n C0 [(1, _), (0, _)] dX5_next_6 rfl (by decide) rfl ?_
  refine y_sipush (v := 251) C0 dX5_next_7 (by decide) ?_
  refine y_istore_n C0 [(2, _), (1, _), (0, _)] dX5_next_10 rfl (by decide) rfl ?_
  refine y_iconst (v := 0) C0 dX5_next_11 (by decide) ?_
  refine y_istore_n C0 [(3, _), (2, _), (1, _), (0, _)] dX5_next_12 rfl (by decide) rfl ?_
  have hl_13 : ∀ (n : Nat) (i : Nat), B - i = n → i ≤ B → Y K l rX5_next D cy adr 5 0 0 (QT K D cy adr (some (.int (mnB R B S B))) ((va_up (va_up (TN M 0) 57 (mnP R (M 57) B S B)) 56 R)) 0 0) (va_up (va_up (TN M 0) 57 (mnP R (M 57) B S i)) 56 R) [] [(3, .int (nI i)), (2, .int (mnS R B S i)), (1, .int (mnB R B S i)), (0, .ref (adr 55))] 13 [] := by
    intro n
    induction n using Nat.strongRecOn with
    | _ n ih_13 =>
      intro i hn_13 hi
      refine y_iload_n C0 0 dX5_next_13 rfl rfl ?_
      refine y_aload_n C0 3 dX5_next_14 rfl rfl ?_
      refine y_get C0 5 rfl rfl (by decide) hin5 1 ykd_55 (by decide) (by decide +kernel) yv5_now dX5_next_15 ?_
      refine y_sipush (v := 189) C0 dX5_next_18 (by decide) ?_
      refine y_ialdU C0 (189) ykd_56 rfl (by omega) dX5_next_21 ?_
      refine y_icmp_ge C0 76 dX5_next_22 (by decide) (fun c_22 => ?_) (fun c_22 => ?_)
      · rw [eB] at c_22
        have he := ct_end (N := B) (by omega) hi c_22
        rw [he]
        refine y_iload_n C0 2 dX5_next_76 rfl rfl ?_
        exact y_iret C0 dX5_next_77 rfl rfl
      · rw [eB] at c_22
        have hlt := ct_lt (N := B) (by omega) hi c_22
        refine y_aload_n C0 3 dX5_next_25 rfl rfl ?_
        refine y_get C0 5 rfl rfl (by decide) hin5 1 ykd_55 (by decide) (by decide +kernel) yv5_now dX5_next_26 ?_
        refine y_bipush (v := 11) C0 dX5_next_29 (by decide) ?_
        refine y_iload_n C0 0 dX5_next_31 rfl rfl ?_
        refine y_imulN C0 (a := 11) (b := i) rfl rfl dX5_next_32 ?_
        refine y_iconst (v := 3) C0 dX5_next_33 (by decide) ?_
        refine y_iaddN C0 (a := (11 * i)) (b := 3) rfl rfl dX5_next_34 ?_
        refine y_ialdU C0 (((11 * i) + 3)) ykd_56 rfl (by omega) dX5_next_35 ?_
        refine y_iconst (v := 5) C0 dX5_next_36 (by decide) ?_
        refine y_icmp_lt C0 44 dX5_next_37 (by decide) (fun c_37 => ?_) (fun c_37 => ?_)
        · refine y_aload_n C0 3 dX5_next_44 rfl rfl ?_
          refine y_iload_n C0 0 dX5_next_45 rfl rfl ?_
          refine y_callV (As := [_]) (rest := _) (n := 1) C0 (mX5_doneIn l D cy adr _ _ i (by omega) B S hok) 5 rfl (by decide) ykd_55 gX5_next_X5_doneIn rfl rfl rfl (by decide +kernel) ⟨by decide, by decide⟩ rfl rfl (Nat.le_of_ble_eq_true rfl) dX5_next_46 ⟨by decide, by decide⟩ ?_
          refine y_mem (M' := va_up (va_up (TN M 0) 57 (dnM R B S i)) 56 R) up3 ?_
          refine y_istore C0 [(4, _), (3, _), (2, _), (1, _), (0, _)] dX5_next_49 (by decide) rfl ?_
          refine y_iload C0 0 dX5_next_51 rfl ?_
          refine y_if_lt C0 70 dX5_next_53 (by decide) (fun c_53 => ?_) (fun c_53 => ?_)
          · refine y_iinc (v := nI (i + 1)) C0 1 [(3, _), (4, _), (2, _), (1, _), (0, _)] dX5_next_70 rfl (yinc_ok rfl rfl) (by decide) rfl ?_
            refine y_goto C0 13 dX5_next_73 (by decide) ?_
            refine y_sub [0, 2, 3, 4] [(3, _), (2, _), (1, _), (0, _)] rfl ?_
            exact y_eq (by simp only [mnP, c_22, c_37, c_53, if_true, if_false]) (by simp only [mnS, mnB, mnO, c_22, c_37, c_53, y_m1, if_true, if_false]) rfl (ih_13 _ (by omega) (i + 1) rfl hlt)
          · refine y_iload C0 0 dX5_next_56 rfl ?_
            refine y_iload_n C0 2 dX5_next_58 rfl rfl ?_
            refine y_icmp_lt C0 65 dX5_next_59 (by decide) (fun c_59 => ?_) (fun c_59 => ?_)
            · refine y_iload_n C0 1 dX5_next_65 rfl rfl ?_
              refine y_istore_n C0 [(1, _), (4, _), (3, _), (2, _), (0, _)] dX5_next_66 rfl (by decide) rfl ?_
              refine y_iload C0 1 dX5_next_67 rfl ?_
              refine y_istore_n C0 [(2, _), (1, _), (4, _), (3, _), (0, _)] dX5_next_69 rfl (by decide) rfl ?_
              refine y_iinc (v := nI (i + 1)) C0 3 [(3, _), (2, _), (1, _), (4, _), (0, _)] dX5_next_70 rfl (yinc_ok rfl rfl) (by decide) rfl ?_
              refine y_goto C0 13 dX5_next_73 (by decide) ?_
              refine y_sub [0, 1, 2, 4] [(3, _), (2, _), (1, _), (0, _)] rfl ?_
              exact y_eq (by simp only [mnP, c_22, c_37, c_53, c_59, if_true, if_false]) (by simp only [mnS, mnB, mnO, c_22, c_37, c_53, c_59, y_m1, if_true, if_false]) rfl (ih_13 _ (by omega) (i + 1) rfl hlt)
            · refine y_goto C0 70 dX5_next_62 (by decide) ?_
              refine y_iinc (v := nI (i + 1)) C0 1 [(3, _), (4, _), (2, _), (1, _), (0, _)] dX5_next_70 rfl (yinc_ok rfl rfl) (by decide) rfl ?_
              refine y_goto C0 13 dX5_next_73 (by decide) ?_
              refine y_sub [0, 2, 3, 4] [(3, _), (2, _), (1, _), (0, _)] rfl ?_
              exact y_eq (by simp only [mnP, c_22, c_37, c_53, c_59, if_true, if_false]) (by simp only [mnS, mnB, mnO, c_22, c_37, c_53, c_59, y_m1, if_true, if_false]) rfl (ih_13 _ (by omega) (i + 1) rfl hlt)
        · refine y_iconst (v := (-1)) C0 dX5_next_40 (by decide) ?_
          refine y_goto C0 49 dX5_next_41 (by decide) ?_
          refine y_istore C0 [(4, _), (3, _), (2, _), (1, _), (0, _)] dX5_next_49 (by decide) rfl ?_
          refine y_iload C0 0 dX5_next_51 rfl ?_
          refine y_if_lt C0 70 dX5_next_53 (by decide) (fun c_53 => ?_) (fun c_53 => ?_)
          · refine y_iinc (v := nI (i + 1)) C0 1 [(3, _), (4, _), (2, _), (1, _), (0, _)] dX5_next_70 rfl (yinc_ok rfl rfl) (by decide) rfl ?_
            refine y_goto C0 13 dX5_next_73 (by decide) ?_
            refine y_sub [0, 2, 3, 4] [(3, _), (2, _), (1, _), (0, _)] rfl ?_
            exact y_eq (by simp only [mnP, c_22, c_37, c_53, if_true, if_false]) (by simp only [mnS, mnB, mnO, c_22, c_37, c_53, y_m1, if_true, if_false]) rfl (ih_13 _ (by omega) (i + 1) rfl hlt)
          · exact absurd (by decide) c_53
  refine y_sub [0, 1, 2, 3] [(3, _), (2, _), (1, _), (0, _)] rfl ?_
  refine y_mem up57.symm ?_
  exact hl_13 _ 0 rfl (Nat.zero_le _)
abbrev rX5_stitchesWith : Room := { frames := 5, cells := 0, slots := 0, locals := 108 }
set_option maxRecDepth 100000 in
set_option maxHeartbeats 4000000 in
theorem mX5_stitchesWith (l : Launch) (D : va_G) (cy : Nat → ClassId) (adr : Nat → Nat) (M : yM) (R : Rw) (s : Nat) (f : Int32) (hs : s < 5) (B S : Nat) (hok : mOK R B S) : Ct l yX5_stitchesWith wsX5_stitchesWith rX5_stitchesWith D cy adr [.ref (adr 55), .int (nI s), .int f] (va_up M 56 R) (some (.int (stR R B S s f))) (va_up (va_up M 56 R) 57 (stM R B S s f)) 0 0 := by
  refine Ct.mk cX5_stitchesWith 3 (some .int) RX5 (by decide) rfl rfl (Nat.le_of_ble_eq_true rfl) ?_
  intro K C0
  refine y_eq rfl (show ([(0, .ref (adr 55)), (1, .int (nI s)), (2, .int f)] : List (Nat × Value)) = lv_args 0 [.ref (adr 55), .int (nI s), .int f] from rfl) rfl ?_
  have hin5 : ∀ w ∈ u_ws RX5 TX5 3, w ∈ wsX5_stitchesWith := by decide +kernel
  refine y_aload_n C0 0 dX5_stitchesWith_0 rfl rfl ?_
  refine y_callV (As := []) (rest := _) (n := 0) C0 (mX5_lookAhead l D cy adr _ _) 5 rfl (by decide) ykd_55 gX5_stitchesWith_X5_lookAhead rfl rfl rfl (by decide +kernel) ⟨by decide, by decide⟩ rfl rfl (Nat.le_of_ble_eq_true rfl) dX5_stitchesWith_1 ⟨by decide, by decide⟩ ?_
  refine y_aload_n C0 0 dX5_stitchesWith_4 rfl rfl ?_
  refine y_get C0 5 rfl rfl (by decide) hin5 2 ykd_55 (by decide) (by decide +kernel) yv5_ahead dX5_stitchesWith_5 ?_
  refine y_sipush (v := 174) C0 dX5_stitchesWith_8 (by decide) ?_
  refine y_iconst (v := 2) C0 dX5_stitchesWith_11 (by decide) ?_
  refine y_iload_n C0 1 dX5_stitchesWith_12 rfl rfl ?_
  refine y_imulN C0 (a := 2) (b := s) rfl rfl dX5_stitchesWith_13 ?_
  refine y_iaddN C0 (a := 174) (b := (2 * s)) rfl rfl dX5_stitchesWith_14 ?_
  refine y_iconst (v := 1) C0 dX5_stitchesWith_15 (by decide) ?_
  refine y_iaddN C0 (a := (174 + (2 * s))) (b := 1) rfl rfl dX5_stitchesWith_16 ?_
  refine y_iload_n C0 2 dX5_stitchesWith_17 rfl rfl ?_
  refine y_iastU C0 (((174 + (2 * s)) + 1)) ykd_57 rfl (by omega) dX5_stitchesWith_18 ?_
  refine y_aload_n C0 0 dX5_stitchesWith_19 rfl rfl ?_
  refine y_get C0 5 rfl rfl (by decide) hin5 2 ykd_55 (by decide) (by decide +kernel) yv5_ahead dX5_stitchesWith_20 ?_
  refine y_bipush (v := 12) C0 dX5_stitchesWith_23 (by decide) ?_
  refine y_callS (As := [_, _]) (rest := _) (n := 2) C0 (mX5_passAll l D cy adr _ _ ykd_57 _ _ B S (mOK_st hok hs)) gX5_stitchesWith_X5_passAll rfl rfl rfl (by decide +kernel) ⟨by decide, by decide⟩ rfl rfl (Nat.le_of_ble_eq_true rfl) dX5_stitchesWith_25 ⟨by decide, by decide⟩ ?_
  refine y_mem (M' := va_up (va_up M 56 R) 57 (stM R B S s f)) (congrArg (fun z => va_up (va_up M 56 R) 57 (rHours (ru R (174 + 2 * s + 1) f) B S z)) (show (12 : Int32).toNatClampNeg = 12 by decide)) ?_
  refine y_aload_n C0 0 dX5_stitchesWith_28 rfl rfl ?_
  refine y_get C0 5 rfl rfl (by decide) hin5 2 ykd_55 (by decide) (by decide +kernel) yv5_ahead dX5_stitchesWith_29 ?_
  refine y_sipush (v := 191) C0 dX5_stitchesWith_32 (by decide) ?_
  refine y_ialdU C0 (191) ykd_57 rfl (by omega) dX5_stitchesWith_35 ?_
  exact y_iret C0 dX5_stitchesWith_36 rfl rfl
abbrev rX5_advise : Room := { frames := 6, cells := 0, slots := 0, locals := 130 }
set_option maxRecDepth 100000 in
set_option maxHeartbeats 4000000 in
theorem mX5_advise (l : Launch) (D : va_G) (cy : Nat → ClassId) (adr : Nat → Nat) (M : yM) (R : Rw) (x : Int32) (B S : Nat) (hok : mOK R B S) : Ct l yX5_advise wsX5_advise rX5_advise D cy adr [.ref (adr 55), .int x] (va_up M 56 R) (some (.int (mr (advC S x) (maB R B S x 3)))) (mo2 (advC S x) (va_up (va_up (TN M 0) 57 (maP R (M 57) B S x 3)) 56 R) (va_up (TN M (advC S x)) 56 R)) 0 0 := by
  refine Ct.mk cX5_advise 6 (some .int) RX5 (by decide) rfl rfl (Nat.le_of_ble_eq_true rfl) ?_
  intro K C0
  refine y_eq rfl (show ([(0, .ref (adr 55)), (1, .int x)] : List (Nat × Value)) = lv_args 0 [.ref (adr 55), .int x] from rfl) rfl ?_
  have hin5 : ∀ w ∈ u_ws RX5 TX5 3, w ∈ wsX5_advise := by decide +kernel
  have hS := hok.2.2.2.1
  have eS := hok.2.2.1
  refine y_aload_n C0 0 dX5_advise_0 rfl rfl ?_
  refine y_iconst (v := 0) C0 dX5_advise_1 (by decide) ?_
  refine y_thU C0 hin5 (by decide +kernel) (by decide) dX5_advise_2 ?_
  refine y_aload_n C0 0 dX5_advise_5 rfl rfl ?_
  refine y_iload_n C0 1 dX5_advise_6 rfl rfl ?_
  refine y_callV (As := [_]) (rest := _) (n := 1) C0 (mX5_isSewer l D cy adr _ _ _) 5 rfl (by decide) ykd_55 gX5_advise_X5_isSewer rfl rfl rfl (by decide +kernel) ⟨by decide, by decide⟩ rfl rfl (Nat.le_of_ble_eq_true rfl) dX5_advise_7 ⟨by decide, by decide⟩ ?_
  refine y_top (show mI x 0 (R 190 - 1) = mI x 0 (nI S - 1) by rw [eS]) ?_
  refine y_if_ne C0 19 dX5_advise_10 (by decide) (fun c_10 => ?_) (fun c_10 => ?_)
  · obtain ⟨hs, ex⟩ := mI_n (n := S) (by omega) c_10
    refine y_iconst (v := (-1)) C0 dX5_advise_19 (by decide) ?_
    refine y_istore_n C0 [(2, _), (0, _), (1, _)] dX5_advise_20 rfl (by decide) rfl ?_
    refine y_iconst (v := (-1)) C0 dX5_advise_21 (by decide) ?_
    refine y_istore_n C0 [(3, _), (2, _), (0, _), (1, _)] dX5_advise_22 rfl (by decide) rfl ?_
    refine y_iconst (v := 0) C0 dX5_advise_23 (by decide) ?_
    refine y_istore C0 [(4, _), (3, _), (2, _), (0, _), (1, _)] dX5_advise_24 (by decide) rfl ?_
    have hl_26 : ∀ (n : Nat) (i : Nat), 3 - i = n → i ≤ 3 → Y K l rX5_advise D cy adr 6 0 0 (QT K D cy adr (some (.int (mr (advC S x) (maB R B S x 3)))) (mo2 (advC S x) (va_up (va_up (TN M 0) 57 (maP R (M 57) B S x 3)) 56 R) (va_up (TN M (advC S x)) 56 R)) 0 0) (va_up (va_up (TN M 0) 57 (maP R (M 57) B S x i)) 56 R) [] [(4, .int (nI i)), (3, .int (maT R B S x i)), (2, .int (maB R B S x i)), (1, .int x), (0, .ref (adr 55))] 26 [] := by
      intro n
      induction n using Nat.strongRecOn with
      | _ n ih_26 =>
        intro i hn_26 hi
        refine y_iload C0 0 dX5_advise_26 rfl ?_
        refine y_iconst (v := 3) C0 dX5_advise_28 (by decide) ?_
        refine y_icmp_ge C0 77 dX5_advise_29 (by decide) (fun c_29 => ?_) (fun c_29 => ?_)
        · have he := ct_end (N := 3) (by decide) hi c_29
          rw [he]
          refine y_iload_n C0 2 dX5_advise_77 rfl rfl ?_
          have hc9 : advC S x = 0 := by simp [advC, c_10, c_29]
          exact y_iret C0 dX5_advise_78 (mr_0 hc9 rfl) (mo2_0 hc9 rfl)
        · have hlt := ct_lt (N := 3) (by decide) hi c_29
          refine y_aload_n C0 4 dX5_advise_32 rfl rfl ?_
          refine y_iload_n C0 3 dX5_advise_33 rfl rfl ?_
          refine y_iload C0 0 dX5_advise_34 rfl ?_
          refine y_callV (As := [_, _]) (rest := _) (n := 2) C0 (mX5_others l D cy adr _ _ _ _ S hS eS) 5 rfl (by decide) ykd_55 gX5_advise_X5_others rfl rfl rfl (by decide +kernel) ⟨by decide, by decide⟩ rfl rfl (Nat.le_of_ble_eq_true rfl) dX5_advise_36 ⟨by decide, by decide⟩ ?_
          refine y_iconst (v := 1) C0 dX5_advise_39 (by decide) ?_
          refine y_icmp_le C0 47 dX5_advise_40 (by decide) (fun c_40 => ?_) (fun c_40 => ?_)
          · refine y_aload_n C0 4 dX5_advise_47 rfl rfl ?_
            refine y_iload_n C0 3 dX5_advise_48 rfl rfl ?_
            refine y_top ex ?_
            refine y_iload C0 0 dX5_advise_49 rfl ?_
            refine y_callV (As := [_, _]) (rest := _) (n := 2) C0 (mX5_stitchesWith l D cy adr _ _ (cN x) _ (by omega) B S hok) 5 rfl (by decide) ykd_55 gX5_advise_X5_stitchesWith rfl rfl rfl (by decide +kernel) ⟨by decide, by decide⟩ rfl rfl (Nat.le_of_ble_eq_true rfl) dX5_advise_51 ⟨by decide, by decide⟩ ?_
            refine y_mem (M' := va_up (va_up (TN M 0) 57 (stM R B S (cN x) (nI i))) 56 R) up3 ?_
            refine y_istore C0 [(5, _), (4, _), (3, _), (2, _), (1, _), (0, _)] dX5_advise_54 (by decide) rfl ?_
            refine y_iload C0 0 dX5_advise_56 rfl ?_
            refine y_iload_n C0 2 dX5_advise_58 rfl rfl ?_
            refine y_icmp_gt C0 65 dX5_advise_59 (by decide) (fun c_59 => ?_) (fun c_59 => ?_)
            · refine y_iload C0 1 dX5_advise_65 rfl ?_
              refine y_istore_n C0 [(2, _), (5, _), (4, _), (3, _), (1, _), (0, _)] dX5_advise_67 rfl (by decide) rfl ?_
              refine y_iload C0 1 dX5_advise_68 rfl ?_
              refine y_istore_n C0 [(3, _), (2, _), (5, _), (4, _), (1, _), (0, _)] dX5_advise_70 rfl (by decide) rfl ?_
              refine y_iinc (v := nI (i + 1)) C0 3 [(4, _), (3, _), (2, _), (5, _), (1, _), (0, _)] dX5_advise_71 rfl (yinc_ok rfl rfl) (by decide) rfl ?_
              refine y_goto C0 26 dX5_advise_74 (by decide) ?_
              refine y_sub [0, 1, 2, 4, 5] [(4, _), (3, _), (2, _), (1, _), (0, _)] rfl ?_
              exact y_eq (by simp only [maP, c_10, c_29, c_40, c_59, if_true, if_false]) (by simp only [maT, maB, maO, c_10, c_29, c_40, c_59, if_true, if_false]) rfl (ih_26 _ (by omega) (i + 1) rfl hlt)
            · refine y_goto C0 71 dX5_advise_62 (by decide) ?_
              refine y_iinc (v := nI (i + 1)) C0 1 [(4, _), (5, _), (3, _), (2, _), (1, _), (0, _)] dX5_advise_71 rfl (yinc_ok rfl rfl) (by decide) rfl ?_
              refine y_goto C0 26 dX5_advise_74 (by decide) ?_
              refine y_sub [0, 2, 3, 4, 5] [(4, _), (3, _), (2, _), (1, _), (0, _)] rfl ?_
              exact y_eq (by simp only [maP, c_10, c_29, c_40, c_59, if_true, if_false]) (by simp only [maT, maB, maO, c_10, c_29, c_40, c_59, if_true, if_false]) rfl (ih_26 _ (by omega) (i + 1) rfl hlt)
          · refine y_iconst (v := (-1)) C0 dX5_advise_43 (by decide) ?_
            refine y_goto C0 54 dX5_advise_44 (by decide) ?_
            refine y_istore C0 [(5, _), (4, _), (3, _), (2, _), (1, _), (0, _)] dX5_advise_54 (by decide) rfl ?_
            refine y_iload C0 0 dX5_advise_56 rfl ?_
            refine y_iload_n C0 2 dX5_advise_58 rfl rfl ?_
            refine y_icmp_gt C0 65 dX5_advise_59 (by decide) (fun c_59 => ?_) (fun c_59 => ?_)
            · refine y_iload C0 1 dX5_advise_65 rfl ?_
              refine y_istore_n C0 [(2, _), (5, _), (4, _), (3, _), (1, _), (0, _)] dX5_advise_67 rfl (by decide) rfl ?_
              refine y_iload C0 1 dX5_advise_68 rfl ?_
              refine y_istore_n C0 [(3, _), (2, _), (5, _), (4, _), (1, _), (0, _)] dX5_advise_70 rfl (by decide) rfl ?_
              refine y_iinc (v := nI (i + 1)) C0 3 [(4, _), (3, _), (2, _), (5, _), (1, _), (0, _)] dX5_advise_71 rfl (yinc_ok rfl rfl) (by decide) rfl ?_
              refine y_goto C0 26 dX5_advise_74 (by decide) ?_
              refine y_sub [0, 1, 2, 4, 5] [(4, _), (3, _), (2, _), (1, _), (0, _)] rfl ?_
              exact y_eq (by simp only [maP, c_10, c_29, c_40, c_59, if_true, if_false]) (by simp only [maT, maB, maO, c_10, c_29, c_40, c_59, if_true, if_false]) rfl (ih_26 _ (by omega) (i + 1) rfl hlt)
            · refine y_goto C0 71 dX5_advise_62 (by decide) ?_
              refine y_iinc (v := nI (i + 1)) C0 1 [(4, _), (5, _), (3, _), (2, _), (1, _), (0, _)] dX5_advise_71 rfl (yinc_ok rfl rfl) (by decide) rfl ?_
              refine y_goto C0 26 dX5_advise_74 (by decide) ?_
              refine y_sub [0, 2, 3, 4, 5] [(4, _), (3, _), (2, _), (1, _), (0, _)] rfl ?_
              exact y_eq (by simp only [maP, c_10, c_29, c_40, c_59, if_true, if_false]) (by simp only [maT, maB, maO, c_10, c_29, c_40, c_59, if_true, if_false]) rfl (ih_26 _ (by omega) (i + 1) rfl hlt)
    refine y_sub [0, 1, 2, 4, 3] [(4, _), (3, _), (2, _), (1, _), (0, _)] rfl ?_
    refine y_mem up57.symm ?_
    exact hl_26 _ 0 rfl (Nat.zero_le _)
  · refine y_aload_n C0 0 dX5_advise_13 rfl rfl ?_
    refine y_iconst (v := 1) C0 dX5_advise_14 (by decide) ?_
    refine y_callV (As := [_]) (rest := _) (n := 1) C0 (mX5_no l D cy adr _ _ _) 5 rfl (by decide) ykd_55 gX5_advise_X5_no rfl rfl rfl (by decide +kernel) ⟨by decide, by decide⟩ rfl rfl (Nat.le_of_ble_eq_true rfl) dX5_advise_15 ⟨by decide, by decide⟩ ?_
    have hc9 : advC S x = 1 := by simp [advC, c_10]
    exact y_iret C0 dX5_advise_18 (mr_n hc9 (by decide)) (mo2_n hc9 (by decide))
abbrev rX5_worth : Room := { frames := 2, cells := 0, slots := 0, locals := 37 }
set_option maxRecDepth 100000 in
set_option maxHeartbeats 4000000 in
theorem mX5_worth (l : Launch) (D : va_G) (cy : Nat → ClassId) (adr : Nat → Nat) (M : yM) (R : Rw)  (B : Nat) (hB : B ≤ 15) (eB : R 189 = nI B) : Ct l yX5_worth wsX5_worth rX5_worth D cy adr [.ref (adr 55)] (va_up M 56 R) (some (.int (mwT R B))) (va_up (TN M 0) 56 R) 0 0 := by
  refine Ct.mk cX5_worth 3 (some .int) RX5 (by decide) rfl rfl (Nat.le_of_ble_eq_true rfl) ?_
  intro K C0
  refine y_eq rfl (show ([(0, .ref (adr 55))] : List (Nat × Value)) = lv_args 0 [.ref (adr 55)] from rfl) rfl ?_
  have hin5 : ∀ w ∈ u_ws RX5 TX5 3, w ∈ wsX5_worth := by decide +kernel
  refine y_aload_n C0 0 dX5_worth_0 rfl rfl ?_
  refine y_iconst (v := 0) C0 dX5_worth_1 (by decide) ?_
  refine y_thU C0 hin5 (by decide +kernel) (by decide) dX5_worth_2 ?_
  refine y_iconst (v := 0) C0 dX5_worth_5 (by decide) ?_
  refine y_istore_n C0 [(1, _), (0, _)] dX5_worth_6 rfl (by decide) rfl ?_
  refine y_iconst (v := 0) C0 dX5_worth_7 (by decide) ?_
  refine y_istore_n C0 [(2, _), (1, _), (0, _)] dX5_worth_8 rfl (by decide) rfl ?_
  have hl_9 : ∀ (n : Nat) (i : Nat), B - i = n → i ≤ B → Y K l rX5_worth D cy adr 3 0 0 (QT K D cy adr (some (.int (mwT R B))) (va_up (TN M 0) 56 R) 0 0) (va_up (TN M 0) 56 R) [] [(2, .int (nI i)), (1, .int (mwT R i)), (0, .ref (adr 55))] 9 [] := by
    intro n
    induction n using Nat.strongRecOn with
    | _ n ih_9 =>
      intro i hn_9 hi
      refine y_iload_n C0 0 dX5_worth_9 rfl rfl ?_
      refine y_aload_n C0 2 dX5_worth_10 rfl rfl ?_
      refine y_get C0 5 rfl rfl (by decide) hin5 1 ykd_55 (by decide) (by decide +kernel) yv5_now dX5_worth_11 ?_
      refine y_sipush (v := 189) C0 dX5_worth_14 (by decide) ?_
      refine y_ialdU C0 (189) ykd_56 rfl (by omega) dX5_worth_17 ?_
      refine y_icmp_ge C0 60 dX5_worth_18 (by decide) (fun c_18 => ?_) (fun c_18 => ?_)
      · rw [eB] at c_18
        have he := ct_end (N := B) (by omega) hi c_18
        rw [he]
        refine y_iload_n C0 1 dX5_worth_60 rfl rfl ?_
        exact y_iret C0 dX5_worth_61 rfl rfl
      · rw [eB] at c_18
        have hlt := ct_lt (N := B) (by omega) hi c_18
        refine y_iload_n C0 1 dX5_worth_21 rfl rfl ?_
        refine y_aload_n C0 2 dX5_worth_22 rfl rfl ?_
        refine y_get C0 5 rfl rfl (by decide) hin5 1 ykd_55 (by decide) (by decide +kernel) yv5_now dX5_worth_23 ?_
        refine y_bipush (v := 11) C0 dX5_worth_26 (by decide) ?_
        refine y_iload_n C0 0 dX5_worth_28 rfl rfl ?_
        refine y_imulN C0 (a := 11) (b := i) rfl rfl dX5_worth_29 ?_
        refine y_iconst (v := 3) C0 dX5_worth_30 (by decide) ?_
        refine y_iaddN C0 (a := (11 * i)) (b := 3) rfl rfl dX5_worth_31 ?_
        refine y_ialdU C0 (((11 * i) + 3)) ykd_56 rfl (by omega) dX5_worth_32 ?_
        refine y_iconst (v := 5) C0 dX5_worth_33 (by decide) ?_
        refine y_icmp_ne C0 51 dX5_worth_34 (by decide) (fun c_34 => ?_) (fun c_34 => ?_)
        · refine y_iconst (v := 0) C0 dX5_worth_51 (by decide) ?_
          refine y_iadd C0 dX5_worth_52 ?_
          refine y_istore_n C0 [(1, _), (2, _), (0, _)] dX5_worth_53 rfl (by decide) rfl ?_
          refine y_iinc (v := nI (i + 1)) C0 1 [(2, _), (1, _), (0, _)] dX5_worth_54 rfl (yinc_ok rfl rfl) (by decide) rfl ?_
          refine y_goto C0 9 dX5_worth_57 (by decide) ?_
          refine y_sub [0, 1, 2] [(2, _), (1, _), (0, _)] rfl ?_
          exact y_eq rfl (by simp [mwT, c_18, c_34]) rfl (ih_9 _ (by omega) (i + 1) rfl hlt)
        · refine y_aload_n C0 2 dX5_worth_37 rfl rfl ?_
          refine y_get C0 5 rfl rfl (by decide) hin5 1 ykd_55 (by decide) (by decide +kernel) yv5_now dX5_worth_38 ?_
          refine y_bipush (v := 11) C0 dX5_worth_41 (by decide) ?_
          refine y_iload_n C0 0 dX5_worth_43 rfl rfl ?_
          refine y_imulN C0 (a := 11) (b := i) rfl rfl dX5_worth_44 ?_
          refine y_callS (As := [_, _]) (rest := _) (n := 2) C0 (mX5_worthOf l D cy adr _ _ ykd_56 _ ((11 * i)) (by omega)) gX5_worth_X5_worthOf rfl rfl rfl (by decide +kernel) ⟨by decide, by decide⟩ rfl rfl (Nat.le_of_ble_eq_true rfl) dX5_worth_45 ⟨by decide, by decide⟩ ?_
          refine y_goto C0 52 dX5_worth_48 (by decide) ?_
          refine y_iadd C0 dX5_worth_52 ?_
          refine y_istore_n C0 [(1, _), (2, _), (0, _)] dX5_worth_53 rfl (by decide) rfl ?_
          refine y_iinc (v := nI (i + 1)) C0 1 [(2, _), (1, _), (0, _)] dX5_worth_54 rfl (yinc_ok rfl rfl) (by decide) rfl ?_
          refine y_goto C0 9 dX5_worth_57 (by decide) ?_
          refine y_sub [0, 1, 2] [(2, _), (1, _), (0, _)] rfl ?_
          exact y_eq rfl (by simp [mwT, c_18, c_34]) rfl (ih_9 _ (by omega) (i + 1) rfl hlt)
  refine y_sub [0, 1, 2] [(2, _), (1, _), (0, _)] rfl ?_
  exact hl_9 _ 0 rfl (Nat.zero_le _)
abbrev rX5_mean : Room := { frames := 2, cells := 0, slots := 0, locals := 37 }
set_option maxRecDepth 100000 in
set_option maxHeartbeats 4000000 in
theorem mX5_mean (l : Launch) (D : va_G) (cy : Nat → ClassId) (adr : Nat → Nat) (M : yM) (R : Rw)  (B : Nat) (hB : B ≤ 15) (eB : R 189 = nI B) : Ct l yX5_mean wsX5_mean rX5_mean D cy adr [.ref (adr 55)] (va_up M 56 R) (some (.double (meD (mmT R B) (nI (mmN R B))))) (va_up (TN M 0) 56 R) 0 0 := by
  refine Ct.mk cX5_mean 4 (some .double) RX5 (by decide) rfl rfl (Nat.le_of_ble_eq_true rfl) ?_
  intro K C0
  refine y_eq rfl (show ([(0, .ref (adr 55))] : List (Nat × Value)) = lv_args 0 [.ref (adr 55)] from rfl) rfl ?_
  have hin5 : ∀ w ∈ u_ws RX5 TX5 3, w ∈ wsX5_mean := by decide +kernel
  refine y_aload_n C0 0 dX5_mean_0 rfl rfl ?_
  refine y_iconst (v := 0) C0 dX5_mean_1 (by decide) ?_
  refine y_thU C0 hin5 (by decide +kernel) (by decide) dX5_mean_2 ?_
  refine y_iconst (v := 0) C0 dX5_mean_5 (by decide) ?_
  refine y_istore_n C0 [(1, _), (0, _)] dX5_mean_6 rfl (by decide) rfl ?_
  refine y_iconst (v := 0) C0 dX5_mean_7 (by decide) ?_
  refine y_istore_n C0 [(2, _), (1, _), (0, _)] dX5_mean_8 rfl (by decide) rfl ?_
  refine y_iconst (v := 0) C0 dX5_mean_9 (by decide) ?_
  refine y_istore_n C0 [(3, _), (2, _), (1, _), (0, _)] dX5_mean_10 rfl (by decide) rfl ?_
  have hl_11 : ∀ (n : Nat) (i : Nat), B - i = n → i ≤ B → Y K l rX5_mean D cy adr 4 0 0 (QT K D cy adr (some (.double (meD (mmT R B) (nI (mmN R B))))) (va_up (TN M 0) 56 R) 0 0) (va_up (TN M 0) 56 R) [] [(3, .int (nI i)), (2, .int (mmT R i)), (1, .int (nI (mmN R i))), (0, .ref (adr 55))] 11 [] := by
    intro n
    induction n using Nat.strongRecOn with
    | _ n ih_11 =>
      intro i hn_11 hi
      refine y_iload_n C0 0 dX5_mean_11 rfl rfl ?_
      refine y_aload_n C0 3 dX5_mean_12 rfl rfl ?_
      refine y_get C0 5 rfl rfl (by decide) hin5 1 ykd_55 (by decide) (by decide +kernel) yv5_now dX5_mean_13 ?_
      refine y_sipush (v := 189) C0 dX5_mean_16 (by decide) ?_
      refine y_ialdU C0 (189) ykd_56 rfl (by omega) dX5_mean_19 ?_
      refine y_icmp_ge C0 65 dX5_mean_20 (by decide) (fun c_20 => ?_) (fun c_20 => ?_)
      · rw [eB] at c_20
        have he := ct_end (N := B) (by omega) hi c_20
        rw [he]
        refine y_iload_n C0 2 dX5_mean_65 rfl rfl ?_
        refine y_if_ne C0 73 dX5_mean_66 (by decide) (fun c_66 => ?_) (fun c_66 => ?_)
        · refine y_iload_n C0 1 dX5_mean_73 rfl rfl ?_
          refine y_i2d C0 dX5_mean_74 ?_
          refine y_iload_n C0 2 dX5_mean_75 rfl rfl ?_
          refine y_i2d C0 dX5_mean_76 ?_
          refine y_ddiv C0 dX5_mean_77 (meD_ok (Nat.le_trans (mmN_le B) hB) c_66) ?_
          exact y_dret C0 dX5_mean_78 (by simp only [meD, c_20, c_66, if_true, if_false]) rfl
        · refine y_dconst0 C0 dX5_mean_69 ?_
          refine y_goto C0 78 dX5_mean_70 (by decide) ?_
          exact y_dret C0 dX5_mean_78 (by simp only [meD, c_20, c_66, if_true, if_false]) rfl
      · rw [eB] at c_20
        have hlt := ct_lt (N := B) (by omega) hi c_20
        refine y_aload_n C0 3 dX5_mean_23 rfl rfl ?_
        refine y_get C0 5 rfl rfl (by decide) hin5 1 ykd_55 (by decide) (by decide +kernel) yv5_now dX5_mean_24 ?_
        refine y_bipush (v := 11) C0 dX5_mean_27 (by decide) ?_
        refine y_iload_n C0 0 dX5_mean_29 rfl rfl ?_
        refine y_imulN C0 (a := 11) (b := i) rfl rfl dX5_mean_30 ?_
        refine y_iconst (v := 3) C0 dX5_mean_31 (by decide) ?_
        refine y_iaddN C0 (a := (11 * i)) (b := 3) rfl rfl dX5_mean_32 ?_
        refine y_ialdU C0 (((11 * i) + 3)) ykd_56 rfl (by omega) dX5_mean_33 ?_
        refine y_bipush (v := 6) C0 dX5_mean_34 (by decide) ?_
        refine y_icmp_ne C0 42 dX5_mean_36 (by decide) (fun c_36 => ?_) (fun c_36 => ?_)
        · refine y_iinc (v := nI ((mmN R i) + 1)) C0 2 [(1, _), (3, _), (2, _), (0, _)] dX5_mean_42 rfl (yinc_ok rfl rfl) (by decide) rfl ?_
          refine y_iload_n C0 2 dX5_mean_45 rfl rfl ?_
          refine y_aload_n C0 3 dX5_mean_46 rfl rfl ?_
          refine y_get C0 5 rfl rfl (by decide) hin5 1 ykd_55 (by decide) (by decide +kernel) yv5_now dX5_mean_47 ?_
          refine y_bipush (v := 11) C0 dX5_mean_50 (by decide) ?_
          refine y_iload_n C0 1 dX5_mean_52 rfl rfl ?_
          refine y_imulN C0 (a := 11) (b := i) rfl rfl dX5_mean_53 ?_
          refine y_callS (As := [_, _]) (rest := _) (n := 2) C0 (mX5_worthOf l D cy adr _ _ ykd_56 _ ((11 * i)) (by omega)) gX5_mean_X5_worthOf rfl rfl rfl (by decide +kernel) ⟨by decide, by decide⟩ rfl rfl (Nat.le_of_ble_eq_true rfl) dX5_mean_54 ⟨by decide, by decide⟩ ?_
          refine y_iadd C0 dX5_mean_57 ?_
          refine y_istore_n C0 [(2, _), (1, _), (3, _), (0, _)] dX5_mean_58 rfl (by decide) rfl ?_
          refine y_iinc (v := nI (i + 1)) C0 2 [(3, _), (2, _), (1, _), (0, _)] dX5_mean_59 rfl (yinc_ok rfl rfl) (by decide) rfl ?_
          refine y_goto C0 11 dX5_mean_62 (by decide) ?_
          refine y_sub [0, 1, 2, 3] [(3, _), (2, _), (1, _), (0, _)] rfl ?_
          exact y_eq rfl (by simp only [mmT, mmN, c_20, c_36, if_true, if_false]) rfl (ih_11 _ (by omega) (i + 1) rfl hlt)
        · refine y_goto C0 59 dX5_mean_39 (by decide) ?_
          refine y_iinc (v := nI (i + 1)) C0 0 [(3, _), (2, _), (1, _), (0, _)] dX5_mean_59 rfl (yinc_ok rfl rfl) (by decide) rfl ?_
          refine y_goto C0 11 dX5_mean_62 (by decide) ?_
          refine y_sub [0, 1, 2, 3] [(3, _), (2, _), (1, _), (0, _)] rfl ?_
          exact y_eq rfl (by simp only [mmT, mmN, c_20, c_36, if_true, if_false]) rfl (ih_11 _ (by omega) (i + 1) rfl hlt)
  refine y_sub [0, 1, 2, 3] [(3, _), (2, _), (1, _), (0, _)] rfl ?_
  exact hl_11 _ 0 rfl (Nat.zero_le _)
abbrev rX5_digest : Room := { frames := 5, cells := 0, slots := 0, locals := 111 }
set_option maxRecDepth 100000 in
set_option maxHeartbeats 4000000 in
theorem mX5_digest (l : Launch) (D : va_G) (cy : Nat → ClassId) (adr : Nat → Nat) (M : yM) (R : Rw)  (B S : Nat) (hok : mOK R B S) : Ct l yX5_digest wsX5_digest rX5_digest D cy adr [.ref (adr 55)] (va_up M 56 R) (some (.long (mdB R B S (11 * B)))) (va_up (TN M 0) 56 R) 0 0 := by
  refine Ct.mk cX5_digest 4 (some .long) RX5 (by decide) rfl rfl (Nat.le_of_ble_eq_true rfl) ?_
  intro K C0
  refine y_eq rfl (show ([(0, .ref (adr 55))] : List (Nat × Value)) = lv_args 0 [.ref (adr 55)] from rfl) rfl ?_
  have hin5 : ∀ w ∈ u_ws RX5 TX5 3, w ∈ wsX5_digest := by decide +kernel
  have hB := hok.2.1
  have eB := hok.1
  have hS := hok.2.2.2.1
  have eS := hok.2.2.1
  refine y_aload_n C0 0 dX5_digest_0 rfl rfl ?_
  refine y_iconst (v := 0) C0 dX5_digest_1 (by decide) ?_
  refine y_thU C0 hin5 (by decide +kernel) (by decide) dX5_digest_2 ?_
  refine y_ldc2 (v := 1367) C0 (by decide +kernel) dX5_digest_5 ?_
  refine y_lstore_n C0 [(1, _), (0, _)] dX5_digest_8 rfl (by decide) rfl ?_
  refine y_iconst (v := 0) C0 dX5_digest_9 (by decide) ?_
  refine y_istore_n C0 [(3, _), (1, _), (0, _)] dX5_digest_10 rfl (by decide) rfl ?_
  have hl_11 : ∀ (n : Nat) (j : Nat), 15 - j = n → j ≤ 15 → Y K l rX5_digest D cy adr 4 0 0 (QT K D cy adr (some (.long (mdB R B S (11 * B)))) (va_up (TN M 0) 56 R) 0 0) (va_up (TN M 0) 56 R) [] [(3, .int (nI j)), (1, .long (mdA R B j)), (0, .ref (adr 55))] 11 [] := by
    intro n
    induction n using Nat.strongRecOn with
    | _ n ih_11 =>
      intro j hn_11 hj
      refine y_iload_n C0 0 dX5_digest_11 rfl rfl ?_
      refine y_bipush (v := 15) C0 dX5_digest_12 (by decide) ?_
      refine y_icmp_ge C0 39 dX5_digest_14 (by decide) (fun c_14 => ?_) (fun c_14 => ?_)
      · have he := ct_end (N := 15) (by decide) hj c_14
        rw [he]
        refine y_iconst (v := 0) C0 dX5_digest_39 (by decide) ?_
        refine y_istore_n C0 [(3, _), (1, _), (0, _)] dX5_digest_40 rfl (by decide) rfl ?_
        have hl_41 : ∀ (n : Nat) (j : Nat), 18 - j = n → j ≤ 18 → Y K l rX5_digest D cy adr 4 0 0 (QT K D cy adr (some (.long (mdB R B S (11 * B)))) (va_up (TN M 0) 56 R) 0 0) (va_up (TN M 0) 56 R) [] [(3, .int (nI j)), (1, .long (mdF R B S j)), (0, .ref (adr 55))] 41 [] := by
          intro n
          induction n using Nat.strongRecOn with
          | _ n ih_41 =>
            intro j hn_41 hj
            refine y_iload_n C0 0 dX5_digest_41 rfl rfl ?_
            refine y_bipush (v := 18) C0 dX5_digest_42 (by decide) ?_
            refine y_icmp_ge C0 73 dX5_digest_44 (by decide) (fun c_44 => ?_) (fun c_44 => ?_)
            · have he := ct_end (N := 18) (by decide) hj c_44
              rw [he]
              refine y_iconst (v := 0) C0 dX5_digest_73 (by decide) ?_
              refine y_istore_n C0 [(3, _), (1, _), (0, _)] dX5_digest_74 rfl (by decide) rfl ?_
              have hl_75 : ∀ (n : Nat) (j : Nat), (2 * S) - j = n → j ≤ (2 * S) → Y K l rX5_digest D cy adr 4 0 0 (QT K D cy adr (some (.long (mdB R B S (11 * B)))) (va_up (TN M 0) 56 R) 0 0) (va_up (TN M 0) 56 R) [] [(3, .int (nI j)), (1, .long (mdS R B S j)), (0, .ref (adr 55))] 75 [] := by
                intro n
                induction n using Nat.strongRecOn with
                | _ n ih_75 =>
                  intro j hn_75 hj
                  refine y_iload_n C0 0 dX5_digest_75 rfl rfl ?_
                  refine y_iconst (v := 2) C0 dX5_digest_76 (by decide) ?_
                  refine y_aload_n C0 2 dX5_digest_77 rfl rfl ?_
                  refine y_get C0 5 rfl rfl (by decide) hin5 1 ykd_55 (by decide) (by decide +kernel) yv5_now dX5_digest_78 ?_
                  refine y_sipush (v := 190) C0 dX5_digest_81 (by decide) ?_
                  refine y_ialdU C0 (190) ykd_56 rfl (by omega) dX5_digest_84 ?_
                  refine y_top eS ?_
                  refine y_imulN C0 (a := 2) (b := S) rfl rfl dX5_digest_85 ?_
                  refine y_icmp_ge C0 113 dX5_digest_86 (by decide) (fun c_86 => ?_) (fun c_86 => ?_)
                  · have he := ct_end (N := 2 * S) (by omega) hj c_86
                    rw [he]
                    refine y_iconst (v := 0) C0 dX5_digest_113 (by decide) ?_
                    refine y_istore_n C0 [(3, _), (1, _), (0, _)] dX5_digest_114 rfl (by decide) rfl ?_
                    have hl_115 : ∀ (n : Nat) (j : Nat), (11 * B) - j = n → j ≤ (11 * B) → Y K l rX5_digest D cy adr 4 0 0 (QT K D cy adr (some (.long (mdB R B S (11 * B)))) (va_up (TN M 0) 56 R) 0 0) (va_up (TN M 0) 56 R) [] [(3, .int (nI j)), (1, .long (mdB R B S j)), (0, .ref (adr 55))] 115 [] := by
                      intro n
                      induction n using Nat.strongRecOn with
                      | _ n ih_115 =>
                        intro j hn_115 hj
                        refine y_iload_n C0 0 dX5_digest_115 rfl rfl ?_
                        refine y_bipush (v := 11) C0 dX5_digest_116 (by decide) ?_
                        refine y_aload_n C0 2 dX5_digest_118 rfl rfl ?_
                        refine y_get C0 5 rfl rfl (by decide) hin5 1 ykd_55 (by decide) (by decide +kernel) yv5_now dX5_digest_119 ?_
                        refine y_sipush (v := 189) C0 dX5_digest_122 (by decide) ?_
                        refine y_ialdU C0 (189) ykd_56 rfl (by omega) dX5_digest_125 ?_
                        refine y_top eB ?_
                        refine y_imulN C0 (a := 11) (b := B) rfl rfl dX5_digest_126 ?_
                        refine y_icmp_ge C0 156 dX5_digest_127 (by decide) (fun c_127 => ?_) (fun c_127 => ?_)
                        · have he := ct_end (N := 11 * B) (by omega) hj c_127
                          rw [he]
                          refine y_lload_n C0 1 dX5_digest_156 rfl rfl ?_
                          exact y_lret C0 dX5_digest_157 rfl rfl
                        · have hlj := ct_lt (N := 11 * B) (by omega) hj c_127
                          refine y_lload_n C0 1 dX5_digest_130 rfl rfl ?_
                          refine y_ldc2 (v := 31) C0 (by decide +kernel) dX5_digest_131 ?_
                          refine y_lmul C0 dX5_digest_134 ?_
                          refine y_aload_n C0 2 dX5_digest_135 rfl rfl ?_
                          refine y_iload_n C0 0 dX5_digest_136 rfl rfl ?_
                          refine y_bipush (v := 11) C0 dX5_digest_137 (by decide) ?_
                          refine y_idiv C0 dX5_digest_139 (by decide) ?_
                          refine y_top (show nI j / 11 = nI (j / 11) from pk_div (by omega) (by decide) (by decide)) ?_
                          refine y_iload_n C0 0 dX5_digest_140 rfl rfl ?_
                          refine y_bipush (v := 11) C0 dX5_digest_141 (by decide) ?_
                          refine y_irem C0 dX5_digest_143 (by decide) rfl ?_
                          refine y_top (show nI j - nI j / 11 * 11 = nI (j % 11) from pk_rem (by omega) (by decide) (by decide)) ?_
                          refine y_callV (As := [_, _]) (rest := _) (n := 2) C0 (mX5_bookTold l D cy adr _ _ (j / 11) _ (by omega) (cN_c (m := 11) (by omega) (by decide)).1 (cN_c (m := 11) (by omega) (by decide)).2) 5 rfl (by decide) ykd_55 gX5_digest_X5_bookTold rfl rfl rfl (by decide +kernel) ⟨by decide, by decide⟩ rfl rfl (Nat.le_of_ble_eq_true rfl) dX5_digest_144 ⟨by decide, by decide⟩ ?_
                          refine y_i2l C0 dX5_digest_147 ?_
                          refine y_ladd C0 dX5_digest_148 ?_
                          refine y_lstore_n C0 [(1, _), (3, _), (0, _)] dX5_digest_149 rfl (by decide) rfl ?_
                          refine y_iinc (v := nI (j + 1)) C0 1 [(3, _), (1, _), (0, _)] dX5_digest_150 rfl (yinc_ok rfl rfl) (by decide) rfl ?_
                          refine y_goto C0 115 dX5_digest_153 (by decide) ?_
                          refine y_sub [0, 1, 2] [(3, _), (1, _), (0, _)] rfl ?_
                          exact y_eq rfl rfl rfl (ih_115 _ (by omega) (j + 1) rfl hlj)
                    refine y_sub [0, 1, 2] [(3, _), (1, _), (0, _)] rfl ?_
                    exact hl_115 _ 0 rfl (Nat.zero_le _)
                  · have hlj := ct_lt (N := 2 * S) (by omega) hj c_86
                    refine y_lload_n C0 1 dX5_digest_89 rfl rfl ?_
                    refine y_ldc2 (v := 31) C0 (by decide +kernel) dX5_digest_90 ?_
                    refine y_lmul C0 dX5_digest_93 ?_
                    refine y_aload_n C0 2 dX5_digest_94 rfl rfl ?_
                    refine y_get C0 5 rfl rfl (by decide) hin5 1 ykd_55 (by decide) (by decide +kernel) yv5_now dX5_digest_95 ?_
                    refine y_sipush (v := 174) C0 dX5_digest_98 (by decide) ?_
                    refine y_iload_n C0 0 dX5_digest_101 rfl rfl ?_
                    refine y_iaddN C0 (a := 174) (b := j) rfl rfl dX5_digest_102 ?_
                    refine y_ialdU C0 ((174 + j)) ykd_56 rfl (by omega) dX5_digest_103 ?_
                    refine y_i2l C0 dX5_digest_104 ?_
                    refine y_ladd C0 dX5_digest_105 ?_
                    refine y_lstore_n C0 [(1, _), (3, _), (0, _)] dX5_digest_106 rfl (by decide) rfl ?_
                    refine y_iinc (v := nI (j + 1)) C0 1 [(3, _), (1, _), (0, _)] dX5_digest_107 rfl (yinc_ok rfl rfl) (by decide) rfl ?_
                    refine y_goto C0 75 dX5_digest_110 (by decide) ?_
                    refine y_sub [0, 1, 2] [(3, _), (1, _), (0, _)] rfl ?_
                    exact y_eq rfl rfl rfl (ih_75 _ (by omega) (j + 1) rfl hlj)
              refine y_sub [0, 1, 2] [(3, _), (1, _), (0, _)] rfl ?_
              exact hl_75 _ 0 rfl (Nat.zero_le _)
            · have hlj := ct_lt (N := 18) (by decide) hj c_44
              refine y_lload_n C0 1 dX5_digest_47 rfl rfl ?_
              refine y_ldc2 (v := 31) C0 (by decide +kernel) dX5_digest_48 ?_
              refine y_lmul C0 dX5_digest_51 ?_
              refine y_aload_n C0 2 dX5_digest_52 rfl rfl ?_
              refine y_iload_n C0 0 dX5_digest_53 rfl rfl ?_
              refine y_bipush (v := 6) C0 dX5_digest_54 (by decide) ?_
              refine y_idiv C0 dX5_digest_56 (by decide) ?_
              refine y_top (show nI j / 6 = nI (j / 6) from pk_div (by omega) (by decide) (by decide)) ?_
              refine y_iload_n C0 0 dX5_digest_57 rfl rfl ?_
              refine y_bipush (v := 6) C0 dX5_digest_58 (by decide) ?_
              refine y_irem C0 dX5_digest_60 (by decide) rfl ?_
              refine y_top (show nI j - nI j / 6 * 6 = nI (j % 6) from pk_rem (by omega) (by decide) (by decide)) ?_
              refine y_callV (As := [_, _]) (rest := _) (n := 2) C0 (mX5_frameTold l D cy adr _ _ (j / 6) _ (by omega) (cN_c (m := 6) (by omega) (by decide)).1 (cN_c (m := 6) (by omega) (by decide)).2 (mOK_le hok (by omega)) S hS eS) 5 rfl (by decide) ykd_55 gX5_digest_X5_frameTold rfl rfl rfl (by decide +kernel) ⟨by decide, by decide⟩ rfl rfl (Nat.le_of_ble_eq_true rfl) dX5_digest_61 ⟨by decide, by decide⟩ ?_
              refine y_i2l C0 dX5_digest_64 ?_
              refine y_ladd C0 dX5_digest_65 ?_
              refine y_lstore_n C0 [(1, _), (3, _), (0, _)] dX5_digest_66 rfl (by decide) rfl ?_
              refine y_iinc (v := nI (j + 1)) C0 1 [(3, _), (1, _), (0, _)] dX5_digest_67 rfl (yinc_ok rfl rfl) (by decide) rfl ?_
              refine y_goto C0 41 dX5_digest_70 (by decide) ?_
              refine y_sub [0, 1, 2] [(3, _), (1, _), (0, _)] rfl ?_
              exact y_eq rfl rfl rfl (ih_41 _ (by omega) (j + 1) rfl hlj)
        refine y_sub [0, 1, 2] [(3, _), (1, _), (0, _)] rfl ?_
        exact hl_41 _ 0 rfl (Nat.zero_le _)
      · have hlj := ct_lt (N := 15) (by decide) hj c_14
        refine y_lload_n C0 1 dX5_digest_17 rfl rfl ?_
        refine y_ldc2 (v := 31) C0 (by decide +kernel) dX5_digest_18 ?_
        refine y_lmul C0 dX5_digest_21 ?_
        refine y_aload_n C0 2 dX5_digest_22 rfl rfl ?_
        refine y_get C0 5 rfl rfl (by decide) hin5 1 ykd_55 (by decide) (by decide +kernel) yv5_now dX5_digest_23 ?_
        refine y_iload_n C0 0 dX5_digest_26 rfl rfl ?_
        refine y_callS (As := [_, _]) (rest := _) (n := 2) C0 (mX5_counted l D cy adr _ _ ykd_56 _ _ B hB eB) gX5_digest_X5_counted rfl rfl rfl (by decide +kernel) ⟨by decide, by decide⟩ rfl rfl (Nat.le_of_ble_eq_true rfl) dX5_digest_27 ⟨by decide, by decide⟩ ?_
        refine y_i2l C0 dX5_digest_30 ?_
        refine y_ladd C0 dX5_digest_31 ?_
        refine y_lstore_n C0 [(1, _), (3, _), (0, _)] dX5_digest_32 rfl (by decide) rfl ?_
        refine y_iinc (v := nI (j + 1)) C0 1 [(3, _), (1, _), (0, _)] dX5_digest_33 rfl (yinc_ok rfl rfl) (by decide) rfl ?_
        refine y_goto C0 11 dX5_digest_36 (by decide) ?_
        refine y_sub [0, 1, 2] [(3, _), (1, _), (0, _)] rfl ?_
        exact y_eq rfl rfl rfl (ih_11 _ (by omega) (j + 1) rfl hlj)
  refine y_sub [0, 1, 2] [(3, _), (1, _), (0, _)] rfl ?_
  exact hl_11 _ 0 rfl (Nat.zero_le _)
end YMG
