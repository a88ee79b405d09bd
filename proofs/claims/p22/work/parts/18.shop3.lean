section YZ
theorem wClr_bk {M : yM} {o b : Nat} {x : Int32} (hb : b < 15) : ∀ i, i ≤ 3 → wClr M o x i (o + 4 + b) = M (o + 4 + b) := by
  intro i
  induction i with
  | zero => intro _; rfl
  | succ i ih =>
    intro hi
    rw [wClr]
    split
    · rw [yst_row (by omega)]; exact ih (by omega)
    · exact ih (by omega)
theorem wTellF_4n {M : yM} {o f : Nat} {x : Int32} (h : wNo M o (M (o + 24 + f) 2)) (e : x = 4) : wTellF M o f x = 0 := by
  subst e
  unfold wTellF
  rw [if_neg (by decide), if_neg (by decide), if_neg (by decide), if_neg (by decide), if_pos rfl, if_pos h]
theorem wTellF_4b {M : yM} {o f b : Nat} {x : Int32} (h : ¬ wNo M o (M (o + 24 + f) 2)) (hb : b < 15) (eb : M (o + 24 + f) 2 = nI b) (e : x = 4) : wTellF M o f x = bToSew (M (o + 4 + b)) := by
  subst e
  unfold wTellF
  rw [if_neg (by decide), if_neg (by decide), if_neg (by decide), if_neg (by decide), if_pos rfl, if_neg h, eb, nI_clamp (by omega)]
abbrev rX3_tellOfFrame : Room := { frames := 3, cells := 0, slots := 0, locals := 75 }
set_option maxRecDepth 100000 in
set_option maxHeartbeats 4000000 in
theorem mX3_tellOfFrame (l : Launch) (D : va_G) (cy : Nat → ClassId) (adr : Nat → Nat) (M : yM) (o : Nat) (ho : o = 0 ∨ o = 27) (f : Nat) (hf : f < 3) (x : Int32)  : Ct l yX3_tellOfFrame wsX3_tellOfFrame rX3_tellOfFrame D cy adr [.ref (adr o), .ref (adr (o + 24 + f)), .int x] M (some (.int (wTellF M o f x))) (M) 0 0 := by
  refine Ct.mk cX3_tellOfFrame 4 (some .int) RX3 (by decide) rfl rfl (Nat.le_of_ble_eq_true rfl) ?_
  intro K C0
  refine y_eq rfl (show ([(0, .ref (adr o)), (1, .ref (adr (o + 24 + f))), (2, .int x)] : List (Nat × Value)) = lv_args 0 [.ref (adr o), .ref (adr (o + 24 + f)), .int x] from rfl) rfl ?_
  have hin1 : ∀ w ∈ u_ws RX1 TX1 4, w ∈ wsX3_tellOfFrame := by decide +kernel
  refine y_aload_n C0 0 dX3_tellOfFrame_0 rfl rfl ?_
  refine y_aload_n C0 1 dX3_tellOfFrame_1 rfl rfl ?_
  refine y_get C0 1 rfl rfl (by decide) hin1 2 (ykd_fr ho hf) (by decide) (by decide +kernel) (yvi1 (ykd_fr ho hf)) dX3_tellOfFrame_2 ?_
  by_cases hn : wNo M o (M (o + 24 + f) 2)
  · refine y_callV (As := [_]) (rest := _) (n := 1) C0 (mX3_bookNumbered_n l D cy adr _ _ ho _ hn) 3 rfl (by decide) (ykd_w ho) gX3_tellOfFrame_X3_bookNumbered rfl rfl rfl (by decide +kernel) ⟨by decide, by decide⟩ rfl rfl (Nat.le_of_ble_eq_true rfl) dX3_tellOfFrame_5 ⟨by decide, by decide⟩ ?_
    refine y_astore_nN C0 [(3, _), (0, _), (1, _), (2, _)] dX3_tellOfFrame_8 rfl (by decide) rfl ?_
    refine y_iload_n C0 3 dX3_tellOfFrame_9 rfl rfl ?_
    by_cases s_10_0 : x = 0
    · refine y_tswI (v := 0) C0 dX3_tellOfFrame_10 (by rw [s_10_0]; rfl) (by decide) (by decide) rfl (tgt := 44) (by decide) ?_
      refine y_aload_n C0 2 dX3_tellOfFrame_44 rfl rfl ?_
      refine y_get C0 1 rfl rfl (by decide) hin1 1 (ykd_fr ho hf) (by decide) (by decide +kernel) (yvi1 (ykd_fr ho hf)) dX3_tellOfFrame_45 ?_
      exact y_iret C0 dX3_tellOfFrame_48 (by simp [wTellF, s_10_0]) rfl
    by_cases s_10_1 : x = 1
    · refine y_tswI (v := 1) C0 dX3_tellOfFrame_10 (by rw [s_10_1]; rfl) (by decide) (by decide) rfl (tgt := 49) (by decide) ?_
      refine y_aload_n C0 2 dX3_tellOfFrame_49 rfl rfl ?_
      refine y_get C0 1 rfl rfl (by decide) hin1 2 (ykd_fr ho hf) (by decide) (by decide +kernel) (yvi1 (ykd_fr ho hf)) dX3_tellOfFrame_50 ?_
      exact y_iret C0 dX3_tellOfFrame_53 (by simp [wTellF, s_10_1]) rfl
    by_cases s_10_2 : x = 2
    · refine y_tswI (v := 2) C0 dX3_tellOfFrame_10 (by rw [s_10_2]; rfl) (by decide) (by decide) rfl (tgt := 54) (by decide) ?_
      refine y_aload_n C0 1 dX3_tellOfFrame_54 rfl rfl ?_
      refine y_aload_n C0 2 dX3_tellOfFrame_55 rfl rfl ?_
      refine y_get C0 1 rfl rfl (by decide) hin1 0 (ykd_fr ho hf) (by decide) (by decide +kernel) (yvi1 (ykd_fr ho hf)) dX3_tellOfFrame_56 ?_
      refine y_callV (As := [_]) (rest := _) (n := 1) C0 (mX3_sittersAt l D cy adr _ _ ho _) 3 rfl (by decide) (ykd_w ho) gX3_tellOfFrame_X3_sittersAt rfl rfl rfl (by decide +kernel) ⟨by decide, by decide⟩ rfl rfl (Nat.le_of_ble_eq_true rfl) dX3_tellOfFrame_59 ⟨by decide, by decide⟩ ?_
      exact y_iret C0 dX3_tellOfFrame_62 (by simp [wTellF, s_10_2]) rfl
    by_cases s_10_3 : x = 3
    · refine y_tswI (v := 3) C0 dX3_tellOfFrame_10 (by rw [s_10_3]; rfl) (by decide) (by decide) rfl (tgt := 63) (by decide) ?_
      refine y_aload_n C0 1 dX3_tellOfFrame_63 rfl rfl ?_
      refine y_aload_n C0 2 dX3_tellOfFrame_64 rfl rfl ?_
      refine y_get C0 1 rfl rfl (by decide) hin1 0 (ykd_fr ho hf) (by decide) (by decide +kernel) (yvi1 (ykd_fr ho hf)) dX3_tellOfFrame_65 ?_
      refine y_callV (As := [_]) (rest := _) (n := 1) C0 (mX3_stitchesAnHour l D cy adr _ _ ho _) 3 rfl (by decide) (ykd_w ho) gX3_tellOfFrame_X3_stitchesAnHour rfl rfl rfl (by decide +kernel) ⟨by decide, by decide⟩ rfl rfl (Nat.le_of_ble_eq_true rfl) dX3_tellOfFrame_68 ⟨by decide, by decide⟩ ?_
      exact y_iret C0 dX3_tellOfFrame_71 (by simp [wTellF, s_10_3]) rfl
    by_cases s_10_4 : x = 4
    · refine y_tswI (v := 4) C0 dX3_tellOfFrame_10 (by rw [s_10_4]; rfl) (by decide) (by decide) rfl (tgt := 72) (by decide) ?_
      refine y_aload_nN C0 0 dX3_tellOfFrame_72 rfl rfl ?_
      refine y_ifnonnullN C0 dX3_tellOfFrame_73 ?_
      refine y_iconst (v := 0) C0 dX3_tellOfFrame_76 (by decide) ?_
      refine y_goto C0 84 dX3_tellOfFrame_77 (by decide) ?_
      exact y_iret C0 dX3_tellOfFrame_84 (by rw [wTellF_4n hn s_10_4]) rfl
    refine y_tswO C0 dX3_tellOfFrame_10 (by have z0 := lv_neT s_10_0 (a := 0) rfl; have z1 := lv_neT s_10_1 (a := 1) rfl; have z2 := lv_neT s_10_2 (a := 2) rfl; have z3 := lv_neT s_10_3 (a := 3) rfl; have z4 := lv_neT s_10_4 (a := 4) rfl; omega) (tgt := 85) (by decide) ?_
    refine y_aload_n C0 2 dX3_tellOfFrame_85 rfl rfl ?_
    refine y_get C0 1 rfl rfl (by decide) hin1 3 (ykd_fr ho hf) (by decide) (by decide +kernel) (yvi1 (ykd_fr ho hf)) dX3_tellOfFrame_86 ?_
    exact y_iret C0 dX3_tellOfFrame_89 (by simp [wTellF, s_10_0, s_10_1, s_10_2, s_10_3, s_10_4]) rfl
  obtain ⟨b, hb, eb, hcb⟩ := wNo_not hn
  refine y_top eb ?_
  refine y_callV (As := [_]) (rest := _) (n := 1) C0 (mX3_bookNumbered l D cy adr _ _ ho b hb hcb) 3 rfl (by decide) (ykd_w ho) gX3_tellOfFrame_X3_bookNumbered rfl rfl rfl (by decide +kernel) ⟨by decide, by decide⟩ rfl rfl (Nat.le_of_ble_eq_true rfl) dX3_tellOfFrame_5 ⟨by decide, by decide⟩ ?_
  refine y_astore_n C0 [(3, _), (0, _), (1, _), (2, _)] dX3_tellOfFrame_8 rfl (by decide) rfl ?_
  refine y_iload_n C0 3 dX3_tellOfFrame_9 rfl rfl ?_
  by_cases s_10_0 : x = 0
  · refine y_tswI (v := 0) C0 dX3_tellOfFrame_10 (by rw [s_10_0]; rfl) (by decide) (by decide) rfl (tgt := 44) (by decide) ?_
    refine y_aload_n C0 2 dX3_tellOfFrame_44 rfl rfl ?_
    refine y_get C0 1 rfl rfl (by decide) hin1 1 (ykd_fr ho hf) (by decide) (by decide +kernel) (yvi1 (ykd_fr ho hf)) dX3_tellOfFrame_45 ?_
    exact y_iret C0 dX3_tellOfFrame_48 (by simp [wTellF, s_10_0]) rfl
  by_cases s_10_1 : x = 1
  · refine y_tswI (v := 1) C0 dX3_tellOfFrame_10 (by rw [s_10_1]; rfl) (by decide) (by decide) rfl (tgt := 49) (by decide) ?_
    refine y_aload_n C0 2 dX3_tellOfFrame_49 rfl rfl ?_
    refine y_get C0 1 rfl rfl (by decide) hin1 2 (ykd_fr ho hf) (by decide) (by decide +kernel) (yvi1 (ykd_fr ho hf)) dX3_tellOfFrame_50 ?_
    exact y_iret C0 dX3_tellOfFrame_53 (by simp [wTellF, s_10_1]) rfl
  by_cases s_10_2 : x = 2
  · refine y_tswI (v := 2) C0 dX3_tellOfFrame_10 (by rw [s_10_2]; rfl) (by decide) (by decide) rfl (tgt := 54) (by decide) ?_
    refine y_aload_n C0 1 dX3_tellOfFrame_54 rfl rfl ?_
    refine y_aload_n C0 2 dX3_tellOfFrame_55 rfl rfl ?_
    refine y_get C0 1 rfl rfl (by decide) hin1 0 (ykd_fr ho hf) (by decide) (by decide +kernel) (yvi1 (ykd_fr ho hf)) dX3_tellOfFrame_56 ?_
    refine y_callV (As := [_]) (rest := _) (n := 1) C0 (mX3_sittersAt l D cy adr _ _ ho _) 3 rfl (by decide) (ykd_w ho) gX3_tellOfFrame_X3_sittersAt rfl rfl rfl (by decide +kernel) ⟨by decide, by decide⟩ rfl rfl (Nat.le_of_ble_eq_true rfl) dX3_tellOfFrame_59 ⟨by decide, by decide⟩ ?_
    exact y_iret C0 dX3_tellOfFrame_62 (by simp [wTellF, s_10_2]) rfl
  by_cases s_10_3 : x = 3
  · refine y_tswI (v := 3) C0 dX3_tellOfFrame_10 (by rw [s_10_3]; rfl) (by decide) (by decide) rfl (tgt := 63) (by decide) ?_
    refine y_aload_n C0 1 dX3_tellOfFrame_63 rfl rfl ?_
    refine y_aload_n C0 2 dX3_tellOfFrame_64 rfl rfl ?_
    refine y_get C0 1 rfl rfl (by decide) hin1 0 (ykd_fr ho hf) (by decide) (by decide +kernel) (yvi1 (ykd_fr ho hf)) dX3_tellOfFrame_65 ?_
    refine y_callV (As := [_]) (rest := _) (n := 1) C0 (mX3_stitchesAnHour l D cy adr _ _ ho _) 3 rfl (by decide) (ykd_w ho) gX3_tellOfFrame_X3_stitchesAnHour rfl rfl rfl (by decide +kernel) ⟨by decide, by decide⟩ rfl rfl (Nat.le_of_ble_eq_true rfl) dX3_tellOfFrame_68 ⟨by decide, by decide⟩ ?_
    exact y_iret C0 dX3_tellOfFrame_71 (by simp [wTellF, s_10_3]) rfl
  by_cases s_10_4 : x = 4
  · refine y_tswI (v := 4) C0 dX3_tellOfFrame_10 (by rw [s_10_4]; rfl) (by decide) (by decide) rfl (tgt := 72) (by decide) ?_
    refine y_aload_n C0 0 dX3_tellOfFrame_72 rfl rfl ?_
    refine y_ifnonnull C0 80 dX3_tellOfFrame_73 (by decide) ?_
    refine y_aload_n C0 0 dX3_tellOfFrame_80 rfl rfl ?_
    refine y_callV (As := []) (rest := _) (n := 0) C0 (mX0_stitchesToSew l D cy adr _ _ (ykd_bk ho hb)) 0 rfl (by decide) (ykd_bk ho hb) gX3_tellOfFrame_X0_stitchesToSew rfl rfl rfl (by decide +kernel) ⟨by decide, by decide⟩ rfl rfl (Nat.le_of_ble_eq_true rfl) dX3_tellOfFrame_81 ⟨by decide, by decide⟩ ?_
    exact y_iret C0 dX3_tellOfFrame_84 (by rw [wTellF_4b hn hb eb s_10_4]) rfl
  refine y_tswO C0 dX3_tellOfFrame_10 (by have z0 := lv_neT s_10_0 (a := 0) rfl; have z1 := lv_neT s_10_1 (a := 1) rfl; have z2 := lv_neT s_10_2 (a := 2) rfl; have z3 := lv_neT s_10_3 (a := 3) rfl; have z4 := lv_neT s_10_4 (a := 4) rfl; omega) (tgt := 85) (by decide) ?_
  refine y_aload_n C0 2 dX3_tellOfFrame_85 rfl rfl ?_
  refine y_get C0 1 rfl rfl (by decide) hin1 3 (ykd_fr ho hf) (by decide) (by decide +kernel) (yvi1 (ykd_fr ho hf)) dX3_tellOfFrame_86 ?_
  exact y_iret C0 dX3_tellOfFrame_89 (by simp [wTellF, s_10_0, s_10_1, s_10_2, s_10_3, s_10_4]) rfl
abbrev rX3_letAnHourGo : Room := { frames := 4, cells := 0, slots := 0, locals := 100 }
set_option maxRecDepth 100000 in
set_option maxHeartbeats 4000000 in
theorem mX3_letAnHourGo (l : Launch) (D : va_G) (cy : Nat → ClassId) (adr : Nat → Nat) (M : yM) (o : Nat) (ho : o = 0 ∨ o = 27)  (hsp : wSpOK M o) : Ct l yX3_letAnHourGo wsX3_letAnHourGo rX3_letAnHourGo D cy adr [.ref (adr o)] M (some (.int (wHourR M o))) (wHour M o) 0 0 := by
  refine Ct.mk cX3_letAnHourGo 6 (some .int) RX3 (by decide) rfl rfl (Nat.le_of_ble_eq_true rfl) ?_
  intro K C0
  refine y_eq rfl (show ([(0, .ref (adr o))] : List (Nat × Value)) = lv_args 0 [.ref (adr o)] from rfl) rfl ?_
  have hin1 : ∀ w ∈ u_ws RX1 TX1 4, w ∈ wsX3_letAnHourGo := by decide +kernel
  have hin3 : ∀ w ∈ u_ws RX3 TX3 12, w ∈ wsX3_letAnHourGo := by decide +kernel
  refine y_aload_n C0 0 dX3_letAnHourGo_0 rfl rfl ?_
  refine y_iconst (v := 5) C0 dX3_letAnHourGo_1 (by decide) ?_
  refine y_callV (As := [_]) (rest := _) (n := 1) C0 (mX3_booksAt l D cy adr _ _ ho _) 3 rfl (by decide) (ykd_w ho) gX3_letAnHourGo_X3_booksAt rfl rfl rfl (by decide +kernel) ⟨by decide, by decide⟩ rfl rfl (Nat.le_of_ble_eq_true rfl) dX3_letAnHourGo_2 ⟨by decide, by decide⟩ ?_
  refine y_istore_n C0 [(1, _), (0, _)] dX3_letAnHourGo_5 rfl (by decide) rfl ?_
  refine y_aload_n C0 1 dX3_letAnHourGo_6 rfl rfl ?_
  refine y_callV (As := []) (rest := _) (n := 0) C0 (mX3_gild l D cy adr _ _ ho) 3 rfl (by decide) (ykd_w ho) gX3_letAnHourGo_X3_gild rfl rfl rfl (by decide +kernel) ⟨by decide, by decide⟩ rfl rfl (Nat.le_of_ble_eq_true rfl) dX3_letAnHourGo_7 ⟨by decide, by decide⟩ ?_
  refine y_aload_n C0 1 dX3_letAnHourGo_10 rfl rfl ?_
  refine y_callV (As := []) (rest := _) (n := 0) C0 (mX3_giveBoards l D cy adr _ _ ho) 3 rfl (by decide) (ykd_w ho) gX3_letAnHourGo_X3_giveBoards rfl rfl rfl (by decide +kernel) ⟨by decide, by decide⟩ rfl rfl (Nat.le_of_ble_eq_true rfl) dX3_letAnHourGo_11 ⟨by decide, by decide⟩ ?_
  refine y_aload_n C0 1 dX3_letAnHourGo_14 rfl rfl ?_
  refine y_callV (As := []) (rest := _) (n := 0) C0 (mX3_dry l D cy adr _ _ ho) 3 rfl (by decide) (ykd_w ho) gX3_letAnHourGo_X3_dry rfl rfl rfl (by decide +kernel) ⟨by decide, by decide⟩ rfl rfl (Nat.le_of_ble_eq_true rfl) dX3_letAnHourGo_15 ⟨by decide, by decide⟩ ?_
  refine y_aload_n C0 1 dX3_letAnHourGo_18 rfl rfl ?_
  refine y_get C0 3 rfl rfl (by decide) hin3 2 (ykd_w ho) (by decide) (by decide +kernel) (yv3_frames (ykd_w ho)) dX3_letAnHourGo_19 ?_
  refine y_astore_n C0 [(2, _), (1, _), (0, _)] dX3_letAnHourGo_22 rfl (by decide) rfl ?_
  refine y_aload_n C0 0 dX3_letAnHourGo_23 rfl rfl ?_
  refine y_alen C0 9 (ykd_w3 ho) (by decide) (by decide) dX3_letAnHourGo_24 ?_
  refine y_istore_n C0 [(3, _), (2, _), (1, _), (0, _)] dX3_letAnHourGo_25 rfl (by decide) rfl ?_
  refine y_iconst (v := 0) C0 dX3_letAnHourGo_26 (by decide) ?_
  refine y_istore C0 [(4, _), (3, _), (2, _), (1, _), (0, _)] dX3_letAnHourGo_27 (by decide) rfl ?_
  have hl_29 : ∀ (n : Nat) (i : Nat), 3 - i = n → i ≤ 3 → Y K l rX3_letAnHourGo D cy adr 6 0 0 (QT K D cy adr (some (.int (wHourR M o))) (wHour M o) 0 0) (wSews (wDry (wBoard (wGild M o) o 15) o 15) o i) [] [(4, .int (nI i)), (3, .int (nI 3)), (2, .ref (adr (o + 3))), (1, .int (wCnt M o 5 15)), (0, .ref (adr o))] 29 [] := by
    intro n
    induction n using Nat.strongRecOn with
    | _ n ih_29 =>
      intro i hn_29 hi
      refine y_iload C0 0 dX3_letAnHourGo_29 rfl ?_
      refine y_iload_n C0 1 dX3_letAnHourGo_31 rfl rfl ?_
      refine y_icmp_ge C0 53 dX3_letAnHourGo_32 (by decide) (fun c_32 => ?_) (fun c_32 => ?_)
      · have he := ct_end (N := 3) (by decide) hi c_32
        subst he
        refine y_aload_n C0 4 dX3_letAnHourGo_53 rfl rfl ?_
        refine y_get C0 3 rfl rfl (by decide) hin3 2 (ykd_w ho) (by decide) (by decide +kernel) (yv3_frames (ykd_w ho)) dX3_letAnHourGo_54 ?_
        refine y_astore_n C0 [(2, _), (4, _), (3, _), (1, _), (0, _)] dX3_letAnHourGo_57 rfl (by decide) rfl ?_
        refine y_aload_n C0 0 dX3_letAnHourGo_58 rfl rfl ?_
        refine y_alen C0 9 (ykd_w3 ho) (by decide) (by decide) dX3_letAnHourGo_59 ?_
        refine y_istore_n C0 [(3, _), (2, _), (4, _), (1, _), (0, _)] dX3_letAnHourGo_60 rfl (by decide) rfl ?_
        refine y_iconst (v := 0) C0 dX3_letAnHourGo_61 (by decide) ?_
        refine y_istore C0 [(4, _), (3, _), (2, _), (1, _), (0, _)] dX3_letAnHourGo_62 (by decide) rfl ?_
        have hl_64 : ∀ (n : Nat) (i : Nat), 3 - i = n → i ≤ 3 → Y K l rX3_letAnHourGo D cy adr 6 0 0 (QT K D cy adr (some (.int (wHourR M o))) (wHour M o) 0 0) (wMounts (wSews (wDry (wBoard (wGild M o) o 15) o 15) o 3) o i) [] [(4, .int (nI i)), (3, .int (nI 3)), (2, .ref (adr (o + 3))), (1, .int (wCnt M o 5 15)), (0, .ref (adr o))] 64 [] := by
          intro n
          induction n using Nat.strongRecOn with
          | _ n ih_64 =>
            intro i hn_64 hi
            refine y_iload C0 0 dX3_letAnHourGo_64 rfl ?_
            refine y_iload_n C0 1 dX3_letAnHourGo_66 rfl rfl ?_
            refine y_icmp_ge C0 97 dX3_letAnHourGo_67 (by decide) (fun c_67 => ?_) (fun c_67 => ?_)
            · have he := ct_end (N := 3) (by decide) hi c_67
              subst he
              refine y_aload_n C0 4 dX3_letAnHourGo_97 rfl rfl ?_
              refine y_dup C0 dX3_letAnHourGo_98 rfl ?_
              refine y_get C0 3 rfl rfl (by decide) hin3 5 (ykd_w ho) (by decide) (by decide +kernel) (yvi3 (ykd_w ho) (by decide)) dX3_letAnHourGo_99 ?_
              refine y_iconst (v := 1) C0 dX3_letAnHourGo_102 (by decide) ?_
              refine y_iadd C0 dX3_letAnHourGo_103 ?_
              refine y_put C0 3 rfl rfl (by decide) hin3 tyX3 tyX3_ok nmX3 5 (ykd_w ho) (by decide) (by decide +kernel) (yrn3 (ykd_w ho) (by decide)) rfl (by decide +kernel) dX3_letAnHourGo_104 ?_
              refine y_aload_n C0 4 dX3_letAnHourGo_107 rfl rfl ?_
              refine y_iconst (v := 5) C0 dX3_letAnHourGo_108 (by decide) ?_
              refine y_callV (As := [_]) (rest := _) (n := 1) C0 (mX3_booksAt l D cy adr _ _ ho _) 3 rfl (by decide) (ykd_w ho) gX3_letAnHourGo_X3_booksAt rfl rfl rfl (by decide +kernel) ⟨by decide, by decide⟩ rfl rfl (Nat.le_of_ble_eq_true rfl) dX3_letAnHourGo_109 ⟨by decide, by decide⟩ ?_
              refine y_iload_n C0 3 dX3_letAnHourGo_112 rfl rfl ?_
              refine y_isub C0 dX3_letAnHourGo_113 ?_
              exact y_iret C0 dX3_letAnHourGo_114 rfl rfl
            · have hlt := ct_lt (N := 3) (by decide) hi c_67
              refine y_aload_n C0 2 dX3_letAnHourGo_70 rfl rfl ?_
              refine y_iload C0 0 dX3_letAnHourGo_71 rfl ?_
              refine y_aald C0 (i) 9 (ykd_w3 ho) (by decide) (by decide) rfl (by omega : i < 3) (yel_fr ho) dX3_letAnHourGo_73 ?_
              refine y_astore C0 [(5, _), (4, _), (3, _), (2, _), (1, _), (0, _)] dX3_letAnHourGo_74 (by decide) rfl ?_
              refine y_aload C0 0 dX3_letAnHourGo_76 rfl ?_
              refine y_get C0 1 rfl rfl (by decide) hin1 2 (ykd_fr ho (by omega : i < 3)) (by decide) (by decide +kernel) (yvi1 (ykd_fr ho (by omega : i < 3))) dX3_letAnHourGo_78 ?_
              refine y_iconst (v := (-1)) C0 dX3_letAnHourGo_81 (by decide) ?_
              refine y_icmp_ne C0 91 dX3_letAnHourGo_82 (by decide) (fun c_82 => ?_) (fun c_82 => ?_)
              · refine y_iinc (v := nI (i + 1)) C0 1 [(4, _), (5, _), (3, _), (2, _), (1, _), (0, _)] dX3_letAnHourGo_91 rfl (yinc_ok rfl rfl) (by decide) rfl ?_
                refine y_goto C0 64 dX3_letAnHourGo_94 (by decide) ?_
                refine y_sub [0, 2, 3, 4, 5] [(4, _), (3, _), (2, _), (1, _), (0, _)] rfl ?_
                exact y_eq (by simp only [wMounts, c_32, c_67, c_82, if_true, if_false]; try rfl) (by first | rfl | simp [c_32, c_67, c_82]) rfl (ih_64 _ (by omega) (i + 1) rfl hlt)
              · refine y_aload_n C0 5 dX3_letAnHourGo_85 rfl rfl ?_
                refine y_aload C0 0 dX3_letAnHourGo_86 rfl ?_
                refine y_callV (As := [_]) (rest := _) (n := 1) C0 (mX3_mountOn l D cy adr _ _ ho _ (by omega)) 3 rfl (by decide) (ykd_w ho) gX3_letAnHourGo_X3_mountOn rfl rfl rfl (by decide +kernel) ⟨by decide, by decide⟩ rfl rfl (Nat.le_of_ble_eq_true rfl) dX3_letAnHourGo_88 ⟨by decide, by decide⟩ ?_
                refine y_iinc (v := nI (i + 1)) C0 1 [(4, _), (5, _), (3, _), (2, _), (1, _), (0, _)] dX3_letAnHourGo_91 rfl (yinc_ok rfl rfl) (by decide) rfl ?_
                refine y_goto C0 64 dX3_letAnHourGo_94 (by decide) ?_
                refine y_sub [0, 2, 3, 4, 5] [(4, _), (3, _), (2, _), (1, _), (0, _)] rfl ?_
                exact y_eq (by simp only [wMounts, c_32, c_67, c_82, if_true, if_false]; try rfl) (by first | rfl | simp [c_32, c_67, c_82]) rfl (ih_64 _ (by omega) (i + 1) rfl hlt)
        refine y_sub [0, 1, 2, 3, 4] [(4, _), (3, _), (2, _), (1, _), (0, _)] rfl ?_
        exact hl_64 _ 0 rfl (Nat.zero_le _)
      · have hlt := ct_lt (N := 3) (by decide) hi c_32
        have hsp9 := hsp.out (wOut_D.tr (wOut_sews (M := (wDry (wBoard (wGild M o) o 15) o 15)) (o := o) i hi))
        refine y_aload_n C0 2 dX3_letAnHourGo_35 rfl rfl ?_
        refine y_iload C0 0 dX3_letAnHourGo_36 rfl ?_
        refine y_aald C0 (i) 9 (ykd_w3 ho) (by decide) (by decide) rfl (by omega : i < 3) (yel_fr ho) dX3_letAnHourGo_38 ?_
        refine y_astore C0 [(5, _), (4, _), (3, _), (2, _), (1, _), (0, _)] dX3_letAnHourGo_39 (by decide) rfl ?_
        refine y_aload_n C0 5 dX3_letAnHourGo_41 rfl rfl ?_
        refine y_aload C0 0 dX3_letAnHourGo_42 rfl ?_
        refine y_callV (As := [_]) (rest := _) (n := 1) C0 (mX3_sewAt l D cy adr _ _ ho _ (by omega) hsp9) 3 rfl (by decide) (ykd_w ho) gX3_letAnHourGo_X3_sewAt rfl rfl rfl (by decide +kernel) ⟨by decide, by decide⟩ rfl rfl (Nat.le_of_ble_eq_true rfl) dX3_letAnHourGo_44 ⟨by decide, by decide⟩ ?_
        refine y_iinc (v := nI (i + 1)) C0 1 [(4, _), (5, _), (3, _), (2, _), (1, _), (0, _)] dX3_letAnHourGo_47 rfl (yinc_ok rfl rfl) (by decide) rfl ?_
        refine y_goto C0 29 dX3_letAnHourGo_50 (by decide) ?_
        refine y_sub [0, 2, 3, 4, 5] [(4, _), (3, _), (2, _), (1, _), (0, _)] rfl ?_
        exact y_eq rfl (by first | rfl | simp [c_32]) rfl (ih_29 _ (by omega) (i + 1) rfl hlt)
  refine y_sub [0, 1, 2, 3, 4] [(4, _), (3, _), (2, _), (1, _), (0, _)] rfl ?_
  exact hl_29 _ 0 rfl (Nat.zero_le _)
abbrev rX3_letHoursGo : Room := { frames := 5, cells := 0, slots := 0, locals := 125 }
set_option maxRecDepth 100000 in
set_option maxHeartbeats 4000000 in
theorem mX3_letHoursGo (l : Launch) (D : va_G) (cy : Nat → ClassId) (adr : Nat → Nat) (M : yM) (o : Nat) (ho : o = 0 ∨ o = 27) (x : Int32) (hsp : wSpOK M o) : Ct l yX3_letHoursGo wsX3_letHoursGo rX3_letHoursGo D cy adr [.ref (adr o), .int x] M (some (.int (wHoursR M o x.toNatClampNeg))) (wHours M o x.toNatClampNeg) 0 0 := by
  refine Ct.mk cX3_letHoursGo 4 (some .int) RX3 (by decide) rfl rfl (Nat.le_of_ble_eq_true rfl) ?_
  intro K C0
  refine y_eq rfl (show ([(0, .ref (adr o)), (1, .int x)] : List (Nat × Value)) = lv_args 0 [.ref (adr o), .int x] from rfl) rfl ?_
  refine y_iconst (v := 0) C0 dX3_letHoursGo_0 (by decide) ?_
  refine y_istore_n C0 [(2, _), (0, _), (1, _)] dX3_letHoursGo_1 rfl (by decide) rfl ?_
  refine y_iconst (v := 0) C0 dX3_letHoursGo_2 (by decide) ?_
  refine y_istore_n C0 [(3, _), (2, _), (0, _), (1, _)] dX3_letHoursGo_3 rfl (by decide) rfl ?_
  have hl_4 : ∀ (n : Nat) (i : Nat), x.toNatClampNeg - i = n → i ≤ x.toNatClampNeg → Y K l rX3_letHoursGo D cy adr 4 0 0 (QT K D cy adr (some (.int (wHoursR M o x.toNatClampNeg))) (wHours M o x.toNatClampNeg) 0 0) (wHours M o i) [] [(3, .int (nI i)), (2, .int (wHoursR M o i)), (1, .int x), (0, .ref (adr o))] 4 [] := by
    intro n
    induction n using Nat.strongRecOn with
    | _ n ih_4 =>
      intro i hn_4 hi
      refine y_iload_n C0 0 dX3_letHoursGo_4 rfl rfl ?_
      refine y_iload_n C0 2 dX3_letHoursGo_5 rfl rfl ?_
      refine y_icmp_ge C0 22 dX3_letHoursGo_6 (by decide) (fun c_6 => ?_) (fun c_6 => ?_)
      · have he := cl_end hi c_6
        subst he
        refine y_iload_n C0 1 dX3_letHoursGo_22 rfl rfl ?_
        exact y_iret C0 dX3_letHoursGo_23 rfl rfl
      · have hlt := cl_lt hi c_6
        have hsp9 := hsp.out (wOut_hours (M := M) (o := o) i)
        refine y_iload_n C0 1 dX3_letHoursGo_9 rfl rfl ?_
        refine y_aload_n C0 3 dX3_letHoursGo_10 rfl rfl ?_
        refine y_callV (As := []) (rest := _) (n := 0) C0 (mX3_letAnHourGo l D cy adr _ _ ho hsp9) 3 rfl (by decide) (ykd_w ho) gX3_letHoursGo_X3_letAnHourGo rfl rfl rfl (by decide +kernel) ⟨by decide, by decide⟩ rfl rfl (Nat.le_of_ble_eq_true rfl) dX3_letHoursGo_11 ⟨by decide, by decide⟩ ?_
        refine y_iadd C0 dX3_letHoursGo_14 ?_
        refine y_istore_n C0 [(2, _), (3, _), (1, _), (0, _)] dX3_letHoursGo_15 rfl (by decide) rfl ?_
        refine y_iinc (v := nI (i + 1)) C0 1 [(3, _), (2, _), (1, _), (0, _)] dX3_letHoursGo_16 rfl (yinc_ok rfl rfl) (by decide) rfl ?_
        refine y_goto C0 4 dX3_letHoursGo_19 (by decide) ?_
        refine y_sub [0, 1, 2, 3] [(3, _), (2, _), (1, _), (0, _)] rfl ?_
        exact y_eq rfl rfl rfl (ih_4 _ (by omega) (i + 1) rfl hlt)
  refine y_sub [0, 1, 3, 2] [(3, _), (2, _), (1, _), (0, _)] rfl ?_
  exact hl_4 _ 0 rfl (Nat.zero_le _)
abbrev rX3_clearFrameOf : Room := { frames := 0, cells := 0, slots := 0, locals := 0 }
set_option maxRecDepth 100000 in
set_option maxHeartbeats 4000000 in
theorem mX3_clearFrameOf (l : Launch) (D : va_G) (cy : Nat → ClassId) (adr : Nat → Nat) (M : yM) (o : Nat) (ho : o = 0 ∨ o = 27) (b : Nat) (hb : b < 15)  : Ct l yX3_clearFrameOf wsX3_clearFrameOf rX3_clearFrameOf D cy adr [.ref (adr o), .ref (adr (o + 4 + b))] M (none) (wClr M o (M (o + 4 + b) 0) 3) 0 0 := by
  refine Ct.mk cX3_clearFrameOf 6 none RX3 (by decide) rfl rfl (Nat.le_of_ble_eq_true rfl) ?_
  intro K C0
  refine y_eq rfl (show ([(0, .ref (adr o)), (1, .ref (adr (o + 4 + b)))] : List (Nat × Value)) = lv_args 0 [.ref (adr o), .ref (adr (o + 4 + b))] from rfl) rfl ?_
  have hin0 : ∀ w ∈ u_ws RX0 TX0 13, w ∈ wsX3_clearFrameOf := by decide +kernel
  have hin1 : ∀ w ∈ u_ws RX1 TX1 4, w ∈ wsX3_clearFrameOf := by decide +kernel
  have hin3 : ∀ w ∈ u_ws RX3 TX3 12, w ∈ wsX3_clearFrameOf := by decide +kernel
  refine y_aload_n C0 0 dX3_clearFrameOf_0 rfl rfl ?_
  refine y_get C0 3 rfl rfl (by decide) hin3 2 (ykd_w ho) (by decide) (by decide +kernel) (yv3_frames (ykd_w ho)) dX3_clearFrameOf_1 ?_
  refine y_astore_n C0 [(2, _), (0, _), (1, _)] dX3_clearFrameOf_4 rfl (by decide) rfl ?_
  refine y_aload_n C0 0 dX3_clearFrameOf_5 rfl rfl ?_
  refine y_alen C0 9 (ykd_w3 ho) (by decide) (by decide) dX3_clearFrameOf_6 ?_
  refine y_istore_n C0 [(3, _), (2, _), (0, _), (1, _)] dX3_clearFrameOf_7 rfl (by decide) rfl ?_
  refine y_iconst (v := 0) C0 dX3_clearFrameOf_8 (by decide) ?_
  refine y_istore C0 [(4, _), (3, _), (2, _), (0, _), (1, _)] dX3_clearFrameOf_9 (by decide) rfl ?_
  have hl_11 : ∀ (n : Nat) (i : Nat), 3 - i = n → i ≤ 3 → Y K l rX3_clearFrameOf D cy adr 6 0 0 (QT K D cy adr (none) (wClr M o (M (o + 4 + b) 0) 3) 0 0) (wClr M o (M (o + 4 + b) 0) i) [] [(4, .int (nI i)), (3, .int (nI 3)), (2, .ref (adr (o + 3))), (1, .ref (adr (o + 4 + b))), (0, .ref (adr o))] 11 [] := by
    intro n
    induction n using Nat.strongRecOn with
    | _ n ih_11 =>
      intro i hn_11 hi
      refine y_iload C0 0 dX3_clearFrameOf_11 rfl ?_
      refine y_iload_n C0 1 dX3_clearFrameOf_13 rfl rfl ?_
      refine y_icmp_ge C0 47 dX3_clearFrameOf_14 (by decide) (fun c_14 => ?_) (fun c_14 => ?_)
      · have he := ct_end (N := 3) (by decide) hi c_14
        subst he
        exact y_vret C0 dX3_clearFrameOf_47 rfl rfl
      · have hlt := ct_lt (N := 3) (by decide) hi c_14
        refine y_aload_n C0 2 dX3_clearFrameOf_17 rfl rfl ?_
        refine y_iload C0 0 dX3_clearFrameOf_18 rfl ?_
        refine y_aald C0 (i) 9 (ykd_w3 ho) (by decide) (by decide) rfl (by omega : i < 3) (yel_fr ho) dX3_clearFrameOf_20 ?_
        refine y_astore C0 [(5, _), (4, _), (3, _), (2, _), (1, _), (0, _)] dX3_clearFrameOf_21 (by decide) rfl ?_
        refine y_aload C0 0 dX3_clearFrameOf_23 rfl ?_
        refine y_get C0 1 rfl rfl (by decide) hin1 2 (ykd_fr ho (by omega : i < 3)) (by decide) (by decide +kernel) (yvi1 (ykd_fr ho (by omega : i < 3))) dX3_clearFrameOf_25 ?_
        refine y_aload_n C0 4 dX3_clearFrameOf_28 rfl rfl ?_
        refine y_get C0 0 rfl rfl (by decide) hin0 0 (ykd_bk ho hb) (by decide) (by decide +kernel) (yvi0 (ykd_bk ho hb)) dX3_clearFrameOf_29 ?_
        refine y_icmp_ne C0 41 dX3_clearFrameOf_32 (by decide) (fun c_32 => ?_) (fun c_32 => ?_)
        · refine y_iinc (v := nI (i + 1)) C0 1 [(4, _), (5, _), (3, _), (2, _), (1, _), (0, _)] dX3_clearFrameOf_41 rfl (yinc_ok rfl rfl) (by decide) rfl ?_
          refine y_goto C0 11 dX3_clearFrameOf_44 (by decide) ?_
          refine y_sub [0, 2, 3, 4, 5] [(4, _), (3, _), (2, _), (1, _), (0, _)] rfl ?_
          exact y_eq (by rw [wClr_bk hb i hi] at c_32; simp only [wClr, c_14, c_32, if_true, if_false]; try rfl) (by first | rfl | simp [c_14, c_32]) rfl (ih_11 _ (by omega) (i + 1) rfl hlt)
        · refine y_aload C0 0 dX3_clearFrameOf_35 rfl ?_
          refine y_iconst (v := (-1)) C0 dX3_clearFrameOf_37 (by decide) ?_
          refine y_put C0 1 rfl rfl (by decide) hin1 tyX1 tyX1_ok nmX1 2 (ykd_fr ho (by omega : i < 3)) (by decide) (by decide +kernel) (yrn1 (ykd_fr ho (by omega : i < 3))) rfl (by decide +kernel) dX3_clearFrameOf_38 ?_
          refine y_iinc (v := nI (i + 1)) C0 1 [(4, _), (5, _), (3, _), (2, _), (1, _), (0, _)] dX3_clearFrameOf_41 rfl (yinc_ok rfl rfl) (by decide) rfl ?_
          refine y_goto C0 11 dX3_clearFrameOf_44 (by decide) ?_
          refine y_sub [0, 2, 3, 4, 5] [(4, _), (3, _), (2, _), (1, _), (0, _)] rfl ?_
          exact y_eq (by rw [wClr_bk hb i hi] at c_32; simp only [wClr, c_14, c_32, if_true, if_false]; try rfl) (by first | rfl | simp [c_14, c_32]) rfl (ih_11 _ (by omega) (i + 1) rfl hlt)
  refine y_sub [0, 1, 2, 4, 3] [(4, _), (3, _), (2, _), (1, _), (0, _)] rfl ?_
  exact hl_11 _ 0 rfl (Nat.zero_le _)
abbrev rX3_setTo : Room := { frames := 1, cells := 0, slots := 0, locals := 21 }
set_option maxRecDepth 100000 in
set_option maxHeartbeats 4000000 in
theorem mX3_setTo (l : Launch) (D : va_G) (cy : Nat → ClassId) (adr : Nat → Nat) (M : yM) (o : Nat) (ho : o = 0 ∨ o = 27) (a : Nat) (ha : a = 0 ∨ a = 27) (hne : a ≠ o) : Ct l yX3_setTo wsX3_setTo rX3_setTo D cy adr [.ref (adr o), .ref (adr a)] M (none) (wSet M o a) 0 0 := by
  refine Ct.mk cX3_setTo 3 none RX3 (by decide) rfl rfl (Nat.le_of_ble_eq_true rfl) ?_
  intro K C0
  refine y_eq rfl (show ([(0, .ref (adr o)), (1, .ref (adr a))] : List (Nat × Value)) = lv_args 0 [.ref (adr o), .ref (adr a)] from rfl) rfl ?_
  have hin3 : ∀ w ∈ u_ws RX3 TX3 12, w ∈ wsX3_setTo := by decide +kernel
  refine y_iconst (v := 0) C0 dX3_setTo_0 (by decide) ?_
  refine y_istore_n C0 [(2, _), (0, _), (1, _)] dX3_setTo_1 rfl (by decide) rfl ?_
  have hl_2 : ∀ (n : Nat) (i : Nat), 15 - i = n → i ≤ 15 → Y K l rX3_setTo D cy adr 3 0 0 (QT K D cy adr (none) (wSet M o a) 0 0) (wSetB M o a i) [] [(2, .int (nI i)), (1, .ref (adr a)), (0, .ref (adr o))] 2 [] := by
    intro n
    induction n using Nat.strongRecOn with
    | _ n ih_2 =>
      intro i hn_2 hi
      refine y_iload_n C0 0 dX3_setTo_2 rfl rfl ?_
      refine y_aload_n C0 2 dX3_setTo_3 rfl rfl ?_
      refine y_get C0 3 rfl rfl (by decide) hin3 0 (ykd_w ho) (by decide) (by decide +kernel) (yv3_books (ykd_w ho)) dX3_setTo_4 ?_
      refine y_alen C0 7 (ykd_w1 ho) (by decide) (by decide) dX3_setTo_7 ?_
      refine y_icmp_ge C0 41 dX3_setTo_8 (by decide) (fun c_8 => ?_) (fun c_8 => ?_)
      · have he := ct_end (N := 15) (by decide) hi c_8
        subst he
        refine y_iconst (v := 0) C0 dX3_setTo_41 (by decide) ?_
        refine y_istore_n C0 [(2, _), (1, _), (0, _)] dX3_setTo_42 rfl (by decide) rfl ?_
        have hl_43 : ∀ (n : Nat) (i : Nat), 5 - i = n → i ≤ 5 → Y K l rX3_setTo D cy adr 3 0 0 (QT K D cy adr (none) (wSet M o a) 0 0) (wSetS (wSetB M o a 15) o a i) [] [(2, .int (nI i)), (1, .ref (adr a)), (0, .ref (adr o))] 43 [] := by
          intro n
          induction n using Nat.strongRecOn with
          | _ n ih_43 =>
            intro i hn_43 hi
            refine y_iload_n C0 0 dX3_setTo_43 rfl rfl ?_
            refine y_aload_n C0 2 dX3_setTo_44 rfl rfl ?_
            refine y_get C0 3 rfl rfl (by decide) hin3 1 (ykd_w ho) (by decide) (by decide +kernel) (yv3_sewers (ykd_w ho)) dX3_setTo_45 ?_
            refine y_alen C0 8 (ykd_w2 ho) (by decide) (by decide) dX3_setTo_48 ?_
            refine y_icmp_ge C0 82 dX3_setTo_49 (by decide) (fun c_49 => ?_) (fun c_49 => ?_)
            · have he := ct_end (N := 5) (by decide) hi c_49
              subst he
              refine y_iconst (v := 0) C0 dX3_setTo_82 (by decide) ?_
              refine y_istore_n C0 [(2, _), (1, _), (0, _)] dX3_setTo_83 rfl (by decide) rfl ?_
              have hl_84 : ∀ (n : Nat) (i : Nat), 3 - i = n → i ≤ 3 → Y K l rX3_setTo D cy adr 3 0 0 (QT K D cy adr (none) (wSet M o a) 0 0) (wSetF (wSetS (wSetB M o a 15) o a 5) o a i) [] [(2, .int (nI i)), (1, .ref (adr a)), (0, .ref (adr o))] 84 [] := by
                intro n
                induction n using Nat.strongRecOn with
                | _ n ih_84 =>
                  intro i hn_84 hi
                  refine y_iload_n C0 0 dX3_setTo_84 rfl rfl ?_
                  refine y_aload_n C0 2 dX3_setTo_85 rfl rfl ?_
                  refine y_get C0 3 rfl rfl (by decide) hin3 2 (ykd_w ho) (by decide) (by decide +kernel) (yv3_frames (ykd_w ho)) dX3_setTo_86 ?_
                  refine y_alen C0 9 (ykd_w3 ho) (by decide) (by decide) dX3_setTo_89 ?_
                  refine y_icmp_ge C0 123 dX3_setTo_90 (by decide) (fun c_90 => ?_) (fun c_90 => ?_)
                  · have he := ct_end (N := 3) (by decide) hi c_90
                    subst he
                    refine y_aload_n C0 2 dX3_setTo_123 rfl rfl ?_
                    refine y_aload_n C0 1 dX3_setTo_124 rfl rfl ?_
                    refine y_get C0 3 rfl rfl (by decide) hin3 3 (ykd_w ha) (by decide) (by decide +kernel) (yvi3 (ykd_w ha) (by decide)) dX3_setTo_125 ?_
                    refine y_put C0 3 rfl rfl (by decide) hin3 tyX3 tyX3_ok nmX3 3 (ykd_w ho) (by decide) (by decide +kernel) (yrn3 (ykd_w ho) (by decide)) rfl (by decide +kernel) dX3_setTo_128 ?_
                    refine y_aload_n C0 2 dX3_setTo_131 rfl rfl ?_
                    refine y_aload_n C0 1 dX3_setTo_132 rfl rfl ?_
                    refine y_get C0 3 rfl rfl (by decide) hin3 4 (ykd_w ha) (by decide) (by decide +kernel) (yvi3 (ykd_w ha) (by decide)) dX3_setTo_133 ?_
                    refine y_put C0 3 rfl rfl (by decide) hin3 tyX3 tyX3_ok nmX3 4 (ykd_w ho) (by decide) (by decide +kernel) (yrn3 (ykd_w ho) (by decide)) rfl (by decide +kernel) dX3_setTo_136 ?_
                    refine y_aload_n C0 2 dX3_setTo_139 rfl rfl ?_
                    refine y_aload_n C0 1 dX3_setTo_140 rfl rfl ?_
                    refine y_get C0 3 rfl rfl (by decide) hin3 5 (ykd_w ha) (by decide) (by decide +kernel) (yvi3 (ykd_w ha) (by decide)) dX3_setTo_141 ?_
                    refine y_put C0 3 rfl rfl (by decide) hin3 tyX3 tyX3_ok nmX3 5 (ykd_w ho) (by decide) (by decide +kernel) (yrn3 (ykd_w ho) (by decide)) rfl (by decide +kernel) dX3_setTo_144 ?_
                    refine y_aload_n C0 2 dX3_setTo_147 rfl rfl ?_
                    refine y_aload_n C0 1 dX3_setTo_148 rfl rfl ?_
                    refine y_get C0 3 rfl rfl (by decide) hin3 6 (ykd_w ha) (by decide) (by decide +kernel) (yvi3 (ykd_w ha) (by decide)) dX3_setTo_149 ?_
                    refine y_put C0 3 rfl rfl (by decide) hin3 tyX3 tyX3_ok nmX3 6 (ykd_w ho) (by decide) (by decide +kernel) (yrn3 (ykd_w ho) (by decide)) rfl (by decide +kernel) dX3_setTo_152 ?_
                    refine y_aload_n C0 2 dX3_setTo_155 rfl rfl ?_
                    refine y_aload_n C0 1 dX3_setTo_156 rfl rfl ?_
                    refine y_get C0 3 rfl rfl (by decide) hin3 7 (ykd_w ha) (by decide) (by decide +kernel) (yvi3 (ykd_w ha) (by decide)) dX3_setTo_157 ?_
                    refine y_put C0 3 rfl rfl (by decide) hin3 tyX3 tyX3_ok nmX3 7 (ykd_w ho) (by decide) (by decide +kernel) (yrn3 (ykd_w ho) (by decide)) rfl (by decide +kernel) dX3_setTo_160 ?_
                    refine y_aload_n C0 2 dX3_setTo_163 rfl rfl ?_
                    refine y_aload_n C0 1 dX3_setTo_164 rfl rfl ?_
                    refine y_get C0 3 rfl rfl (by decide) hin3 8 (ykd_w ha) (by decide) (by decide +kernel) (yvi3 (ykd_w ha) (by decide)) dX3_setTo_165 ?_
                    refine y_put C0 3 rfl rfl (by decide) hin3 tyX3 tyX3_ok nmX3 8 (ykd_w ho) (by decide) (by decide +kernel) (yrn3 (ykd_w ho) (by decide)) rfl (by decide +kernel) dX3_setTo_168 ?_
                    refine y_aload_n C0 2 dX3_setTo_171 rfl rfl ?_
                    refine y_aload_n C0 1 dX3_setTo_172 rfl rfl ?_
                    refine y_get C0 3 rfl rfl (by decide) hin3 9 (ykd_w ha) (by decide) (by decide +kernel) (yvi3 (ykd_w ha) (by decide)) dX3_setTo_173 ?_
                    refine y_put C0 3 rfl rfl (by decide) hin3 tyX3 tyX3_ok nmX3 9 (ykd_w ho) (by decide) (by decide +kernel) (yrn3 (ykd_w ho) (by decide)) rfl (by decide +kernel) dX3_setTo_176 ?_
                    refine y_aload_n C0 2 dX3_setTo_179 rfl rfl ?_
                    refine y_aload_n C0 1 dX3_setTo_180 rfl rfl ?_
                    refine y_get C0 3 rfl rfl (by decide) hin3 10 (ykd_w ha) (by decide) (by decide +kernel) (yvi3 (ykd_w ha) (by decide)) dX3_setTo_181 ?_
                    refine y_put C0 3 rfl rfl (by decide) hin3 tyX3 tyX3_ok nmX3 10 (ykd_w ho) (by decide) (by decide +kernel) (yrn3 (ykd_w ho) (by decide)) rfl (by decide +kernel) dX3_setTo_184 ?_
                    refine y_aload_n C0 2 dX3_setTo_187 rfl rfl ?_
                    refine y_aload_n C0 1 dX3_setTo_188 rfl rfl ?_
                    refine y_get C0 3 rfl rfl (by decide) hin3 11 (ykd_w ha) (by decide) (by decide +kernel) (yvi3 (ykd_w ha) (by decide)) dX3_setTo_189 ?_
                    refine y_put C0 3 rfl rfl (by decide) hin3 tyX3 tyX3_ok nmX3 11 (ykd_w ho) (by decide) (by decide +kernel) (yrn3 (ykd_w ho) (by decide)) rfl (by decide +kernel) dX3_setTo_192 ?_
                    exact y_vret C0 dX3_setTo_195 rfl (by simp only [yst_ru, up_up, up_s, up_n hne]; exact congrArg (va_up (wSetA M o a) o) (wRow_e (wSetA M o a o) (wSetA M o a a)))
                  · have hlt := ct_lt (N := 3) (by decide) hi c_90
                    refine y_iload_n C0 0 dX3_setTo_93 rfl rfl ?_
                    refine y_aload_n C0 1 dX3_setTo_94 rfl rfl ?_
                    refine y_get C0 3 rfl rfl (by decide) hin3 2 (ykd_w ha) (by decide) (by decide +kernel) (yv3_frames (ykd_w ha)) dX3_setTo_95 ?_
                    refine y_alen C0 9 (ykd_w3 ha) (by decide) (by decide) dX3_setTo_98 ?_
                    refine y_icmp_ge C0 123 dX3_setTo_99 (by decide) (fun c_99 => ?_) (fun c_99 => ?_)
                    · exact absurd c_99 (nI_ge (show i < 3 from hlt) (by decide))
                    · refine y_aload_n C0 2 dX3_setTo_102 rfl rfl ?_
                      refine y_get C0 3 rfl rfl (by decide) hin3 2 (ykd_w ho) (by decide) (by decide +kernel) (yv3_frames (ykd_w ho)) dX3_setTo_103 ?_
                      refine y_iload_n C0 0 dX3_setTo_106 rfl rfl ?_
                      refine y_aald C0 (i) 9 (ykd_w3 ho) (by decide) (by decide) rfl (by omega : i < 3) (yel_fr ho) dX3_setTo_107 ?_
                      refine y_aload_n C0 1 dX3_setTo_108 rfl rfl ?_
                      refine y_get C0 3 rfl rfl (by decide) hin3 2 (ykd_w ha) (by decide) (by decide +kernel) (yv3_frames (ykd_w ha)) dX3_setTo_109 ?_
                      refine y_iload_n C0 0 dX3_setTo_112 rfl rfl ?_
                      refine y_aald C0 (i) 9 (ykd_w3 ha) (by decide) (by decide) rfl (by omega : i < 3) (yel_fr ha) dX3_setTo_113 ?_
                      refine y_callV (As := [_]) (rest := _) (n := 1) C0 (mX1_setTo l D cy adr _ _ _ (ykd_fr ho (by omega : i < 3)) (ykd_fr ha (by omega : i < 3)) (by omega)) 1 rfl (by decide) (ykd_fr ho (by omega : i < 3)) gX3_setTo_X1_setTo rfl rfl rfl (by decide +kernel) ⟨by decide, by decide⟩ rfl rfl (Nat.le_of_ble_eq_true rfl) dX3_setTo_114 ⟨by decide, by decide⟩ ?_
                      refine y_iinc (v := nI (i + 1)) C0 0 [(2, _), (1, _), (0, _)] dX3_setTo_117 rfl (yinc_ok rfl rfl) (by decide) rfl ?_
                      refine y_goto C0 84 dX3_setTo_120 (by decide) ?_
                      refine y_sub [0, 1, 2] [(2, _), (1, _), (0, _)] rfl ?_
                      exact y_eq rfl (by first | rfl | simp [c_8, c_49, c_90, c_99]) rfl (ih_84 _ (by omega) (i + 1) rfl hlt)
              refine y_sub [0, 1, 2] [(2, _), (1, _), (0, _)] rfl ?_
              exact hl_84 _ 0 rfl (Nat.zero_le _)
            · have hlt := ct_lt (N := 5) (by decide) hi c_49
              refine y_iload_n C0 0 dX3_setTo_52 rfl rfl ?_
              refine y_aload_n C0 1 dX3_setTo_53 rfl rfl ?_
              refine y_get C0 3 rfl rfl (by decide) hin3 1 (ykd_w ha) (by decide) (by decide +kernel) (yv3_sewers (ykd_w ha)) dX3_setTo_54 ?_
              refine y_alen C0 8 (ykd_w2 ha) (by decide) (by decide) dX3_setTo_57 ?_
              refine y_icmp_ge C0 82 dX3_setTo_58 (by decide) (fun c_58 => ?_) (fun c_58 => ?_)
              · exact absurd c_58 (nI_ge (show i < 5 from hlt) (by decide))
              · refine y_aload_n C0 2 dX3_setTo_61 rfl rfl ?_
                refine y_get C0 3 rfl rfl (by decide) hin3 1 (ykd_w ho) (by decide) (by decide +kernel) (yv3_sewers (ykd_w ho)) dX3_setTo_62 ?_
                refine y_iload_n C0 0 dX3_setTo_65 rfl rfl ?_
                refine y_aald C0 (i) 8 (ykd_w2 ho) (by decide) (by decide) rfl (by omega : i < 5) (yel_sw ho) dX3_setTo_66 ?_
                refine y_aload_n C0 1 dX3_setTo_67 rfl rfl ?_
                refine y_get C0 3 rfl rfl (by decide) hin3 1 (ykd_w ha) (by decide) (by decide +kernel) (yv3_sewers (ykd_w ha)) dX3_setTo_68 ?_
                refine y_iload_n C0 0 dX3_setTo_71 rfl rfl ?_
                refine y_aald C0 (i) 8 (ykd_w2 ha) (by decide) (by decide) rfl (by omega : i < 5) (yel_sw ha) dX3_setTo_72 ?_
                refine y_callV (As := [_]) (rest := _) (n := 1) C0 (mX2_setTo l D cy adr _ _ _ (ykd_sw ho (by omega : i < 5)) (ykd_sw ha (by omega : i < 5)) (by omega)) 2 rfl (by decide) (ykd_sw ho (by omega : i < 5)) gX3_setTo_X2_setTo rfl rfl rfl (by decide +kernel) ⟨by decide, by decide⟩ rfl rfl (Nat.le_of_ble_eq_true rfl) dX3_setTo_73 ⟨by decide, by decide⟩ ?_
                refine y_iinc (v := nI (i + 1)) C0 0 [(2, _), (1, _), (0, _)] dX3_setTo_76 rfl (yinc_ok rfl rfl) (by decide) rfl ?_
                refine y_goto C0 43 dX3_setTo_79 (by decide) ?_
                refine y_sub [0, 1, 2] [(2, _), (1, _), (0, _)] rfl ?_
                exact y_eq rfl (by first | rfl | simp [c_8, c_49, c_58]) rfl (ih_43 _ (by omega) (i + 1) rfl hlt)
        refine y_sub [0, 1, 2] [(2, _), (1, _), (0, _)] rfl ?_
        exact hl_43 _ 0 rfl (Nat.zero_le _)
      · have hlt := ct_lt (N := 15) (by decide) hi c_8
        refine y_iload_n C0 0 dX3_setTo_11 rfl rfl ?_
        refine y_aload_n C0 1 dX3_setTo_12 rfl rfl ?_
        refine y_get C0 3 rfl rfl (by decide) hin3 0 (ykd_w ha) (by decide) (by decide +kernel) (yv3_books (ykd_w ha)) dX3_setTo_13 ?_
        refine y_alen C0 7 (ykd_w1 ha) (by decide) (by decide) dX3_setTo_16 ?_
        refine y_icmp_ge C0 41 dX3_setTo_17 (by decide) (fun c_17 => ?_) (fun c_17 => ?_)
        · exact absurd c_17 (nI_ge (show i < 15 from hlt) (by decide))
        · refine y_aload_n C0 2 dX3_setTo_20 rfl rfl ?_
          refine y_get C0 3 rfl rfl (by decide) hin3 0 (ykd_w ho) (by decide) (by decide +kernel) (yv3_books (ykd_w ho)) dX3_setTo_21 ?_
          refine y_iload_n C0 0 dX3_setTo_24 rfl rfl ?_
          refine y_aald C0 (i) 7 (ykd_w1 ho) (by decide) (by decide) rfl (by omega : i < 15) (yel_bk ho) dX3_setTo_25 ?_
          refine y_aload_n C0 1 dX3_setTo_26 rfl rfl ?_
          refine y_get C0 3 rfl rfl (by decide) hin3 0 (ykd_w ha) (by decide) (by decide +kernel) (yv3_books (ykd_w ha)) dX3_setTo_27 ?_
          refine y_iload_n C0 0 dX3_setTo_30 rfl rfl ?_
          refine y_aald C0 (i) 7 (ykd_w1 ha) (by decide) (by decide) rfl (by omega : i < 15) (yel_bk ha) dX3_setTo_31 ?_
          refine y_callV (As := [_]) (rest := _) (n := 1) C0 (mX0_setTo l D cy adr _ _ _ (ykd_bk ho (by omega : i < 15)) (ykd_bk ha (by omega : i < 15)) (by omega)) 0 rfl (by decide) (ykd_bk ho (by omega : i < 15)) gX3_setTo_X0_setTo rfl rfl rfl (by decide +kernel) ⟨by decide, by decide⟩ rfl rfl (Nat.le_of_ble_eq_true rfl) dX3_setTo_32 ⟨by decide, by decide⟩ ?_
          refine y_iinc (v := nI (i + 1)) C0 0 [(2, _), (1, _), (0, _)] dX3_setTo_35 rfl (yinc_ok rfl rfl) (by decide) rfl ?_
          refine y_goto C0 2 dX3_setTo_38 (by decide) ?_
          refine y_sub [0, 1, 2] [(2, _), (1, _), (0, _)] rfl ?_
          exact y_eq rfl (by first | rfl | simp [c_8, c_17]) rfl (ih_2 _ (by omega) (i + 1) rfl hlt)
  refine y_sub [0, 2, 1] [(2, _), (1, _), (0, _)] rfl ?_
  exact hl_2 _ 0 rfl (Nat.zero_le _)
end YZ
