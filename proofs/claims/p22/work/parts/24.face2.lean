section YZ
theorem y6n : ((6 : Int32) = -1) = False := by decide
theorem y_i2d {K : yK} {l : Launch} {R : Room} {D : va_G} {cy : Nat → ClassId} {adr : Nat → Nat} {nL cells slots : Nat} {Q : State → Prop} {M : yM} {E : va_W} {lv : List (Nat × Value)} {pc : Nat} {st : List Value} {cc : ByteArray} {own : String} {Ts : List Cond} {ret : Option FieldType} (C0 : Cx K cc own Ts nL ret D cy) {x : Int32} (d : decode cc pc = .ok (.i2d, 1)) (k : Y K l R D cy adr nL cells slots Q M E lv (pc + 1) (.double (FP.i2d x) :: st)) : Y K l R D cy adr nL cells slots Q M E lv pc (.int x :: st) := by
  obtain ⟨p, e, s, m, args, below, meth, c, A⟩ := K
  exact fun H locs ls hP hD hS hl => lv_i2d C0.1 C0.2.1 d (k H locs ls hP hD hS hl)
theorem y_ddiv {K : yK} {l : Launch} {R : Room} {D : va_G} {cy : Nat → ClassId} {adr : Nat → Nat} {nL cells slots : Nat} {Q : State → Prop} {M : yM} {E : va_W} {lv : List (Nat × Value)} {pc : Nat} {st : List Value} {cc : ByteArray} {own : String} {Ts : List Cond} {ret : Option FieldType} (C0 : Cx K cc own Ts nL ret D cy) {x y : UInt64} (d : decode cc pc = .ok (.ddiv, 1)) (hn : vf_n64 (FP.ddiv x y)) (k : Y K l R D cy adr nL cells slots Q M E lv (pc + 1) (.double (FP.ddiv x y) :: st)) : Y K l R D cy adr nL cells slots Q M E lv pc (.double y :: .double x :: st) := by
  obtain ⟨p, e, s, m, args, below, meth, c, A⟩ := K
  exact fun H locs ls hP hD hS hl => lv_ddiv C0.1 C0.2.1 d hn (k H locs ls hP hD hS hl)
theorem y_dret {K : yK} {l : Launch} {R : Room} {D : va_G} {cy : Nat → ClassId} {adr : Nat → Nat} {nL mc ms : Nat} {M M' : yM} {E : va_W} {lv : List (Nat × Value)} {pc : Nat} {cc : ByteArray} {own : String} {Ts : List Cond} {r : Option Value} (C0 : Cx K cc own Ts nL (some .double) D cy) {v : UInt64} (d : decode cc pc = .ok (.dreturn, 1)) (e1 : some (Value.double v) = r) (e2 : M = M') : Y K l R D cy adr nL mc ms (QT K D cy adr r M' mc ms) M E lv pc [.double v] := by
  subst e1; subst e2
  obtain ⟨p, e, s, m, args, below, meth, c, A⟩ := K
  obtain ⟨hx, hb, hml, hown, hts, hK, hA, hr, hlk⟩ := C0
  exact fun H locs ls hP hD hS hl => W.dret hx hb hr (fun t ht hW => ⟨rfl, by rw [ht]; exact ypl_P hP, hS.F ht⟩) hS.2.2 d hlk
abbrev rX4_until : Room := { frames := 7, cells := 1, slots := 6, locals := 125 }
set_option maxRecDepth 100000 in
set_option maxHeartbeats 4000000 in
theorem mX4_until (l : Launch) (hlf : l.stackTraces = false) (D : va_G) (cy : Nat → ClassId) (adr : Nat → Nat) (M : yM) (x : Int32) (hsp : wSpOK M 0) : Cv l yX4_until wsX4_until rX4_until D cy adr [.ref (adr 54), .int x] M (okB M x) (some (.int (utR M (cN x)))) (mo (okB M x) (utM M (cN x)) M) 1 6 := by
  refine Cv.mk cX4_until 4 (some .int) RX4 (by decide) rfl rfl (Nat.le_of_ble_eq_true rfl) ?_
  intro K C0 hX hT
  refine y_eq rfl (show ([(0, .ref (adr 54)), (1, .int x)] : List (Nat × Value)) = lv_args 0 [.ref (adr 54), .int x] from rfl) rfl ?_
  have hin0 : ∀ w ∈ u_ws RX0 TX0 13, w ∈ wsX4_until := by decide +kernel
  have hin4 : ∀ w ∈ u_ws RX4 TX4 2, w ∈ wsX4_until := by decide +kernel
  refine y_aload_n C0 0 dX4_until_0 rfl rfl ?_
  refine y_iload_n C0 1 dX4_until_1 rfl rfl ?_
  refine y_callVX (As := [_]) (rest := _) (n := 1) C0 hX hT (mX4_knownBook l hlf D cy adr _ _) 4 rfl (by decide) ykd_54 gX4_until_X4_knownBook rfl rfl rfl (by decide +kernel) ⟨by decide, by decide⟩ rfl rfl (Nat.le_of_ble_eq_true rfl) dX4_until_2 ⟨by decide, by decide⟩ (fun Ex hE => ⟨by simp [thn, hE], mo_t (e := Ex) (by simp [thn, hE])⟩) (by decide) (by decide) (fun k_2 => ?_)
  refine y_get C0 0 rfl rfl (by decide) hin0 4 (okB_k k_2) (by decide) (by decide +kernel) (yvi0 (okB_k k_2)) dX4_until_5 ?_
  refine y_iconst (v := 5) C0 dX4_until_8 (by decide) ?_
  refine y_icmp_lt C0 14 dX4_until_9 (by decide) (fun c_9 => ?_) (fun c_9 => ?_)
  · have ho9 := k_2
    refine y_ok ho9 ?_
    refine y_widen (k := 1) (n := 6) (by decide) (by decide) ?_
    refine y_aload_n C0 0 dX4_until_14 rfl rfl ?_
    refine y_get C0 4 rfl rfl (by decide) hin4 1 ykd_54 (by decide) (by decide +kernel) yv4_ahead dX4_until_15 ?_
    refine y_aload_n C0 0 dX4_until_18 rfl rfl ?_
    refine y_get C0 4 rfl rfl (by decide) hin4 0 ykd_54 (by decide) (by decide +kernel) yv4_now dX4_until_19 ?_
    refine y_callV (As := [_]) (rest := _) (n := 1) C0 (mX3_setTo l D cy adr _ 27 (Or.inr rfl) 0 (Or.inl rfl) (by decide)) 3 rfl (by decide) ykd_ahead gX4_until_X3_setTo rfl rfl rfl (by decide +kernel) ⟨by decide, by decide⟩ rfl rfl (Nat.le_of_ble_eq_true rfl) dX4_until_22 ⟨by decide, by decide⟩ ?_
    refine y_aload_n C0 0 dX4_until_25 rfl rfl ?_
    refine y_get C0 4 rfl rfl (by decide) hin4 1 ykd_54 (by decide) (by decide +kernel) yv4_ahead dX4_until_26 ?_
    refine y_iload_n C0 1 dX4_until_29 rfl rfl ?_
    obtain ⟨hb, eb, hcb⟩ := okB_e k_2
    refine y_top eb ?_
    refine y_callV (As := [_]) (rest := _) (n := 1) C0 (mX3_bookNumbered l D cy adr _ 27 (Or.inr rfl) (cN x) hb (by rw [wSet_3]; exact hcb)) 3 rfl (by decide) ykd_ahead gX4_until_X3_bookNumbered rfl rfl rfl (by decide +kernel) ⟨by decide, by decide⟩ rfl rfl (Nat.le_of_ble_eq_true rfl) dX4_until_30 ⟨by decide, by decide⟩ ?_
    refine y_astore_n C0 [(2, _), (0, _), (1, _)] dX4_until_33 rfl (by decide) rfl ?_
    refine y_iconst (v := 1) C0 dX4_until_34 (by decide) ?_
    refine y_istore_n C0 [(3, _), (2, _), (0, _), (1, _)] dX4_until_35 rfl (by decide) rfl ?_
    have hl_36 : ∀ (n : Nat) (i : Nat), 250 - i = n → i ≤ 250 → hF (utP M (27 + 4 + cN x)) i = none → Y K l rX4_until D cy adr 4 1 6 (QT K D cy adr (some (.int (utR M (cN x)))) (mo (okB M x) (utM M (cN x)) M) 1 6) (wHours (wSet M 27 0) 27 i) [] [(3, .int (nI (i + 1))), (2, .ref (adr (27 + 4 + cN x))), (1, .int x), (0, .ref (adr 54))] 36 [] := by
      intro n
      induction n using Nat.strongRecOn with
      | _ n ih_36 =>
        intro i hn_36 hi hfi
        refine y_iload_n C0 0 dX4_until_36 rfl rfl ?_
        refine y_sipush (v := 250) C0 dX4_until_37 (by decide) ?_
        refine y_icmp_gt C0 71 dX4_until_40 (by decide) (fun c_40 => ?_) (fun c_40 => ?_)
        · have he : i = 250 := by
            have h9 := (nI_ltI (a := 250) (b := i + 1) (by decide) (by omega)).mp c_40
            omega
          subst he
          refine y_iconst (v := (-1)) C0 dX4_until_71 (by decide) ?_
          exact y_iret C0 dX4_until_72 (by rw [(ut_none (M := M) (b := cN x) c_9 hfi).1]) (mo_n ho9 (ut_none (M := M) (b := cN x) c_9 hfi).2.symm)
        · have hlt : i < 250 := by
            rcases Nat.lt_or_ge i 250 with q | q
            · exact q
            · exact absurd (show nI 250 < nI (i + 1) from nI_lt (by omega) (by omega)) c_40
          have hsp9 := (wSpOK_cp hsp).out (wOut_hours (M := wSet M 27 0) (o := 27) i)
          refine y_aload_n C0 3 dX4_until_43 rfl rfl ?_
          refine y_get C0 4 rfl rfl (by decide) hin4 1 ykd_54 (by decide) (by decide +kernel) yv4_ahead dX4_until_44 ?_
          refine y_callV (As := []) (rest := _) (n := 0) C0 (mX3_letAnHourGo l D cy adr _ 27 (Or.inr rfl) hsp9) 3 rfl (by decide) ykd_ahead gX4_until_X3_letAnHourGo rfl rfl rfl (by decide +kernel) ⟨by decide, by decide⟩ rfl rfl (Nat.le_of_ble_eq_true rfl) dX4_until_47 ⟨by decide, by decide⟩ ?_
          refine y_pop C0 dX4_until_50 rfl ?_
          refine y_aload_n C0 1 dX4_until_51 rfl rfl ?_
          refine y_ifnull C0 dX4_until_52 ?_
          refine y_aload_n C0 1 dX4_until_55 rfl rfl ?_
          refine y_get C0 0 rfl rfl (by decide) hin0 4 (ykd_bk (Or.inr rfl) hb) (by decide) (by decide +kernel) (yvi0 (ykd_bk (Or.inr rfl) hb)) dX4_until_56 ?_
          refine y_iconst (v := 5) C0 dX4_until_59 (by decide) ?_
          refine y_icmp_ne C0 65 dX4_until_60 (by decide) (fun c_60 => ?_) (fun c_60 => ?_)
          · refine y_iinc (v := nI (i + 1 + 1)) C0 0 [(3, _), (2, _), (1, _), (0, _)] dX4_until_65 rfl (yinc_ok rfl rfl) (by decide) rfl ?_
            refine y_goto C0 36 dX4_until_68 (by decide) ?_
            refine y_sub [0, 1, 2, 3] [(3, _), (2, _), (1, _), (0, _)] rfl ?_
            exact y_eq rfl (by first | rfl | simp [k_2, c_9, c_40, c_60]) rfl (ih_36 _ (by omega) (i + 1) rfl hlt (hF_n hfi (decide_eq_false c_60)))
          · refine y_iload_n C0 0 dX4_until_63 rfl rfl ?_
            exact y_iret C0 dX4_until_64 (by rw [(ut_some (M := M) (b := cN x) c_9 hfi hlt c_60).1]) (mo_n ho9 (ut_some (M := M) (b := cN x) c_9 hfi hlt c_60).2.symm)
    refine y_sub [0, 1, 3, 2] [(3, _), (2, _), (1, _), (0, _)] rfl ?_
    exact hl_36 _ 0 rfl (Nat.zero_le _) rfl
  · have ho9 := k_2
    refine y_ok ho9 ?_
    refine y_widen (k := 1) (n := 6) (by decide) (by decide) ?_
    refine y_iconst (v := 0) C0 dX4_until_12 (by decide) ?_
    exact y_iret C0 dX4_until_13 (by rw [(ut_done (M := M) (b := cN x) c_9).1]) (mo_n ho9 (ut_done (M := M) (b := cN x) c_9).2.symm)
abbrev rX4_firstDoneAhead : Room := { frames := 0, cells := 0, slots := 0, locals := 0 }
set_option maxRecDepth 100000 in
set_option maxHeartbeats 4000000 in
theorem mX4_firstDoneAhead (l : Launch) (D : va_G) (cy : Nat → ClassId) (adr : Nat → Nat) (M : yM)   : Ct l yX4_firstDoneAhead wsX4_firstDoneAhead rX4_firstDoneAhead D cy adr [.ref (adr 54)] M (some (.int (fdR M))) (M) 0 0 := by
  refine Ct.mk cX4_firstDoneAhead 2 (some .int) RX4 (by decide) rfl rfl (Nat.le_of_ble_eq_true rfl) ?_
  intro K C0
  refine y_eq rfl (show ([(0, .ref (adr 54))] : List (Nat × Value)) = lv_args 0 [.ref (adr 54)] from rfl) rfl ?_
  have hin0 : ∀ w ∈ u_ws RX0 TX0 13, w ∈ wsX4_firstDoneAhead := by decide +kernel
  have hin3 : ∀ w ∈ u_ws RX3 TX3 12, w ∈ wsX4_firstDoneAhead := by decide +kernel
  have hin4 : ∀ w ∈ u_ws RX4 TX4 2, w ∈ wsX4_firstDoneAhead := by decide +kernel
  refine y_iconst (v := 0) C0 dX4_firstDoneAhead_0 (by decide) ?_
  refine y_istore_n C0 [(1, _), (0, _)] dX4_firstDoneAhead_1 rfl (by decide) rfl ?_
  have hl_2 : ∀ (n : Nat) (i : Nat), 15 - i = n → i ≤ 15 → fdA M i = none → Y K l rX4_firstDoneAhead D cy adr 2 0 0 (QT K D cy adr (some (.int (fdR M))) (M) 0 0) M [] [(1, .int (nI i)), (0, .ref (adr 54))] 2 [] := by
    intro n
    induction n using Nat.strongRecOn with
    | _ n ih_2 =>
      intro i hn_2 hi hfi
      refine y_iload_n C0 0 dX4_firstDoneAhead_2 rfl rfl ?_
      refine y_aload_n C0 1 dX4_firstDoneAhead_3 rfl rfl ?_
      refine y_get C0 4 rfl rfl (by decide) hin4 0 ykd_54 (by decide) (by decide +kernel) yv4_now dX4_firstDoneAhead_4 ?_
      refine y_get C0 3 rfl rfl (by decide) hin3 0 ykd_now (by decide) (by decide +kernel) (yv3_books ykd_now) dX4_firstDoneAhead_7 ?_
      refine y_alen C0 7 (ykd_w1 (Or.inl rfl)) (by decide) (by decide) dX4_firstDoneAhead_10 ?_
      refine y_icmp_ge C0 66 dX4_firstDoneAhead_11 (by decide) (fun c_11 => ?_) (fun c_11 => ?_)
      · have he := ct_end (N := 15) (by decide) hi c_11
        subst he
        refine y_iconst (v := (-1)) C0 dX4_firstDoneAhead_66 (by decide) ?_
        exact y_iret C0 dX4_firstDoneAhead_67 (by rw [fdR_n hfi]) rfl
      · have hlt := ct_lt (N := 15) (by decide) hi c_11
        refine y_iload_n C0 0 dX4_firstDoneAhead_14 rfl rfl ?_
        refine y_aload_n C0 1 dX4_firstDoneAhead_15 rfl rfl ?_
        refine y_get C0 4 rfl rfl (by decide) hin4 1 ykd_54 (by decide) (by decide +kernel) yv4_ahead dX4_firstDoneAhead_16 ?_
        refine y_get C0 3 rfl rfl (by decide) hin3 0 ykd_ahead (by decide) (by decide +kernel) (yv3_books ykd_ahead) dX4_firstDoneAhead_19 ?_
        refine y_alen C0 7 (ykd_w1 (Or.inr rfl)) (by decide) (by decide) dX4_firstDoneAhead_22 ?_
        refine y_icmp_ge C0 66 dX4_firstDoneAhead_23 (by decide) (fun c_23 => ?_) (fun c_23 => ?_)
        · exact absurd c_23 (nI_ge (show i < 15 from hlt) (by decide))
        · refine y_aload_n C0 1 dX4_firstDoneAhead_26 rfl rfl ?_
          refine y_get C0 4 rfl rfl (by decide) hin4 0 ykd_54 (by decide) (by decide +kernel) yv4_now dX4_firstDoneAhead_27 ?_
          refine y_get C0 3 rfl rfl (by decide) hin3 0 ykd_now (by decide) (by decide +kernel) (yv3_books ykd_now) dX4_firstDoneAhead_30 ?_
          refine y_iload_n C0 0 dX4_firstDoneAhead_33 rfl rfl ?_
          refine y_aald C0 (i) 7 (ykd_w1 (Or.inl rfl)) (by decide) (by decide) rfl (by omega : i < 15) (yel_bk (Or.inl rfl)) dX4_firstDoneAhead_34 ?_
          refine y_get C0 0 rfl rfl (by decide) hin0 4 (ykd_bk (Or.inl rfl) (by omega : i < 15)) (by decide) (by decide +kernel) (yvi0 (ykd_bk (Or.inl rfl) (by omega : i < 15))) dX4_firstDoneAhead_35 ?_
          refine y_iconst (v := 5) C0 dX4_firstDoneAhead_38 (by decide) ?_
          refine y_icmp_ge C0 60 dX4_firstDoneAhead_39 (by decide) (fun c_39 => ?_) (fun c_39 => ?_)
          · refine y_iinc (v := nI (i + 1)) C0 0 [(1, _), (0, _)] dX4_firstDoneAhead_60 rfl (yinc_ok rfl rfl) (by decide) rfl ?_
            refine y_goto C0 2 dX4_firstDoneAhead_63 (by decide) ?_
            refine y_sub [0, 1] [(1, _), (0, _)] rfl ?_
            exact ih_2 _ (by omega) (i + 1) rfl hlt (fdA_a hfi (Int32.not_lt.mpr c_39))
          · refine y_aload_n C0 1 dX4_firstDoneAhead_42 rfl rfl ?_
            refine y_get C0 4 rfl rfl (by decide) hin4 1 ykd_54 (by decide) (by decide +kernel) yv4_ahead dX4_firstDoneAhead_43 ?_
            refine y_get C0 3 rfl rfl (by decide) hin3 0 ykd_ahead (by decide) (by decide +kernel) (yv3_books ykd_ahead) dX4_firstDoneAhead_46 ?_
            refine y_iload_n C0 0 dX4_firstDoneAhead_49 rfl rfl ?_
            refine y_aald C0 (i) 7 (ykd_w1 (Or.inr rfl)) (by decide) (by decide) rfl (by omega : i < 15) (yel_bk (Or.inr rfl)) dX4_firstDoneAhead_50 ?_
            refine y_get C0 0 rfl rfl (by decide) hin0 4 (ykd_bk (Or.inr rfl) (by omega : i < 15)) (by decide) (by decide +kernel) (yvi0 (ykd_bk (Or.inr rfl) (by omega : i < 15))) dX4_firstDoneAhead_51 ?_
            refine y_iconst (v := 5) C0 dX4_firstDoneAhead_54 (by decide) ?_
            refine y_icmp_ne C0 60 dX4_firstDoneAhead_55 (by decide) (fun c_55 => ?_) (fun c_55 => ?_)
            · refine y_iinc (v := nI (i + 1)) C0 0 [(1, _), (0, _)] dX4_firstDoneAhead_60 rfl (yinc_ok rfl rfl) (by decide) rfl ?_
              refine y_goto C0 2 dX4_firstDoneAhead_63 (by decide) ?_
              refine y_sub [0, 1] [(1, _), (0, _)] rfl ?_
              exact ih_2 _ (by omega) (i + 1) rfl hlt (fdA_b hfi c_55)
            · refine y_iload_n C0 0 dX4_firstDoneAhead_58 rfl rfl ?_
              exact y_iret C0 dX4_firstDoneAhead_59 (by rw [fdA_s hfi (Int32.not_le.mp c_39) c_55 hlt]) rfl
  refine y_sub [0, 1] [(1, _), (0, _)] rfl ?_
  exact hl_2 _ 0 rfl (Nat.zero_le _) rfl
abbrev rX4_next : Room := { frames := 5, cells := 0, slots := 0, locals := 125 }
set_option maxRecDepth 100000 in
set_option maxHeartbeats 4000000 in
theorem mX4_next (l : Launch) (D : va_G) (cy : Nat → ClassId) (adr : Nat → Nat) (M : yM)  (hsp : wSpOK M 0) : Ct l yX4_next wsX4_next rX4_next D cy adr [.ref (adr 54)] M (some (.int (nxR M))) (nxM M) 0 0 := by
  refine Ct.mk cX4_next 2 (some .int) RX4 (by decide) rfl rfl (Nat.le_of_ble_eq_true rfl) ?_
  intro K C0
  refine y_eq rfl (show ([(0, .ref (adr 54))] : List (Nat × Value)) = lv_args 0 [.ref (adr 54)] from rfl) rfl ?_
  have hin4 : ∀ w ∈ u_ws RX4 TX4 2, w ∈ wsX4_next := by decide +kernel
  refine y_aload_n C0 0 dX4_next_0 rfl rfl ?_
  refine y_get C0 4 rfl rfl (by decide) hin4 1 ykd_54 (by decide) (by decide +kernel) yv4_ahead dX4_next_1 ?_
  refine y_aload_n C0 0 dX4_next_4 rfl rfl ?_
  refine y_get C0 4 rfl rfl (by decide) hin4 0 ykd_54 (by decide) (by decide +kernel) yv4_now dX4_next_5 ?_
  refine y_callV (As := [_]) (rest := _) (n := 1) C0 (mX3_setTo l D cy adr _ 27 (Or.inr rfl) 0 (Or.inl rfl) (by decide)) 3 rfl (by decide) ykd_ahead gX4_next_X3_setTo rfl rfl rfl (by decide +kernel) ⟨by decide, by decide⟩ rfl rfl (Nat.le_of_ble_eq_true rfl) dX4_next_8 ⟨by decide, by decide⟩ ?_
  refine y_iconst (v := 1) C0 dX4_next_11 (by decide) ?_
  refine y_istore_n C0 [(1, _), (0, _)] dX4_next_12 rfl (by decide) rfl ?_
  have hl_13 : ∀ (n : Nat) (i : Nat), 250 - i = n → i ≤ 250 → hF (nxP M) i = none → Y K l rX4_next D cy adr 2 0 0 (QT K D cy adr (some (.int (nxR M))) (nxM M) 0 0) (wHours (wSet M 27 0) 27 i) [] [(1, .int (nI (i + 1))), (0, .ref (adr 54))] 13 [] := by
    intro n
    induction n using Nat.strongRecOn with
    | _ n ih_13 =>
      intro i hn_13 hi hfi
      refine y_iload_n C0 0 dX4_next_13 rfl rfl ?_
      refine y_sipush (v := 250) C0 dX4_next_14 (by decide) ?_
      refine y_icmp_gt C0 41 dX4_next_17 (by decide) (fun c_17 => ?_) (fun c_17 => ?_)
      · have he : i = 250 := by
          have h9 := (nI_ltI (a := 250) (b := i + 1) (by decide) (by omega)).mp c_17
          omega
        subst he
        refine y_iconst (v := (-1)) C0 dX4_next_41 (by decide) ?_
        exact y_iret C0 dX4_next_42 (by rw [(nx_none hfi).1]) (nx_none hfi).2.symm
      · have hlt : i < 250 := by
          rcases Nat.lt_or_ge i 250 with q | q
          · exact q
          · exact absurd (show nI 250 < nI (i + 1) from nI_lt (by omega) (by omega)) c_17
        have hsp9 := (wSpOK_cp hsp).out (wOut_hours (M := wSet M 27 0) (o := 27) i)
        refine y_aload_n C0 1 dX4_next_20 rfl rfl ?_
        refine y_get C0 4 rfl rfl (by decide) hin4 1 ykd_54 (by decide) (by decide +kernel) yv4_ahead dX4_next_21 ?_
        refine y_callV (As := []) (rest := _) (n := 0) C0 (mX3_letAnHourGo l D cy adr _ 27 (Or.inr rfl) hsp9) 3 rfl (by decide) ykd_ahead gX4_next_X3_letAnHourGo rfl rfl rfl (by decide +kernel) ⟨by decide, by decide⟩ rfl rfl (Nat.le_of_ble_eq_true rfl) dX4_next_24 ⟨by decide, by decide⟩ ?_
        refine y_if_le C0 35 dX4_next_27 (by decide) (fun c_27 => ?_) (fun c_27 => ?_)
        · refine y_iinc (v := nI (i + 1 + 1)) C0 0 [(1, _), (0, _)] dX4_next_35 rfl (yinc_ok rfl rfl) (by decide) rfl ?_
          refine y_goto C0 13 dX4_next_38 (by decide) ?_
          refine y_sub [0, 1] [(1, _), (0, _)] rfl ?_
          exact y_eq rfl (by first | rfl | simp [c_17, c_27]) rfl (ih_13 _ (by omega) (i + 1) rfl hlt (nx_no hfi c_27))
        · refine y_aload_n C0 1 dX4_next_30 rfl rfl ?_
          refine y_callV (As := []) (rest := _) (n := 0) C0 (mX4_firstDoneAhead l D cy adr _) 4 rfl (by decide) ykd_54 gX4_next_X4_firstDoneAhead rfl rfl rfl (by decide +kernel) ⟨by decide, by decide⟩ rfl rfl (Nat.le_of_ble_eq_true rfl) dX4_next_31 ⟨by decide, by decide⟩ ?_
          exact y_iret C0 dX4_next_34 (by rw [(nx_some hfi hlt c_27).1]; rfl) (nx_some hfi hlt c_27).2.symm
  refine y_sub [0, 1] [(1, _), (0, _)] rfl ?_
  exact hl_13 _ 0 rfl (Nat.zero_le _) rfl
abbrev rX4_sewnAheadWith : Room := { frames := 6, cells := 0, slots := 0, locals := 148 }
set_option maxRecDepth 100000 in
set_option maxHeartbeats 4000000 in
theorem mX4_sewnAheadWith (l : Launch) (D : va_G) (cy : Nat → ClassId) (adr : Nat → Nat) (M : yM) (x : Int32) (f : Int32) (hk : okS M x = none) (hsp : wSpOK M 0) : Ct l yX4_sewnAheadWith wsX4_sewnAheadWith rX4_sewnAheadWith D cy adr [.ref (adr 54), .int x, .int f] M (some (.int (saR M (cN x) f))) (saM M (cN x) f) 0 0 := by
  refine Ct.mk cX4_sewnAheadWith 4 (some .int) RX4 (by decide) rfl rfl (Nat.le_of_ble_eq_true rfl) ?_
  intro K C0
  refine y_eq rfl (show ([(0, .ref (adr 54)), (1, .int x), (2, .int f)] : List (Nat × Value)) = lv_args 0 [.ref (adr 54), .int x, .int f] from rfl) rfl ?_
  have hin2 : ∀ w ∈ u_ws RX2 TX2 3, w ∈ wsX4_sewnAheadWith := by decide +kernel
  have hin3 : ∀ w ∈ u_ws RX3 TX3 12, w ∈ wsX4_sewnAheadWith := by decide +kernel
  have hin4 : ∀ w ∈ u_ws RX4 TX4 2, w ∈ wsX4_sewnAheadWith := by decide +kernel
  refine y_aload_n C0 0 dX4_sewnAheadWith_0 rfl rfl ?_
  refine y_get C0 4 rfl rfl (by decide) hin4 1 ykd_54 (by decide) (by decide +kernel) yv4_ahead dX4_sewnAheadWith_1 ?_
  refine y_aload_n C0 0 dX4_sewnAheadWith_4 rfl rfl ?_
  refine y_get C0 4 rfl rfl (by decide) hin4 0 ykd_54 (by decide) (by decide +kernel) yv4_now dX4_sewnAheadWith_5 ?_
  refine y_callV (As := [_]) (rest := _) (n := 1) C0 (mX3_setTo l D cy adr _ 27 (Or.inr rfl) 0 (Or.inl rfl) (by decide)) 3 rfl (by decide) ykd_ahead gX4_sewnAheadWith_X3_setTo rfl rfl rfl (by decide +kernel) ⟨by decide, by decide⟩ rfl rfl (Nat.le_of_ble_eq_true rfl) dX4_sewnAheadWith_8 ⟨by decide, by decide⟩ ?_
  refine y_aload_n C0 0 dX4_sewnAheadWith_11 rfl rfl ?_
  refine y_get C0 4 rfl rfl (by decide) hin4 1 ykd_54 (by decide) (by decide +kernel) yv4_ahead dX4_sewnAheadWith_12 ?_
  refine y_iload_n C0 1 dX4_sewnAheadWith_15 rfl rfl ?_
  obtain ⟨hb, eb, hcb⟩ := okS_e hk
  refine y_top eb ?_
  refine y_callV (As := [_]) (rest := _) (n := 1) C0 (mX3_sewerNumbered l D cy adr _ 27 (Or.inr rfl) (cN x) hb (by rw [wSet_4]; exact hcb)) 3 rfl (by decide) ykd_ahead gX4_sewnAheadWith_X3_sewerNumbered rfl rfl rfl (by decide +kernel) ⟨by decide, by decide⟩ rfl rfl (Nat.le_of_ble_eq_true rfl) dX4_sewnAheadWith_16 ⟨by decide, by decide⟩ ?_
  refine y_astore_n C0 [(3, _), (0, _), (1, _), (2, _)] dX4_sewnAheadWith_19 rfl (by decide) rfl ?_
  refine y_aload_n C0 0 dX4_sewnAheadWith_20 rfl rfl ?_
  refine y_ifnull C0 dX4_sewnAheadWith_21 ?_
  refine y_aload_n C0 0 dX4_sewnAheadWith_24 rfl rfl ?_
  refine y_iload_n C0 3 dX4_sewnAheadWith_25 rfl rfl ?_
  refine y_put C0 2 rfl rfl (by decide) hin2 tyX2 tyX2_ok nmX2 2 (ykd_sw (Or.inr rfl) hb) (by decide) (by decide +kernel) (yrn2 (ykd_sw (Or.inr rfl) hb)) rfl (by decide +kernel) dX4_sewnAheadWith_26 ?_
  refine y_aload_n C0 1 dX4_sewnAheadWith_29 rfl rfl ?_
  refine y_get C0 4 rfl rfl (by decide) hin4 1 ykd_54 (by decide) (by decide +kernel) yv4_ahead dX4_sewnAheadWith_30 ?_
  refine y_bipush (v := 12) C0 dX4_sewnAheadWith_33 (by decide) ?_
  refine y_callV (As := [_]) (rest := _) (n := 1) C0 (mX3_letHoursGo l D cy adr (saA M (cN x) f) 27 (Or.inr rfl) _ (wSpOK_sa hsp)) 3 rfl (by decide) ykd_ahead gX4_sewnAheadWith_X3_letHoursGo rfl rfl rfl (by decide +kernel) ⟨by decide, by decide⟩ rfl rfl (Nat.le_of_ble_eq_true rfl) dX4_sewnAheadWith_35 ⟨by decide, by decide⟩ ?_
  refine y_mem (M' := saM M (cN x) f) (congrArg (wHours (saA M (cN x) f) 27) (show (12 : Int32).toNatClampNeg = 12 by decide)) ?_
  refine y_pop C0 dX4_sewnAheadWith_38 rfl ?_
  refine y_aload_n C0 1 dX4_sewnAheadWith_39 rfl rfl ?_
  refine y_get C0 4 rfl rfl (by decide) hin4 1 ykd_54 (by decide) (by decide +kernel) yv4_ahead dX4_sewnAheadWith_40 ?_
  refine y_get C0 3 rfl rfl (by decide) hin3 10 ykd_ahead (by decide) (by decide +kernel) (yvi3 ykd_ahead (by decide)) dX4_sewnAheadWith_43 ?_
  exact y_iret C0 dX4_sewnAheadWith_46 rfl rfl
abbrev rX4_advise : Room := { frames := 7, cells := 1, slots := 6, locals := 171 }
set_option maxRecDepth 100000 in
set_option maxHeartbeats 4000000 in
theorem mX4_advise (l : Launch) (hlf : l.stackTraces = false) (D : va_G) (cy : Nat → ClassId) (adr : Nat → Nat) (M : yM) (x : Int32) (hsp : wSpOK M 0) : Cv l yX4_advise wsX4_advise rX4_advise D cy adr [.ref (adr 54), .int x] M (okS M x) (some (.int (adB M x 3))) (mo (okS M x) (adM M x 3) M) 1 6 := by
  refine Cv.mk cX4_advise 6 (some .int) RX4 (by decide) rfl rfl (Nat.le_of_ble_eq_true rfl) ?_
  intro K C0 hX hT
  refine y_eq rfl (show ([(0, .ref (adr 54)), (1, .int x)] : List (Nat × Value)) = lv_args 0 [.ref (adr 54), .int x] from rfl) rfl ?_
  have hin4 : ∀ w ∈ u_ws RX4 TX4 2, w ∈ wsX4_advise := by decide +kernel
  refine y_aload_n C0 0 dX4_advise_0 rfl rfl ?_
  refine y_iload_n C0 1 dX4_advise_1 rfl rfl ?_
  refine y_callVX (As := [_]) (rest := _) (n := 1) C0 hX hT (mX4_knownSewer l hlf D cy adr _ _) 4 rfl (by decide) ykd_54 gX4_advise_X4_knownSewer rfl rfl rfl (by decide +kernel) ⟨by decide, by decide⟩ rfl rfl (Nat.le_of_ble_eq_true rfl) dX4_advise_2 ⟨by decide, by decide⟩ (fun Ex hE => ⟨by simp [thn, hE], mo_t (e := Ex) (by simp [thn, hE])⟩) (by decide) (by decide) (fun k_2 => ?_)
  refine y_pop C0 dX4_advise_5 rfl ?_
  have ho9 := k_2
  refine y_ok ho9 ?_
  refine y_widen (k := 1) (n := 6) (by decide) (by decide) ?_
  refine y_iconst (v := (-1)) C0 dX4_advise_6 (by decide) ?_
  refine y_istore_n C0 [(2, _), (0, _), (1, _)] dX4_advise_7 rfl (by decide) rfl ?_
  refine y_iconst (v := (-1)) C0 dX4_advise_8 (by decide) ?_
  refine y_istore_n C0 [(3, _), (2, _), (0, _), (1, _)] dX4_advise_9 rfl (by decide) rfl ?_
  refine y_iconst (v := 0) C0 dX4_advise_10 (by decide) ?_
  refine y_istore C0 [(4, _), (3, _), (2, _), (0, _), (1, _)] dX4_advise_11 (by decide) rfl ?_
  have hl_13 : ∀ (n : Nat) (i : Nat), 3 - i = n → i ≤ 3 → Y K l rX4_advise D cy adr 6 1 6 (QT K D cy adr (some (.int (adB M x 3))) (mo (okS M x) (adM M x 3) M) 1 6) (adM M x i) [] [(4, .int (nI i)), (3, .int (adT M x i)), (2, .int (adB M x i)), (1, .int x), (0, .ref (adr 54))] 13 [] := by
    intro n
    induction n using Nat.strongRecOn with
    | _ n ih_13 =>
      intro i hn_13 hi
      refine y_iload C0 0 dX4_advise_13 rfl ?_
      refine y_iconst (v := 3) C0 dX4_advise_15 (by decide) ?_
      refine y_icmp_ge C0 60 dX4_advise_16 (by decide) (fun c_16 => ?_) (fun c_16 => ?_)
      · have he := ct_end (N := 3) (by decide) hi c_16
        subst he
        refine y_iload_n C0 2 dX4_advise_60 rfl rfl ?_
        exact y_iret C0 dX4_advise_61 rfl (mo_n ho9 rfl)
      · have hlt := ct_lt (N := 3) (by decide) hi c_16
        have hno := nOut_adM (M := M) (x := x) (okS_e ho9).1 i
        refine y_aload_n C0 4 dX4_advise_19 rfl rfl ?_
        refine y_get C0 4 rfl rfl (by decide) hin4 0 ykd_54 (by decide) (by decide +kernel) yv4_now dX4_advise_20 ?_
        refine y_iload C0 0 dX4_advise_23 rfl ?_
        refine y_iload_n C0 3 dX4_advise_25 rfl rfl ?_
        refine y_callV (As := [_, _]) (rest := _) (n := 2) C0 (mX3_othersAt l D cy adr _ 0 (Or.inl rfl) _ _) 3 rfl (by decide) ykd_now gX4_advise_X3_othersAt rfl rfl rfl (by decide +kernel) ⟨by decide, by decide⟩ rfl rfl (Nat.le_of_ble_eq_true rfl) dX4_advise_26 ⟨by decide, by decide⟩ ?_
        refine y_iconst (v := 2) C0 dX4_advise_29 (by decide) ?_
        refine y_icmp_ge C0 54 dX4_advise_30 (by decide) (fun c_30 => ?_) (fun c_30 => ?_)
        · refine y_iinc (v := nI (i + 1)) C0 0 [(4, _), (3, _), (2, _), (1, _), (0, _)] dX4_advise_54 rfl (yinc_ok rfl rfl) (by decide) rfl ?_
          refine y_goto C0 13 dX4_advise_57 (by decide) ?_
          refine y_sub [0, 1, 2, 3, 4] [(4, _), (3, _), (2, _), (1, _), (0, _)] rfl ?_
          exact y_eq (by simp only [adM, k_2, c_16, c_30, if_true, if_false]) (by simp only [adT, adB, k_2, c_16, c_30, if_true, if_false]) rfl (ih_13 _ (by omega) (i + 1) rfl hlt)
        · refine y_aload_n C0 4 dX4_advise_33 rfl rfl ?_
          refine y_iload_n C0 3 dX4_advise_34 rfl rfl ?_
          refine y_iload C0 0 dX4_advise_35 rfl ?_
          refine y_callV (As := [_, _]) (rest := _) (n := 2) C0 (mX4_sewnAheadWith l D cy adr _ _ _ ((okS_out hno).trans ho9) (wSpOK_n hsp hno)) 4 rfl (by decide) ykd_54 gX4_advise_X4_sewnAheadWith rfl rfl rfl (by decide +kernel) ⟨by decide, by decide⟩ rfl rfl (Nat.le_of_ble_eq_true rfl) dX4_advise_37 ⟨by decide, by decide⟩ ?_
          refine y_istore C0 [(5, _), (4, _), (3, _), (2, _), (1, _), (0, _)] dX4_advise_40 (by decide) rfl ?_
          refine y_iload C0 0 dX4_advise_42 rfl ?_
          refine y_iload_n C0 2 dX4_advise_44 rfl rfl ?_
          refine y_icmp_le C0 54 dX4_advise_45 (by decide) (fun c_45 => ?_) (fun c_45 => ?_)
          · refine y_iinc (v := nI (i + 1)) C0 1 [(4, _), (5, _), (3, _), (2, _), (1, _), (0, _)] dX4_advise_54 rfl (yinc_ok rfl rfl) (by decide) rfl ?_
            refine y_goto C0 13 dX4_advise_57 (by decide) ?_
            refine y_sub [0, 2, 3, 4, 5] [(4, _), (3, _), (2, _), (1, _), (0, _)] rfl ?_
            exact y_eq (by simp only [adM, k_2, c_16, c_30, c_45, if_true, if_false]) (by simp only [adT, adB, k_2, c_16, c_30, c_45, if_true, if_false]) rfl (ih_13 _ (by omega) (i + 1) rfl hlt)
          · refine y_iload C0 0 dX4_advise_48 rfl ?_
            refine y_istore_n C0 [(3, _), (5, _), (4, _), (2, _), (1, _), (0, _)] dX4_advise_50 rfl (by decide) rfl ?_
            refine y_iload C0 2 dX4_advise_51 rfl ?_
            refine y_istore_n C0 [(2, _), (3, _), (5, _), (4, _), (1, _), (0, _)] dX4_advise_53 rfl (by decide) rfl ?_
            refine y_iinc (v := nI (i + 1)) C0 3 [(4, _), (2, _), (3, _), (5, _), (1, _), (0, _)] dX4_advise_54 rfl (yinc_ok rfl rfl) (by decide) rfl ?_
            refine y_goto C0 13 dX4_advise_57 (by decide) ?_
            refine y_sub [0, 2, 1, 4, 5] [(4, _), (3, _), (2, _), (1, _), (0, _)] rfl ?_
            exact y_eq (by simp only [adM, k_2, c_16, c_30, c_45, if_true, if_false]) (by simp only [adT, adB, k_2, c_16, c_30, c_45, if_true, if_false]) rfl (ih_13 _ (by omega) (i + 1) rfl hlt)
  refine y_sub [0, 1, 2, 4, 3] [(4, _), (3, _), (2, _), (1, _), (0, _)] rfl ?_
  exact hl_13 _ 0 rfl (Nat.zero_le _)
abbrev rX4_digest : Room := { frames := 4, cells := 0, slots := 0, locals := 98 }
set_option maxRecDepth 100000 in
set_option maxHeartbeats 4000000 in
theorem mX4_digest (l : Launch) (D : va_G) (cy : Nat → ClassId) (adr : Nat → Nat) (M : yM)  (B S : Nat) (hB : B ≤ 15) (hS : S ≤ 5) (eB : M 0 3 = nI B) (eS : M 0 4 = nI S) : Ct l yX4_digest wsX4_digest rX4_digest D cy adr [.ref (adr 54)] M (some (.long (dgBs M S B))) (M) 0 0 := by
  refine Ct.mk cX4_digest 8 (some .long) RX4 (by decide) rfl rfl (Nat.le_of_ble_eq_true rfl) ?_
  intro K C0
  refine y_eq rfl (show ([(0, .ref (adr 54))] : List (Nat × Value)) = lv_args 0 [.ref (adr 54)] from rfl) rfl ?_
  have hin3 : ∀ w ∈ u_ws RX3 TX3 12, w ∈ wsX4_digest := by decide +kernel
  have hin4 : ∀ w ∈ u_ws RX4 TX4 2, w ∈ wsX4_digest := by decide +kernel
  refine y_ldc2 (v := 1367) C0 (by decide +kernel) dX4_digest_0 ?_
  refine y_lstore_n C0 [(1, _), (0, _)] dX4_digest_3 rfl (by decide) rfl ?_
  refine y_iconst (v := 0) C0 dX4_digest_4 (by decide) ?_
  refine y_istore_n C0 [(3, _), (1, _), (0, _)] dX4_digest_5 rfl (by decide) rfl ?_
  have hl_6 : ∀ (n : Nat) (j : Nat), 15 - j = n → j ≤ 15 → Y K l rX4_digest D cy adr 8 0 0 (QT K D cy adr (some (.long (dgBs M S B))) (M) 0 0) M [] [(3, .int (nI j)), (1, .long (dgA M j)), (0, .ref (adr 54))] 6 [] := by
    intro n
    induction n using Nat.strongRecOn with
    | _ n ih_6 =>
      intro j hn_6 hj
      refine y_iload_n C0 0 dX4_digest_6 rfl rfl ?_
      refine y_bipush (v := 15) C0 dX4_digest_7 (by decide) ?_
      refine y_icmp_ge C0 34 dX4_digest_9 (by decide) (fun c_9 => ?_) (fun c_9 => ?_)
      · have hej := ct_end (N := 15) (by decide) hj c_9
        subst hej
        refine y_aload_n C0 2 dX4_digest_34 rfl rfl ?_
        refine y_get C0 4 rfl rfl (by decide) hin4 0 ykd_54 (by decide) (by decide +kernel) yv4_now dX4_digest_35 ?_
        refine y_get C0 3 rfl rfl (by decide) hin3 2 ykd_now (by decide) (by decide +kernel) (yv3_frames ykd_now) dX4_digest_38 ?_
        refine y_astore_n C0 [(3, _), (1, _), (0, _)] dX4_digest_41 rfl (by decide) rfl ?_
        refine y_aload_n C0 0 dX4_digest_42 rfl rfl ?_
        refine y_alen C0 9 (ykd_w3 (Or.inl rfl)) (by decide) (by decide) dX4_digest_43 ?_
        refine y_istore C0 [(4, _), (3, _), (1, _), (0, _)] dX4_digest_44 (by decide) rfl ?_
        refine y_iconst (v := 0) C0 dX4_digest_46 (by decide) ?_
        refine y_istore C0 [(5, _), (4, _), (3, _), (1, _), (0, _)] dX4_digest_47 (by decide) rfl ?_
        have hl_49 : ∀ (n : Nat) (i : Nat), 3 - i = n → i ≤ 3 → Y K l rX4_digest D cy adr 8 0 0 (QT K D cy adr (some (.long (dgBs M S B))) (M) 0 0) M [] [(5, .int (nI i)), (4, .int (nI 3)), (3, .ref (adr (0 + 3))), (1, .long (dgFs M i)), (0, .ref (adr 54))] 49 [] := by
          intro n
          induction n using Nat.strongRecOn with
          | _ n ih_49 =>
            intro i hn_49 hi
            refine y_iload C0 0 dX4_digest_49 rfl ?_
            refine y_iload C0 1 dX4_digest_51 rfl ?_
            refine y_icmp_ge C0 103 dX4_digest_53 (by decide) (fun c_53 => ?_) (fun c_53 => ?_)
            · have hei := ct_end (N := 3) (by decide) hi c_53
              subst hei
              refine y_iconst (v := 0) C0 dX4_digest_103 (by decide) ?_
              refine y_istore_n C0 [(3, _), (5, _), (4, _), (1, _), (0, _)] dX4_digest_104 rfl (by decide) rfl ?_
              have hl_105 : ∀ (n : Nat) (i : Nat), S - i = n → i ≤ S → Y K l rX4_digest D cy adr 8 0 0 (QT K D cy adr (some (.long (dgBs M S B))) (M) 0 0) M [] [(3, .int (nI i)), (1, .long (dgSs M i)), (0, .ref (adr 54))] 105 [] := by
                intro n
                induction n using Nat.strongRecOn with
                | _ n ih_105 =>
                  intro i hn_105 hi
                  refine y_iload_n C0 0 dX4_digest_105 rfl rfl ?_
                  refine y_aload_n C0 2 dX4_digest_106 rfl rfl ?_
                  refine y_get C0 4 rfl rfl (by decide) hin4 0 ykd_54 (by decide) (by decide +kernel) yv4_now dX4_digest_107 ?_
                  refine y_get C0 3 rfl rfl (by decide) hin3 1 ykd_now (by decide) (by decide +kernel) (yv3_sewers ykd_now) dX4_digest_110 ?_
                  refine y_alen C0 8 (ykd_w2 (Or.inl rfl)) (by decide) (by decide) dX4_digest_113 ?_
                  refine y_icmp_ge C0 171 dX4_digest_114 (by decide) (fun c_114 => ?_) (fun c_114 => ?_)
                  · have hei : S = i := by
                      have h9 := (nI_leI (a := 5) (b := i) (by decide) (by omega)).mp c_114
                      omega
                    subst hei
                    refine y_iconst (v := 0) C0 dX4_digest_171 (by decide) ?_
                    refine y_istore_n C0 [(3, _), (1, _), (0, _)] dX4_digest_172 rfl (by decide) rfl ?_
                    have hl_173 : ∀ (n : Nat) (i : Nat), B - i = n → i ≤ B → Y K l rX4_digest D cy adr 8 0 0 (QT K D cy adr (some (.long (dgBs M S B))) (M) 0 0) M [] [(3, .int (nI i)), (1, .long (dgBs M S i)), (0, .ref (adr 54))] 173 [] := by
                      intro n
                      induction n using Nat.strongRecOn with
                      | _ n ih_173 =>
                        intro i hn_173 hi
                        refine y_iload_n C0 0 dX4_digest_173 rfl rfl ?_
                        refine y_aload_n C0 2 dX4_digest_174 rfl rfl ?_
                        refine y_get C0 4 rfl rfl (by decide) hin4 0 ykd_54 (by decide) (by decide +kernel) yv4_now dX4_digest_175 ?_
                        refine y_get C0 3 rfl rfl (by decide) hin3 0 ykd_now (by decide) (by decide +kernel) (yv3_books ykd_now) dX4_digest_178 ?_
                        refine y_alen C0 7 (ykd_w1 (Or.inl rfl)) (by decide) (by decide) dX4_digest_181 ?_
                        refine y_icmp_ge C0 240 dX4_digest_182 (by decide) (fun c_182 => ?_) (fun c_182 => ?_)
                        · have hei : B = i := by
                            have h9 := (nI_leI (a := 15) (b := i) (by decide) (by omega)).mp c_182
                            omega
                          subst hei
                          refine y_lload_n C0 1 dX4_digest_240 rfl rfl ?_
                          exact y_lret C0 dX4_digest_241 rfl rfl
                        · refine y_iload_n C0 0 dX4_digest_185 rfl rfl ?_
                          refine y_aload_n C0 2 dX4_digest_186 rfl rfl ?_
                          refine y_get C0 4 rfl rfl (by decide) hin4 0 ykd_54 (by decide) (by decide +kernel) yv4_now dX4_digest_187 ?_
                          refine y_get C0 3 rfl rfl (by decide) hin3 3 ykd_now (by decide) (by decide +kernel) (yvi3 ykd_now (by decide)) dX4_digest_190 ?_
                          refine y_icmp_ge C0 240 dX4_digest_193 (by decide) (fun c_193 => ?_) (fun c_193 => ?_)
                          · have hei : B = i := by
                              rw [eB] at c_193
                              exact (ct_end (by omega) hi c_193).symm
                            subst hei
                            refine y_lload_n C0 1 dX4_digest_240 rfl rfl ?_
                            exact y_lret C0 dX4_digest_241 rfl rfl
                          · rw [eB] at c_193
                            have hli := ct_lt (N := B) (by omega) hi c_193
                            refine y_iconst (v := 0) C0 dX4_digest_196 (by decide) ?_
                            refine y_istore C0 [(4, _), (3, _), (1, _), (0, _)] dX4_digest_197 (by decide) rfl ?_
                            have hl_199 : ∀ (n : Nat) (j : Nat), 11 - j = n → j ≤ 11 → Y K l rX4_digest D cy adr 8 0 0 (QT K D cy adr (some (.long (dgBs M S B))) (M) 0 0) M [] [(4, .int (nI j)), (3, .int (nI i)), (1, .long (dgB M S (dgBs M S i) i j)), (0, .ref (adr 54))] 199 [] := by
                              intro n
                              induction n using Nat.strongRecOn with
                              | _ n ih_199 =>
                                intro j hn_199 hj
                                refine y_iload C0 0 dX4_digest_199 rfl ?_
                                refine y_bipush (v := 11) C0 dX4_digest_201 (by decide) ?_
                                refine y_icmp_ge C0 234 dX4_digest_203 (by decide) (fun c_203 => ?_) (fun c_203 => ?_)
                                · have hej := ct_end (N := 11) (by decide) hj c_203
                                  subst hej
                                  refine y_iinc (v := nI (i + 1)) C0 1 [(3, _), (4, _), (1, _), (0, _)] dX4_digest_234 rfl (yinc_ok rfl rfl) (by decide) rfl ?_
                                  refine y_goto C0 173 dX4_digest_237 (by decide) ?_
                                  refine y_sub [0, 2, 3] [(3, _), (1, _), (0, _)] rfl ?_
                                  exact y_eq rfl rfl rfl (ih_173 _ (by omega) (i + 1) rfl hli)
                                · have hlj := ct_lt (N := 11) (by decide) hj c_203
                                  refine y_lload_n C0 2 dX4_digest_206 rfl rfl ?_
                                  refine y_ldc2 (v := 31) C0 (by decide +kernel) dX4_digest_207 ?_
                                  refine y_lmul C0 dX4_digest_210 ?_
                                  refine y_aload_n C0 3 dX4_digest_211 rfl rfl ?_
                                  refine y_get C0 4 rfl rfl (by decide) hin4 0 ykd_54 (by decide) (by decide +kernel) yv4_now dX4_digest_212 ?_
                                  refine y_get C0 3 rfl rfl (by decide) hin3 0 ykd_now (by decide) (by decide +kernel) (yv3_books ykd_now) dX4_digest_215 ?_
                                  refine y_iload_n C0 1 dX4_digest_218 rfl rfl ?_
                                  refine y_aald C0 (i) 7 (ykd_w1 (Or.inl rfl)) (by decide) (by decide) rfl (by omega : i < 15) (yel_bk (Or.inl rfl)) dX4_digest_219 ?_
                                  refine y_iload C0 0 dX4_digest_220 rfl ?_
                                  refine y_callV (As := [_]) (rest := _) (n := 1) C0 (mX0_tell l D cy adr _ _ (ykd_bk (Or.inl rfl) (by omega)) _) 0 rfl (by decide) (ykd_bk (Or.inl rfl) (by omega : i < 15)) gX4_digest_X0_tell rfl rfl rfl (by decide +kernel) ⟨by decide, by decide⟩ rfl rfl (Nat.le_of_ble_eq_true rfl) dX4_digest_222 ⟨by decide, by decide⟩ ?_
                                  refine y_i2l C0 dX4_digest_225 ?_
                                  refine y_ladd C0 dX4_digest_226 ?_
                                  refine y_lstore_n C0 [(1, _), (4, _), (3, _), (0, _)] dX4_digest_227 rfl (by decide) rfl ?_
                                  refine y_iinc (v := nI (j + 1)) C0 1 [(4, _), (1, _), (3, _), (0, _)] dX4_digest_228 rfl (yinc_ok rfl rfl) (by decide) rfl ?_
                                  refine y_goto C0 199 dX4_digest_231 (by decide) ?_
                                  refine y_sub [0, 2, 1, 3] [(4, _), (3, _), (1, _), (0, _)] rfl ?_
                                  exact y_eq rfl rfl rfl (ih_199 _ (by omega) (j + 1) rfl hlj)
                            refine y_sub [0, 1, 2, 3] [(4, _), (3, _), (1, _), (0, _)] rfl ?_
                            exact hl_199 _ 0 rfl (Nat.zero_le _)
                    refine y_sub [0, 1, 2] [(3, _), (1, _), (0, _)] rfl ?_
                    exact hl_173 _ 0 rfl (Nat.zero_le _)
                  · refine y_iload_n C0 0 dX4_digest_117 rfl rfl ?_
                    refine y_aload_n C0 2 dX4_digest_118 rfl rfl ?_
                    refine y_get C0 4 rfl rfl (by decide) hin4 0 ykd_54 (by decide) (by decide +kernel) yv4_now dX4_digest_119 ?_
                    refine y_get C0 3 rfl rfl (by decide) hin3 4 ykd_now (by decide) (by decide +kernel) (yvi3 ykd_now (by decide)) dX4_digest_122 ?_
                    refine y_icmp_ge C0 171 dX4_digest_125 (by decide) (fun c_125 => ?_) (fun c_125 => ?_)
                    · have hei : S = i := by
                        rw [eS] at c_125
                        exact (ct_end (by omega) hi c_125).symm
                      subst hei
                      refine y_iconst (v := 0) C0 dX4_digest_171 (by decide) ?_
                      refine y_istore_n C0 [(3, _), (1, _), (0, _)] dX4_digest_172 rfl (by decide) rfl ?_
                      have hl_173 : ∀ (n : Nat) (i : Nat), B - i = n → i ≤ B → Y K l rX4_digest D cy adr 8 0 0 (QT K D cy adr (some (.long (dgBs M S B))) (M) 0 0) M [] [(3, .int (nI i)), (1, .long (dgBs M S i)), (0, .ref (adr 54))] 173 [] := by
                        intro n
                        induction n using Nat.strongRecOn with
                        | _ n ih_173 =>
                          intro i hn_173 hi
                          refine y_iload_n C0 0 dX4_digest_173 rfl rfl ?_
                          refine y_aload_n C0 2 dX4_digest_174 rfl rfl ?_
                          refine y_get C0 4 rfl rfl (by decide) hin4 0 ykd_54 (by decide) (by decide +kernel) yv4_now dX4_digest_175 ?_
                          refine y_get C0 3 rfl rfl (by decide) hin3 0 ykd_now (by decide) (by decide +kernel) (yv3_books ykd_now) dX4_digest_178 ?_
                          refine y_alen C0 7 (ykd_w1 (Or.inl rfl)) (by decide) (by decide) dX4_digest_181 ?_
                          refine y_icmp_ge C0 240 dX4_digest_182 (by decide) (fun c_182 => ?_) (fun c_182 => ?_)
                          · have hei : B = i := by
                              have h9 := (nI_leI (a := 15) (b := i) (by decide) (by omega)).mp c_182
                              omega
                            subst hei
                            refine y_lload_n C0 1 dX4_digest_240 rfl rfl ?_
                            exact y_lret C0 dX4_digest_241 rfl rfl
                          · refine y_iload_n C0 0 dX4_digest_185 rfl rfl ?_
                            refine y_aload_n C0 2 dX4_digest_186 rfl rfl ?_
                            refine y_get C0 4 rfl rfl (by decide) hin4 0 ykd_54 (by decide) (by decide +kernel) yv4_now dX4_digest_187 ?_
                            refine y_get C0 3 rfl rfl (by decide) hin3 3 ykd_now (by decide) (by decide +kernel) (yvi3 ykd_now (by decide)) dX4_digest_190 ?_
                            refine y_icmp_ge C0 240 dX4_digest_193 (by decide) (fun c_193 => ?_) (fun c_193 => ?_)
                            · have hei : B = i := by
                                rw [eB] at c_193
                                exact (ct_end (by omega) hi c_193).symm
                              subst hei
                              refine y_lload_n C0 1 dX4_digest_240 rfl rfl ?_
                              exact y_lret C0 dX4_digest_241 rfl rfl
                            · rw [eB] at c_193
                              have hli := ct_lt (N := B) (by omega) hi c_193
                              refine y_iconst (v := 0) C0 dX4_digest_196 (by decide) ?_
                              refine y_istore C0 [(4, _), (3, _), (1, _), (0, _)] dX4_digest_197 (by decide) rfl ?_
                              have hl_199 : ∀ (n : Nat) (j : Nat), 11 - j = n → j ≤ 11 → Y K l rX4_digest D cy adr 8 0 0 (QT K D cy adr (some (.long (dgBs M S B))) (M) 0 0) M [] [(4, .int (nI j)), (3, .int (nI i)), (1, .long (dgB M S (dgBs M S i) i j)), (0, .ref (adr 54))] 199 [] := by
                                intro n
                                induction n using Nat.strongRecOn with
                                | _ n ih_199 =>
                                  intro j hn_199 hj
                                  refine y_iload C0 0 dX4_digest_199 rfl ?_
                                  refine y_bipush (v := 11) C0 dX4_digest_201 (by decide) ?_
                                  refine y_icmp_ge C0 234 dX4_digest_203 (by decide) (fun c_203 => ?_) (fun c_203 => ?_)
                                  · have hej := ct_end (N := 11) (by decide) hj c_203
                                    subst hej
                                    refine y_iinc (v := nI (i + 1)) C0 1 [(3, _), (4, _), (1, _), (0, _)] dX4_digest_234 rfl (yinc_ok rfl rfl) (by decide) rfl ?_
                                    refine y_goto C0 173 dX4_digest_237 (by decide) ?_
                                    refine y_sub [0, 2, 3] [(3, _), (1, _), (0, _)] rfl ?_
                                    exact y_eq rfl rfl rfl (ih_173 _ (by omega) (i + 1) rfl hli)
                                  · have hlj := ct_lt (N := 11) (by decide) hj c_203
                                    refine y_lload_n C0 2 dX4_digest_206 rfl rfl ?_
                                    refine y_ldc2 (v := 31) C0 (by decide +kernel) dX4_digest_207 ?_
                                    refine y_lmul C0 dX4_digest_210 ?_
                                    refine y_aload_n C0 3 dX4_digest_211 rfl rfl ?_
                                    refine y_get C0 4 rfl rfl (by decide) hin4 0 ykd_54 (by decide) (by decide +kernel) yv4_now dX4_digest_212 ?_
                                    refine y_get C0 3 rfl rfl (by decide) hin3 0 ykd_now (by decide) (by decide +kernel) (yv3_books ykd_now) dX4_digest_215 ?_
                                    refine y_iload_n C0 1 dX4_digest_218 rfl rfl ?_
                                    refine y_aald C0 (i) 7 (ykd_w1 (Or.inl rfl)) (by decide) (by decide) rfl (by omega : i < 15) (yel_bk (Or.inl rfl)) dX4_digest_219 ?_
                                    refine y_iload C0 0 dX4_digest_220 rfl ?_
                                    refine y_callV (As := [_]) (rest := _) (n := 1) C0 (mX0_tell l D cy adr _ _ (ykd_bk (Or.inl rfl) (by omega)) _) 0 rfl (by decide) (ykd_bk (Or.inl rfl) (by omega : i < 15)) gX4_digest_X0_tell rfl rfl rfl (by decide +kernel) ⟨by decide, by decide⟩ rfl rfl (Nat.le_of_ble_eq_true rfl) dX4_digest_222 ⟨by decide, by decide⟩ ?_
                                    refine y_i2l C0 dX4_digest_225 ?_
                                    refine y_ladd C0 dX4_digest_226 ?_
                                    refine y_lstore_n C0 [(1, _), (4, _), (3, _), (0, _)] dX4_digest_227 rfl (by decide) rfl ?_
                                    refine y_iinc (v := nI (j + 1)) C0 1 [(4, _), (1, _), (3, _), (0, _)] dX4_digest_228 rfl (yinc_ok rfl rfl) (by decide) rfl ?_
                                    refine y_goto C0 199 dX4_digest_231 (by decide) ?_
                                    refine y_sub [0, 2, 1, 3] [(4, _), (3, _), (1, _), (0, _)] rfl ?_
                                    exact y_eq rfl rfl rfl (ih_199 _ (by omega) (j + 1) rfl hlj)
                              refine y_sub [0, 1, 2, 3] [(4, _), (3, _), (1, _), (0, _)] rfl ?_
                              exact hl_199 _ 0 rfl (Nat.zero_le _)
                      refine y_sub [0, 1, 2] [(3, _), (1, _), (0, _)] rfl ?_
                      exact hl_173 _ 0 rfl (Nat.zero_le _)
                    · rw [eS] at c_125
                      have hli := ct_lt (N := S) (by omega) hi c_125
                      refine y_iconst (v := 0) C0 dX4_digest_128 (by decide) ?_
                      refine y_istore C0 [(4, _), (3, _), (1, _), (0, _)] dX4_digest_129 (by decide) rfl ?_
                      have hl_131 : ∀ (n : Nat) (j : Nat), 2 - j = n → j ≤ 2 → Y K l rX4_digest D cy adr 8 0 0 (QT K D cy adr (some (.long (dgBs M S B))) (M) 0 0) M [] [(4, .int (nI j)), (3, .int (nI i)), (1, .long (dgS M (dgSs M i) i j)), (0, .ref (adr 54))] 131 [] := by
                        intro n
                        induction n using Nat.strongRecOn with
                        | _ n ih_131 =>
                          intro j hn_131 hj
                          refine y_iload C0 0 dX4_digest_131 rfl ?_
                          refine y_iconst (v := 2) C0 dX4_digest_133 (by decide) ?_
                          refine y_icmp_ge C0 165 dX4_digest_134 (by decide) (fun c_134 => ?_) (fun c_134 => ?_)
                          · have hej := ct_end (N := 2) (by decide) hj c_134
                            subst hej
                            refine y_iinc (v := nI (i + 1)) C0 1 [(3, _), (4, _), (1, _), (0, _)] dX4_digest_165 rfl (yinc_ok rfl rfl) (by decide) rfl ?_
                            refine y_goto C0 105 dX4_digest_168 (by decide) ?_
                            refine y_sub [0, 2, 3] [(3, _), (1, _), (0, _)] rfl ?_
                            exact y_eq rfl rfl rfl (ih_105 _ (by omega) (i + 1) rfl hli)
                          · have hlj := ct_lt (N := 2) (by decide) hj c_134
                            refine y_lload_n C0 2 dX4_digest_137 rfl rfl ?_
                            refine y_ldc2 (v := 31) C0 (by decide +kernel) dX4_digest_138 ?_
                            refine y_lmul C0 dX4_digest_141 ?_
                            refine y_aload_n C0 3 dX4_digest_142 rfl rfl ?_
                            refine y_get C0 4 rfl rfl (by decide) hin4 0 ykd_54 (by decide) (by decide +kernel) yv4_now dX4_digest_143 ?_
                            refine y_get C0 3 rfl rfl (by decide) hin3 1 ykd_now (by decide) (by decide +kernel) (yv3_sewers ykd_now) dX4_digest_146 ?_
                            refine y_iload_n C0 1 dX4_digest_149 rfl rfl ?_
                            refine y_aald C0 (i) 8 (ykd_w2 (Or.inl rfl)) (by decide) (by decide) rfl (by omega : i < 5) (yel_sw (Or.inl rfl)) dX4_digest_150 ?_
                            refine y_iload C0 0 dX4_digest_151 rfl ?_
                            refine y_callV (As := [_]) (rest := _) (n := 1) C0 (mX2_tell l D cy adr _ _ (ykd_sw (Or.inl rfl) (by omega)) _) 2 rfl (by decide) (ykd_sw (Or.inl rfl) (by omega : i < 5)) gX4_digest_X2_tell rfl rfl rfl (by decide +kernel) ⟨by decide, by decide⟩ rfl rfl (Nat.le_of_ble_eq_true rfl) dX4_digest_153 ⟨by decide, by decide⟩ ?_
                            refine y_i2l C0 dX4_digest_156 ?_
                            refine y_ladd C0 dX4_digest_157 ?_
                            refine y_lstore_n C0 [(1, _), (4, _), (3, _), (0, _)] dX4_digest_158 rfl (by decide) rfl ?_
                            refine y_iinc (v := nI (j + 1)) C0 1 [(4, _), (1, _), (3, _), (0, _)] dX4_digest_159 rfl (yinc_ok rfl rfl) (by decide) rfl ?_
                            refine y_goto C0 131 dX4_digest_162 (by decide) ?_
                            refine y_sub [0, 2, 1, 3] [(4, _), (3, _), (1, _), (0, _)] rfl ?_
                            exact y_eq rfl rfl rfl (ih_131 _ (by omega) (j + 1) rfl hlj)
                      refine y_sub [0, 1, 2, 3] [(4, _), (3, _), (1, _), (0, _)] rfl ?_
                      exact hl_131 _ 0 rfl (Nat.zero_le _)
              refine y_sub [0, 3, 4] [(3, _), (1, _), (0, _)] rfl ?_
              exact hl_105 _ 0 rfl (Nat.zero_le _)
            · have hli := ct_lt (N := 3) (by decide) hi c_53
              refine y_aload_n C0 2 dX4_digest_56 rfl rfl ?_
              refine y_iload C0 0 dX4_digest_57 rfl ?_
              refine y_aald C0 (i) 9 (ykd_w3 (Or.inl rfl)) (by decide) (by decide) rfl (by omega : i < 3) (yel_fr (Or.inl rfl)) dX4_digest_59 ?_
              refine y_astore C0 [(6, _), (5, _), (4, _), (3, _), (1, _), (0, _)] dX4_digest_60 (by decide) rfl ?_
              refine y_iconst (v := 0) C0 dX4_digest_62 (by decide) ?_
              refine y_istore C0 [(7, _), (6, _), (5, _), (4, _), (3, _), (1, _), (0, _)] dX4_digest_63 (by decide) rfl ?_
              have hl_65 : ∀ (n : Nat) (j : Nat), 6 - j = n → j ≤ 6 → Y K l rX4_digest D cy adr 8 0 0 (QT K D cy adr (some (.long (dgBs M S B))) (M) 0 0) M [] [(7, .int (nI j)), (6, .ref (adr (0 + 24 + i))), (5, .int (nI i)), (4, .int (nI 3)), (3, .ref (adr (0 + 3))), (1, .long (dgF M (dgFs M i) i j)), (0, .ref (adr 54))] 65 [] := by
                intro n
                induction n using Nat.strongRecOn with
                | _ n ih_65 =>
                  intro j hn_65 hj
                  refine y_iload C0 0 dX4_digest_65 rfl ?_
                  refine y_bipush (v := 6) C0 dX4_digest_67 (by decide) ?_
                  refine y_icmp_ge C0 97 dX4_digest_69 (by decide) (fun c_69 => ?_) (fun c_69 => ?_)
                  · have hej := ct_end (N := 6) (by decide) hj c_69
                    subst hej
                    refine y_iinc (v := nI (i + 1)) C0 2 [(5, _), (7, _), (6, _), (4, _), (3, _), (1, _), (0, _)] dX4_digest_97 rfl (yinc_ok rfl rfl) (by decide) rfl ?_
                    refine y_goto C0 49 dX4_digest_100 (by decide) ?_
                    refine y_sub [0, 3, 4, 5, 6] [(5, _), (4, _), (3, _), (1, _), (0, _)] rfl ?_
                    exact y_eq rfl rfl rfl (ih_49 _ (by omega) (i + 1) rfl hli)
                  · have hlj := ct_lt (N := 6) (by decide) hj c_69
                    refine y_lload_n C0 5 dX4_digest_72 rfl rfl ?_
                    refine y_ldc2 (v := 31) C0 (by decide +kernel) dX4_digest_73 ?_
                    refine y_lmul C0 dX4_digest_76 ?_
                    refine y_aload_n C0 6 dX4_digest_77 rfl rfl ?_
                    refine y_get C0 4 rfl rfl (by decide) hin4 0 ykd_54 (by decide) (by decide +kernel) yv4_now dX4_digest_78 ?_
                    refine y_aload C0 1 dX4_digest_81 rfl ?_
                    refine y_iload C0 0 dX4_digest_83 rfl ?_
                    refine y_callV (As := [_, _]) (rest := _) (n := 2) C0 (mX3_tellOfFrame l D cy adr _ 0 (Or.inl rfl) i hli _) 3 rfl (by decide) ykd_now gX4_digest_X3_tellOfFrame rfl rfl rfl (by decide +kernel) ⟨by decide, by decide⟩ rfl rfl (Nat.le_of_ble_eq_true rfl) dX4_digest_85 ⟨by decide, by decide⟩ ?_
                    refine y_i2l C0 dX4_digest_88 ?_
                    refine y_ladd C0 dX4_digest_89 ?_
                    refine y_lstore_n C0 [(1, _), (7, _), (6, _), (5, _), (4, _), (3, _), (0, _)] dX4_digest_90 rfl (by decide) rfl ?_
                    refine y_iinc (v := nI (j + 1)) C0 1 [(7, _), (1, _), (6, _), (5, _), (4, _), (3, _), (0, _)] dX4_digest_91 rfl (yinc_ok rfl rfl) (by decide) rfl ?_
                    refine y_goto C0 65 dX4_digest_94 (by decide) ?_
                    refine y_sub [0, 2, 3, 4, 5, 1, 6] [(7, _), (6, _), (5, _), (4, _), (3, _), (1, _), (0, _)] rfl ?_
                    exact y_eq rfl rfl rfl (ih_65 _ (by omega) (j + 1) rfl hlj)
              refine y_sub [0, 1, 2, 3, 4, 5, 6] [(7, _), (6, _), (5, _), (4, _), (3, _), (1, _), (0, _)] rfl ?_
              exact hl_65 _ 0 rfl (Nat.zero_le _)
        refine y_sub [0, 1, 2, 3, 4] [(5, _), (4, _), (3, _), (1, _), (0, _)] rfl ?_
        exact hl_49 _ 0 rfl (Nat.zero_le _)
      · have hlj := ct_lt (N := 15) (by decide) hj c_9
        refine y_lload_n C0 1 dX4_digest_12 rfl rfl ?_
        refine y_ldc2 (v := 31) C0 (by decide +kernel) dX4_digest_13 ?_
        refine y_lmul C0 dX4_digest_16 ?_
        refine y_aload_n C0 2 dX4_digest_17 rfl rfl ?_
        refine y_get C0 4 rfl rfl (by decide) hin4 0 ykd_54 (by decide) (by decide +kernel) yv4_now dX4_digest_18 ?_
        refine y_iload_n C0 0 dX4_digest_21 rfl rfl ?_
        refine y_callV (As := [_]) (rest := _) (n := 1) C0 (mX3_tellOfAll l D cy adr _ 0 (Or.inl rfl) _) 3 rfl (by decide) ykd_now gX4_digest_X3_tellOfAll rfl rfl rfl (by decide +kernel) ⟨by decide, by decide⟩ rfl rfl (Nat.le_of_ble_eq_true rfl) dX4_digest_22 ⟨by decide, by decide⟩ ?_
        refine y_i2l C0 dX4_digest_25 ?_
        refine y_ladd C0 dX4_digest_26 ?_
        refine y_lstore_n C0 [(1, _), (3, _), (0, _)] dX4_digest_27 rfl (by decide) rfl ?_
        refine y_iinc (v := nI (j + 1)) C0 1 [(3, _), (1, _), (0, _)] dX4_digest_28 rfl (yinc_ok rfl rfl) (by decide) rfl ?_
        refine y_goto C0 6 dX4_digest_31 (by decide) ?_
        refine y_sub [0, 1, 2] [(3, _), (1, _), (0, _)] rfl ?_
        exact y_eq rfl rfl rfl (ih_6 _ (by omega) (j + 1) rfl hlj)
  refine y_sub [0, 1, 2] [(3, _), (1, _), (0, _)] rfl ?_
  exact hl_6 _ 0 rfl (Nat.zero_le _)
end YZ
