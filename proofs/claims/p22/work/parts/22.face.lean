section YZ
abbrev rX4_checkKind : Room := { frames := 6, cells := 1, slots := 6, locals := 90 }
set_option maxRecDepth 100000 in
set_option maxHeartbeats 4000000 in
theorem mX4_checkKind (l : Launch) (hlf : l.stackTraces = false) (D : va_G) (cy : Nat → ClassId) (adr : Nat → Nat) (M : yM) (w : Int32) (n : Int32)  : Cv l yX4_checkKind wsX4_checkKind rX4_checkKind D cy adr [.int w, .int n] M (okK w n) (none) (M) 1 6 := by
  refine Cv.mk cX4_checkKind 2 none RX4 (by decide) rfl rfl (Nat.le_of_ble_eq_true rfl) ?_
  intro K C0 hX hT
  refine y_eq rfl (show ([(0, .int w), (1, .int n)] : List (Nat × Value)) = lv_args 0 [.int w, .int n] from rfl) rfl ?_
  have hgwIOE : ∀ w ∈ (vx_atS RX4 113 yIOE yNs).filter goodWord, w ∈ wsX4_checkKind := by decide +kernel
  refine y_iload_n C0 0 dX4_checkKind_0 rfl rfl ?_
  refine y_if_lt C0 9 dX4_checkKind_1 (by decide) (fun c_1 => ?_) (fun c_1 => ?_)
  · exact y_thr C0 hX hT hlf rfl (cls := yIOE) (is := 207) (text := "nothing is told under this number") (by decide) (by decide) (by decide +kernel) (by decide +kernel) hgwIOE ngIOE gdIOE dX4_checkKind_9 dX4_checkKind_12 dX4_checkKind_13 dX4_checkKind_15 dX4_checkKind_18 (by decide) (Nat.le_of_ble_eq_true rfl) (by decide) (by decide) (by decide) (by decide) (by simp [okK, thn, c_1]) rfl
  · refine y_iload_n C0 0 dX4_checkKind_4 rfl rfl ?_
    refine y_iload_n C0 1 dX4_checkKind_5 rfl rfl ?_
    refine y_icmp_lt C0 19 dX4_checkKind_6 (by decide) (fun c_6 => ?_) (fun c_6 => ?_)
    · have ho9 : (okK w n) = none := by simp [okK, thn, c_1, c_6]
      refine y_ok ho9 ?_
      refine y_widen (k := 1) (n := 6) (by decide) (by decide) ?_
      exact y_vret C0 dX4_checkKind_19 rfl rfl
    · exact y_thr C0 hX hT hlf rfl (cls := yIOE) (is := 207) (text := "nothing is told under this number") (by decide) (by decide) (by decide +kernel) (by decide +kernel) hgwIOE ngIOE gdIOE dX4_checkKind_9 dX4_checkKind_12 dX4_checkKind_13 dX4_checkKind_15 dX4_checkKind_18 (by decide) (Nat.le_of_ble_eq_true rfl) (by decide) (by decide) (by decide) (by decide) (by simp [okK, thn, c_1, c_6]) rfl
abbrev rX4_checkHours : Room := { frames := 6, cells := 1, slots := 6, locals := 90 }
set_option maxRecDepth 100000 in
set_option maxHeartbeats 4000000 in
theorem mX4_checkHours (l : Launch) (hlf : l.stackTraces = false) (D : va_G) (cy : Nat → ClassId) (adr : Nat → Nat) (M : yM) (h : Int32)  : Cv l yX4_checkHours wsX4_checkHours rX4_checkHours D cy adr [.int h] M (okH h) (none) (M) 1 6 := by
  refine Cv.mk cX4_checkHours 1 none RX4 (by decide) rfl rfl (Nat.le_of_ble_eq_true rfl) ?_
  intro K C0 hX hT
  refine y_eq rfl (show ([(0, .int h)] : List (Nat × Value)) = lv_args 0 [.int h] from rfl) rfl ?_
  have hgwIAE : ∀ w ∈ (vx_atS RX4 23 yIAE yNs).filter goodWord, w ∈ wsX4_checkHours := by decide +kernel
  refine y_iload_n C0 0 dX4_checkHours_0 rfl rfl ?_
  refine y_iconst (v := 1) C0 dX4_checkHours_1 (by decide) ?_
  refine y_icmp_lt C0 11 dX4_checkHours_2 (by decide) (fun c_2 => ?_) (fun c_2 => ?_)
  · exact y_thr C0 hX hT hlf rfl (cls := yIAE) (is := 209) (text := "hours are 1 to 120") (by decide) (by decide) (by decide +kernel) (by decide +kernel) hgwIAE ngIAE gdIAE dX4_checkHours_11 dX4_checkHours_14 dX4_checkHours_15 dX4_checkHours_17 dX4_checkHours_20 (by decide) (Nat.le_of_ble_eq_true rfl) (by decide) (by decide) (by decide) (by decide) (by simp [okH, thn, c_2]) rfl
  · refine y_iload_n C0 0 dX4_checkHours_5 rfl rfl ?_
    refine y_bipush (v := 120) C0 dX4_checkHours_6 (by decide) ?_
    refine y_icmp_le C0 21 dX4_checkHours_8 (by decide) (fun c_8 => ?_) (fun c_8 => ?_)
    · have ho9 : (okH h) = none := by simp [okH, thn, c_2, c_8]
      refine y_ok ho9 ?_
      refine y_widen (k := 1) (n := 6) (by decide) (by decide) ?_
      exact y_vret C0 dX4_checkHours_21 rfl rfl
    · exact y_thr C0 hX hT hlf rfl (cls := yIAE) (is := 209) (text := "hours are 1 to 120") (by decide) (by decide) (by decide +kernel) (by decide +kernel) hgwIAE ngIAE gdIAE dX4_checkHours_11 dX4_checkHours_14 dX4_checkHours_15 dX4_checkHours_17 dX4_checkHours_20 (by decide) (Nat.le_of_ble_eq_true rfl) (by decide) (by decide) (by decide) (by decide) (by simp [okH, thn, c_2, c_8]) rfl
abbrev rX4_priceOf : Room := { frames := 0, cells := 0, slots := 0, locals := 0 }
set_option maxRecDepth 100000 in
set_option maxHeartbeats 4000000 in
theorem mX4_priceOf (l : Launch) (D : va_G) (cy : Nat → ClassId) (adr : Nat → Nat) (M : yM) (w : Int32) (x : Int32)  : Ct l yX4_priceOf wsX4_priceOf rX4_priceOf D cy adr [.int w, .int x] M (some (.int (prc w x))) (M) 0 0 := by
  refine Ct.mk cX4_priceOf 2 (some .int) RX4 (by decide) rfl rfl (Nat.le_of_ble_eq_true rfl) ?_
  intro K C0
  refine y_eq rfl (show ([(0, .int w), (1, .int x)] : List (Nat × Value)) = lv_args 0 [.int w, .int x] from rfl) rfl ?_
  refine y_iload_n C0 0 dX4_priceOf_0 rfl rfl ?_
  by_cases s_1_0 : w = 0
  · refine y_lsw (off := 27) C0 dX4_priceOf_1 rfl (by rw [s_1_0]; try rfl) (tgt := 28) (by decide) ?_
    refine y_iload_n C0 1 dX4_priceOf_28 rfl rfl ?_
    refine y_iconst (v := 4) C0 dX4_priceOf_29 (by decide) ?_
    refine y_iadd C0 dX4_priceOf_30 ?_
    refine y_iconst (v := 5) C0 dX4_priceOf_31 (by decide) ?_
    refine y_idiv C0 dX4_priceOf_32 (by decide) ?_
    exact y_iret C0 dX4_priceOf_33 (by simp [prc, s_1_0]) rfl
  by_cases s_1_1 : w = 1
  · refine y_lsw (off := 33) C0 dX4_priceOf_1 rfl (by rw [s_1_1]; try rfl) (tgt := 34) (by decide) ?_
    refine y_iconst (v := 3) C0 dX4_priceOf_34 (by decide) ?_
    refine y_iload_n C0 1 dX4_priceOf_35 rfl rfl ?_
    refine y_imul C0 dX4_priceOf_36 ?_
    exact y_iret C0 dX4_priceOf_37 (by simp [prc, s_1_1]) rfl
  refine y_lsw (off := 37) C0 dX4_priceOf_1 rfl ((lv_osw s_1_0 rfl).trans (lv_osw s_1_1 rfl)) (tgt := 38) (by decide) ?_
  refine y_iconst (v := 2) C0 dX4_priceOf_38 (by decide) ?_
  refine y_iload_n C0 1 dX4_priceOf_39 rfl rfl ?_
  refine y_imul C0 dX4_priceOf_40 ?_
  exact y_iret C0 dX4_priceOf_41 (by simp [prc, s_1_0, s_1_1]) rfl
abbrev rX4_knownBook : Room := { frames := 6, cells := 1, slots := 6, locals := 90 }
set_option maxRecDepth 100000 in
set_option maxHeartbeats 4000000 in
theorem mX4_knownBook (l : Launch) (hlf : l.stackTraces = false) (D : va_G) (cy : Nat → ClassId) (adr : Nat → Nat) (M : yM) (x : Int32)  : Cv l yX4_knownBook wsX4_knownBook rX4_knownBook D cy adr [.ref (adr 54), .int x] M (okB M x) (some (.ref (adr (bkI x)))) (M) 1 6 := by
  refine Cv.mk cX4_knownBook 3 (some (.object "SewingFrames$Book")) RX4 (by decide) rfl rfl (Nat.le_of_ble_eq_true rfl) ?_
  intro K C0 hX hT
  refine y_eq rfl (show ([(0, .ref (adr 54)), (1, .int x)] : List (Nat × Value)) = lv_args 0 [.ref (adr 54), .int x] from rfl) rfl ?_
  have hin4 : ∀ w ∈ u_ws RX4 TX4 2, w ∈ wsX4_knownBook := by decide +kernel
  have hgwIOE : ∀ w ∈ (vx_atS RX4 113 yIOE yNs).filter goodWord, w ∈ wsX4_knownBook := by decide +kernel
  refine y_aload_n C0 0 dX4_knownBook_0 rfl rfl ?_
  refine y_get C0 4 rfl rfl (by decide) hin4 0 ykd_54 (by decide) (by decide +kernel) yv4_now dX4_knownBook_1 ?_
  refine y_iload_n C0 1 dX4_knownBook_4 rfl rfl ?_
  by_cases hn : wNo M 0 x
  · refine y_callV (As := [_]) (rest := _) (n := 1) C0 (mX3_bookNumbered_n l D cy adr _ 0 (Or.inl rfl) _ hn) 3 rfl (by decide) ykd_now gX4_knownBook_X3_bookNumbered rfl rfl rfl (by decide +kernel) ⟨by decide, by decide⟩ rfl rfl (Nat.le_of_ble_eq_true rfl) dX4_knownBook_5 ⟨by decide, by decide⟩ ?_
    refine y_astore_nN C0 [(2, _), (0, _), (1, _)] dX4_knownBook_8 rfl (by decide) rfl ?_
    refine y_aload_nN C0 0 dX4_knownBook_9 rfl rfl ?_
    refine y_ifnonnullN C0 dX4_knownBook_10 ?_
    exact y_thr C0 hX hT hlf rfl (cls := yIOE) (is := 200) (text := "there is no such book") (by decide) (by decide) (by decide +kernel) (by decide +kernel) hgwIOE ngIOE gdIOE dX4_knownBook_13 dX4_knownBook_16 dX4_knownBook_17 dX4_knownBook_19 dX4_knownBook_22 (by decide) (Nat.le_of_ble_eq_true rfl) (by decide) (by decide) (by decide) (by decide) (okB_t hn) rfl
  obtain ⟨b, hb, eb, hcb⟩ := wNo_not hn
  refine y_top eb ?_
  refine y_callV (As := [_]) (rest := _) (n := 1) C0 (mX3_bookNumbered l D cy adr _ 0 (Or.inl rfl) b hb hcb) 3 rfl (by decide) ykd_now gX4_knownBook_X3_bookNumbered rfl rfl rfl (by decide +kernel) ⟨by decide, by decide⟩ rfl rfl (Nat.le_of_ble_eq_true rfl) dX4_knownBook_5 ⟨by decide, by decide⟩ ?_
  refine y_astore_n C0 [(2, _), (0, _), (1, _)] dX4_knownBook_8 rfl (by decide) rfl ?_
  refine y_aload_n C0 0 dX4_knownBook_9 rfl rfl ?_
  refine y_ifnonnull C0 23 dX4_knownBook_10 (by decide) ?_
  refine y_aload_n C0 0 dX4_knownBook_23 rfl rfl ?_
  have ho9 : (okB M x) = none := okB_f hn
  refine y_ok ho9 ?_
  refine y_widen (k := 1) (n := 6) (by decide) (by decide) ?_
  exact y_aret C0 (Or.inr ⟨_, rfl⟩) dX4_knownBook_24 (by rw [eb, bkI_n hb]) rfl
abbrev rX4_knownSewer : Room := { frames := 6, cells := 1, slots := 6, locals := 90 }
set_option maxRecDepth 100000 in
set_option maxHeartbeats 4000000 in
theorem mX4_knownSewer (l : Launch) (hlf : l.stackTraces = false) (D : va_G) (cy : Nat → ClassId) (adr : Nat → Nat) (M : yM) (x : Int32)  : Cv l yX4_knownSewer wsX4_knownSewer rX4_knownSewer D cy adr [.ref (adr 54), .int x] M (okS M x) (some (.ref (adr (swI x)))) (M) 1 6 := by
  refine Cv.mk cX4_knownSewer 3 (some (.object "SewingFrames$Sewer")) RX4 (by decide) rfl rfl (Nat.le_of_ble_eq_true rfl) ?_
  intro K C0 hX hT
  refine y_eq rfl (show ([(0, .ref (adr 54)), (1, .int x)] : List (Nat × Value)) = lv_args 0 [.ref (adr 54), .int x] from rfl) rfl ?_
  have hin4 : ∀ w ∈ u_ws RX4 TX4 2, w ∈ wsX4_knownSewer := by decide +kernel
  have hgwIOE : ∀ w ∈ (vx_atS RX4 113 yIOE yNs).filter goodWord, w ∈ wsX4_knownSewer := by decide +kernel
  refine y_aload_n C0 0 dX4_knownSewer_0 rfl rfl ?_
  refine y_get C0 4 rfl rfl (by decide) hin4 0 ykd_54 (by decide) (by decide +kernel) yv4_now dX4_knownSewer_1 ?_
  refine y_iload_n C0 1 dX4_knownSewer_4 rfl rfl ?_
  by_cases hn : wNoS M 0 x
  · refine y_callV (As := [_]) (rest := _) (n := 1) C0 (mX3_sewerNumbered_n l D cy adr _ 0 (Or.inl rfl) _ hn) 3 rfl (by decide) ykd_now gX4_knownSewer_X3_sewerNumbered rfl rfl rfl (by decide +kernel) ⟨by decide, by decide⟩ rfl rfl (Nat.le_of_ble_eq_true rfl) dX4_knownSewer_5 ⟨by decide, by decide⟩ ?_
    refine y_astore_nN C0 [(2, _), (0, _), (1, _)] dX4_knownSewer_8 rfl (by decide) rfl ?_
    refine y_aload_nN C0 0 dX4_knownSewer_9 rfl rfl ?_
    refine y_ifnonnullN C0 dX4_knownSewer_10 ?_
    exact y_thr C0 hX hT hlf rfl (cls := yIOE) (is := 205) (text := "there is no such sewer") (by decide) (by decide) (by decide +kernel) (by decide +kernel) hgwIOE ngIOE gdIOE dX4_knownSewer_13 dX4_knownSewer_16 dX4_knownSewer_17 dX4_knownSewer_19 dX4_knownSewer_22 (by decide) (Nat.le_of_ble_eq_true rfl) (by decide) (by decide) (by decide) (by decide) (okS_t hn) rfl
  obtain ⟨b, hb, eb, hcb⟩ := wNoS_not hn
  refine y_top eb ?_
  refine y_callV (As := [_]) (rest := _) (n := 1) C0 (mX3_sewerNumbered l D cy adr _ 0 (Or.inl rfl) b hb hcb) 3 rfl (by decide) ykd_now gX4_knownSewer_X3_sewerNumbered rfl rfl rfl (by decide +kernel) ⟨by decide, by decide⟩ rfl rfl (Nat.le_of_ble_eq_true rfl) dX4_knownSewer_5 ⟨by decide, by decide⟩ ?_
  refine y_astore_n C0 [(2, _), (0, _), (1, _)] dX4_knownSewer_8 rfl (by decide) rfl ?_
  refine y_aload_n C0 0 dX4_knownSewer_9 rfl rfl ?_
  refine y_ifnonnull C0 23 dX4_knownSewer_10 (by decide) ?_
  refine y_aload_n C0 0 dX4_knownSewer_23 rfl rfl ?_
  have ho9 : (okS M x) = none := okS_f hn
  refine y_ok ho9 ?_
  refine y_widen (k := 1) (n := 6) (by decide) (by decide) ?_
  exact y_aret C0 (Or.inr ⟨_, rfl⟩) dX4_knownSewer_24 (by rw [eb, swI_n hb]) rfl
abbrev rX4_knownFrame : Room := { frames := 6, cells := 1, slots := 6, locals := 90 }
set_option maxRecDepth 100000 in
set_option maxHeartbeats 4000000 in
theorem mX4_knownFrame (l : Launch) (hlf : l.stackTraces = false) (D : va_G) (cy : Nat → ClassId) (adr : Nat → Nat) (M : yM) (f : Int32)  : Cv l yX4_knownFrame wsX4_knownFrame rX4_knownFrame D cy adr [.ref (adr 54), .int f] M (okF f) (some (.ref (adr (frI f)))) (M) 1 6 := by
  refine Cv.mk cX4_knownFrame 2 (some (.object "SewingFrames$Frame")) RX4 (by decide) rfl rfl (Nat.le_of_ble_eq_true rfl) ?_
  intro K C0 hX hT
  refine y_eq rfl (show ([(0, .ref (adr 54)), (1, .int f)] : List (Nat × Value)) = lv_args 0 [.ref (adr 54), .int f] from rfl) rfl ?_
  have hin3 : ∀ w ∈ u_ws RX3 TX3 12, w ∈ wsX4_knownFrame := by decide +kernel
  have hin4 : ∀ w ∈ u_ws RX4 TX4 2, w ∈ wsX4_knownFrame := by decide +kernel
  have hgwIOE : ∀ w ∈ (vx_atS RX4 113 yIOE yNs).filter goodWord, w ∈ wsX4_knownFrame := by decide +kernel
  refine y_iload_n C0 1 dX4_knownFrame_0 rfl rfl ?_
  refine y_if_lt C0 16 dX4_knownFrame_1 (by decide) (fun c_1 => ?_) (fun c_1 => ?_)
  · exact y_thr C0 hX hT hlf rfl (cls := yIOE) (is := 111) (text := "there is no such frame") (by decide) (by decide) (by decide +kernel) (by decide +kernel) hgwIOE ngIOE gdIOE dX4_knownFrame_16 dX4_knownFrame_19 dX4_knownFrame_20 dX4_knownFrame_22 dX4_knownFrame_25 (by decide) (Nat.le_of_ble_eq_true rfl) (by decide) (by decide) (by decide) (by decide) (by unfold okF; first | rw [if_pos c_1] | rw [if_neg c_1, if_neg (show ¬ f < 3 from c_13)]) rfl
  · refine y_iload_n C0 1 dX4_knownFrame_4 rfl rfl ?_
    refine y_aload_n C0 0 dX4_knownFrame_5 rfl rfl ?_
    refine y_get C0 4 rfl rfl (by decide) hin4 0 ykd_54 (by decide) (by decide +kernel) yv4_now dX4_knownFrame_6 ?_
    refine y_get C0 3 rfl rfl (by decide) hin3 2 ykd_now (by decide) (by decide +kernel) (yv3_frames ykd_now) dX4_knownFrame_9 ?_
    refine y_alen C0 9 (ykd_w3 (Or.inl rfl)) (by decide) (by decide) dX4_knownFrame_12 ?_
    refine y_icmp_lt C0 26 dX4_knownFrame_13 (by decide) (fun c_13 => ?_) (fun c_13 => ?_)
    · refine y_aload_n C0 0 dX4_knownFrame_26 rfl rfl ?_
      refine y_get C0 4 rfl rfl (by decide) hin4 0 ykd_54 (by decide) (by decide +kernel) yv4_now dX4_knownFrame_27 ?_
      refine y_get C0 3 rfl rfl (by decide) hin3 2 ykd_now (by decide) (by decide +kernel) (yv3_frames ykd_now) dX4_knownFrame_30 ?_
      refine y_iload_n C0 1 dX4_knownFrame_33 rfl rfl ?_
      obtain ⟨f0, hf, ef⟩ := okF_n (x := f) (by simp [okF, c_1, show f < 3 from c_13])
      refine y_top ef ?_
      refine y_aald C0 (f0) 9 (ykd_w3 (Or.inl rfl)) (by decide) (by decide) rfl (by omega : f0 < 3) (yel_fr (Or.inl rfl)) dX4_knownFrame_34 ?_
      have ho9 : (okF f) = none := by unfold okF; rw [if_neg c_1, if_pos (show f < 3 from c_13)]
      refine y_ok ho9 ?_
      refine y_widen (k := 1) (n := 6) (by decide) (by decide) ?_
      exact y_aret C0 (Or.inr ⟨_, rfl⟩) dX4_knownFrame_35 (by rw [ef, frI_n hf]) rfl
    · exact y_thr C0 hX hT hlf rfl (cls := yIOE) (is := 111) (text := "there is no such frame") (by decide) (by decide) (by decide +kernel) (by decide +kernel) hgwIOE ngIOE gdIOE dX4_knownFrame_16 dX4_knownFrame_19 dX4_knownFrame_20 dX4_knownFrame_22 dX4_knownFrame_25 (by decide) (Nat.le_of_ble_eq_true rfl) (by decide) (by decide) (by decide) (by decide) (by unfold okF; first | rw [if_pos c_1] | rw [if_neg c_1, if_neg (show ¬ f < 3 from c_13)]) rfl
abbrev rX4_told : Room := { frames := 7, cells := 2, slots := 12, locals := 112 }
set_option maxRecDepth 100000 in
set_option maxHeartbeats 4000000 in
theorem mX4_told (l : Launch) (hlf : l.stackTraces = false) (D : va_G) (cy : Nat → ClassId) (adr : Nat → Nat) (M : yM) (x : Int32) (w : Int32)  : Cv l yX4_told wsX4_told rX4_told D cy adr [.ref (adr 54), .int x, .int w] M (thn (okB M x) (okK w 11)) (some (.int (bTell (M (bkI x)) w))) (M) 2 12 := by
  refine Cv.mk cX4_told 4 (some .int) RX4 (by decide) rfl rfl (Nat.le_of_ble_eq_true rfl) ?_
  intro K C0 hX hT
  refine y_eq rfl (show ([(0, .ref (adr 54)), (1, .int x), (2, .int w)] : List (Nat × Value)) = lv_args 0 [.ref (adr 54), .int x, .int w] from rfl) rfl ?_
  refine y_aload_n C0 0 dX4_told_0 rfl rfl ?_
  refine y_iload_n C0 1 dX4_told_1 rfl rfl ?_
  refine y_callVX (As := [_]) (rest := _) (n := 1) C0 hX hT (mX4_knownBook l hlf D cy adr _ _) 4 rfl (by decide) ykd_54 gX4_told_X4_knownBook rfl rfl rfl (by decide +kernel) ⟨by decide, by decide⟩ rfl rfl (Nat.le_of_ble_eq_true rfl) dX4_told_2 ⟨by decide, by decide⟩ (fun Ex hE => ⟨by simp [thn, hE], rfl⟩) (by decide) (by decide) (fun k_2 => ?_)
  refine y_astore_n C0 [(3, _), (0, _), (1, _), (2, _)] dX4_told_5 rfl (by decide) rfl ?_
  refine y_iload_n C0 3 dX4_told_6 rfl rfl ?_
  refine y_bipush (v := 11) C0 dX4_told_7 (by decide) ?_
  refine y_callSX (As := [_, _]) (rest := _) (n := 2) C0 hX hT (mX4_checkKind l hlf D cy adr _ _ _) gX4_told_X4_checkKind rfl rfl rfl (by decide +kernel) ⟨by decide, by decide⟩ rfl rfl (Nat.le_of_ble_eq_true rfl) dX4_told_9 ⟨by decide, by decide⟩ (fun Ex hE => ⟨by simp [thn, hE, k_2], rfl⟩) (by decide) (by decide) (fun k_9 => ?_)
  refine y_aload_n C0 0 dX4_told_12 rfl rfl ?_
  refine y_iload_n C0 3 dX4_told_13 rfl rfl ?_
  refine y_callV (As := [_]) (rest := _) (n := 1) C0 (mX0_tell l D cy adr _ _ (okB_k k_2) _) 0 rfl (by decide) (okB_k k_2) gX4_told_X0_tell rfl rfl rfl (by decide +kernel) ⟨by decide, by decide⟩ rfl rfl (Nat.le_of_ble_eq_true rfl) dX4_told_14 ⟨by decide, by decide⟩ ?_
  have ho9 : (thn (okB M x) (okK w 11)) = none := by simp [thn, k_2, k_9]
  refine y_ok ho9 ?_
  refine y_widen (k := 2) (n := 12) (by decide) (by decide) ?_
  exact y_iret C0 dX4_told_17 rfl rfl
abbrev rX4_frame : Room := { frames := 7, cells := 2, slots := 12, locals := 111 }
set_option maxRecDepth 100000 in
set_option maxHeartbeats 4000000 in
theorem mX4_frame (l : Launch) (hlf : l.stackTraces = false) (D : va_G) (cy : Nat → ClassId) (adr : Nat → Nat) (M : yM) (f : Int32) (w : Int32)  : Cv l yX4_frame wsX4_frame rX4_frame D cy adr [.ref (adr 54), .int f, .int w] M (thn (okF f) (okK w 6)) (some (.int (wTellF M 0 (cN f) w))) (M) 2 12 := by
  refine Cv.mk cX4_frame 4 (some .int) RX4 (by decide) rfl rfl (Nat.le_of_ble_eq_true rfl) ?_
  intro K C0 hX hT
  refine y_eq rfl (show ([(0, .ref (adr 54)), (1, .int f), (2, .int w)] : List (Nat × Value)) = lv_args 0 [.ref (adr 54), .int f, .int w] from rfl) rfl ?_
  have hin4 : ∀ w ∈ u_ws RX4 TX4 2, w ∈ wsX4_frame := by decide +kernel
  refine y_aload_n C0 0 dX4_frame_0 rfl rfl ?_
  refine y_iload_n C0 1 dX4_frame_1 rfl rfl ?_
  refine y_callVX (As := [_]) (rest := _) (n := 1) C0 hX hT (mX4_knownFrame l hlf D cy adr _ _) 4 rfl (by decide) ykd_54 gX4_frame_X4_knownFrame rfl rfl rfl (by decide +kernel) ⟨by decide, by decide⟩ rfl rfl (Nat.le_of_ble_eq_true rfl) dX4_frame_2 ⟨by decide, by decide⟩ (fun Ex hE => ⟨by simp [thn, hE], rfl⟩) (by decide) (by decide) (fun k_2 => ?_)
  refine y_astore_n C0 [(3, _), (0, _), (1, _), (2, _)] dX4_frame_5 rfl (by decide) rfl ?_
  refine y_iload_n C0 3 dX4_frame_6 rfl rfl ?_
  refine y_bipush (v := 6) C0 dX4_frame_7 (by decide) ?_
  refine y_callSX (As := [_, _]) (rest := _) (n := 2) C0 hX hT (mX4_checkKind l hlf D cy adr _ _ _) gX4_frame_X4_checkKind rfl rfl rfl (by decide +kernel) ⟨by decide, by decide⟩ rfl rfl (Nat.le_of_ble_eq_true rfl) dX4_frame_9 ⟨by decide, by decide⟩ (fun Ex hE => ⟨by simp [thn, hE, k_2], rfl⟩) (by decide) (by decide) (fun k_9 => ?_)
  refine y_aload_n C0 1 dX4_frame_12 rfl rfl ?_
  refine y_get C0 4 rfl rfl (by decide) hin4 0 ykd_54 (by decide) (by decide +kernel) yv4_now dX4_frame_13 ?_
  refine y_aload_n C0 0 dX4_frame_16 rfl rfl ?_
  refine y_iload_n C0 3 dX4_frame_17 rfl rfl ?_
  refine y_callV (As := [_, _]) (rest := _) (n := 2) C0 (mX3_tellOfFrame l D cy adr _ 0 (Or.inl rfl) (cN f) (okF_e k_2).1 _) 3 rfl (by decide) ykd_now gX4_frame_X3_tellOfFrame rfl rfl rfl (by decide +kernel) ⟨by decide, by decide⟩ rfl rfl (Nat.le_of_ble_eq_true rfl) dX4_frame_18 ⟨by decide, by decide⟩ ?_
  have ho9 : (thn (okF f) (okK w 6)) = none := by simp [thn, k_2, k_9]
  refine y_ok ho9 ?_
  refine y_widen (k := 2) (n := 12) (by decide) (by decide) ?_
  exact y_iret C0 dX4_frame_21 rfl rfl
abbrev rX4_count : Room := { frames := 7, cells := 1, slots := 6, locals := 111 }
set_option maxRecDepth 100000 in
set_option maxHeartbeats 4000000 in
theorem mX4_count (l : Launch) (hlf : l.stackTraces = false) (D : va_G) (cy : Nat → ClassId) (adr : Nat → Nat) (M : yM) (w : Int32)  : Cv l yX4_count wsX4_count rX4_count D cy adr [.ref (adr 54), .int w] M (okK w 15) (some (.int (wTellA M 0 w))) (M) 1 6 := by
  refine Cv.mk cX4_count 2 (some .int) RX4 (by decide) rfl rfl (Nat.le_of_ble_eq_true rfl) ?_
  intro K C0 hX hT
  refine y_eq rfl (show ([(0, .ref (adr 54)), (1, .int w)] : List (Nat × Value)) = lv_args 0 [.ref (adr 54), .int w] from rfl) rfl ?_
  have hin4 : ∀ w ∈ u_ws RX4 TX4 2, w ∈ wsX4_count := by decide +kernel
  refine y_iload_n C0 1 dX4_count_0 rfl rfl ?_
  refine y_bipush (v := 15) C0 dX4_count_1 (by decide) ?_
  refine y_callSX (As := [_, _]) (rest := _) (n := 2) C0 hX hT (mX4_checkKind l hlf D cy adr _ _ _) gX4_count_X4_checkKind rfl rfl rfl (by decide +kernel) ⟨by decide, by decide⟩ rfl rfl (Nat.le_of_ble_eq_true rfl) dX4_count_3 ⟨by decide, by decide⟩ (fun Ex hE => ⟨by simp [thn, hE], rfl⟩) (by decide) (by decide) (fun k_3 => ?_)
  refine y_aload_n C0 0 dX4_count_6 rfl rfl ?_
  refine y_get C0 4 rfl rfl (by decide) hin4 0 ykd_54 (by decide) (by decide +kernel) yv4_now dX4_count_7 ?_
  refine y_iload_n C0 1 dX4_count_10 rfl rfl ?_
  refine y_callV (As := [_]) (rest := _) (n := 1) C0 (mX3_tellOfAll l D cy adr _ 0 (Or.inl rfl) _) 3 rfl (by decide) ykd_now gX4_count_X3_tellOfAll rfl rfl rfl (by decide +kernel) ⟨by decide, by decide⟩ rfl rfl (Nat.le_of_ble_eq_true rfl) dX4_count_11 ⟨by decide, by decide⟩ ?_
  have ho9 : (okK w 15) = none := by simp [thn, k_3]
  refine y_ok ho9 ?_
  refine y_widen (k := 1) (n := 6) (by decide) (by decide) ?_
  exact y_iret C0 dX4_count_14 rfl rfl
abbrev rX4_order : Room := { frames := 6, cells := 1, slots := 6, locals := 90 }
set_option maxRecDepth 100000 in
set_option maxHeartbeats 4000000 in
theorem mX4_order (l : Launch) (hlf : l.stackTraces = false) (D : va_G) (cy : Nat → ClassId) (adr : Nat → Nat) (M : yM) (s : Int32) (h : Int32) (e : Int32) (B : Nat) (hB : B ≤ 15) (eB : M 0 3 = nI B) : Cv l yX4_order wsX4_order rX4_order D cy adr [.ref (adr 54), .int s, .int h, .int e] M (ordO B s h e) (some (.int (ordM M B s h e (0 + 4 + B) 0))) (mo (ordO B s h e) (ordM M B s h e) M) 1 6 := by
  refine Cv.mk cX4_order 5 (some .int) RX4 (by decide) rfl rfl (Nat.le_of_ble_eq_true rfl) ?_
  intro K C0 hX hT
  refine y_eq rfl (show ([(0, .ref (adr 54)), (1, .int s), (2, .int h), (3, .int e)] : List (Nat × Value)) = lv_args 0 [.ref (adr 54), .int s, .int h, .int e] from rfl) rfl ?_
  have hin0 : ∀ w ∈ u_ws RX0 TX0 13, w ∈ wsX4_order := by decide +kernel
  have hin3 : ∀ w ∈ u_ws RX3 TX3 12, w ∈ wsX4_order := by decide +kernel
  have hin4 : ∀ w ∈ u_ws RX4 TX4 2, w ∈ wsX4_order := by decide +kernel
  have hgwIAE : ∀ w ∈ (vx_atS RX4 23 yIAE yNs).filter goodWord, w ∈ wsX4_order := by decide +kernel
  have hgwISE : ∀ w ∈ (vx_atS RX4 38 yISE yNs).filter goodWord, w ∈ wsX4_order := by decide +kernel
  refine y_iload_n C0 1 dX4_order_0 rfl rfl ?_
  refine y_iconst (v := 1) C0 dX4_order_1 (by decide) ?_
  refine y_icmp_lt C0 11 dX4_order_2 (by decide) (fun c_2 => ?_) (fun c_2 => ?_)
  · exact y_thr C0 hX hT hlf rfl (cls := yIAE) (is := 21) (text := "signatures are 1 to 24") (by decide) (by decide) (by decide +kernel) (by decide +kernel) hgwIAE ngIAE gdIAE dX4_order_11 dX4_order_14 dX4_order_15 dX4_order_17 dX4_order_20 (by decide) (Nat.le_of_ble_eq_true rfl) (by decide) (by decide) (by decide) (by decide) (by simp [ordO, thn, c_2]) (mo_t (e := yIAE) (by simp [ordO, thn, c_2]))
  · refine y_iload_n C0 1 dX4_order_5 rfl rfl ?_
    refine y_bipush (v := 24) C0 dX4_order_6 (by decide) ?_
    refine y_icmp_le C0 21 dX4_order_8 (by decide) (fun c_8 => ?_) (fun c_8 => ?_)
    · refine y_iload_n C0 2 dX4_order_21 rfl rfl ?_
      refine y_iconst (v := 1) C0 dX4_order_22 (by decide) ?_
      refine y_icmp_lt C0 32 dX4_order_23 (by decide) (fun c_23 => ?_) (fun c_23 => ?_)
      · exact y_thr C0 hX hT hlf rfl (cls := yIAE) (is := 26) (text := "sheets are 1 to 8") (by decide) (by decide) (by decide +kernel) (by decide +kernel) hgwIAE ngIAE gdIAE dX4_order_32 dX4_order_35 dX4_order_36 dX4_order_38 dX4_order_41 (by decide) (Nat.le_of_ble_eq_true rfl) (by decide) (by decide) (by decide) (by decide) (by simp [ordO, thn, c_2, c_8, c_23]) (mo_t (e := yIAE) (by simp [ordO, thn, c_2, c_8, c_23]))
      · refine y_iload_n C0 2 dX4_order_26 rfl rfl ?_
        refine y_bipush (v := 8) C0 dX4_order_27 (by decide) ?_
        refine y_icmp_le C0 42 dX4_order_29 (by decide) (fun c_29 => ?_) (fun c_29 => ?_)
        · refine y_iload_n C0 3 dX4_order_42 rfl rfl ?_
          refine y_if_lt C0 51 dX4_order_43 (by decide) (fun c_43 => ?_) (fun c_43 => ?_)
          · exact y_thr C0 hX hT hlf rfl (cls := yIAE) (is := 28) (text := "edges are 0 to 3") (by decide) (by decide) (by decide +kernel) (by decide +kernel) hgwIAE ngIAE gdIAE dX4_order_51 dX4_order_54 dX4_order_55 dX4_order_57 dX4_order_60 (by decide) (Nat.le_of_ble_eq_true rfl) (by decide) (by decide) (by decide) (by decide) (by simp [ordO, thn, c_2, c_8, c_23, c_29, c_43]) (mo_t (e := yIAE) (by simp [ordO, thn, c_2, c_8, c_23, c_29, c_43]))
          · refine y_iload_n C0 3 dX4_order_46 rfl rfl ?_
            refine y_iconst (v := 3) C0 dX4_order_47 (by decide) ?_
            refine y_icmp_le C0 61 dX4_order_48 (by decide) (fun c_48 => ?_) (fun c_48 => ?_)
            · refine y_aload_n C0 0 dX4_order_61 rfl rfl ?_
              refine y_get C0 4 rfl rfl (by decide) hin4 0 ykd_54 (by decide) (by decide +kernel) yv4_now dX4_order_62 ?_
              by_cases hn : ¬ B < 15
              · refine y_callV (As := []) (rest := _) (n := 0) C0 (mX3_freeBook_n l D cy adr _ 0 (Or.inl rfl) (by rw [eB]; exact nI_le (by omega) (by omega))) 3 rfl (by decide) ykd_now gX4_order_X3_freeBook rfl rfl rfl (by decide +kernel) ⟨by decide, by decide⟩ rfl rfl (Nat.le_of_ble_eq_true rfl) dX4_order_65 ⟨by decide, by decide⟩ ?_
                refine y_astoreN C0 [(4, _), (0, _), (1, _), (2, _), (3, _)] dX4_order_68 (by decide) rfl ?_
                refine y_aloadN C0 0 dX4_order_70 rfl ?_
                refine y_ifnonnullN C0 dX4_order_72 ?_
                exact y_thr C0 hX hT hlf rfl (cls := yISE) (is := 36) (text := "no more books can be ordered") (by decide) (by decide) (by decide +kernel) (by decide +kernel) hgwISE ngISE gdISE dX4_order_75 dX4_order_78 dX4_order_79 dX4_order_81 dX4_order_84 (by decide) (Nat.le_of_ble_eq_true rfl) (by decide) (by decide) (by decide) (by decide) (by simp [ordO, thn, c_2, c_8, c_23, c_29, c_43, c_48, hn]) (mo_t (e := yISE) (by simp [ordO, thn, c_2, c_8, c_23, c_29, c_43, c_48, hn]))
              simp only [Classical.not_not] at hn
              refine y_callV (As := []) (rest := _) (n := 0) C0 (mX3_freeBook l D cy adr _ 0 (Or.inl rfl) B hn eB) 3 rfl (by decide) ykd_now gX4_order_X3_freeBook rfl rfl rfl (by decide +kernel) ⟨by decide, by decide⟩ rfl rfl (Nat.le_of_ble_eq_true rfl) dX4_order_65 ⟨by decide, by decide⟩ ?_
              refine y_astore C0 [(4, _), (0, _), (1, _), (2, _), (3, _)] dX4_order_68 (by decide) rfl ?_
              refine y_aload C0 0 dX4_order_70 rfl ?_
              refine y_ifnonnull C0 85 dX4_order_72 (by decide) ?_
              refine y_aload C0 0 dX4_order_85 rfl ?_
              refine y_iload_n C0 2 dX4_order_87 rfl rfl ?_
              refine y_iload_n C0 3 dX4_order_88 rfl rfl ?_
              refine y_iload_n C0 4 dX4_order_89 rfl rfl ?_
              refine y_callV (As := [_, _, _]) (rest := _) (n := 3) C0 (mX0_begin l D cy adr _ _ (ykd_bk (Or.inl rfl) hn) _ _ _) 0 rfl (by decide) (ykd_bk (Or.inl rfl) hn) gX4_order_X0_begin rfl rfl rfl (by decide +kernel) ⟨by decide, by decide⟩ rfl rfl (Nat.le_of_ble_eq_true rfl) dX4_order_90 ⟨by decide, by decide⟩ ?_
              refine y_aload_n C0 1 dX4_order_93 rfl rfl ?_
              refine y_get C0 4 rfl rfl (by decide) hin4 0 ykd_54 (by decide) (by decide +kernel) yv4_now dX4_order_94 ?_
              refine y_dup C0 dX4_order_97 rfl ?_
              refine y_get C0 3 rfl rfl (by decide) hin3 3 ykd_now (by decide) (by decide +kernel) (yvi3 ykd_now (by decide)) dX4_order_98 ?_
              refine y_iconst (v := 1) C0 dX4_order_101 (by decide) ?_
              refine y_iadd C0 dX4_order_102 ?_
              refine y_put C0 3 rfl rfl (by decide) hin3 tyX3 tyX3_ok nmX3 3 ykd_now (by decide) (by decide +kernel) (yrn3 ykd_now (by decide)) rfl (by decide +kernel) dX4_order_103 ?_
              refine y_aload C0 0 dX4_order_106 rfl ?_
              refine y_get C0 0 rfl rfl (by decide) hin0 0 (ykd_bk (Or.inl rfl) hn) (by decide) (by decide +kernel) (yvi0 (ykd_bk (Or.inl rfl) hn)) dX4_order_108 ?_
              have ho9 : (ordO B s h e) = none := by simp [ordO, thn, c_2, c_8, c_23, c_29, c_43, c_48, hn]
              refine y_ok ho9 ?_
              refine y_widen (k := 1) (n := 6) (by decide) (by decide) ?_
              exact y_iret C0 dX4_order_111 rfl (mo_n ho9 rfl)
            · exact y_thr C0 hX hT hlf rfl (cls := yIAE) (is := 28) (text := "edges are 0 to 3") (by decide) (by decide) (by decide +kernel) (by decide +kernel) hgwIAE ngIAE gdIAE dX4_order_51 dX4_order_54 dX4_order_55 dX4_order_57 dX4_order_60 (by decide) (Nat.le_of_ble_eq_true rfl) (by decide) (by decide) (by decide) (by decide) (by simp [ordO, thn, c_2, c_8, c_23, c_29, c_43, c_48]) (mo_t (e := yIAE) (by simp [ordO, thn, c_2, c_8, c_23, c_29, c_43, c_48]))
        · exact y_thr C0 hX hT hlf rfl (cls := yIAE) (is := 26) (text := "sheets are 1 to 8") (by decide) (by decide) (by decide +kernel) (by decide +kernel) hgwIAE ngIAE gdIAE dX4_order_32 dX4_order_35 dX4_order_36 dX4_order_38 dX4_order_41 (by decide) (Nat.le_of_ble_eq_true rfl) (by decide) (by decide) (by decide) (by decide) (by simp [ordO, thn, c_2, c_8, c_23, c_29]) (mo_t (e := yIAE) (by simp [ordO, thn, c_2, c_8, c_23, c_29]))
    · exact y_thr C0 hX hT hlf rfl (cls := yIAE) (is := 21) (text := "signatures are 1 to 24") (by decide) (by decide) (by decide +kernel) (by decide +kernel) hgwIAE ngIAE gdIAE dX4_order_11 dX4_order_14 dX4_order_15 dX4_order_17 dX4_order_20 (by decide) (Nat.le_of_ble_eq_true rfl) (by decide) (by decide) (by decide) (by decide) (by simp [ordO, thn, c_2, c_8]) (mo_t (e := yIAE) (by simp [ordO, thn, c_2, c_8]))
abbrev rX4_hire : Room := { frames := 6, cells := 1, slots := 6, locals := 90 }
set_option maxRecDepth 100000 in
set_option maxHeartbeats 4000000 in
theorem mX4_hire (l : Launch) (hlf : l.stackTraces = false) (D : va_G) (cy : Nat → ClassId) (adr : Nat → Nat) (M : yM) (s : Int32) (B : Nat) (hB : B ≤ 5) (eB : M 0 4 = nI B) : Cv l yX4_hire wsX4_hire rX4_hire D cy adr [.ref (adr 54), .int s] M (hirO B s) (some (.int (hirM M B s (0 + 19 + B) 0))) (mo (hirO B s) (hirM M B s) M) 1 6 := by
  refine Cv.mk cX4_hire 3 (some .int) RX4 (by decide) rfl rfl (Nat.le_of_ble_eq_true rfl) ?_
  intro K C0 hX hT
  refine y_eq rfl (show ([(0, .ref (adr 54)), (1, .int s)] : List (Nat × Value)) = lv_args 0 [.ref (adr 54), .int s] from rfl) rfl ?_
  have hin2 : ∀ w ∈ u_ws RX2 TX2 3, w ∈ wsX4_hire := by decide +kernel
  have hin3 : ∀ w ∈ u_ws RX3 TX3 12, w ∈ wsX4_hire := by decide +kernel
  have hin4 : ∀ w ∈ u_ws RX4 TX4 2, w ∈ wsX4_hire := by decide +kernel
  have hgwIAE : ∀ w ∈ (vx_atS RX4 23 yIAE yNs).filter goodWord, w ∈ wsX4_hire := by decide +kernel
  have hgwISE : ∀ w ∈ (vx_atS RX4 38 yISE yNs).filter goodWord, w ∈ wsX4_hire := by decide +kernel
  refine y_iload_n C0 1 dX4_hire_0 rfl rfl ?_
  refine y_iconst (v := 1) C0 dX4_hire_1 (by decide) ?_
  refine y_icmp_lt C0 11 dX4_hire_2 (by decide) (fun c_2 => ?_) (fun c_2 => ?_)
  · exact y_thr C0 hX hT hlf rfl (cls := yIAE) (is := 88) (text := "speed is 1 to 9") (by decide) (by decide) (by decide +kernel) (by decide +kernel) hgwIAE ngIAE gdIAE dX4_hire_11 dX4_hire_14 dX4_hire_15 dX4_hire_17 dX4_hire_20 (by decide) (Nat.le_of_ble_eq_true rfl) (by decide) (by decide) (by decide) (by decide) (by simp [hirO, thn, c_2]) (mo_t (e := yIAE) (by simp [hirO, thn, c_2]))
  · refine y_iload_n C0 1 dX4_hire_5 rfl rfl ?_
    refine y_bipush (v := 9) C0 dX4_hire_6 (by decide) ?_
    refine y_icmp_le C0 21 dX4_hire_8 (by decide) (fun c_8 => ?_) (fun c_8 => ?_)
    · refine y_aload_n C0 0 dX4_hire_21 rfl rfl ?_
      refine y_get C0 4 rfl rfl (by decide) hin4 0 ykd_54 (by decide) (by decide +kernel) yv4_now dX4_hire_22 ?_
      by_cases hn : ¬ B < 5
      · refine y_callV (As := []) (rest := _) (n := 0) C0 (mX3_freeSewer_n l D cy adr _ 0 (Or.inl rfl) (by rw [eB]; exact nI_le (by omega) (by omega))) 3 rfl (by decide) ykd_now gX4_hire_X3_freeSewer rfl rfl rfl (by decide +kernel) ⟨by decide, by decide⟩ rfl rfl (Nat.le_of_ble_eq_true rfl) dX4_hire_25 ⟨by decide, by decide⟩ ?_
        refine y_astore_nN C0 [(2, _), (0, _), (1, _)] dX4_hire_28 rfl (by decide) rfl ?_
        refine y_aload_nN C0 0 dX4_hire_29 rfl rfl ?_
        refine y_ifnonnullN C0 dX4_hire_30 ?_
        exact y_thr C0 hX hT hlf rfl (cls := yISE) (is := 94) (text := "no more sewers can be hired") (by decide) (by decide) (by decide +kernel) (by decide +kernel) hgwISE ngISE gdISE dX4_hire_33 dX4_hire_36 dX4_hire_37 dX4_hire_39 dX4_hire_42 (by decide) (Nat.le_of_ble_eq_true rfl) (by decide) (by decide) (by decide) (by decide) (by simp [hirO, thn, c_2, c_8, hn]) (mo_t (e := yISE) (by simp [hirO, thn, c_2, c_8, hn]))
      simp only [Classical.not_not] at hn
      refine y_callV (As := []) (rest := _) (n := 0) C0 (mX3_freeSewer l D cy adr _ 0 (Or.inl rfl) B hn eB) 3 rfl (by decide) ykd_now gX4_hire_X3_freeSewer rfl rfl rfl (by decide +kernel) ⟨by decide, by decide⟩ rfl rfl (Nat.le_of_ble_eq_true rfl) dX4_hire_25 ⟨by decide, by decide⟩ ?_
      refine y_astore_n C0 [(2, _), (0, _), (1, _)] dX4_hire_28 rfl (by decide) rfl ?_
      refine y_aload_n C0 0 dX4_hire_29 rfl rfl ?_
      refine y_ifnonnull C0 43 dX4_hire_30 (by decide) ?_
      refine y_aload_n C0 0 dX4_hire_43 rfl rfl ?_
      refine y_iload_n C0 2 dX4_hire_44 rfl rfl ?_
      refine y_put C0 2 rfl rfl (by decide) hin2 tyX2 tyX2_ok nmX2 1 (ykd_sw (Or.inl rfl) hn) (by decide) (by decide +kernel) (yrn2 (ykd_sw (Or.inl rfl) hn)) rfl (by decide +kernel) dX4_hire_45 ?_
      refine y_aload_n C0 1 dX4_hire_48 rfl rfl ?_
      refine y_get C0 4 rfl rfl (by decide) hin4 0 ykd_54 (by decide) (by decide +kernel) yv4_now dX4_hire_49 ?_
      refine y_dup C0 dX4_hire_52 rfl ?_
      refine y_get C0 3 rfl rfl (by decide) hin3 4 ykd_now (by decide) (by decide +kernel) (yvi3 ykd_now (by decide)) dX4_hire_53 ?_
      refine y_iconst (v := 1) C0 dX4_hire_56 (by decide) ?_
      refine y_iadd C0 dX4_hire_57 ?_
      refine y_put C0 3 rfl rfl (by decide) hin3 tyX3 tyX3_ok nmX3 4 ykd_now (by decide) (by decide +kernel) (yrn3 ykd_now (by decide)) rfl (by decide +kernel) dX4_hire_58 ?_
      refine y_aload_n C0 0 dX4_hire_61 rfl rfl ?_
      refine y_get C0 2 rfl rfl (by decide) hin2 0 (ykd_sw (Or.inl rfl) hn) (by decide) (by decide +kernel) (yvi2 (ykd_sw (Or.inl rfl) hn)) dX4_hire_62 ?_
      have ho9 : (hirO B s) = none := by simp [hirO, thn, c_2, c_8, hn]
      refine y_ok ho9 ?_
      refine y_widen (k := 1) (n := 6) (by decide) (by decide) ?_
      exact y_iret C0 dX4_hire_65 rfl (mo_n ho9 rfl)
    · exact y_thr C0 hX hT hlf rfl (cls := yIAE) (is := 88) (text := "speed is 1 to 9") (by decide) (by decide) (by decide +kernel) (by decide +kernel) hgwIAE ngIAE gdIAE dX4_hire_11 dX4_hire_14 dX4_hire_15 dX4_hire_17 dX4_hire_20 (by decide) (Nat.le_of_ble_eq_true rfl) (by decide) (by decide) (by decide) (by decide) (by simp [hirO, thn, c_2, c_8]) (mo_t (e := yIAE) (by simp [hirO, thn, c_2, c_8]))
abbrev rX4_unpick : Room := { frames := 7, cells := 2, slots := 12, locals := 112 }
set_option maxRecDepth 100000 in
set_option maxHeartbeats 4000000 in
theorem mX4_unpick (l : Launch) (hlf : l.stackTraces = false) (D : va_G) (cy : Nat → ClassId) (adr : Nat → Nat) (M : yM) (x : Int32)  : Cv l yX4_unpick wsX4_unpick rX4_unpick D cy adr [.ref (adr 54), .int x] M (unpO M x) (some (.int (M (bkI x) 7))) (mo (unpO M x) (unpM M (bkI x)) M) 2 12 := by
  refine Cv.mk cX4_unpick 4 (some .int) RX4 (by decide) rfl rfl (Nat.le_of_ble_eq_true rfl) ?_
  intro K C0 hX hT
  refine y_eq rfl (show ([(0, .ref (adr 54)), (1, .int x)] : List (Nat × Value)) = lv_args 0 [.ref (adr 54), .int x] from rfl) rfl ?_
  have hin0 : ∀ w ∈ u_ws RX0 TX0 13, w ∈ wsX4_unpick := by decide +kernel
  have hin4 : ∀ w ∈ u_ws RX4 TX4 2, w ∈ wsX4_unpick := by decide +kernel
  have hgwISE : ∀ w ∈ (vx_atS RX4 38 yISE yNs).filter goodWord, w ∈ wsX4_unpick := by decide +kernel
  refine y_aload_n C0 0 dX4_unpick_0 rfl rfl ?_
  refine y_iload_n C0 1 dX4_unpick_1 rfl rfl ?_
  refine y_callVX (As := [_]) (rest := _) (n := 1) C0 hX hT (mX4_knownBook l hlf D cy adr _ _) 4 rfl (by decide) ykd_54 gX4_unpick_X4_knownBook rfl rfl rfl (by decide +kernel) ⟨by decide, by decide⟩ rfl rfl (Nat.le_of_ble_eq_true rfl) dX4_unpick_2 ⟨by decide, by decide⟩ (fun Ex hE => ⟨by simp [unpO, thn, hE], mo_t (e := Ex) (by simp [unpO, thn, hE])⟩) (by decide) (by decide) (fun k_2 => ?_)
  refine y_astore_n C0 [(2, _), (0, _), (1, _)] dX4_unpick_5 rfl (by decide) rfl ?_
  refine y_aload_n C0 0 dX4_unpick_6 rfl rfl ?_
  refine y_get C0 0 rfl rfl (by decide) hin0 4 (okB_k k_2) (by decide) (by decide +kernel) (yvi0 (okB_k k_2)) dX4_unpick_7 ?_
  refine y_iconst (v := 1) C0 dX4_unpick_10 (by decide) ?_
  refine y_icmp_eq C0 24 dX4_unpick_11 (by decide) (fun c_11 => ?_) (fun c_11 => ?_)
  · refine y_aload_n C0 0 dX4_unpick_24 rfl rfl ?_
    refine y_get C0 0 rfl rfl (by decide) hin0 7 (okB_k k_2) (by decide) (by decide +kernel) (yvi0 (okB_k k_2)) dX4_unpick_25 ?_
    refine y_istore_n C0 [(3, _), (2, _), (0, _), (1, _)] dX4_unpick_28 rfl (by decide) rfl ?_
    refine y_aload_n C0 2 dX4_unpick_29 rfl rfl ?_
    refine y_get C0 4 rfl rfl (by decide) hin4 0 ykd_54 (by decide) (by decide +kernel) yv4_now dX4_unpick_30 ?_
    refine y_aload_n C0 1 dX4_unpick_33 rfl rfl ?_
    refine y_callV (As := [_]) (rest := _) (n := 1) C0 (mX3_clearFrameOf l D cy adr _ 0 (Or.inl rfl) (cN x) (okB_e k_2).1) 3 rfl (by decide) ykd_now gX4_unpick_X3_clearFrameOf rfl rfl rfl (by decide +kernel) ⟨by decide, by decide⟩ rfl rfl (Nat.le_of_ble_eq_true rfl) dX4_unpick_34 ⟨by decide, by decide⟩ ?_
    refine y_aload_n C0 1 dX4_unpick_37 rfl rfl ?_
    refine y_callV (As := []) (rest := _) (n := 0) C0 (mX0_undo l D cy adr _ _ (okB_k k_2)) 0 rfl (by decide) (okB_k k_2) gX4_unpick_X0_undo rfl rfl rfl (by decide +kernel) ⟨by decide, by decide⟩ rfl rfl (Nat.le_of_ble_eq_true rfl) dX4_unpick_38 ⟨by decide, by decide⟩ ?_
    refine y_iload_n C0 0 dX4_unpick_41 rfl rfl ?_
    have ho9 : (unpO M x) = none := by simp [unpO, thn, k_2, c_11]
    refine y_ok ho9 ?_
    refine y_widen (k := 2) (n := 12) (by decide) (by decide) ?_
    exact y_iret C0 dX4_unpick_42 rfl (mo_n ho9 rfl)
  · exact y_thr C0 hX hT hlf rfl (cls := yISE) (is := 59) (text := "the book is not on a frame") (by decide) (by decide) (by decide +kernel) (by decide +kernel) hgwISE ngISE gdISE dX4_unpick_14 dX4_unpick_17 dX4_unpick_18 dX4_unpick_20 dX4_unpick_23 (by decide) (Nat.le_of_ble_eq_true rfl) (by decide) (by decide) (by decide) (by decide) (by simp [unpO, thn, k_2, c_11]) (mo_t (e := yISE) (by simp [unpO, thn, k_2, c_11]))
abbrev rX4_sell : Room := { frames := 7, cells := 2, slots := 12, locals := 112 }
set_option maxRecDepth 100000 in
set_option maxHeartbeats 4000000 in
theorem mX4_sell (l : Launch) (hlf : l.stackTraces = false) (D : va_G) (cy : Nat → ClassId) (adr : Nat → Nat) (M : yM) (x : Int32)  : Cv l yX4_sell wsX4_sell rX4_sell D cy adr [.ref (adr 54), .int x] M (selO M x) (some (.int (selM M (bkI x) 0 6))) (mo (selO M x) (selM M (bkI x)) M) 2 12 := by
  refine Cv.mk cX4_sell 3 (some .int) RX4 (by decide) rfl rfl (Nat.le_of_ble_eq_true rfl) ?_
  intro K C0 hX hT
  refine y_eq rfl (show ([(0, .ref (adr 54)), (1, .int x)] : List (Nat × Value)) = lv_args 0 [.ref (adr 54), .int x] from rfl) rfl ?_
  have hin0 : ∀ w ∈ u_ws RX0 TX0 13, w ∈ wsX4_sell := by decide +kernel
  have hin3 : ∀ w ∈ u_ws RX3 TX3 12, w ∈ wsX4_sell := by decide +kernel
  have hin4 : ∀ w ∈ u_ws RX4 TX4 2, w ∈ wsX4_sell := by decide +kernel
  have hgwISE : ∀ w ∈ (vx_atS RX4 38 yISE yNs).filter goodWord, w ∈ wsX4_sell := by decide +kernel
  refine y_aload_n C0 0 dX4_sell_0 rfl rfl ?_
  refine y_iload_n C0 1 dX4_sell_1 rfl rfl ?_
  refine y_callVX (As := [_]) (rest := _) (n := 1) C0 hX hT (mX4_knownBook l hlf D cy adr _ _) 4 rfl (by decide) ykd_54 gX4_sell_X4_knownBook rfl rfl rfl (by decide +kernel) ⟨by decide, by decide⟩ rfl rfl (Nat.le_of_ble_eq_true rfl) dX4_sell_2 ⟨by decide, by decide⟩ (fun Ex hE => ⟨by simp [selO, thn, hE], mo_t (e := Ex) (by simp [selO, thn, hE])⟩) (by decide) (by decide) (fun k_2 => ?_)
  refine y_astore_n C0 [(2, _), (0, _), (1, _)] dX4_sell_5 rfl (by decide) rfl ?_
  refine y_aload_n C0 0 dX4_sell_6 rfl rfl ?_
  refine y_get C0 0 rfl rfl (by decide) hin0 4 (okB_k k_2) (by decide) (by decide +kernel) (yvi0 (okB_k k_2)) dX4_sell_7 ?_
  refine y_iconst (v := 5) C0 dX4_sell_10 (by decide) ?_
  refine y_icmp_eq C0 24 dX4_sell_11 (by decide) (fun c_11 => ?_) (fun c_11 => ?_)
  · refine y_aload_n C0 0 dX4_sell_24 rfl rfl ?_
    refine y_bipush (v := 6) C0 dX4_sell_25 (by decide) ?_
    refine y_put C0 0 rfl rfl (by decide) hin0 tyX0 tyX0_ok nmX0 4 (okB_k k_2) (by decide) (by decide +kernel) (yrn0 (okB_k k_2)) rfl (by decide +kernel) dX4_sell_27 ?_
    refine y_aload_n C0 1 dX4_sell_30 rfl rfl ?_
    refine y_get C0 4 rfl rfl (by decide) hin4 0 ykd_54 (by decide) (by decide +kernel) yv4_now dX4_sell_31 ?_
    refine y_dup C0 dX4_sell_34 rfl ?_
    refine y_get C0 3 rfl rfl (by decide) hin3 6 ykd_now (by decide) (by decide +kernel) (yvi3 ykd_now (by decide)) dX4_sell_35 ?_
    refine y_aload_n C0 0 dX4_sell_38 rfl rfl ?_
    refine y_callV (As := []) (rest := _) (n := 0) C0 (mX0_value l D cy adr _ _ (okB_k k_2)) 0 rfl (by decide) (okB_k k_2) gX4_sell_X0_value rfl rfl rfl (by decide +kernel) ⟨by decide, by decide⟩ rfl rfl (Nat.le_of_ble_eq_true rfl) dX4_sell_39 ⟨by decide, by decide⟩ ?_
    refine y_iadd C0 dX4_sell_42 ?_
    refine y_put C0 3 rfl rfl (by decide) hin3 tyX3 tyX3_ok nmX3 6 ykd_now (by decide) (by decide +kernel) (yrn3 ykd_now (by decide)) rfl (by decide +kernel) dX4_sell_43 ?_
    refine y_aload_n C0 1 dX4_sell_46 rfl rfl ?_
    refine y_get C0 4 rfl rfl (by decide) hin4 0 ykd_54 (by decide) (by decide +kernel) yv4_now dX4_sell_47 ?_
    refine y_get C0 3 rfl rfl (by decide) hin3 6 ykd_now (by decide) (by decide +kernel) (yvi3 ykd_now (by decide)) dX4_sell_50 ?_
    have ho9 : (selO M x) = none := by simp [selO, thn, k_2, c_11]
    refine y_ok ho9 ?_
    refine y_widen (k := 2) (n := 12) (by decide) (by decide) ?_
    exact y_iret C0 dX4_sell_53 rfl (mo_n ho9 rfl)
  · exact y_thr C0 hX hT hlf rfl (cls := yISE) (is := 71) (text := "the book is not done, or sold") (by decide) (by decide) (by decide +kernel) (by decide +kernel) hgwISE ngISE gdISE dX4_sell_14 dX4_sell_17 dX4_sell_18 dX4_sell_20 dX4_sell_23 (by decide) (Nat.le_of_ble_eq_true rfl) (by decide) (by decide) (by decide) (by decide) (by simp [selO, thn, k_2, c_11]) (mo_t (e := yISE) (by simp [selO, thn, k_2, c_11]))
abbrev rX4_seat : Room := { frames := 7, cells := 2, slots := 12, locals := 112 }
set_option maxRecDepth 100000 in
set_option maxHeartbeats 4000000 in
theorem mX4_seat (l : Launch) (hlf : l.stackTraces = false) (D : va_G) (cy : Nat → ClassId) (adr : Nat → Nat) (M : yM) (x : Int32) (f : Int32)  : Cv l yX4_seat wsX4_seat rX4_seat D cy adr [.ref (adr 54), .int x, .int f] M (seaO M x f) (some (.int (M (swI x) 2))) (mo (seaO M x f) (yst M (swI x) 2 f) M) 2 12 := by
  refine Cv.mk cX4_seat 5 (some .int) RX4 (by decide) rfl rfl (Nat.le_of_ble_eq_true rfl) ?_
  intro K C0 hX hT
  refine y_eq rfl (show ([(0, .ref (adr 54)), (1, .int x), (2, .int f)] : List (Nat × Value)) = lv_args 0 [.ref (adr 54), .int x, .int f] from rfl) rfl ?_
  have hin2 : ∀ w ∈ u_ws RX2 TX2 3, w ∈ wsX4_seat := by decide +kernel
  have hin4 : ∀ w ∈ u_ws RX4 TX4 2, w ∈ wsX4_seat := by decide +kernel
  have hgwIOE : ∀ w ∈ (vx_atS RX4 113 yIOE yNs).filter goodWord, w ∈ wsX4_seat := by decide +kernel
  have hgwISE : ∀ w ∈ (vx_atS RX4 38 yISE yNs).filter goodWord, w ∈ wsX4_seat := by decide +kernel
  refine y_aload_n C0 0 dX4_seat_0 rfl rfl ?_
  refine y_iload_n C0 1 dX4_seat_1 rfl rfl ?_
  refine y_callVX (As := [_]) (rest := _) (n := 1) C0 hX hT (mX4_knownSewer l hlf D cy adr _ _) 4 rfl (by decide) ykd_54 gX4_seat_X4_knownSewer rfl rfl rfl (by decide +kernel) ⟨by decide, by decide⟩ rfl rfl (Nat.le_of_ble_eq_true rfl) dX4_seat_2 ⟨by decide, by decide⟩ (fun Ex hE => ⟨by simp [seaO, thn, hE], mo_t (e := Ex) (by simp [seaO, thn, hE])⟩) (by decide) (by decide) (fun k_2 => ?_)
  refine y_astore_n C0 [(3, _), (0, _), (1, _), (2, _)] dX4_seat_5 rfl (by decide) rfl ?_
  refine y_iload_n C0 3 dX4_seat_6 rfl rfl ?_
  refine y_iconst (v := (-1)) C0 dX4_seat_7 (by decide) ?_
  refine y_icmp_eq C0 30 dX4_seat_8 (by decide) (fun c_8 => ?_) (fun c_8 => ?_)
  · refine y_iload_n C0 3 dX4_seat_30 rfl rfl ?_
    refine y_iconst (v := (-1)) C0 dX4_seat_31 (by decide) ?_
    refine y_icmp_eq C0 58 dX4_seat_32 (by decide) (fun c_32 => ?_) (fun c_32 => ?_)
    · refine y_aload_n C0 0 dX4_seat_58 rfl rfl ?_
      refine y_get C0 2 rfl rfl (by decide) hin2 2 (okS_k k_2) (by decide) (by decide +kernel) (yvi2 (okS_k k_2)) dX4_seat_59 ?_
      refine y_istore C0 [(4, _), (3, _), (0, _), (1, _), (2, _)] dX4_seat_62 (by decide) rfl ?_
      refine y_aload_n C0 1 dX4_seat_64 rfl rfl ?_
      refine y_iload_n C0 4 dX4_seat_65 rfl rfl ?_
      refine y_put C0 2 rfl rfl (by decide) hin2 tyX2 tyX2_ok nmX2 2 (okS_k k_2) (by decide) (by decide +kernel) (yrn2 (okS_k k_2)) rfl (by decide +kernel) dX4_seat_66 ?_
      refine y_iload C0 0 dX4_seat_69 rfl ?_
      have ho9 : (seaO M x f) = none := by simp [seaO, thn, k_2, c_8, c_32]
      refine y_ok ho9 ?_
      refine y_widen (k := 2) (n := 12) (by decide) (by decide) ?_
      exact y_iret C0 dX4_seat_71 rfl (mo_n ho9 rfl)
    · exact absurd c_8 c_32
  · refine y_iload_n C0 3 dX4_seat_11 rfl rfl ?_
    refine y_if_lt C0 20 dX4_seat_12 (by decide) (fun c_12 => ?_) (fun c_12 => ?_)
    · exact y_thr C0 hX hT hlf rfl (cls := yIOE) (is := 111) (text := "there is no such frame") (by decide) (by decide) (by decide +kernel) (by decide +kernel) hgwIOE ngIOE gdIOE dX4_seat_20 dX4_seat_23 dX4_seat_24 dX4_seat_26 dX4_seat_29 (by decide) (Nat.le_of_ble_eq_true rfl) (by decide) (by decide) (by decide) (by decide) (by simp [seaO, thn, k_2, c_8, c_12]) (mo_t (e := yIOE) (by simp [seaO, thn, k_2, c_8, c_12]))
    · refine y_iload_n C0 3 dX4_seat_15 rfl rfl ?_
      refine y_iconst (v := 3) C0 dX4_seat_16 (by decide) ?_
      refine y_icmp_lt C0 30 dX4_seat_17 (by decide) (fun c_17 => ?_) (fun c_17 => ?_)
      · refine y_iload_n C0 3 dX4_seat_30 rfl rfl ?_
        refine y_iconst (v := (-1)) C0 dX4_seat_31 (by decide) ?_
        refine y_icmp_eq C0 58 dX4_seat_32 (by decide) (fun c_32 => ?_) (fun c_32 => ?_)
        · exact absurd c_32 c_8
        · refine y_aload_n C0 1 dX4_seat_35 rfl rfl ?_
          refine y_get C0 4 rfl rfl (by decide) hin4 0 ykd_54 (by decide) (by decide +kernel) yv4_now dX4_seat_36 ?_
          refine y_iload_n C0 3 dX4_seat_39 rfl rfl ?_
          refine y_iload_n C0 2 dX4_seat_40 rfl rfl ?_
          refine y_callV (As := [_, _]) (rest := _) (n := 2) C0 (mX3_othersAt l D cy adr _ 0 (Or.inl rfl) _ _) 3 rfl (by decide) ykd_now gX4_seat_X3_othersAt rfl rfl rfl (by decide +kernel) ⟨by decide, by decide⟩ rfl rfl (Nat.le_of_ble_eq_true rfl) dX4_seat_41 ⟨by decide, by decide⟩ ?_
          refine y_iconst (v := 2) C0 dX4_seat_44 (by decide) ?_
          refine y_icmp_lt C0 58 dX4_seat_45 (by decide) (fun c_45 => ?_) (fun c_45 => ?_)
          · refine y_aload_n C0 0 dX4_seat_58 rfl rfl ?_
            refine y_get C0 2 rfl rfl (by decide) hin2 2 (okS_k k_2) (by decide) (by decide +kernel) (yvi2 (okS_k k_2)) dX4_seat_59 ?_
            refine y_istore C0 [(4, _), (3, _), (0, _), (1, _), (2, _)] dX4_seat_62 (by decide) rfl ?_
            refine y_aload_n C0 1 dX4_seat_64 rfl rfl ?_
            refine y_iload_n C0 4 dX4_seat_65 rfl rfl ?_
            refine y_put C0 2 rfl rfl (by decide) hin2 tyX2 tyX2_ok nmX2 2 (okS_k k_2) (by decide) (by decide +kernel) (yrn2 (okS_k k_2)) rfl (by decide +kernel) dX4_seat_66 ?_
            refine y_iload C0 0 dX4_seat_69 rfl ?_
            have ho9 : (seaO M x f) = none := by simp [seaO, thn, k_2, c_8, c_12, c_17, c_32, c_45]
            refine y_ok ho9 ?_
            refine y_widen (k := 2) (n := 12) (by decide) (by decide) ?_
            exact y_iret C0 dX4_seat_71 rfl (mo_n ho9 rfl)
          · exact y_thr C0 hX hT hlf rfl (cls := yISE) (is := 118) (text := "two others sit at the frame") (by decide) (by decide) (by decide +kernel) (by decide +kernel) hgwISE ngISE gdISE dX4_seat_48 dX4_seat_51 dX4_seat_52 dX4_seat_54 dX4_seat_57 (by decide) (Nat.le_of_ble_eq_true rfl) (by decide) (by decide) (by decide) (by decide) (by simp [seaO, thn, k_2, c_8, c_12, c_17, c_32, c_45]) (mo_t (e := yISE) (by simp [seaO, thn, k_2, c_8, c_12, c_17, c_32, c_45]))
      · exact y_thr C0 hX hT hlf rfl (cls := yIOE) (is := 111) (text := "there is no such frame") (by decide) (by decide) (by decide +kernel) (by decide +kernel) hgwIOE ngIOE gdIOE dX4_seat_20 dX4_seat_23 dX4_seat_24 dX4_seat_26 dX4_seat_29 (by decide) (Nat.le_of_ble_eq_true rfl) (by decide) (by decide) (by decide) (by decide) (by simp [seaO, thn, k_2, c_8, c_12, c_17]) (mo_t (e := yIOE) (by simp [seaO, thn, k_2, c_8, c_12, c_17]))
abbrev rX4_string : Room := { frames := 7, cells := 2, slots := 12, locals := 111 }
set_option maxRecDepth 100000 in
set_option maxHeartbeats 4000000 in
theorem mX4_string (l : Launch) (hlf : l.stackTraces = false) (D : va_G) (cy : Nat → ClassId) (adr : Nat → Nat) (M : yM) (f : Int32) (c : Int32)  : Cv l yX4_string wsX4_string rX4_string D cy adr [.ref (adr 54), .int f, .int c] M (strO M f c) (some (.int (M (frI f) 1))) (mo (strO M f c) (yst M (frI f) 1 c) M) 2 12 := by
  refine Cv.mk cX4_string 5 (some .int) RX4 (by decide) rfl rfl (Nat.le_of_ble_eq_true rfl) ?_
  intro K C0 hX hT
  refine y_eq rfl (show ([(0, .ref (adr 54)), (1, .int f), (2, .int c)] : List (Nat × Value)) = lv_args 0 [.ref (adr 54), .int f, .int c] from rfl) rfl ?_
  have hin1 : ∀ w ∈ u_ws RX1 TX1 4, w ∈ wsX4_string := by decide +kernel
  have hgwIAE : ∀ w ∈ (vx_atS RX4 23 yIAE yNs).filter goodWord, w ∈ wsX4_string := by decide +kernel
  have hgwISE : ∀ w ∈ (vx_atS RX4 38 yISE yNs).filter goodWord, w ∈ wsX4_string := by decide +kernel
  refine y_aload_n C0 0 dX4_string_0 rfl rfl ?_
  refine y_iload_n C0 1 dX4_string_1 rfl rfl ?_
  refine y_callVX (As := [_]) (rest := _) (n := 1) C0 hX hT (mX4_knownFrame l hlf D cy adr _ _) 4 rfl (by decide) ykd_54 gX4_string_X4_knownFrame rfl rfl rfl (by decide +kernel) ⟨by decide, by decide⟩ rfl rfl (Nat.le_of_ble_eq_true rfl) dX4_string_2 ⟨by decide, by decide⟩ (fun Ex hE => ⟨by simp [strO, thn, hE], mo_t (e := Ex) (by simp [strO, thn, hE])⟩) (by decide) (by decide) (fun k_2 => ?_)
  refine y_astore_n C0 [(3, _), (0, _), (1, _), (2, _)] dX4_string_5 rfl (by decide) rfl ?_
  refine y_iload_n C0 3 dX4_string_6 rfl rfl ?_
  refine y_iconst (v := 2) C0 dX4_string_7 (by decide) ?_
  refine y_icmp_lt C0 17 dX4_string_8 (by decide) (fun c_8 => ?_) (fun c_8 => ?_)
  · exact y_thr C0 hX hT hlf rfl (cls := yIAE) (is := 128) (text := "cords are 2 to 6") (by decide) (by decide) (by decide +kernel) (by decide +kernel) hgwIAE ngIAE gdIAE dX4_string_17 dX4_string_20 dX4_string_21 dX4_string_23 dX4_string_26 (by decide) (Nat.le_of_ble_eq_true rfl) (by decide) (by decide) (by decide) (by decide) (by simp [strO, thn, k_2, c_8]) (mo_t (e := yIAE) (by simp [strO, thn, k_2, c_8]))
  · refine y_iload_n C0 3 dX4_string_11 rfl rfl ?_
    refine y_bipush (v := 6) C0 dX4_string_12 (by decide) ?_
    refine y_icmp_le C0 27 dX4_string_14 (by decide) (fun c_14 => ?_) (fun c_14 => ?_)
    · refine y_aload_n C0 0 dX4_string_27 rfl rfl ?_
      refine y_get C0 1 rfl rfl (by decide) hin1 2 (okF_k k_2) (by decide) (by decide +kernel) (yvi1 (okF_k k_2)) dX4_string_28 ?_
      refine y_iconst (v := (-1)) C0 dX4_string_31 (by decide) ?_
      refine y_icmp_eq C0 45 dX4_string_32 (by decide) (fun c_32 => ?_) (fun c_32 => ?_)
      · refine y_aload_n C0 0 dX4_string_45 rfl rfl ?_
        refine y_get C0 1 rfl rfl (by decide) hin1 1 (okF_k k_2) (by decide) (by decide +kernel) (yvi1 (okF_k k_2)) dX4_string_46 ?_
        refine y_istore C0 [(4, _), (3, _), (0, _), (1, _), (2, _)] dX4_string_49 (by decide) rfl ?_
        refine y_aload_n C0 1 dX4_string_51 rfl rfl ?_
        refine y_iload_n C0 4 dX4_string_52 rfl rfl ?_
        refine y_put C0 1 rfl rfl (by decide) hin1 tyX1 tyX1_ok nmX1 1 (okF_k k_2) (by decide) (by decide +kernel) (yrn1 (okF_k k_2)) rfl (by decide +kernel) dX4_string_53 ?_
        refine y_iload C0 0 dX4_string_56 rfl ?_
        have ho9 : (strO M f c) = none := by simp [strO, thn, k_2, c_8, c_14, c_32]
        refine y_ok ho9 ?_
        refine y_widen (k := 2) (n := 12) (by decide) (by decide) ?_
        exact y_iret C0 dX4_string_58 rfl (mo_n ho9 rfl)
      · exact y_thr C0 hX hT hlf rfl (cls := yISE) (is := 135) (text := "there is a book on the frame") (by decide) (by decide) (by decide +kernel) (by decide +kernel) hgwISE ngISE gdISE dX4_string_35 dX4_string_38 dX4_string_39 dX4_string_41 dX4_string_44 (by decide) (Nat.le_of_ble_eq_true rfl) (by decide) (by decide) (by decide) (by decide) (by simp [strO, thn, k_2, c_8, c_14, c_32]) (mo_t (e := yISE) (by simp [strO, thn, k_2, c_8, c_14, c_32]))
    · exact y_thr C0 hX hT hlf rfl (cls := yIAE) (is := 128) (text := "cords are 2 to 6") (by decide) (by decide) (by decide +kernel) (by decide +kernel) hgwIAE ngIAE gdIAE dX4_string_17 dX4_string_20 dX4_string_21 dX4_string_23 dX4_string_26 (by decide) (Nat.le_of_ble_eq_true rfl) (by decide) (by decide) (by decide) (by decide) (by simp [strO, thn, k_2, c_8, c_14]) (mo_t (e := yIAE) (by simp [strO, thn, k_2, c_8, c_14]))
abbrev rX4_buy : Room := { frames := 6, cells := 1, slots := 6, locals := 90 }
set_option maxRecDepth 100000 in
set_option maxHeartbeats 4000000 in
theorem mX4_buy (l : Launch) (hlf : l.stackTraces = false) (D : va_G) (cy : Nat → ClassId) (adr : Nat → Nat) (M : yM) (w : Int32) (x : Int32)  : Cv l yX4_buy wsX4_buy rX4_buy D cy adr [.ref (adr 54), .int w, .int x] M (buyO M w x) (some (.int (wStoreR (buyA M w x) 0 w x))) (mo (buyO M w x) (wStore (buyA M w x) 0 w x) M) 1 6 := by
  refine Cv.mk cX4_buy 4 (some .int) RX4 (by decide) rfl rfl (Nat.le_of_ble_eq_true rfl) ?_
  intro K C0 hX hT
  refine y_eq rfl (show ([(0, .ref (adr 54)), (1, .int w), (2, .int x)] : List (Nat × Value)) = lv_args 0 [.ref (adr 54), .int w, .int x] from rfl) rfl ?_
  have hin3 : ∀ w ∈ u_ws RX3 TX3 12, w ∈ wsX4_buy := by decide +kernel
  have hin4 : ∀ w ∈ u_ws RX4 TX4 2, w ∈ wsX4_buy := by decide +kernel
  have hgwIAE : ∀ w ∈ (vx_atS RX4 23 yIAE yNs).filter goodWord, w ∈ wsX4_buy := by decide +kernel
  have hgwIOE : ∀ w ∈ (vx_atS RX4 113 yIOE yNs).filter goodWord, w ∈ wsX4_buy := by decide +kernel
  have hgwISE : ∀ w ∈ (vx_atS RX4 38 yISE yNs).filter goodWord, w ∈ wsX4_buy := by decide +kernel
  refine y_iload_n C0 1 dX4_buy_0 rfl rfl ?_
  refine y_if_lt C0 9 dX4_buy_1 (by decide) (fun c_1 => ?_) (fun c_1 => ?_)
  · exact y_thr C0 hX hT hlf rfl (cls := yIOE) (is := 144) (text := "what is 0 to 2") (by decide) (by decide) (by decide +kernel) (by decide +kernel) hgwIOE ngIOE gdIOE dX4_buy_9 dX4_buy_12 dX4_buy_13 dX4_buy_15 dX4_buy_18 (by decide) (Nat.le_of_ble_eq_true rfl) (by decide) (by decide) (by decide) (by decide) (by simp [buyO, thn, c_1]) (mo_t (e := yIOE) (by simp [buyO, thn, c_1]))
  · refine y_iload_n C0 1 dX4_buy_4 rfl rfl ?_
    refine y_iconst (v := 2) C0 dX4_buy_5 (by decide) ?_
    refine y_icmp_le C0 19 dX4_buy_6 (by decide) (fun c_6 => ?_) (fun c_6 => ?_)
    · refine y_iload_n C0 2 dX4_buy_19 rfl rfl ?_
      refine y_iconst (v := 1) C0 dX4_buy_20 (by decide) ?_
      refine y_icmp_lt C0 31 dX4_buy_21 (by decide) (fun c_21 => ?_) (fun c_21 => ?_)
      · exact y_thr C0 hX hT hlf rfl (cls := yIAE) (is := 146) (text := "many is 1 to 200") (by decide) (by decide) (by decide +kernel) (by decide +kernel) hgwIAE ngIAE gdIAE dX4_buy_31 dX4_buy_34 dX4_buy_35 dX4_buy_37 dX4_buy_40 (by decide) (Nat.le_of_ble_eq_true rfl) (by decide) (by decide) (by decide) (by decide) (by simp [buyO, thn, c_1, c_6, c_21]) (mo_t (e := yIAE) (by simp [buyO, thn, c_1, c_6, c_21]))
      · refine y_iload_n C0 2 dX4_buy_24 rfl rfl ?_
        refine y_sipush (v := 200) C0 dX4_buy_25 (by decide) ?_
        refine y_icmp_le C0 41 dX4_buy_28 (by decide) (fun c_28 => ?_) (fun c_28 => ?_)
        · refine y_iload_n C0 1 dX4_buy_41 rfl rfl ?_
          refine y_iload_n C0 2 dX4_buy_42 rfl rfl ?_
          refine y_callS (As := [_, _]) (rest := _) (n := 2) C0 (mX4_priceOf l D cy adr _ _ _) gX4_buy_X4_priceOf rfl rfl rfl (by decide +kernel) ⟨by decide, by decide⟩ rfl rfl (Nat.le_of_ble_eq_true rfl) dX4_buy_43 ⟨by decide, by decide⟩ ?_
          refine y_istore_n C0 [(3, _), (0, _), (1, _), (2, _)] dX4_buy_46 rfl (by decide) rfl ?_
          refine y_iload_n C0 0 dX4_buy_47 rfl rfl ?_
          refine y_aload_n C0 1 dX4_buy_48 rfl rfl ?_
          refine y_get C0 4 rfl rfl (by decide) hin4 0 ykd_54 (by decide) (by decide +kernel) yv4_now dX4_buy_49 ?_
          refine y_get C0 3 rfl rfl (by decide) hin3 6 ykd_now (by decide) (by decide +kernel) (yvi3 ykd_now (by decide)) dX4_buy_52 ?_
          refine y_icmp_le C0 68 dX4_buy_55 (by decide) (fun c_55 => ?_) (fun c_55 => ?_)
          · refine y_aload_n C0 1 dX4_buy_68 rfl rfl ?_
            refine y_get C0 4 rfl rfl (by decide) hin4 0 ykd_54 (by decide) (by decide +kernel) yv4_now dX4_buy_69 ?_
            refine y_dup C0 dX4_buy_72 rfl ?_
            refine y_get C0 3 rfl rfl (by decide) hin3 6 ykd_now (by decide) (by decide +kernel) (yvi3 ykd_now (by decide)) dX4_buy_73 ?_
            refine y_iload_n C0 0 dX4_buy_76 rfl rfl ?_
            refine y_isub C0 dX4_buy_77 ?_
            refine y_put C0 3 rfl rfl (by decide) hin3 tyX3 tyX3_ok nmX3 6 ykd_now (by decide) (by decide +kernel) (yrn3 ykd_now (by decide)) rfl (by decide +kernel) dX4_buy_78 ?_
            refine y_aload_n C0 1 dX4_buy_81 rfl rfl ?_
            refine y_get C0 4 rfl rfl (by decide) hin4 0 ykd_54 (by decide) (by decide +kernel) yv4_now dX4_buy_82 ?_
            refine y_iload_n C0 2 dX4_buy_85 rfl rfl ?_
            refine y_iload_n C0 3 dX4_buy_86 rfl rfl ?_
            refine y_callV (As := [_, _]) (rest := _) (n := 2) C0 (mX3_store l D cy adr _ 0 (Or.inl rfl) _ _) 3 rfl (by decide) ykd_now gX4_buy_X3_store rfl rfl rfl (by decide +kernel) ⟨by decide, by decide⟩ rfl rfl (Nat.le_of_ble_eq_true rfl) dX4_buy_87 ⟨by decide, by decide⟩ ?_
            have ho9 : (buyO M w x) = none := by simp [buyO, thn, c_1, c_6, c_21, c_28, c_55]
            refine y_ok ho9 ?_
            refine y_widen (k := 1) (n := 6) (by decide) (by decide) ?_
            exact y_iret C0 dX4_buy_90 rfl (mo_n ho9 rfl)
          · exact y_thr C0 hX hT hlf rfl (cls := yISE) (is := 151) (text := "there are not so many coins") (by decide) (by decide) (by decide +kernel) (by decide +kernel) hgwISE ngISE gdISE dX4_buy_58 dX4_buy_61 dX4_buy_62 dX4_buy_64 dX4_buy_67 (by decide) (Nat.le_of_ble_eq_true rfl) (by decide) (by decide) (by decide) (by decide) (by simp [buyO, thn, c_1, c_6, c_21, c_28, c_55]) (mo_t (e := yISE) (by simp [buyO, thn, c_1, c_6, c_21, c_28, c_55]))
        · exact y_thr C0 hX hT hlf rfl (cls := yIAE) (is := 146) (text := "many is 1 to 200") (by decide) (by decide) (by decide +kernel) (by decide +kernel) hgwIAE ngIAE gdIAE dX4_buy_31 dX4_buy_34 dX4_buy_35 dX4_buy_37 dX4_buy_40 (by decide) (Nat.le_of_ble_eq_true rfl) (by decide) (by decide) (by decide) (by decide) (by simp [buyO, thn, c_1, c_6, c_21, c_28]) (mo_t (e := yIAE) (by simp [buyO, thn, c_1, c_6, c_21, c_28]))
    · exact y_thr C0 hX hT hlf rfl (cls := yIOE) (is := 144) (text := "what is 0 to 2") (by decide) (by decide) (by decide +kernel) (by decide +kernel) hgwIOE ngIOE gdIOE dX4_buy_9 dX4_buy_12 dX4_buy_13 dX4_buy_15 dX4_buy_18 (by decide) (Nat.le_of_ble_eq_true rfl) (by decide) (by decide) (by decide) (by decide) (by simp [buyO, thn, c_1, c_6]) (mo_t (e := yIOE) (by simp [buyO, thn, c_1, c_6]))
abbrev rX4_pass : Room := { frames := 7, cells := 1, slots := 6, locals := 148 }
set_option maxRecDepth 100000 in
set_option maxHeartbeats 4000000 in
theorem mX4_pass (l : Launch) (hlf : l.stackTraces = false) (D : va_G) (cy : Nat → ClassId) (adr : Nat → Nat) (M : yM) (h : Int32) (hsp : wSpOK M 0) : Cv l yX4_pass wsX4_pass rX4_pass D cy adr [.ref (adr 54), .int h] M (okH h) (some (.int (wHoursR M 0 h.toNatClampNeg))) (mo (okH h) (wHours M 0 h.toNatClampNeg) M) 1 6 := by
  refine Cv.mk cX4_pass 2 (some .int) RX4 (by decide) rfl rfl (Nat.le_of_ble_eq_true rfl) ?_
  intro K C0 hX hT
  refine y_eq rfl (show ([(0, .ref (adr 54)), (1, .int h)] : List (Nat × Value)) = lv_args 0 [.ref (adr 54), .int h] from rfl) rfl ?_
  have hin4 : ∀ w ∈ u_ws RX4 TX4 2, w ∈ wsX4_pass := by decide +kernel
  refine y_iload_n C0 1 dX4_pass_0 rfl rfl ?_
  refine y_callSX (As := [_]) (rest := _) (n := 1) C0 hX hT (mX4_checkHours l hlf D cy adr _ _) gX4_pass_X4_checkHours rfl rfl rfl (by decide +kernel) ⟨by decide, by decide⟩ rfl rfl (Nat.le_of_ble_eq_true rfl) dX4_pass_1 ⟨by decide, by decide⟩ (fun Ex hE => ⟨by simp [thn, hE], mo_t (e := Ex) (by simp [thn, hE])⟩) (by decide) (by decide) (fun k_1 => ?_)
  refine y_aload_n C0 0 dX4_pass_4 rfl rfl ?_
  refine y_get C0 4 rfl rfl (by decide) hin4 0 ykd_54 (by decide) (by decide +kernel) yv4_now dX4_pass_5 ?_
  refine y_iload_n C0 1 dX4_pass_8 rfl rfl ?_
  refine y_callV (As := [_]) (rest := _) (n := 1) C0 (mX3_letHoursGo l D cy adr _ 0 (Or.inl rfl) _ hsp) 3 rfl (by decide) ykd_now gX4_pass_X3_letHoursGo rfl rfl rfl (by decide +kernel) ⟨by decide, by decide⟩ rfl rfl (Nat.le_of_ble_eq_true rfl) dX4_pass_9 ⟨by decide, by decide⟩ ?_
  have ho9 : (okH h) = none := by simp [thn, k_1]
  refine y_ok ho9 ?_
  refine y_widen (k := 1) (n := 6) (by decide) (by decide) ?_
  exact y_iret C0 dX4_pass_12 rfl (mo_n ho9 rfl)
abbrev rX4_foresee : Room := { frames := 7, cells := 2, slots := 12, locals := 148 }
set_option maxRecDepth 100000 in
set_option maxHeartbeats 4000000 in
theorem mX4_foresee (l : Launch) (hlf : l.stackTraces = false) (D : va_G) (cy : Nat → ClassId) (adr : Nat → Nat) (M : yM) (h : Int32) (w : Int32) (hsp : wSpOK M 0) : Cv l yX4_foresee wsX4_foresee rX4_foresee D cy adr [.ref (adr 54), .int h, .int w] M (forO h w) (some (.int (wTellA (wHours (wSet M 27 0) 27 h.toNatClampNeg) 27 w))) (mo (forO h w) (wHours (wSet M 27 0) 27 h.toNatClampNeg) M) 2 12 := by
  refine Cv.mk cX4_foresee 3 (some .int) RX4 (by decide) rfl rfl (Nat.le_of_ble_eq_true rfl) ?_
  intro K C0 hX hT
  refine y_eq rfl (show ([(0, .ref (adr 54)), (1, .int h), (2, .int w)] : List (Nat × Value)) = lv_args 0 [.ref (adr 54), .int h, .int w] from rfl) rfl ?_
  have hin4 : ∀ w ∈ u_ws RX4 TX4 2, w ∈ wsX4_foresee := by decide +kernel
  have hgwIOE : ∀ w ∈ (vx_atS RX4 113 yIOE yNs).filter goodWord, w ∈ wsX4_foresee := by decide +kernel
  refine y_iload_n C0 1 dX4_foresee_0 rfl rfl ?_
  refine y_callSX (As := [_]) (rest := _) (n := 1) C0 hX hT (mX4_checkHours l hlf D cy adr _ _) gX4_foresee_X4_checkHours rfl rfl rfl (by decide +kernel) ⟨by decide, by decide⟩ rfl rfl (Nat.le_of_ble_eq_true rfl) dX4_foresee_1 ⟨by decide, by decide⟩ (fun Ex hE => ⟨by simp [forO, thn, hE], mo_t (e := Ex) (by simp [forO, thn, hE])⟩) (by decide) (by decide) (fun k_1 => ?_)
  refine y_iload_n C0 2 dX4_foresee_4 rfl rfl ?_
  refine y_iconst (v := 2) C0 dX4_foresee_5 (by decide) ?_
  refine y_icmp_lt C0 27 dX4_foresee_6 (by decide) (fun c_6 => ?_) (fun c_6 => ?_)
  · exact y_thr C0 hX hT hlf rfl (cls := yIOE) (is := 166) (text := "what is 2 to 7, or 10 to 14") (by decide) (by decide) (by decide +kernel) (by decide +kernel) hgwIOE ngIOE gdIOE dX4_foresee_27 dX4_foresee_30 dX4_foresee_31 dX4_foresee_33 dX4_foresee_36 (by decide) (Nat.le_of_ble_eq_true rfl) (by decide) (by decide) (by decide) (by decide) (by simp [forO, thn, k_1, c_6]) (mo_t (e := yIOE) (by simp [forO, thn, k_1, c_6]))
  · refine y_iload_n C0 2 dX4_foresee_9 rfl rfl ?_
    refine y_bipush (v := 14) C0 dX4_foresee_10 (by decide) ?_
    refine y_icmp_gt C0 27 dX4_foresee_12 (by decide) (fun c_12 => ?_) (fun c_12 => ?_)
    · exact y_thr C0 hX hT hlf rfl (cls := yIOE) (is := 166) (text := "what is 2 to 7, or 10 to 14") (by decide) (by decide) (by decide +kernel) (by decide +kernel) hgwIOE ngIOE gdIOE dX4_foresee_27 dX4_foresee_30 dX4_foresee_31 dX4_foresee_33 dX4_foresee_36 (by decide) (Nat.le_of_ble_eq_true rfl) (by decide) (by decide) (by decide) (by decide) (by simp [forO, thn, k_1, c_6, c_12]) (mo_t (e := yIOE) (by simp [forO, thn, k_1, c_6, c_12]))
    · refine y_iload_n C0 2 dX4_foresee_15 rfl rfl ?_
      refine y_bipush (v := 8) C0 dX4_foresee_16 (by decide) ?_
      refine y_icmp_eq C0 27 dX4_foresee_18 (by decide) (fun c_18 => ?_) (fun c_18 => ?_)
      · exact y_thr C0 hX hT hlf rfl (cls := yIOE) (is := 166) (text := "what is 2 to 7, or 10 to 14") (by decide) (by decide) (by decide +kernel) (by decide +kernel) hgwIOE ngIOE gdIOE dX4_foresee_27 dX4_foresee_30 dX4_foresee_31 dX4_foresee_33 dX4_foresee_36 (by decide) (Nat.le_of_ble_eq_true rfl) (by decide) (by decide) (by decide) (by decide) (by simp [forO, thn, k_1, c_6, c_12, c_18]) (mo_t (e := yIOE) (by simp [forO, thn, k_1, c_6, c_12, c_18]))
      · refine y_iload_n C0 2 dX4_foresee_21 rfl rfl ?_
        refine y_bipush (v := 9) C0 dX4_foresee_22 (by decide) ?_
        refine y_icmp_ne C0 37 dX4_foresee_24 (by decide) (fun c_24 => ?_) (fun c_24 => ?_)
        · refine y_aload_n C0 0 dX4_foresee_37 rfl rfl ?_
          refine y_get C0 4 rfl rfl (by decide) hin4 1 ykd_54 (by decide) (by decide +kernel) yv4_ahead dX4_foresee_38 ?_
          refine y_aload_n C0 0 dX4_foresee_41 rfl rfl ?_
          refine y_get C0 4 rfl rfl (by decide) hin4 0 ykd_54 (by decide) (by decide +kernel) yv4_now dX4_foresee_42 ?_
          refine y_callV (As := [_]) (rest := _) (n := 1) C0 (mX3_setTo l D cy adr _ 27 (Or.inr rfl) 0 (Or.inl rfl) (by decide)) 3 rfl (by decide) ykd_ahead gX4_foresee_X3_setTo rfl rfl rfl (by decide +kernel) ⟨by decide, by decide⟩ rfl rfl (Nat.le_of_ble_eq_true rfl) dX4_foresee_45 ⟨by decide, by decide⟩ ?_
          refine y_aload_n C0 0 dX4_foresee_48 rfl rfl ?_
          refine y_get C0 4 rfl rfl (by decide) hin4 1 ykd_54 (by decide) (by decide +kernel) yv4_ahead dX4_foresee_49 ?_
          refine y_iload_n C0 1 dX4_foresee_52 rfl rfl ?_
          refine y_callV (As := [_]) (rest := _) (n := 1) C0 (mX3_letHoursGo l D cy adr _ 27 (Or.inr rfl) _ (wSpOK_cp hsp)) 3 rfl (by decide) ykd_ahead gX4_foresee_X3_letHoursGo rfl rfl rfl (by decide +kernel) ⟨by decide, by decide⟩ rfl rfl (Nat.le_of_ble_eq_true rfl) dX4_foresee_53 ⟨by decide, by decide⟩ ?_
          refine y_pop C0 dX4_foresee_56 rfl ?_
          refine y_aload_n C0 0 dX4_foresee_57 rfl rfl ?_
          refine y_get C0 4 rfl rfl (by decide) hin4 1 ykd_54 (by decide) (by decide +kernel) yv4_ahead dX4_foresee_58 ?_
          refine y_iload_n C0 2 dX4_foresee_61 rfl rfl ?_
          refine y_callV (As := [_]) (rest := _) (n := 1) C0 (mX3_tellOfAll l D cy adr _ 27 (Or.inr rfl) _) 3 rfl (by decide) ykd_ahead gX4_foresee_X3_tellOfAll rfl rfl rfl (by decide +kernel) ⟨by decide, by decide⟩ rfl rfl (Nat.le_of_ble_eq_true rfl) dX4_foresee_62 ⟨by decide, by decide⟩ ?_
          have ho9 : (forO h w) = none := by simp [forO, thn, k_1, c_6, c_12, c_18, c_24]
          refine y_ok ho9 ?_
          refine y_widen (k := 2) (n := 12) (by decide) (by decide) ?_
          exact y_iret C0 dX4_foresee_65 rfl (mo_n ho9 rfl)
        · exact y_thr C0 hX hT hlf rfl (cls := yIOE) (is := 166) (text := "what is 2 to 7, or 10 to 14") (by decide) (by decide) (by decide +kernel) (by decide +kernel) hgwIOE ngIOE gdIOE dX4_foresee_27 dX4_foresee_30 dX4_foresee_31 dX4_foresee_33 dX4_foresee_36 (by decide) (Nat.le_of_ble_eq_true rfl) (by decide) (by decide) (by decide) (by decide) (by simp [forO, thn, k_1, c_6, c_12, c_18, c_24]) (mo_t (e := yIOE) (by simp [forO, thn, k_1, c_6, c_12, c_18, c_24]))
end YZ
