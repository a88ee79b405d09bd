section YZ
abbrev rX3_bookNumbered : Room := { frames := 0, cells := 0, slots := 0, locals := 0 }
set_option maxRecDepth 100000 in
set_option maxHeartbeats 4000000 in
theorem mX3_bookNumbered (l : Launch) (D : va_G) (cy : Nat → ClassId) (adr : Nat → Nat) (M : yM) (o : Nat) (ho : o = 0 ∨ o = 27) (i : Nat) (hi : i < 15) (hc : ¬ M o 3 ≤ nI i) : Ct l yX3_bookNumbered wsX3_bookNumbered rX3_bookNumbered D cy adr [.ref (adr o), .int (nI i)] M (some (.ref (adr (o + 4 + i)))) (M) 0 0 := by
  refine Ct.mk cX3_bookNumbered 2 (some (.object "SewingFrames$Book")) RX3 (by decide) rfl rfl (Nat.le_of_ble_eq_true rfl) ?_
  intro K C0
  refine y_eq rfl (show ([(0, .ref (adr o)), (1, .int (nI i))] : List (Nat × Value)) = lv_args 0 [.ref (adr o), .int (nI i)] from rfl) rfl ?_
  have hin3 : ∀ w ∈ u_ws RX3 TX3 12, w ∈ wsX3_bookNumbered := by decide +kernel
  refine y_iload_n C0 1 dX3_bookNumbered_0 rfl rfl ?_
  refine y_if_lt C0 21 dX3_bookNumbered_1 (by decide) (fun c_1 => ?_) (fun c_1 => ?_)
  · exact absurd c_1 (nI_pos (by omega))
  · refine y_iload_n C0 1 dX3_bookNumbered_4 rfl rfl ?_
    refine y_aload_n C0 0 dX3_bookNumbered_5 rfl rfl ?_
    refine y_get C0 3 rfl rfl (by decide) hin3 3 (ykd_w ho) (by decide) (by decide +kernel) (yvi3 (ykd_w ho) (by decide)) dX3_bookNumbered_6 ?_
    refine y_icmp_ge C0 21 dX3_bookNumbered_9 (by decide) (fun c_9 => ?_) (fun c_9 => ?_)
    · exact absurd c_9 hc
    · refine y_iload_n C0 1 dX3_bookNumbered_12 rfl rfl ?_
      refine y_aload_n C0 0 dX3_bookNumbered_13 rfl rfl ?_
      refine y_get C0 3 rfl rfl (by decide) hin3 0 (ykd_w ho) (by decide) (by decide +kernel) (yv3_books (ykd_w ho)) dX3_bookNumbered_14 ?_
      refine y_alen C0 7 (ykd_w1 ho) (by decide) (by decide) dX3_bookNumbered_17 ?_
      refine y_icmp_lt C0 23 dX3_bookNumbered_18 (by decide) (fun c_18 => ?_) (fun c_18 => ?_)
      · refine y_aload_n C0 0 dX3_bookNumbered_23 rfl rfl ?_
        refine y_get C0 3 rfl rfl (by decide) hin3 0 (ykd_w ho) (by decide) (by decide +kernel) (yv3_books (ykd_w ho)) dX3_bookNumbered_24 ?_
        refine y_iload_n C0 1 dX3_bookNumbered_27 rfl rfl ?_
        refine y_aald C0 (i) 7 (ykd_w1 ho) (by decide) (by decide) rfl (by omega : i < 15) (yel_bk ho) dX3_bookNumbered_28 ?_
        exact y_aret C0 (Or.inr ⟨_, rfl⟩) dX3_bookNumbered_29 rfl rfl
      · exact absurd (nI_lt hi (by decide)) c_18
set_option maxRecDepth 100000 in
set_option maxHeartbeats 4000000 in
theorem mX3_bookNumbered_n (l : Launch) (D : va_G) (cy : Nat → ClassId) (adr : Nat → Nat) (M : yM) (o : Nat) (ho : o = 0 ∨ o = 27) (x : Int32) (hn : wNo M o x) : Ct l yX3_bookNumbered wsX3_bookNumbered rX3_bookNumbered D cy adr [.ref (adr o), .int x] M (some .null) (M) 0 0 := by
  refine Ct.mk cX3_bookNumbered 2 (some (.object "SewingFrames$Book")) RX3 (by decide) rfl rfl (Nat.le_of_ble_eq_true rfl) ?_
  intro K C0
  refine y_eq rfl (show ([(0, .ref (adr o)), (1, .int x)] : List (Nat × Value)) = lv_args 0 [.ref (adr o), .int x] from rfl) rfl ?_
  have hin3 : ∀ w ∈ u_ws RX3 TX3 12, w ∈ wsX3_bookNumbered := by decide +kernel
  refine y_iload_n C0 1 dX3_bookNumbered_0 rfl rfl ?_
  refine y_if_lt C0 21 dX3_bookNumbered_1 (by decide) (fun c_1 => ?_) (fun c_1 => ?_)
  · refine y_null C0 dX3_bookNumbered_21 ?_
    exact y_aret C0 (Or.inl rfl) dX3_bookNumbered_22 rfl rfl
  · refine y_iload_n C0 1 dX3_bookNumbered_4 rfl rfl ?_
    refine y_aload_n C0 0 dX3_bookNumbered_5 rfl rfl ?_
    refine y_get C0 3 rfl rfl (by decide) hin3 3 (ykd_w ho) (by decide) (by decide +kernel) (yvi3 (ykd_w ho) (by decide)) dX3_bookNumbered_6 ?_
    refine y_icmp_ge C0 21 dX3_bookNumbered_9 (by decide) (fun c_9 => ?_) (fun c_9 => ?_)
    · refine y_null C0 dX3_bookNumbered_21 ?_
      exact y_aret C0 (Or.inl rfl) dX3_bookNumbered_22 rfl rfl
    · refine y_iload_n C0 1 dX3_bookNumbered_12 rfl rfl ?_
      refine y_aload_n C0 0 dX3_bookNumbered_13 rfl rfl ?_
      refine y_get C0 3 rfl rfl (by decide) hin3 0 (ykd_w ho) (by decide) (by decide +kernel) (yv3_books (ykd_w ho)) dX3_bookNumbered_14 ?_
      refine y_alen C0 7 (ykd_w1 ho) (by decide) (by decide) dX3_bookNumbered_17 ?_
      refine y_icmp_lt C0 23 dX3_bookNumbered_18 (by decide) (fun c_18 => ?_) (fun c_18 => ?_)
      · exact hn.elim (fun h => absurd h c_1) (fun h => h.elim (fun h => absurd h c_9) (fun h => absurd c_18 (Int32.not_lt.mpr h)))
      · refine y_null C0 dX3_bookNumbered_21 ?_
        exact y_aret C0 (Or.inl rfl) dX3_bookNumbered_22 rfl rfl
abbrev rX3_sewerNumbered : Room := { frames := 0, cells := 0, slots := 0, locals := 0 }
set_option maxRecDepth 100000 in
set_option maxHeartbeats 4000000 in
theorem mX3_sewerNumbered (l : Launch) (D : va_G) (cy : Nat → ClassId) (adr : Nat → Nat) (M : yM) (o : Nat) (ho : o = 0 ∨ o = 27) (i : Nat) (hi : i < 5) (hc : ¬ M o 4 ≤ nI i) : Ct l yX3_sewerNumbered wsX3_sewerNumbered rX3_sewerNumbered D cy adr [.ref (adr o), .int (nI i)] M (some (.ref (adr (o + 19 + i)))) (M) 0 0 := by
  refine Ct.mk cX3_sewerNumbered 2 (some (.object "SewingFrames$Sewer")) RX3 (by decide) rfl rfl (Nat.le_of_ble_eq_true rfl) ?_
  intro K C0
  refine y_eq rfl (show ([(0, .ref (adr o)), (1, .int (nI i))] : List (Nat × Value)) = lv_args 0 [.ref (adr o), .int (nI i)] from rfl) rfl ?_
  have hin3 : ∀ w ∈ u_ws RX3 TX3 12, w ∈ wsX3_sewerNumbered := by decide +kernel
  refine y_iload_n C0 1 dX3_sewerNumbered_0 rfl rfl ?_
  refine y_if_lt C0 21 dX3_sewerNumbered_1 (by decide) (fun c_1 => ?_) (fun c_1 => ?_)
  · exact absurd c_1 (nI_pos (by omega))
  · refine y_iload_n C0 1 dX3_sewerNumbered_4 rfl rfl ?_
    refine y_aload_n C0 0 dX3_sewerNumbered_5 rfl rfl ?_
    refine y_get C0 3 rfl rfl (by decide) hin3 4 (ykd_w ho) (by decide) (by decide +kernel) (yvi3 (ykd_w ho) (by decide)) dX3_sewerNumbered_6 ?_
    refine y_icmp_ge C0 21 dX3_sewerNumbered_9 (by decide) (fun c_9 => ?_) (fun c_9 => ?_)
    · exact absurd c_9 hc
    · refine y_iload_n C0 1 dX3_sewerNumbered_12 rfl rfl ?_
      refine y_aload_n C0 0 dX3_sewerNumbered_13 rfl rfl ?_
      refine y_get C0 3 rfl rfl (by decide) hin3 1 (ykd_w ho) (by decide) (by decide +kernel) (yv3_sewers (ykd_w ho)) dX3_sewerNumbered_14 ?_
      refine y_alen C0 8 (ykd_w2 ho) (by decide) (by decide) dX3_sewerNumbered_17 ?_
      refine y_icmp_lt C0 23 dX3_sewerNumbered_18 (by decide) (fun c_18 => ?_) (fun c_18 => ?_)
      · refine y_aload_n C0 0 dX3_sewerNumbered_23 rfl rfl ?_
        refine y_get C0 3 rfl rfl (by decide) hin3 1 (ykd_w ho) (by decide) (by decide +kernel) (yv3_sewers (ykd_w ho)) dX3_sewerNumbered_24 ?_
        refine y_iload_n C0 1 dX3_sewerNumbered_27 rfl rfl ?_
        refine y_aald C0 (i) 8 (ykd_w2 ho) (by decide) (by decide) rfl (by omega : i < 5) (yel_sw ho) dX3_sewerNumbered_28 ?_
        exact y_aret C0 (Or.inr ⟨_, rfl⟩) dX3_sewerNumbered_29 rfl rfl
      · exact absurd (nI_lt hi (by decide)) c_18
set_option maxRecDepth 100000 in
set_option maxHeartbeats 4000000 in
theorem mX3_sewerNumbered_n (l : Launch) (D : va_G) (cy : Nat → ClassId) (adr : Nat → Nat) (M : yM) (o : Nat) (ho : o = 0 ∨ o = 27) (x : Int32) (hn : wNoS M o x) : Ct l yX3_sewerNumbered wsX3_sewerNumbered rX3_sewerNumbered D cy adr [.ref (adr o), .int x] M (some .null) (M) 0 0 := by
  refine Ct.mk cX3_sewerNumbered 2 (some (.object "SewingFrames$Sewer")) RX3 (by decide) rfl rfl (Nat.le_of_ble_eq_true rfl) ?_
  intro K C0
  refine y_eq rfl (show ([(0, .ref (adr o)), (1, .int x)] : List (Nat × Value)) = lv_args 0 [.ref (adr o), .int x] from rfl) rfl ?_
  have hin3 : ∀ w ∈ u_ws RX3 TX3 12, w ∈ wsX3_sewerNumbered := by decide +kernel
  refine y_iload_n C0 1 dX3_sewerNumbered_0 rfl rfl ?_
  refine y_if_lt C0 21 dX3_sewerNumbered_1 (by decide) (fun c_1 => ?_) (fun c_1 => ?_)
  · refine y_null C0 dX3_sewerNumbered_21 ?_
    exact y_aret C0 (Or.inl rfl) dX3_sewerNumbered_22 rfl rfl
  · refine y_iload_n C0 1 dX3_sewerNumbered_4 rfl rfl ?_
    refine y_aload_n C0 0 dX3_sewerNumbered_5 rfl rfl ?_
    refine y_get C0 3 rfl rfl (by decide) hin3 4 (ykd_w ho) (by decide) (by decide +kernel) (yvi3 (ykd_w ho) (by decide)) dX3_sewerNumbered_6 ?_
    refine y_icmp_ge C0 21 dX3_sewerNumbered_9 (by decide) (fun c_9 => ?_) (fun c_9 => ?_)
    · refine y_null C0 dX3_sewerNumbered_21 ?_
      exact y_aret C0 (Or.inl rfl) dX3_sewerNumbered_22 rfl rfl
    · refine y_iload_n C0 1 dX3_sewerNumbered_12 rfl rfl ?_
      refine y_aload_n C0 0 dX3_sewerNumbered_13 rfl rfl ?_
      refine y_get C0 3 rfl rfl (by decide) hin3 1 (ykd_w ho) (by decide) (by decide +kernel) (yv3_sewers (ykd_w ho)) dX3_sewerNumbered_14 ?_
      refine y_alen C0 8 (ykd_w2 ho) (by decide) (by decide) dX3_sewerNumbered_17 ?_
      refine y_icmp_lt C0 23 dX3_sewerNumbered_18 (by decide) (fun c_18 => ?_) (fun c_18 => ?_)
      · exact hn.elim (fun h => absurd h c_1) (fun h => h.elim (fun h => absurd h c_9) (fun h => absurd c_18 (Int32.not_lt.mpr h)))
      · refine y_null C0 dX3_sewerNumbered_21 ?_
        exact y_aret C0 (Or.inl rfl) dX3_sewerNumbered_22 rfl rfl
abbrev rX3_freeBook : Room := { frames := 0, cells := 0, slots := 0, locals := 0 }
set_option maxRecDepth 100000 in
set_option maxHeartbeats 4000000 in
theorem mX3_freeBook (l : Launch) (D : va_G) (cy : Nat → ClassId) (adr : Nat → Nat) (M : yM) (o : Nat) (ho : o = 0 ∨ o = 27)  (i : Nat) (hi : i < 15) (he : M o 3 = nI i) : Ct l yX3_freeBook wsX3_freeBook rX3_freeBook D cy adr [.ref (adr o)] M (some (.ref (adr (o + 4 + i)))) (M) 0 0 := by
  refine Ct.mk cX3_freeBook 1 (some (.object "SewingFrames$Book")) RX3 (by decide) rfl rfl (Nat.le_of_ble_eq_true rfl) ?_
  intro K C0
  refine y_eq rfl (show ([(0, .ref (adr o))] : List (Nat × Value)) = lv_args 0 [.ref (adr o)] from rfl) rfl ?_
  have hin3 : ∀ w ∈ u_ws RX3 TX3 12, w ∈ wsX3_freeBook := by decide +kernel
  refine y_aload_n C0 0 dX3_freeBook_0 rfl rfl ?_
  refine y_get C0 3 rfl rfl (by decide) hin3 3 (ykd_w ho) (by decide) (by decide +kernel) (yvi3 (ykd_w ho) (by decide)) dX3_freeBook_1 ?_
  refine y_top he ?_
  refine y_if_lt C0 31 dX3_freeBook_4 (by decide) (fun c_4 => ?_) (fun c_4 => ?_)
  · exact absurd c_4 (nI_pos (by omega))
  · refine y_aload_n C0 0 dX3_freeBook_7 rfl rfl ?_
    refine y_get C0 3 rfl rfl (by decide) hin3 3 (ykd_w ho) (by decide) (by decide +kernel) (yvi3 (ykd_w ho) (by decide)) dX3_freeBook_8 ?_
    refine y_top he ?_
    refine y_aload_n C0 0 dX3_freeBook_11 rfl rfl ?_
    refine y_get C0 3 rfl rfl (by decide) hin3 0 (ykd_w ho) (by decide) (by decide +kernel) (yv3_books (ykd_w ho)) dX3_freeBook_12 ?_
    refine y_alen C0 7 (ykd_w1 ho) (by decide) (by decide) dX3_freeBook_15 ?_
    refine y_icmp_ge C0 31 dX3_freeBook_16 (by decide) (fun c_16 => ?_) (fun c_16 => ?_)
    · exact absurd c_16 (nI_ge hi (by decide))
    · refine y_aload_n C0 0 dX3_freeBook_19 rfl rfl ?_
      refine y_get C0 3 rfl rfl (by decide) hin3 0 (ykd_w ho) (by decide) (by decide +kernel) (yv3_books (ykd_w ho)) dX3_freeBook_20 ?_
      refine y_aload_n C0 0 dX3_freeBook_23 rfl rfl ?_
      refine y_get C0 3 rfl rfl (by decide) hin3 3 (ykd_w ho) (by decide) (by decide +kernel) (yvi3 (ykd_w ho) (by decide)) dX3_freeBook_24 ?_
      refine y_top he ?_
      refine y_aald C0 (i) 7 (ykd_w1 ho) (by decide) (by decide) rfl (by omega : i < 15) (yel_bk ho) dX3_freeBook_27 ?_
      refine y_goto C0 32 dX3_freeBook_28 (by decide) ?_
      exact y_aret C0 (Or.inr ⟨_, rfl⟩) dX3_freeBook_32 rfl rfl
set_option maxRecDepth 100000 in
set_option maxHeartbeats 4000000 in
theorem mX3_freeBook_n (l : Launch) (D : va_G) (cy : Nat → ClassId) (adr : Nat → Nat) (M : yM) (o : Nat) (ho : o = 0 ∨ o = 27)  (hn : nI 15 ≤ M o 3) : Ct l yX3_freeBook wsX3_freeBook rX3_freeBook D cy adr [.ref (adr o)] M (some .null) (M) 0 0 := by
  refine Ct.mk cX3_freeBook 1 (some (.object "SewingFrames$Book")) RX3 (by decide) rfl rfl (Nat.le_of_ble_eq_true rfl) ?_
  intro K C0
  refine y_eq rfl (show ([(0, .ref (adr o))] : List (Nat × Value)) = lv_args 0 [.ref (adr o)] from rfl) rfl ?_
  have hin3 : ∀ w ∈ u_ws RX3 TX3 12, w ∈ wsX3_freeBook := by decide +kernel
  refine y_aload_n C0 0 dX3_freeBook_0 rfl rfl ?_
  refine y_get C0 3 rfl rfl (by decide) hin3 3 (ykd_w ho) (by decide) (by decide +kernel) (yvi3 (ykd_w ho) (by decide)) dX3_freeBook_1 ?_
  refine y_if_lt C0 31 dX3_freeBook_4 (by decide) (fun c_4 => ?_) (fun c_4 => ?_)
  · refine y_null C0 dX3_freeBook_31 ?_
    exact y_aret C0 (Or.inl rfl) dX3_freeBook_32 rfl rfl
  · refine y_aload_n C0 0 dX3_freeBook_7 rfl rfl ?_
    refine y_get C0 3 rfl rfl (by decide) hin3 3 (ykd_w ho) (by decide) (by decide +kernel) (yvi3 (ykd_w ho) (by decide)) dX3_freeBook_8 ?_
    refine y_aload_n C0 0 dX3_freeBook_11 rfl rfl ?_
    refine y_get C0 3 rfl rfl (by decide) hin3 0 (ykd_w ho) (by decide) (by decide +kernel) (yv3_books (ykd_w ho)) dX3_freeBook_12 ?_
    refine y_alen C0 7 (ykd_w1 ho) (by decide) (by decide) dX3_freeBook_15 ?_
    refine y_icmp_ge C0 31 dX3_freeBook_16 (by decide) (fun c_16 => ?_) (fun c_16 => ?_)
    · refine y_null C0 dX3_freeBook_31 ?_
      exact y_aret C0 (Or.inl rfl) dX3_freeBook_32 rfl rfl
    · exact absurd hn c_16
abbrev rX3_freeSewer : Room := { frames := 0, cells := 0, slots := 0, locals := 0 }
set_option maxRecDepth 100000 in
set_option maxHeartbeats 4000000 in
theorem mX3_freeSewer (l : Launch) (D : va_G) (cy : Nat → ClassId) (adr : Nat → Nat) (M : yM) (o : Nat) (ho : o = 0 ∨ o = 27)  (i : Nat) (hi : i < 5) (he : M o 4 = nI i) : Ct l yX3_freeSewer wsX3_freeSewer rX3_freeSewer D cy adr [.ref (adr o)] M (some (.ref (adr (o + 19 + i)))) (M) 0 0 := by
  refine Ct.mk cX3_freeSewer 1 (some (.object "SewingFrames$Sewer")) RX3 (by decide) rfl rfl (Nat.le_of_ble_eq_true rfl) ?_
  intro K C0
  refine y_eq rfl (show ([(0, .ref (adr o))] : List (Nat × Value)) = lv_args 0 [.ref (adr o)] from rfl) rfl ?_
  have hin3 : ∀ w ∈ u_ws RX3 TX3 12, w ∈ wsX3_freeSewer := by decide +kernel
  refine y_aload_n C0 0 dX3_freeSewer_0 rfl rfl ?_
  refine y_get C0 3 rfl rfl (by decide) hin3 4 (ykd_w ho) (by decide) (by decide +kernel) (yvi3 (ykd_w ho) (by decide)) dX3_freeSewer_1 ?_
  refine y_top he ?_
  refine y_if_lt C0 31 dX3_freeSewer_4 (by decide) (fun c_4 => ?_) (fun c_4 => ?_)
  · exact absurd c_4 (nI_pos (by omega))
  · refine y_aload_n C0 0 dX3_freeSewer_7 rfl rfl ?_
    refine y_get C0 3 rfl rfl (by decide) hin3 4 (ykd_w ho) (by decide) (by decide +kernel) (yvi3 (ykd_w ho) (by decide)) dX3_freeSewer_8 ?_
    refine y_top he ?_
    refine y_aload_n C0 0 dX3_freeSewer_11 rfl rfl ?_
    refine y_get C0 3 rfl rfl (by decide) hin3 1 (ykd_w ho) (by decide) (by decide +kernel) (yv3_sewers (ykd_w ho)) dX3_freeSewer_12 ?_
    refine y_alen C0 8 (ykd_w2 ho) (by decide) (by decide) dX3_freeSewer_15 ?_
    refine y_icmp_ge C0 31 dX3_freeSewer_16 (by decide) (fun c_16 => ?_) (fun c_16 => ?_)
    · exact absurd c_16 (nI_ge hi (by decide))
    · refine y_aload_n C0 0 dX3_freeSewer_19 rfl rfl ?_
      refine y_get C0 3 rfl rfl (by decide) hin3 1 (ykd_w ho) (by decide) (by decide +kernel) (yv3_sewers (ykd_w ho)) dX3_freeSewer_20 ?_
      refine y_aload_n C0 0 dX3_freeSewer_23 rfl rfl ?_
      refine y_get C0 3 rfl rfl (by decide) hin3 4 (ykd_w ho) (by decide) (by decide +kernel) (yvi3 (ykd_w ho) (by decide)) dX3_freeSewer_24 ?_
      refine y_top he ?_
      refine y_aald C0 (i) 8 (ykd_w2 ho) (by decide) (by decide) rfl (by omega : i < 5) (yel_sw ho) dX3_freeSewer_27 ?_
      refine y_goto C0 32 dX3_freeSewer_28 (by decide) ?_
      exact y_aret C0 (Or.inr ⟨_, rfl⟩) dX3_freeSewer_32 rfl rfl
set_option maxRecDepth 100000 in
set_option maxHeartbeats 4000000 in
theorem mX3_freeSewer_n (l : Launch) (D : va_G) (cy : Nat → ClassId) (adr : Nat → Nat) (M : yM) (o : Nat) (ho : o = 0 ∨ o = 27)  (hn : nI 5 ≤ M o 4) : Ct l yX3_freeSewer wsX3_freeSewer rX3_freeSewer D cy adr [.ref (adr o)] M (some .null) (M) 0 0 := by
  refine Ct.mk cX3_freeSewer 1 (some (.object "SewingFrames$Sewer")) RX3 (by decide) rfl rfl (Nat.le_of_ble_eq_true rfl) ?_
  intro K C0
  refine y_eq rfl (show ([(0, .ref (adr o))] : List (Nat × Value)) = lv_args 0 [.ref (adr o)] from rfl) rfl ?_
  have hin3 : ∀ w ∈ u_ws RX3 TX3 12, w ∈ wsX3_freeSewer := by decide +kernel
  refine y_aload_n C0 0 dX3_freeSewer_0 rfl rfl ?_
  refine y_get C0 3 rfl rfl (by decide) hin3 4 (ykd_w ho) (by decide) (by decide +kernel) (yvi3 (ykd_w ho) (by decide)) dX3_freeSewer_1 ?_
  refine y_if_lt C0 31 dX3_freeSewer_4 (by decide) (fun c_4 => ?_) (fun c_4 => ?_)
  · refine y_null C0 dX3_freeSewer_31 ?_
    exact y_aret C0 (Or.inl rfl) dX3_freeSewer_32 rfl rfl
  · refine y_aload_n C0 0 dX3_freeSewer_7 rfl rfl ?_
    refine y_get C0 3 rfl rfl (by decide) hin3 4 (ykd_w ho) (by decide) (by decide +kernel) (yvi3 (ykd_w ho) (by decide)) dX3_freeSewer_8 ?_
    refine y_aload_n C0 0 dX3_freeSewer_11 rfl rfl ?_
    refine y_get C0 3 rfl rfl (by decide) hin3 1 (ykd_w ho) (by decide) (by decide +kernel) (yv3_sewers (ykd_w ho)) dX3_freeSewer_12 ?_
    refine y_alen C0 8 (ykd_w2 ho) (by decide) (by decide) dX3_freeSewer_15 ?_
    refine y_icmp_ge C0 31 dX3_freeSewer_16 (by decide) (fun c_16 => ?_) (fun c_16 => ?_)
    · refine y_null C0 dX3_freeSewer_31 ?_
      exact y_aret C0 (Or.inl rfl) dX3_freeSewer_32 rfl rfl
    · exact absurd hn c_16
abbrev rX3_booksAt : Room := { frames := 0, cells := 0, slots := 0, locals := 0 }
set_option maxRecDepth 100000 in
set_option maxHeartbeats 4000000 in
theorem mX3_booksAt (l : Launch) (D : va_G) (cy : Nat → ClassId) (adr : Nat → Nat) (M : yM) (o : Nat) (ho : o = 0 ∨ o = 27) (x : Int32)  : Ct l yX3_booksAt wsX3_booksAt rX3_booksAt D cy adr [.ref (adr o), .int x] M (some (.int (wCnt M o x 15))) (M) 0 0 := by
  refine Ct.mk cX3_booksAt 7 (some .int) RX3 (by decide) rfl rfl (Nat.le_of_ble_eq_true rfl) ?_
  intro K C0
  refine y_eq rfl (show ([(0, .ref (adr o)), (1, .int x)] : List (Nat × Value)) = lv_args 0 [.ref (adr o), .int x] from rfl) rfl ?_
  have hin0 : ∀ w ∈ u_ws RX0 TX0 13, w ∈ wsX3_booksAt := by decide +kernel
  have hin3 : ∀ w ∈ u_ws RX3 TX3 12, w ∈ wsX3_booksAt := by decide +kernel
  refine y_iconst (v := 0) C0 dX3_booksAt_0 (by decide) ?_
  refine y_istore_n C0 [(2, _), (0, _), (1, _)] dX3_booksAt_1 rfl (by decide) rfl ?_
  refine y_aload_n C0 1 dX3_booksAt_2 rfl rfl ?_
  refine y_get C0 3 rfl rfl (by decide) hin3 0 (ykd_w ho) (by decide) (by decide +kernel) (yv3_books (ykd_w ho)) dX3_booksAt_3 ?_
  refine y_astore_n C0 [(3, _), (2, _), (0, _), (1, _)] dX3_booksAt_6 rfl (by decide) rfl ?_
  refine y_aload_n C0 0 dX3_booksAt_7 rfl rfl ?_
  refine y_alen C0 7 (ykd_w1 ho) (by decide) (by decide) dX3_booksAt_8 ?_
  refine y_istore C0 [(4, _), (3, _), (2, _), (0, _), (1, _)] dX3_booksAt_9 (by decide) rfl ?_
  refine y_iconst (v := 0) C0 dX3_booksAt_11 (by decide) ?_
  refine y_istore C0 [(5, _), (4, _), (3, _), (2, _), (0, _), (1, _)] dX3_booksAt_12 (by decide) rfl ?_
  have hl_14 : ∀ (n : Nat) (i : Nat), 15 - i = n → i ≤ 15 → Y K l rX3_booksAt D cy adr 7 0 0 (QT K D cy adr (some (.int (wCnt M o x 15))) (M) 0 0) M [] [(5, .int (nI i)), (4, .int (nI 15)), (3, .ref (adr (o + 1))), (2, .int (wCnt M o x i)), (1, .int x), (0, .ref (adr o))] 14 [] := by
    intro n
    induction n using Nat.strongRecOn with
    | _ n ih_14 =>
      intro i hn_14 hi
      refine y_iload C0 0 dX3_booksAt_14 rfl ?_
      refine y_iload C0 1 dX3_booksAt_16 rfl ?_
      refine y_icmp_ge C0 45 dX3_booksAt_18 (by decide) (fun c_18 => ?_) (fun c_18 => ?_)
      · have he := ct_end (N := 15) (by decide) hi c_18
        subst he
        refine y_iload_n C0 3 dX3_booksAt_45 rfl rfl ?_
        exact y_iret C0 dX3_booksAt_46 rfl rfl
      · have hlt := ct_lt (N := 15) (by decide) hi c_18
        refine y_aload_n C0 2 dX3_booksAt_21 rfl rfl ?_
        refine y_iload C0 0 dX3_booksAt_22 rfl ?_
        refine y_aald C0 (i) 7 (ykd_w1 ho) (by decide) (by decide) rfl (by omega : i < 15) (yel_bk ho) dX3_booksAt_24 ?_
        refine y_astore C0 [(6, _), (5, _), (4, _), (3, _), (2, _), (1, _), (0, _)] dX3_booksAt_25 (by decide) rfl ?_
        refine y_aload C0 0 dX3_booksAt_27 rfl ?_
        refine y_get C0 0 rfl rfl (by decide) hin0 4 (ykd_bk ho (by omega : i < 15)) (by decide) (by decide +kernel) (yvi0 (ykd_bk ho (by omega : i < 15))) dX3_booksAt_29 ?_
        refine y_iload_n C0 5 dX3_booksAt_32 rfl rfl ?_
        refine y_icmp_ne C0 39 dX3_booksAt_33 (by decide) (fun c_33 => ?_) (fun c_33 => ?_)
        · refine y_iinc (v := nI (i + 1)) C0 1 [(5, _), (6, _), (4, _), (3, _), (2, _), (1, _), (0, _)] dX3_booksAt_39 rfl (yinc_ok rfl rfl) (by decide) rfl ?_
          refine y_goto C0 14 dX3_booksAt_42 (by decide) ?_
          refine y_sub [0, 2, 3, 4, 5, 6] [(5, _), (4, _), (3, _), (2, _), (1, _), (0, _)] rfl ?_
          exact y_eq (by first | rfl | simp [wCnt, c_18, c_33]) (by first | rfl | simp [wCnt, c_18, c_33]) rfl (ih_14 _ (by omega) (i + 1) rfl hlt)
        · refine y_iinc C0 4 [(2, _), (6, _), (5, _), (4, _), (3, _), (1, _), (0, _)] dX3_booksAt_36 rfl rfl (by decide) rfl ?_
          refine y_iinc (v := nI (i + 1)) C0 2 [(5, _), (2, _), (6, _), (4, _), (3, _), (1, _), (0, _)] dX3_booksAt_39 rfl (yinc_ok rfl rfl) (by decide) rfl ?_
          refine y_goto C0 14 dX3_booksAt_42 (by decide) ?_
          refine y_sub [0, 3, 4, 1, 5, 6] [(5, _), (4, _), (3, _), (2, _), (1, _), (0, _)] rfl ?_
          exact y_eq (by first | rfl | simp [wCnt, c_18, c_33]) (by first | rfl | simp [wCnt, c_18, c_33]) rfl (ih_14 _ (by omega) (i + 1) rfl hlt)
  refine y_sub [0, 1, 2, 3, 5, 4] [(5, _), (4, _), (3, _), (2, _), (1, _), (0, _)] rfl ?_
  exact hl_14 _ 0 rfl (Nat.zero_le _)
abbrev rX3_othersAt : Room := { frames := 0, cells := 0, slots := 0, locals := 0 }
set_option maxRecDepth 100000 in
set_option maxHeartbeats 4000000 in
theorem mX3_othersAt (l : Launch) (D : va_G) (cy : Nat → ClassId) (adr : Nat → Nat) (M : yM) (o : Nat) (ho : o = 0 ∨ o = 27) (x : Int32) (y : Int32)  : Ct l yX3_othersAt wsX3_othersAt rX3_othersAt D cy adr [.ref (adr o), .int x, .int y] M (some (.int (wOth M o x y 5))) (M) 0 0 := by
  refine Ct.mk cX3_othersAt 8 (some .int) RX3 (by decide) rfl rfl (Nat.le_of_ble_eq_true rfl) ?_
  intro K C0
  refine y_eq rfl (show ([(0, .ref (adr o)), (1, .int x), (2, .int y)] : List (Nat × Value)) = lv_args 0 [.ref (adr o), .int x, .int y] from rfl) rfl ?_
  have hin2 : ∀ w ∈ u_ws RX2 TX2 3, w ∈ wsX3_othersAt := by decide +kernel
  have hin3 : ∀ w ∈ u_ws RX3 TX3 12, w ∈ wsX3_othersAt := by decide +kernel
  refine y_iconst (v := 0) C0 dX3_othersAt_0 (by decide) ?_
  refine y_istore_n C0 [(3, _), (0, _), (1, _), (2, _)] dX3_othersAt_1 rfl (by decide) rfl ?_
  refine y_aload_n C0 1 dX3_othersAt_2 rfl rfl ?_
  refine y_get C0 3 rfl rfl (by decide) hin3 1 (ykd_w ho) (by decide) (by decide +kernel) (yv3_sewers (ykd_w ho)) dX3_othersAt_3 ?_
  refine y_astore C0 [(4, _), (3, _), (0, _), (1, _), (2, _)] dX3_othersAt_6 (by decide) rfl ?_
  refine y_aload C0 0 dX3_othersAt_8 rfl ?_
  refine y_alen C0 8 (ykd_w2 ho) (by decide) (by decide) dX3_othersAt_10 ?_
  refine y_istore C0 [(5, _), (4, _), (3, _), (0, _), (1, _), (2, _)] dX3_othersAt_11 (by decide) rfl ?_
  refine y_iconst (v := 0) C0 dX3_othersAt_13 (by decide) ?_
  refine y_istore C0 [(6, _), (5, _), (4, _), (3, _), (0, _), (1, _), (2, _)] dX3_othersAt_14 (by decide) rfl ?_
  have hl_16 : ∀ (n : Nat) (i : Nat), 5 - i = n → i ≤ 5 → Y K l rX3_othersAt D cy adr 8 0 0 (QT K D cy adr (some (.int (wOth M o x y 5))) (M) 0 0) M [] [(6, .int (nI i)), (5, .int (nI 5)), (4, .ref (adr (o + 2))), (3, .int (wOth M o x y i)), (2, .int y), (1, .int x), (0, .ref (adr o))] 16 [] := by
    intro n
    induction n using Nat.strongRecOn with
    | _ n ih_16 =>
      intro i hn_16 hi
      refine y_iload C0 0 dX3_othersAt_16 rfl ?_
      refine y_iload C0 1 dX3_othersAt_18 rfl ?_
      refine y_icmp_ge C0 57 dX3_othersAt_20 (by decide) (fun c_20 => ?_) (fun c_20 => ?_)
      · have he := ct_end (N := 5) (by decide) hi c_20
        subst he
        refine y_iload_n C0 3 dX3_othersAt_57 rfl rfl ?_
        exact y_iret C0 dX3_othersAt_58 rfl rfl
      · have hlt := ct_lt (N := 5) (by decide) hi c_20
        refine y_aload C0 2 dX3_othersAt_23 rfl ?_
        refine y_iload C0 0 dX3_othersAt_25 rfl ?_
        refine y_aald C0 (i) 8 (ykd_w2 ho) (by decide) (by decide) rfl (by omega : i < 5) (yel_sw ho) dX3_othersAt_27 ?_
        refine y_astore C0 [(7, _), (6, _), (5, _), (4, _), (3, _), (2, _), (1, _), (0, _)] dX3_othersAt_28 (by decide) rfl ?_
        refine y_aload C0 0 dX3_othersAt_30 rfl ?_
        refine y_get C0 2 rfl rfl (by decide) hin2 2 (ykd_sw ho (by omega : i < 5)) (by decide) (by decide +kernel) (yvi2 (ykd_sw ho (by omega : i < 5))) dX3_othersAt_32 ?_
        refine y_iload_n C0 6 dX3_othersAt_35 rfl rfl ?_
        refine y_icmp_ne C0 51 dX3_othersAt_36 (by decide) (fun c_36 => ?_) (fun c_36 => ?_)
        · refine y_iinc (v := nI (i + 1)) C0 1 [(6, _), (7, _), (5, _), (4, _), (3, _), (2, _), (1, _), (0, _)] dX3_othersAt_51 rfl (yinc_ok rfl rfl) (by decide) rfl ?_
          refine y_goto C0 16 dX3_othersAt_54 (by decide) ?_
          refine y_sub [0, 2, 3, 4, 5, 6, 7] [(6, _), (5, _), (4, _), (3, _), (2, _), (1, _), (0, _)] rfl ?_
          exact y_eq (by first | rfl | simp [wOth, c_20, c_36]) (by first | rfl | simp [wOth, c_20, c_36]) rfl (ih_16 _ (by omega) (i + 1) rfl hlt)
        · refine y_aload C0 0 dX3_othersAt_39 rfl ?_
          refine y_get C0 2 rfl rfl (by decide) hin2 0 (ykd_sw ho (by omega : i < 5)) (by decide) (by decide +kernel) (yvi2 (ykd_sw ho (by omega : i < 5))) dX3_othersAt_41 ?_
          refine y_iload_n C0 5 dX3_othersAt_44 rfl rfl ?_
          refine y_icmp_eq C0 51 dX3_othersAt_45 (by decide) (fun c_45 => ?_) (fun c_45 => ?_)
          · refine y_iinc (v := nI (i + 1)) C0 1 [(6, _), (7, _), (5, _), (4, _), (3, _), (2, _), (1, _), (0, _)] dX3_othersAt_51 rfl (yinc_ok rfl rfl) (by decide) rfl ?_
            refine y_goto C0 16 dX3_othersAt_54 (by decide) ?_
            refine y_sub [0, 2, 3, 4, 5, 6, 7] [(6, _), (5, _), (4, _), (3, _), (2, _), (1, _), (0, _)] rfl ?_
            exact y_eq (by first | rfl | simp [wOth, c_20, c_36, c_45]) (by first | rfl | simp [wOth, c_20, c_36, c_45]) rfl (ih_16 _ (by omega) (i + 1) rfl hlt)
          · refine y_iinc C0 4 [(3, _), (7, _), (6, _), (5, _), (4, _), (2, _), (1, _), (0, _)] dX3_othersAt_48 rfl rfl (by decide) rfl ?_
            refine y_iinc (v := nI (i + 1)) C0 2 [(6, _), (3, _), (7, _), (5, _), (4, _), (2, _), (1, _), (0, _)] dX3_othersAt_51 rfl (yinc_ok rfl rfl) (by decide) rfl ?_
            refine y_goto C0 16 dX3_othersAt_54 (by decide) ?_
            refine y_sub [0, 3, 4, 1, 5, 6, 7] [(6, _), (5, _), (4, _), (3, _), (2, _), (1, _), (0, _)] rfl ?_
            exact y_eq (by first | rfl | simp [wOth, c_20, c_36, c_45]) (by first | rfl | simp [wOth, c_20, c_36, c_45]) rfl (ih_16 _ (by omega) (i + 1) rfl hlt)
  refine y_sub [0, 1, 2, 3, 6, 5, 4] [(6, _), (5, _), (4, _), (3, _), (2, _), (1, _), (0, _)] rfl ?_
  exact hl_16 _ 0 rfl (Nat.zero_le _)
abbrev rX3_sittersAt : Room := { frames := 1, cells := 0, slots := 0, locals := 27 }
set_option maxRecDepth 100000 in
set_option maxHeartbeats 4000000 in
theorem mX3_sittersAt (l : Launch) (D : va_G) (cy : Nat → ClassId) (adr : Nat → Nat) (M : yM) (o : Nat) (ho : o = 0 ∨ o = 27) (x : Int32)  : Ct l yX3_sittersAt wsX3_sittersAt rX3_sittersAt D cy adr [.ref (adr o), .int x] M (some (.int (wOth M o x (-1) 5))) (M) 0 0 := by
  refine Ct.mk cX3_sittersAt 2 (some .int) RX3 (by decide) rfl rfl (Nat.le_of_ble_eq_true rfl) ?_
  intro K C0
  refine y_eq rfl (show ([(0, .ref (adr o)), (1, .int x)] : List (Nat × Value)) = lv_args 0 [.ref (adr o), .int x] from rfl) rfl ?_
  refine y_aload_n C0 0 dX3_sittersAt_0 rfl rfl ?_
  refine y_iload_n C0 1 dX3_sittersAt_1 rfl rfl ?_
  refine y_iconst (v := (-1)) C0 dX3_sittersAt_2 (by decide) ?_
  refine y_callV (As := [_, _]) (rest := _) (n := 2) C0 (mX3_othersAt l D cy adr _ _ ho _ _) 3 rfl (by decide) (ykd_w ho) gX3_sittersAt_X3_othersAt rfl rfl rfl (by decide +kernel) ⟨by decide, by decide⟩ rfl rfl (Nat.le_of_ble_eq_true rfl) dX3_sittersAt_3 ⟨by decide, by decide⟩ ?_
  exact y_iret C0 dX3_sittersAt_6 rfl rfl
abbrev rX3_stitchesAnHour : Room := { frames := 1, cells := 0, slots := 0, locals := 16 }
set_option maxRecDepth 100000 in
set_option maxHeartbeats 4000000 in
theorem mX3_stitchesAnHour (l : Launch) (D : va_G) (cy : Nat → ClassId) (adr : Nat → Nat) (M : yM) (o : Nat) (ho : o = 0 ∨ o = 27) (x : Int32)  : Ct l yX3_stitchesAnHour wsX3_stitchesAnHour rX3_stitchesAnHour D cy adr [.ref (adr o), .int x] M (some (.int (wRate M o x))) (M) 0 0 := by
  refine Ct.mk cX3_stitchesAnHour 8 (some .int) RX3 (by decide) rfl rfl (Nat.le_of_ble_eq_true rfl) ?_
  intro K C0
  refine y_eq rfl (show ([(0, .ref (adr o)), (1, .int x)] : List (Nat × Value)) = lv_args 0 [.ref (adr o), .int x] from rfl) rfl ?_
  have hin2 : ∀ w ∈ u_ws RX2 TX2 3, w ∈ wsX3_stitchesAnHour := by decide +kernel
  have hin3 : ∀ w ∈ u_ws RX3 TX3 12, w ∈ wsX3_stitchesAnHour := by decide +kernel
  refine y_iconst (v := 0) C0 dX3_stitchesAnHour_0 (by decide) ?_
  refine y_istore_n C0 [(2, _), (0, _), (1, _)] dX3_stitchesAnHour_1 rfl (by decide) rfl ?_
  refine y_iconst (v := 0) C0 dX3_stitchesAnHour_2 (by decide) ?_
  refine y_istore_n C0 [(3, _), (2, _), (0, _), (1, _)] dX3_stitchesAnHour_3 rfl (by decide) rfl ?_
  refine y_aload_n C0 2 dX3_stitchesAnHour_4 rfl rfl ?_
  refine y_get C0 3 rfl rfl (by decide) hin3 1 (ykd_w ho) (by decide) (by decide +kernel) (yv3_sewers (ykd_w ho)) dX3_stitchesAnHour_5 ?_
  refine y_astore C0 [(4, _), (3, _), (2, _), (0, _), (1, _)] dX3_stitchesAnHour_8 (by decide) rfl ?_
  refine y_aload C0 0 dX3_stitchesAnHour_10 rfl ?_
  refine y_alen C0 8 (ykd_w2 ho) (by decide) (by decide) dX3_stitchesAnHour_12 ?_
  refine y_istore C0 [(5, _), (4, _), (3, _), (2, _), (0, _), (1, _)] dX3_stitchesAnHour_13 (by decide) rfl ?_
  refine y_iconst (v := 0) C0 dX3_stitchesAnHour_15 (by decide) ?_
  refine y_istore C0 [(6, _), (5, _), (4, _), (3, _), (2, _), (0, _), (1, _)] dX3_stitchesAnHour_16 (by decide) rfl ?_
  have hl_18 : ∀ (n : Nat) (i : Nat), 5 - i = n → i ≤ 5 → Y K l rX3_stitchesAnHour D cy adr 8 0 0 (QT K D cy adr (some (.int (wRate M o x))) (M) 0 0) M [] [(6, .int (nI i)), (5, .int (nI 5)), (4, .ref (adr (o + 2))), (3, .int (wSpd M o x i)), (2, .int (wSit M o x i)), (1, .int x), (0, .ref (adr o))] 18 [] := by
    intro n
    induction n using Nat.strongRecOn with
    | _ n ih_18 =>
      intro i hn_18 hi
      refine y_iload C0 0 dX3_stitchesAnHour_18 rfl ?_
      refine y_iload C0 1 dX3_stitchesAnHour_20 rfl ?_
      refine y_icmp_ge C0 58 dX3_stitchesAnHour_22 (by decide) (fun c_22 => ?_) (fun c_22 => ?_)
      · have he := ct_end (N := 5) (by decide) hi c_22
        subst he
        refine y_iload_n C0 4 dX3_stitchesAnHour_58 rfl rfl ?_
        refine y_iconst (v := 2) C0 dX3_stitchesAnHour_59 (by decide) ?_
        refine y_icmp_ne C0 73 dX3_stitchesAnHour_60 (by decide) (fun c_60 => ?_) (fun c_60 => ?_)
        · refine y_iload_n C0 3 dX3_stitchesAnHour_73 rfl rfl ?_
          exact y_iret C0 dX3_stitchesAnHour_74 (by simp only [wRate]; simp [c_22, c_60]) rfl
        · refine y_iconst (v := 1) C0 dX3_stitchesAnHour_63 (by decide) ?_
          refine y_iload_n C0 3 dX3_stitchesAnHour_64 rfl rfl ?_
          refine y_iconst (v := 3) C0 dX3_stitchesAnHour_65 (by decide) ?_
          refine y_isub C0 dX3_stitchesAnHour_66 ?_
          refine y_mmax C0 (by decide +kernel) (by decide +kernel) (by decide +kernel) (by decide +kernel) (by decide) (Nat.le_of_ble_eq_true rfl) (by decide) (by decide) dX3_stitchesAnHour_67 ?_
          refine y_goto C0 74 dX3_stitchesAnHour_70 (by decide) ?_
          exact y_iret C0 dX3_stitchesAnHour_74 (by simp only [wRate]; simp [c_22, c_60]) rfl
      · have hlt := ct_lt (N := 5) (by decide) hi c_22
        refine y_aload C0 2 dX3_stitchesAnHour_25 rfl ?_
        refine y_iload C0 0 dX3_stitchesAnHour_27 rfl ?_
        refine y_aald C0 (i) 8 (ykd_w2 ho) (by decide) (by decide) rfl (by omega : i < 5) (yel_sw ho) dX3_stitchesAnHour_29 ?_
        refine y_astore C0 [(7, _), (6, _), (5, _), (4, _), (3, _), (2, _), (1, _), (0, _)] dX3_stitchesAnHour_30 (by decide) rfl ?_
        refine y_aload C0 0 dX3_stitchesAnHour_32 rfl ?_
        refine y_get C0 2 rfl rfl (by decide) hin2 2 (ykd_sw ho (by omega : i < 5)) (by decide) (by decide +kernel) (yvi2 (ykd_sw ho (by omega : i < 5))) dX3_stitchesAnHour_34 ?_
        refine y_iload_n C0 6 dX3_stitchesAnHour_37 rfl rfl ?_
        refine y_icmp_ne C0 52 dX3_stitchesAnHour_38 (by decide) (fun c_38 => ?_) (fun c_38 => ?_)
        · refine y_iinc (v := nI (i + 1)) C0 1 [(6, _), (7, _), (5, _), (4, _), (3, _), (2, _), (1, _), (0, _)] dX3_stitchesAnHour_52 rfl (yinc_ok rfl rfl) (by decide) rfl ?_
          refine y_goto C0 18 dX3_stitchesAnHour_55 (by decide) ?_
          refine y_sub [0, 2, 3, 4, 5, 6, 7] [(6, _), (5, _), (4, _), (3, _), (2, _), (1, _), (0, _)] rfl ?_
          exact y_eq (by first | rfl | simp [wSpd, wSit, c_22, c_38]) (by first | rfl | simp [wSpd, wSit, c_22, c_38]) rfl (ih_18 _ (by omega) (i + 1) rfl hlt)
        · refine y_iinc C0 5 [(2, _), (7, _), (6, _), (5, _), (4, _), (3, _), (1, _), (0, _)] dX3_stitchesAnHour_41 rfl rfl (by decide) rfl ?_
          refine y_iload_n C0 5 dX3_stitchesAnHour_44 rfl rfl ?_
          refine y_aload C0 1 dX3_stitchesAnHour_45 rfl ?_
          refine y_get C0 2 rfl rfl (by decide) hin2 1 (ykd_sw ho (by omega : i < 5)) (by decide) (by decide +kernel) (yvi2 (ykd_sw ho (by omega : i < 5))) dX3_stitchesAnHour_47 ?_
          refine y_iadd C0 dX3_stitchesAnHour_50 ?_
          refine y_istore_n C0 [(3, _), (2, _), (7, _), (6, _), (5, _), (4, _), (1, _), (0, _)] dX3_stitchesAnHour_51 rfl (by decide) rfl ?_
          refine y_iinc (v := nI (i + 1)) C0 3 [(6, _), (3, _), (2, _), (7, _), (5, _), (4, _), (1, _), (0, _)] dX3_stitchesAnHour_52 rfl (yinc_ok rfl rfl) (by decide) rfl ?_
          refine y_goto C0 18 dX3_stitchesAnHour_55 (by decide) ?_
          refine y_sub [0, 4, 5, 1, 2, 6, 7] [(6, _), (5, _), (4, _), (3, _), (2, _), (1, _), (0, _)] rfl ?_
          exact y_eq (by first | rfl | simp [wSpd, wSit, c_22, c_38]) (by first | rfl | simp [wSpd, wSit, c_22, c_38]) rfl (ih_18 _ (by omega) (i + 1) rfl hlt)
  refine y_sub [0, 1, 2, 3, 4, 6, 5] [(6, _), (5, _), (4, _), (3, _), (2, _), (1, _), (0, _)] rfl ?_
  exact hl_18 _ 0 rfl (Nat.zero_le _)
end YZ
