section YWs
theorem thn_x {a b : Option String} {E : String} (h : thn a b = some E) : a = some E ∨ b = some E := by
  cases a with
  | none => exact Or.inr h
  | some e => exact Or.inl h
theorem okB_x {M : yM} {x : Int32} {E : String} (h : okB M x = some E) : E = yIOE := by
  unfold okB at h
  split at h
  · cases h; rfl
  · cases h
theorem okS_x {M : yM} {x : Int32} {E : String} (h : okS M x = some E) : E = yIOE := by
  unfold okS at h
  split at h
  · cases h; rfl
  · cases h
theorem okK_x {w n : Int32} {E : String} (h : okK w n = some E) : E = yIOE := by
  unfold okK at h
  repeat' split at h
  all_goals first | (cases h; rfl) | (cases h)
theorem okF_x {w : Int32} {E : String} (h : okF w = some E) : E = yIOE := by
  unfold okF at h
  repeat' split at h
  all_goals first | (cases h; rfl) | (cases h)
theorem okH_x {w : Int32} {E : String} (h : okH w = some E) : E = yIAE := by
  unfold okH at h
  repeat' split at h
  all_goals first | (cases h; rfl) | (cases h)
theorem x_order {B : Nat} {s h e : Int32} {E : String} (hE : ordO B s h e = some E) : E = yIAE ∨ E = yISE := by
  unfold ordO at hE
  repeat' split at hE
  all_goals first | (cases hE; exact Or.inl rfl) | (cases hE; exact Or.inr rfl) | (cases hE)
theorem x_hire {B : Nat} {s : Int32} {E : String} (hE : hirO B s = some E) : E = yIAE ∨ E = yISE := by
  unfold hirO at hE
  repeat' split at hE
  all_goals first | (cases hE; exact Or.inl rfl) | (cases hE; exact Or.inr rfl) | (cases hE)
theorem x_unpick {M : yM} {x : Int32} {E : String} (hE : unpO M x = some E) : E = yIOE ∨ E = yISE := by
  rcases thn_x hE with h | h
  · exact Or.inl (okB_x h)
  · split at h
    · cases h
    · cases h; exact Or.inr rfl
theorem x_sell {M : yM} {x : Int32} {E : String} (hE : selO M x = some E) : E = yIOE ∨ E = yISE := by
  rcases thn_x hE with h | h
  · exact Or.inl (okB_x h)
  · split at h
    · cases h
    · cases h; exact Or.inr rfl
theorem x_told {M : yM} {x w : Int32} {E : String} (hE : thn (okB M x) (okK w 11) = some E) : E = yIOE := by
  rcases thn_x hE with h | h
  · exact okB_x h
  · exact okK_x h
theorem x_sewer {M : yM} {x w : Int32} {E : String} (hE : thn (okS M x) (okK w 2) = some E) : E = yIOE := by
  rcases thn_x hE with h | h
  · exact okS_x h
  · exact okK_x h
theorem x_frame {f w : Int32} {E : String} (hE : thn (okF f) (okK w 6) = some E) : E = yIOE := by
  rcases thn_x hE with h | h
  · exact okF_x h
  · exact okK_x h
theorem x_seat {M : yM} {x f : Int32} {E : String} (hE : seaO M x f = some E) : E = yIOE ∨ E = yISE := by
  rcases thn_x hE with h | h
  · exact Or.inl (okS_x h)
  · repeat' split at h
    all_goals first | (cases h; exact Or.inl rfl) | (cases h; exact Or.inr rfl) | (cases h)
theorem x_string {M : yM} {f c : Int32} {E : String} (hE : strO M f c = some E) : E = yIOE ∨ E = yIAE ∨ E = yISE := by
  rcases thn_x hE with h | h
  · exact Or.inl (okF_x h)
  · repeat' split at h
    all_goals first | (cases h; exact Or.inr (Or.inl rfl)) | (cases h; exact Or.inr (Or.inr rfl)) | (cases h)
theorem x_buy {M : yM} {w x : Int32} {E : String} (hE : buyO M w x = some E) : E = yIOE ∨ E = yIAE ∨ E = yISE := by
  unfold buyO at hE
  repeat' split at hE
  all_goals first | (cases hE; exact Or.inl rfl) | (cases hE; exact Or.inr (Or.inl rfl)) | (cases hE; exact Or.inr (Or.inr rfl)) | (cases hE)
theorem x_count {w : Int32} {E : String} (hE : okK w 15 = some E) : E = yIOE := okK_x hE
theorem x_pass {w : Int32} {E : String} (hE : okH w = some E) : E = yIAE := okH_x hE
theorem x_foresee {h w : Int32} {E : String} (hE : forO h w = some E) : E = yIAE ∨ E = yIOE := by
  rcases thn_x hE with h | h
  · exact Or.inl (okH_x h)
  · repeat' split at h
    all_goals first | (cases h; exact Or.inr rfl) | (cases h)
theorem x_until {M : yM} {x : Int32} {E : String} (hE : okB M x = some E) : E = yIOE := okB_x hE
theorem x_advise {M : yM} {x : Int32} {E : String} (hE : okS M x = some E) : E = yIOE := okS_x hE
abbrev rL_order : Room := { frames := 7, cells := 1, slots := 6, locals := 114 }
set_option maxRecDepth 100000 in
set_option maxHeartbeats 4000000 in
theorem mL_order (l : Launch) (hlf : l.stackTraces = false) (D : va_G) (cy : Nat → ClassId) (cL : ClassId) (adr : Nat → Nat) (M : yM) (q : Nat) (f9 : Nat → Int64) (s : Int32) (h : Int32) (e : Int32) (B : Nat) (hB : B ≤ 15) (eB : M 0 3 = nI B) : Cw l yL_order wsL_order rL_order D cy cL adr q [.ref (adr 54), .int s, .int h, .int e, .ref q] M f9 (kc yIAE yISE "" (ordO B s h e)) (mo (ordO B s h e) (ordM M B s h e) M) (fo (ordO B s h e) f9 (ordM M B s h e (0 + 4 + B) 0)) 1 6 := by
  refine Cw.mk cL_order 6 (some .int) RL [(0, 12, 15, 13), (0, 12, 19, 15)] (by decide) rfl rfl (Nat.le_of_ble_eq_true rfl) ?_
  intro K C0 hX hC hN hL
  refine y_eq rfl (show ([(0, .ref (adr 54)), (1, .int s), (2, .int h), (3, .int e), (4, .ref q)] : List (Nat × Value)) = lv_args 0 [.ref (adr 54), .int s, .int h, .int e, .ref q] from rfl) rfl ?_
  refine y_aload C0 4 dL_order_0 rfl ?_
  refine y_iconst (v := 0) C0 dL_order_2 (by decide) ?_
  refine y_aload_n C0 0 dL_order_3 rfl rfl ?_
  refine y_iload_n C0 1 dL_order_4 rfl rfl ?_
  refine y_iload_n C0 2 dL_order_5 rfl rfl ?_
  refine y_iload_n C0 3 dL_order_6 rfl rfl ?_
  refine y_callVXc (As := [_, _, _]) (rest := _) (n := 3) C0 hX (mX4_order l hlf D cy adr M s h e B hB eB) 4 rfl (by decide) ykd_54 gL_order_X4_order rfl rfl rfl (by decide +kernel) ⟨by decide, by decide⟩ rfl rfl (Nat.le_of_ble_eq_true rfl) dL_order_7 ⟨by decide, by decide⟩ (fun h0 => ?_) (fun Ex hE => ?_)
  · refine y_i2l C0 dL_order_10 ?_
    refine y_lastE C0 hL dL_order_11 ?_
    refine y_goto C0 23 dL_order_12 (by decide) ?_
    refine y_iconst (v := 0) C0 dL_order_23 (by decide) ?_
    refine y_widen (k := 1) (n := 6) (by decide) (by decide) ?_
    exact y_iretW C0 dL_order_24 (kc_n h0) rfl (fo_n h0)
  · rcases x_order hE with rfl | rfl
    · refine y_catch (hh := [(0, 12, 15, 13), (0, 12, 19, 15)]) C0 hX hC hN [] ⟨0, 12, 15, 13⟩ [⟨0, 12, 19, 15⟩] rfl (fun z hz => absurd hz List.not_mem_nil) rfl (by decide) (by decide +kernel) (by decide) (fun q9 => ?_)
      refine y_astore C0 [(5, _), (0, _), (1, _), (2, _), (3, _), (4, _)] dL_order_15 (by decide) rfl ?_
      refine y_iconst (v := 1) C0 dL_order_17 (by decide) ?_
      refine y_widen (k := 1) (n := 6) (by decide) (by decide) ?_
      exact y_iretW C0 dL_order_18 (kc_1 hE) rfl (fo_s hE)
    · refine y_catch (hh := [(0, 12, 15, 13), (0, 12, 19, 15)]) C0 hX hC hN [⟨0, 12, 15, 13⟩] ⟨0, 12, 19, 15⟩ [] rfl (fun z hz => by
        simp only [List.mem_cons, List.not_mem_nil, or_false] at hz
        rcases hz with rfl
        · exact ⟨by decide, yIAE, by decide +kernel, by decide +kernel⟩) rfl (by decide) (by decide +kernel) (by decide) (fun q9 => ?_)
      refine y_astore C0 [(5, _), (0, _), (1, _), (2, _), (3, _), (4, _)] dL_order_19 (by decide) rfl ?_
      refine y_iconst (v := 2) C0 dL_order_21 (by decide) ?_
      refine y_widen (k := 1) (n := 6) (by decide) (by decide) ?_
      exact y_iretW C0 dL_order_22 (kc_2 hE (by decide)) rfl (fo_s hE)
abbrev rL_unpick : Room := { frames := 8, cells := 2, slots := 12, locals := 135 }
set_option maxRecDepth 100000 in
set_option maxHeartbeats 4000000 in
theorem mL_unpick (l : Launch) (hlf : l.stackTraces = false) (D : va_G) (cy : Nat → ClassId) (cL : ClassId) (adr : Nat → Nat) (M : yM) (q : Nat) (f9 : Nat → Int64) (x : Int32)  : Cw l yL_unpick wsL_unpick rL_unpick D cy cL adr q [.ref (adr 54), .int x, .ref q] M f9 (kc yIOE yISE "" (unpO M x)) (mo (unpO M x) (unpM M (bkI x)) M) (fo (unpO M x) f9 (M (bkI x) 7)) 2 12 := by
  refine Cw.mk cL_unpick 4 (some .int) RL [(0, 9, 12, 21), (0, 9, 15, 15)] (by decide) rfl rfl (Nat.le_of_ble_eq_true rfl) ?_
  intro K C0 hX hC hN hL
  refine y_eq rfl (show ([(0, .ref (adr 54)), (1, .int x), (2, .ref q)] : List (Nat × Value)) = lv_args 0 [.ref (adr 54), .int x, .ref q] from rfl) rfl ?_
  refine y_aload_n C0 2 dL_unpick_0 rfl rfl ?_
  refine y_iconst (v := 0) C0 dL_unpick_1 (by decide) ?_
  refine y_aload_n C0 0 dL_unpick_2 rfl rfl ?_
  refine y_iload_n C0 1 dL_unpick_3 rfl rfl ?_
  refine y_callVXc (As := [_]) (rest := _) (n := 1) C0 hX (mX4_unpick l hlf D cy adr M x) 4 rfl (by decide) ykd_54 gL_unpick_X4_unpick rfl rfl rfl (by decide +kernel) ⟨by decide, by decide⟩ rfl rfl (Nat.le_of_ble_eq_true rfl) dL_unpick_4 ⟨by decide, by decide⟩ (fun h0 => ?_) (fun Ex hE => ?_)
  · refine y_i2l C0 dL_unpick_7 ?_
    refine y_lastE C0 hL dL_unpick_8 ?_
    refine y_goto C0 18 dL_unpick_9 (by decide) ?_
    refine y_iconst (v := 0) C0 dL_unpick_18 (by decide) ?_
    refine y_widen (k := 2) (n := 12) (by decide) (by decide) ?_
    exact y_iretW C0 dL_unpick_19 (kc_n h0) rfl (fo_n h0)
  · rcases x_unpick hE with rfl | rfl
    · refine y_catch (hh := [(0, 9, 12, 21), (0, 9, 15, 15)]) C0 hX hC hN [] ⟨0, 9, 12, 21⟩ [⟨0, 9, 15, 15⟩] rfl (fun z hz => absurd hz List.not_mem_nil) rfl (by decide) (by decide +kernel) (by decide) (fun q9 => ?_)
      refine y_astore_n C0 [(3, _), (0, _), (1, _), (2, _)] dL_unpick_12 rfl (by decide) rfl ?_
      refine y_iconst (v := 1) C0 dL_unpick_13 (by decide) ?_
      refine y_widen (k := 2) (n := 12) (by decide) (by decide) ?_
      exact y_iretW C0 dL_unpick_14 (kc_1 hE) rfl (fo_s hE)
    · refine y_catch (hh := [(0, 9, 12, 21), (0, 9, 15, 15)]) C0 hX hC hN [⟨0, 9, 12, 21⟩] ⟨0, 9, 15, 15⟩ [] rfl (fun z hz => by
        simp only [List.mem_cons, List.not_mem_nil, or_false] at hz
        rcases hz with rfl
        · exact ⟨by decide, yIOE, by decide +kernel, by decide +kernel⟩) rfl (by decide) (by decide +kernel) (by decide) (fun q9 => ?_)
      refine y_astore_n C0 [(3, _), (0, _), (1, _), (2, _)] dL_unpick_15 rfl (by decide) rfl ?_
      refine y_iconst (v := 2) C0 dL_unpick_16 (by decide) ?_
      refine y_widen (k := 2) (n := 12) (by decide) (by decide) ?_
      exact y_iretW C0 dL_unpick_17 (kc_2 hE (by decide)) rfl (fo_s hE)
abbrev rL_sell : Room := { frames := 8, cells := 2, slots := 12, locals := 134 }
set_option maxRecDepth 100000 in
set_option maxHeartbeats 4000000 in
theorem mL_sell (l : Launch) (hlf : l.stackTraces = false) (D : va_G) (cy : Nat → ClassId) (cL : ClassId) (adr : Nat → Nat) (M : yM) (q : Nat) (f9 : Nat → Int64) (x : Int32)  : Cw l yL_sell wsL_sell rL_sell D cy cL adr q [.ref (adr 54), .int x, .ref q] M f9 (kc yIOE yISE "" (selO M x)) (mo (selO M x) (selM M (bkI x)) M) (fo (selO M x) f9 (selM M (bkI x) 0 6)) 2 12 := by
  refine Cw.mk cL_sell 4 (some .int) RL [(0, 9, 12, 21), (0, 9, 15, 15)] (by decide) rfl rfl (Nat.le_of_ble_eq_true rfl) ?_
  intro K C0 hX hC hN hL
  refine y_eq rfl (show ([(0, .ref (adr 54)), (1, .int x), (2, .ref q)] : List (Nat × Value)) = lv_args 0 [.ref (adr 54), .int x, .ref q] from rfl) rfl ?_
  refine y_aload_n C0 2 dL_sell_0 rfl rfl ?_
  refine y_iconst (v := 0) C0 dL_sell_1 (by decide) ?_
  refine y_aload_n C0 0 dL_sell_2 rfl rfl ?_
  refine y_iload_n C0 1 dL_sell_3 rfl rfl ?_
  refine y_callVXc (As := [_]) (rest := _) (n := 1) C0 hX (mX4_sell l hlf D cy adr M x) 4 rfl (by decide) ykd_54 gL_sell_X4_sell rfl rfl rfl (by decide +kernel) ⟨by decide, by decide⟩ rfl rfl (Nat.le_of_ble_eq_true rfl) dL_sell_4 ⟨by decide, by decide⟩ (fun h0 => ?_) (fun Ex hE => ?_)
  · refine y_i2l C0 dL_sell_7 ?_
    refine y_lastE C0 hL dL_sell_8 ?_
    refine y_goto C0 18 dL_sell_9 (by decide) ?_
    refine y_iconst (v := 0) C0 dL_sell_18 (by decide) ?_
    refine y_widen (k := 2) (n := 12) (by decide) (by decide) ?_
    exact y_iretW C0 dL_sell_19 (kc_n h0) rfl (fo_n h0)
  · rcases x_sell hE with rfl | rfl
    · refine y_catch (hh := [(0, 9, 12, 21), (0, 9, 15, 15)]) C0 hX hC hN [] ⟨0, 9, 12, 21⟩ [⟨0, 9, 15, 15⟩] rfl (fun z hz => absurd hz List.not_mem_nil) rfl (by decide) (by decide +kernel) (by decide) (fun q9 => ?_)
      refine y_astore_n C0 [(3, _), (0, _), (1, _), (2, _)] dL_sell_12 rfl (by decide) rfl ?_
      refine y_iconst (v := 1) C0 dL_sell_13 (by decide) ?_
      refine y_widen (k := 2) (n := 12) (by decide) (by decide) ?_
      exact y_iretW C0 dL_sell_14 (kc_1 hE) rfl (fo_s hE)
    · refine y_catch (hh := [(0, 9, 12, 21), (0, 9, 15, 15)]) C0 hX hC hN [⟨0, 9, 12, 21⟩] ⟨0, 9, 15, 15⟩ [] rfl (fun z hz => by
        simp only [List.mem_cons, List.not_mem_nil, or_false] at hz
        rcases hz with rfl
        · exact ⟨by decide, yIOE, by decide +kernel, by decide +kernel⟩) rfl (by decide) (by decide +kernel) (by decide) (fun q9 => ?_)
      refine y_astore_n C0 [(3, _), (0, _), (1, _), (2, _)] dL_sell_15 rfl (by decide) rfl ?_
      refine y_iconst (v := 2) C0 dL_sell_16 (by decide) ?_
      refine y_widen (k := 2) (n := 12) (by decide) (by decide) ?_
      exact y_iretW C0 dL_sell_17 (kc_2 hE (by decide)) rfl (fo_s hE)
abbrev rL_told : Room := { frames := 8, cells := 2, slots := 12, locals := 135 }
set_option maxRecDepth 100000 in
set_option maxHeartbeats 4000000 in
theorem mL_told (l : Launch) (hlf : l.stackTraces = false) (D : va_G) (cy : Nat → ClassId) (cL : ClassId) (adr : Nat → Nat) (M : yM) (q : Nat) (f9 : Nat → Int64) (x : Int32) (w : Int32)  : Cw l yL_told wsL_told rL_told D cy cL adr q [.ref (adr 54), .int x, .int w, .ref q] M f9 (kc yIOE "" "" (thn (okB M x) (okK w 11))) (M) (fo (thn (okB M x) (okK w 11)) f9 (bTell (M (bkI x)) w)) 2 12 := by
  refine Cw.mk cL_told 5 (some .int) RL [(0, 10, 13, 21)] (by decide) rfl rfl (Nat.le_of_ble_eq_true rfl) ?_
  intro K C0 hX hC hN hL
  refine y_eq rfl (show ([(0, .ref (adr 54)), (1, .int x), (2, .int w), (3, .ref q)] : List (Nat × Value)) = lv_args 0 [.ref (adr 54), .int x, .int w, .ref q] from rfl) rfl ?_
  refine y_aload_n C0 3 dL_told_0 rfl rfl ?_
  refine y_iconst (v := 0) C0 dL_told_1 (by decide) ?_
  refine y_aload_n C0 0 dL_told_2 rfl rfl ?_
  refine y_iload_n C0 1 dL_told_3 rfl rfl ?_
  refine y_iload_n C0 2 dL_told_4 rfl rfl ?_
  refine y_callVXc (As := [_, _]) (rest := _) (n := 2) C0 hX (mX4_told l hlf D cy adr M x w) 4 rfl (by decide) ykd_54 gL_told_X4_told rfl rfl rfl (by decide +kernel) ⟨by decide, by decide⟩ rfl rfl (Nat.le_of_ble_eq_true rfl) dL_told_5 ⟨by decide, by decide⟩ (fun h0 => ?_) (fun Ex hE => ?_)
  · refine y_i2l C0 dL_told_8 ?_
    refine y_lastE C0 hL dL_told_9 ?_
    refine y_goto C0 17 dL_told_10 (by decide) ?_
    refine y_iconst (v := 0) C0 dL_told_17 (by decide) ?_
    refine y_widen (k := 2) (n := 12) (by decide) (by decide) ?_
    exact y_iretW C0 dL_told_18 (kc_n h0) rfl (fo_n h0)
  · rcases x_told hE with rfl
    · refine y_catch (hh := [(0, 10, 13, 21)]) C0 hX hC hN [] ⟨0, 10, 13, 21⟩ [] rfl (fun z hz => absurd hz List.not_mem_nil) rfl (by decide) (by decide +kernel) (by decide) (fun q9 => ?_)
      refine y_astore C0 [(4, _), (0, _), (1, _), (2, _), (3, _)] dL_told_13 (by decide) rfl ?_
      refine y_iconst (v := 1) C0 dL_told_15 (by decide) ?_
      refine y_widen (k := 2) (n := 12) (by decide) (by decide) ?_
      exact y_iretW C0 dL_told_16 (kc_1 hE) rfl (fo_s hE)
abbrev rL_hire : Room := { frames := 7, cells := 1, slots := 6, locals := 112 }
set_option maxRecDepth 100000 in
set_option maxHeartbeats 4000000 in
theorem mL_hire (l : Launch) (hlf : l.stackTraces = false) (D : va_G) (cy : Nat → ClassId) (cL : ClassId) (adr : Nat → Nat) (M : yM) (q : Nat) (f9 : Nat → Int64) (s : Int32) (B : Nat) (hB : B ≤ 5) (eB : M 0 4 = nI B) : Cw l yL_hire wsL_hire rL_hire D cy cL adr q [.ref (adr 54), .int s, .ref q] M f9 (kc yIAE yISE "" (hirO B s)) (mo (hirO B s) (hirM M B s) M) (fo (hirO B s) f9 (hirM M B s (0 + 19 + B) 0)) 1 6 := by
  refine Cw.mk cL_hire 4 (some .int) RL [(0, 9, 12, 13), (0, 9, 15, 15)] (by decide) rfl rfl (Nat.le_of_ble_eq_true rfl) ?_
  intro K C0 hX hC hN hL
  refine y_eq rfl (show ([(0, .ref (adr 54)), (1, .int s), (2, .ref q)] : List (Nat × Value)) = lv_args 0 [.ref (adr 54), .int s, .ref q] from rfl) rfl ?_
  refine y_aload_n C0 2 dL_hire_0 rfl rfl ?_
  refine y_iconst (v := 0) C0 dL_hire_1 (by decide) ?_
  refine y_aload_n C0 0 dL_hire_2 rfl rfl ?_
  refine y_iload_n C0 1 dL_hire_3 rfl rfl ?_
  refine y_callVXc (As := [_]) (rest := _) (n := 1) C0 hX (mX4_hire l hlf D cy adr M s B hB eB) 4 rfl (by decide) ykd_54 gL_hire_X4_hire rfl rfl rfl (by decide +kernel) ⟨by decide, by decide⟩ rfl rfl (Nat.le_of_ble_eq_true rfl) dL_hire_4 ⟨by decide, by decide⟩ (fun h0 => ?_) (fun Ex hE => ?_)
  · refine y_i2l C0 dL_hire_7 ?_
    refine y_lastE C0 hL dL_hire_8 ?_
    refine y_goto C0 18 dL_hire_9 (by decide) ?_
    refine y_iconst (v := 0) C0 dL_hire_18 (by decide) ?_
    refine y_widen (k := 1) (n := 6) (by decide) (by decide) ?_
    exact y_iretW C0 dL_hire_19 (kc_n h0) rfl (fo_n h0)
  · rcases x_hire hE with rfl | rfl
    · refine y_catch (hh := [(0, 9, 12, 13), (0, 9, 15, 15)]) C0 hX hC hN [] ⟨0, 9, 12, 13⟩ [⟨0, 9, 15, 15⟩] rfl (fun z hz => absurd hz List.not_mem_nil) rfl (by decide) (by decide +kernel) (by decide) (fun q9 => ?_)
      refine y_astore_n C0 [(3, _), (0, _), (1, _), (2, _)] dL_hire_12 rfl (by decide) rfl ?_
      refine y_iconst (v := 1) C0 dL_hire_13 (by decide) ?_
      refine y_widen (k := 1) (n := 6) (by decide) (by decide) ?_
      exact y_iretW C0 dL_hire_14 (kc_1 hE) rfl (fo_s hE)
    · refine y_catch (hh := [(0, 9, 12, 13), (0, 9, 15, 15)]) C0 hX hC hN [⟨0, 9, 12, 13⟩] ⟨0, 9, 15, 15⟩ [] rfl (fun z hz => by
        simp only [List.mem_cons, List.not_mem_nil, or_false] at hz
        rcases hz with rfl
        · exact ⟨by decide, yIAE, by decide +kernel, by decide +kernel⟩) rfl (by decide) (by decide +kernel) (by decide) (fun q9 => ?_)
      refine y_astore_n C0 [(3, _), (0, _), (1, _), (2, _)] dL_hire_15 rfl (by decide) rfl ?_
      refine y_iconst (v := 2) C0 dL_hire_16 (by decide) ?_
      refine y_widen (k := 1) (n := 6) (by decide) (by decide) ?_
      exact y_iretW C0 dL_hire_17 (kc_2 hE (by decide)) rfl (fo_s hE)
abbrev rL_seat : Room := { frames := 8, cells := 2, slots := 12, locals := 136 }
set_option maxRecDepth 100000 in
set_option maxHeartbeats 4000000 in
theorem mL_seat (l : Launch) (hlf : l.stackTraces = false) (D : va_G) (cy : Nat → ClassId) (cL : ClassId) (adr : Nat → Nat) (M : yM) (q : Nat) (f9 : Nat → Int64) (x : Int32) (f : Int32)  : Cw l yL_seat wsL_seat rL_seat D cy cL adr q [.ref (adr 54), .int x, .int f, .ref q] M f9 (kc yIOE yISE "" (seaO M x f)) (mo (seaO M x f) (yst M (swI x) 2 f) M) (fo (seaO M x f) f9 (M (swI x) 2)) 2 12 := by
  refine Cw.mk cL_seat 5 (some .int) RL [(0, 10, 13, 21), (0, 10, 17, 15)] (by decide) rfl rfl (Nat.le_of_ble_eq_true rfl) ?_
  intro K C0 hX hC hN hL
  refine y_eq rfl (show ([(0, .ref (adr 54)), (1, .int x), (2, .int f), (3, .ref q)] : List (Nat × Value)) = lv_args 0 [.ref (adr 54), .int x, .int f, .ref q] from rfl) rfl ?_
  refine y_aload_n C0 3 dL_seat_0 rfl rfl ?_
  refine y_iconst (v := 0) C0 dL_seat_1 (by decide) ?_
  refine y_aload_n C0 0 dL_seat_2 rfl rfl ?_
  refine y_iload_n C0 1 dL_seat_3 rfl rfl ?_
  refine y_iload_n C0 2 dL_seat_4 rfl rfl ?_
  refine y_callVXc (As := [_, _]) (rest := _) (n := 2) C0 hX (mX4_seat l hlf D cy adr M x f) 4 rfl (by decide) ykd_54 gL_seat_X4_seat rfl rfl rfl (by decide +kernel) ⟨by decide, by decide⟩ rfl rfl (Nat.le_of_ble_eq_true rfl) dL_seat_5 ⟨by decide, by decide⟩ (fun h0 => ?_) (fun Ex hE => ?_)
  · refine y_i2l C0 dL_seat_8 ?_
    refine y_lastE C0 hL dL_seat_9 ?_
    refine y_goto C0 21 dL_seat_10 (by decide) ?_
    refine y_iconst (v := 0) C0 dL_seat_21 (by decide) ?_
    refine y_widen (k := 2) (n := 12) (by decide) (by decide) ?_
    exact y_iretW C0 dL_seat_22 (kc_n h0) rfl (fo_n h0)
  · rcases x_seat hE with rfl | rfl
    · refine y_catch (hh := [(0, 10, 13, 21), (0, 10, 17, 15)]) C0 hX hC hN [] ⟨0, 10, 13, 21⟩ [⟨0, 10, 17, 15⟩] rfl (fun z hz => absurd hz List.not_mem_nil) rfl (by decide) (by decide +kernel) (by decide) (fun q9 => ?_)
      refine y_astore C0 [(4, _), (0, _), (1, _), (2, _), (3, _)] dL_seat_13 (by decide) rfl ?_
      refine y_iconst (v := 1) C0 dL_seat_15 (by decide) ?_
      refine y_widen (k := 2) (n := 12) (by decide) (by decide) ?_
      exact y_iretW C0 dL_seat_16 (kc_1 hE) rfl (fo_s hE)
    · refine y_catch (hh := [(0, 10, 13, 21), (0, 10, 17, 15)]) C0 hX hC hN [⟨0, 10, 13, 21⟩] ⟨0, 10, 17, 15⟩ [] rfl (fun z hz => by
        simp only [List.mem_cons, List.not_mem_nil, or_false] at hz
        rcases hz with rfl
        · exact ⟨by decide, yIOE, by decide +kernel, by decide +kernel⟩) rfl (by decide) (by decide +kernel) (by decide) (fun q9 => ?_)
      refine y_astore C0 [(4, _), (0, _), (1, _), (2, _), (3, _)] dL_seat_17 (by decide) rfl ?_
      refine y_iconst (v := 2) C0 dL_seat_19 (by decide) ?_
      refine y_widen (k := 2) (n := 12) (by decide) (by decide) ?_
      exact y_iretW C0 dL_seat_20 (kc_2 hE (by decide)) rfl (fo_s hE)
abbrev rL_sewer : Room := { frames := 8, cells := 2, slots := 12, locals := 135 }
set_option maxRecDepth 100000 in
set_option maxHeartbeats 4000000 in
theorem mL_sewer (l : Launch) (hlf : l.stackTraces = false) (D : va_G) (cy : Nat → ClassId) (cL : ClassId) (adr : Nat → Nat) (M : yM) (q : Nat) (f9 : Nat → Int64) (x : Int32) (w : Int32)  : Cw l yL_sewer wsL_sewer rL_sewer D cy cL adr q [.ref (adr 54), .int x, .int w, .ref q] M f9 (kc yIOE "" "" (thn (okS M x) (okK w 2))) (M) (fo (thn (okS M x) (okK w 2)) f9 (sTell (M (swI x)) w)) 2 12 := by
  refine Cw.mk cL_sewer 5 (some .int) RL [(0, 10, 13, 21)] (by decide) rfl rfl (Nat.le_of_ble_eq_true rfl) ?_
  intro K C0 hX hC hN hL
  refine y_eq rfl (show ([(0, .ref (adr 54)), (1, .int x), (2, .int w), (3, .ref q)] : List (Nat × Value)) = lv_args 0 [.ref (adr 54), .int x, .int w, .ref q] from rfl) rfl ?_
  refine y_aload_n C0 3 dL_sewer_0 rfl rfl ?_
  refine y_iconst (v := 0) C0 dL_sewer_1 (by decide) ?_
  refine y_aload_n C0 0 dL_sewer_2 rfl rfl ?_
  refine y_iload_n C0 1 dL_sewer_3 rfl rfl ?_
  refine y_iload_n C0 2 dL_sewer_4 rfl rfl ?_
  refine y_callVXc (As := [_, _]) (rest := _) (n := 2) C0 hX (mX4_sewer l hlf D cy adr M x w) 4 rfl (by decide) ykd_54 gL_sewer_X4_sewer rfl rfl rfl (by decide +kernel) ⟨by decide, by decide⟩ rfl rfl (Nat.le_of_ble_eq_true rfl) dL_sewer_5 ⟨by decide, by decide⟩ (fun h0 => ?_) (fun Ex hE => ?_)
  · refine y_i2l C0 dL_sewer_8 ?_
    refine y_lastE C0 hL dL_sewer_9 ?_
    refine y_goto C0 17 dL_sewer_10 (by decide) ?_
    refine y_iconst (v := 0) C0 dL_sewer_17 (by decide) ?_
    refine y_widen (k := 2) (n := 12) (by decide) (by decide) ?_
    exact y_iretW C0 dL_sewer_18 (kc_n h0) rfl (fo_n h0)
  · rcases x_sewer hE with rfl
    · refine y_catch (hh := [(0, 10, 13, 21)]) C0 hX hC hN [] ⟨0, 10, 13, 21⟩ [] rfl (fun z hz => absurd hz List.not_mem_nil) rfl (by decide) (by decide +kernel) (by decide) (fun q9 => ?_)
      refine y_astore C0 [(4, _), (0, _), (1, _), (2, _), (3, _)] dL_sewer_13 (by decide) rfl ?_
      refine y_iconst (v := 1) C0 dL_sewer_15 (by decide) ?_
      refine y_widen (k := 2) (n := 12) (by decide) (by decide) ?_
      exact y_iretW C0 dL_sewer_16 (kc_1 hE) rfl (fo_s hE)
abbrev rL_string : Room := { frames := 8, cells := 2, slots := 12, locals := 135 }
set_option maxRecDepth 100000 in
set_option maxHeartbeats 4000000 in
theorem mL_string (l : Launch) (hlf : l.stackTraces = false) (D : va_G) (cy : Nat → ClassId) (cL : ClassId) (adr : Nat → Nat) (M : yM) (q : Nat) (f9 : Nat → Int64) (f : Int32) (c : Int32)  : Cw l yL_string wsL_string rL_string D cy cL adr q [.ref (adr 54), .int f, .int c, .ref q] M f9 (kc yIOE yIAE yISE (strO M f c)) (mo (strO M f c) (yst M (frI f) 1 c) M) (fo (strO M f c) f9 (M (frI f) 1)) 2 12 := by
  refine Cw.mk cL_string 5 (some .int) RL [(0, 10, 13, 21), (0, 10, 17, 13), (0, 10, 21, 15)] (by decide) rfl rfl (Nat.le_of_ble_eq_true rfl) ?_
  intro K C0 hX hC hN hL
  refine y_eq rfl (show ([(0, .ref (adr 54)), (1, .int f), (2, .int c), (3, .ref q)] : List (Nat × Value)) = lv_args 0 [.ref (adr 54), .int f, .int c, .ref q] from rfl) rfl ?_
  refine y_aload_n C0 3 dL_string_0 rfl rfl ?_
  refine y_iconst (v := 0) C0 dL_string_1 (by decide) ?_
  refine y_aload_n C0 0 dL_string_2 rfl rfl ?_
  refine y_iload_n C0 1 dL_string_3 rfl rfl ?_
  refine y_iload_n C0 2 dL_string_4 rfl rfl ?_
  refine y_callVXc (As := [_, _]) (rest := _) (n := 2) C0 hX (mX4_string l hlf D cy adr M f c) 4 rfl (by decide) ykd_54 gL_string_X4_string rfl rfl rfl (by decide +kernel) ⟨by decide, by decide⟩ rfl rfl (Nat.le_of_ble_eq_true rfl) dL_string_5 ⟨by decide, by decide⟩ (fun h0 => ?_) (fun Ex hE => ?_)
  · refine y_i2l C0 dL_string_8 ?_
    refine y_lastE C0 hL dL_string_9 ?_
    refine y_goto C0 25 dL_string_10 (by decide) ?_
    refine y_iconst (v := 0) C0 dL_string_25 (by decide) ?_
    refine y_widen (k := 2) (n := 12) (by decide) (by decide) ?_
    exact y_iretW C0 dL_string_26 (kc_n h0) rfl (fo_n h0)
  · rcases x_string hE with rfl | rfl | rfl
    · refine y_catch (hh := [(0, 10, 13, 21), (0, 10, 17, 13), (0, 10, 21, 15)]) C0 hX hC hN [] ⟨0, 10, 13, 21⟩ [⟨0, 10, 17, 13⟩, ⟨0, 10, 21, 15⟩] rfl (fun z hz => absurd hz List.not_mem_nil) rfl (by decide) (by decide +kernel) (by decide) (fun q9 => ?_)
      refine y_astore C0 [(4, _), (0, _), (1, _), (2, _), (3, _)] dL_string_13 (by decide) rfl ?_
      refine y_iconst (v := 1) C0 dL_string_15 (by decide) ?_
      refine y_widen (k := 2) (n := 12) (by decide) (by decide) ?_
      exact y_iretW C0 dL_string_16 (kc_1 hE) rfl (fo_s hE)
    · refine y_catch (hh := [(0, 10, 13, 21), (0, 10, 17, 13), (0, 10, 21, 15)]) C0 hX hC hN [⟨0, 10, 13, 21⟩] ⟨0, 10, 17, 13⟩ [⟨0, 10, 21, 15⟩] rfl (fun z hz => by
        simp only [List.mem_cons, List.not_mem_nil, or_false] at hz
        rcases hz with rfl
        · exact ⟨by decide, yIOE, by decide +kernel, by decide +kernel⟩) rfl (by decide) (by decide +kernel) (by decide) (fun q9 => ?_)
      refine y_astore C0 [(4, _), (0, _), (1, _), (2, _), (3, _)] dL_string_17 (by decide) rfl ?_
      refine y_iconst (v := 2) C0 dL_string_19 (by decide) ?_
      refine y_widen (k := 2) (n := 12) (by decide) (by decide) ?_
      exact y_iretW C0 dL_string_20 (kc_2 hE (by decide)) rfl (fo_s hE)
    · refine y_catch (hh := [(0, 10, 13, 21), (0, 10, 17, 13), (0, 10, 21, 15)]) C0 hX hC hN [⟨0, 10, 13, 21⟩, ⟨0, 10, 17, 13⟩] ⟨0, 10, 21, 15⟩ [] rfl (fun z hz => by
        simp only [List.mem_cons, List.not_mem_nil, or_false] at hz
        rcases hz with rfl | rfl
        · exact ⟨by decide, yIOE, by decide +kernel, by decide +kernel⟩
        · exact ⟨by decide, yIAE, by decide +kernel, by decide +kernel⟩) rfl (by decide) (by decide +kernel) (by decide) (fun q9 => ?_)
      refine y_astore C0 [(4, _), (0, _), (1, _), (2, _), (3, _)] dL_string_21 (by decide) rfl ?_
      refine y_iconst (v := 3) C0 dL_string_23 (by decide) ?_
      refine y_widen (k := 2) (n := 12) (by decide) (by decide) ?_
      exact y_iretW C0 dL_string_24 (kc_3 hE (by decide) (by decide)) rfl (fo_s hE)
abbrev rL_frame : Room := { frames := 8, cells := 2, slots := 12, locals := 134 }
set_option maxRecDepth 100000 in
set_option maxHeartbeats 4000000 in
theorem mL_frame (l : Launch) (hlf : l.stackTraces = false) (D : va_G) (cy : Nat → ClassId) (cL : ClassId) (adr : Nat → Nat) (M : yM) (q : Nat) (f9 : Nat → Int64) (f : Int32) (w : Int32)  : Cw l yL_frame wsL_frame rL_frame D cy cL adr q [.ref (adr 54), .int f, .int w, .ref q] M f9 (kc yIOE "" "" (thn (okF f) (okK w 6))) (M) (fo (thn (okF f) (okK w 6)) f9 (wTellF M 0 (cN f) w)) 2 12 := by
  refine Cw.mk cL_frame 5 (some .int) RL [(0, 10, 13, 21)] (by decide) rfl rfl (Nat.le_of_ble_eq_true rfl) ?_
  intro K C0 hX hC hN hL
  refine y_eq rfl (show ([(0, .ref (adr 54)), (1, .int f), (2, .int w), (3, .ref q)] : List (Nat × Value)) = lv_args 0 [.ref (adr 54), .int f, .int w, .ref q] from rfl) rfl ?_
  refine y_aload_n C0 3 dL_frame_0 rfl rfl ?_
  refine y_iconst (v := 0) C0 dL_frame_1 (by decide) ?_
  refine y_aload_n C0 0 dL_frame_2 rfl rfl ?_
  refine y_iload_n C0 1 dL_frame_3 rfl rfl ?_
  refine y_iload_n C0 2 dL_frame_4 rfl rfl ?_
  refine y_callVXc (As := [_, _]) (rest := _) (n := 2) C0 hX (mX4_frame l hlf D cy adr M f w) 4 rfl (by decide) ykd_54 gL_frame_X4_frame rfl rfl rfl (by decide +kernel) ⟨by decide, by decide⟩ rfl rfl (Nat.le_of_ble_eq_true rfl) dL_frame_5 ⟨by decide, by decide⟩ (fun h0 => ?_) (fun Ex hE => ?_)
  · refine y_i2l C0 dL_frame_8 ?_
    refine y_lastE C0 hL dL_frame_9 ?_
    refine y_goto C0 17 dL_frame_10 (by decide) ?_
    refine y_iconst (v := 0) C0 dL_frame_17 (by decide) ?_
    refine y_widen (k := 2) (n := 12) (by decide) (by decide) ?_
    exact y_iretW C0 dL_frame_18 (kc_n h0) rfl (fo_n h0)
  · rcases x_frame hE with rfl
    · refine y_catch (hh := [(0, 10, 13, 21)]) C0 hX hC hN [] ⟨0, 10, 13, 21⟩ [] rfl (fun z hz => absurd hz List.not_mem_nil) rfl (by decide) (by decide +kernel) (by decide) (fun q9 => ?_)
      refine y_astore C0 [(4, _), (0, _), (1, _), (2, _), (3, _)] dL_frame_13 (by decide) rfl ?_
      refine y_iconst (v := 1) C0 dL_frame_15 (by decide) ?_
      refine y_widen (k := 2) (n := 12) (by decide) (by decide) ?_
      exact y_iretW C0 dL_frame_16 (kc_1 hE) rfl (fo_s hE)
abbrev rL_buy : Room := { frames := 7, cells := 1, slots := 6, locals := 113 }
set_option maxRecDepth 100000 in
set_option maxHeartbeats 4000000 in
theorem mL_buy (l : Launch) (hlf : l.stackTraces = false) (D : va_G) (cy : Nat → ClassId) (cL : ClassId) (adr : Nat → Nat) (M : yM) (q : Nat) (f9 : Nat → Int64) (w : Int32) (x : Int32)  : Cw l yL_buy wsL_buy rL_buy D cy cL adr q [.ref (adr 54), .int w, .int x, .ref q] M f9 (kc yIOE yIAE yISE (buyO M w x)) (mo (buyO M w x) (wStore (buyA M w x) 0 w x) M) (fo (buyO M w x) f9 (wStoreR (buyA M w x) 0 w x)) 1 6 := by
  refine Cw.mk cL_buy 5 (some .int) RL [(0, 10, 13, 21), (0, 10, 17, 13), (0, 10, 21, 15)] (by decide) rfl rfl (Nat.le_of_ble_eq_true rfl) ?_
  intro K C0 hX hC hN hL
  refine y_eq rfl (show ([(0, .ref (adr 54)), (1, .int w), (2, .int x), (3, .ref q)] : List (Nat × Value)) = lv_args 0 [.ref (adr 54), .int w, .int x, .ref q] from rfl) rfl ?_
  refine y_aload_n C0 3 dL_buy_0 rfl rfl ?_
  refine y_iconst (v := 0) C0 dL_buy_1 (by decide) ?_
  refine y_aload_n C0 0 dL_buy_2 rfl rfl ?_
  refine y_iload_n C0 1 dL_buy_3 rfl rfl ?_
  refine y_iload_n C0 2 dL_buy_4 rfl rfl ?_
  refine y_callVXc (As := [_, _]) (rest := _) (n := 2) C0 hX (mX4_buy l hlf D cy adr M w x) 4 rfl (by decide) ykd_54 gL_buy_X4_buy rfl rfl rfl (by decide +kernel) ⟨by decide, by decide⟩ rfl rfl (Nat.le_of_ble_eq_true rfl) dL_buy_5 ⟨by decide, by decide⟩ (fun h0 => ?_) (fun Ex hE => ?_)
  · refine y_i2l C0 dL_buy_8 ?_
    refine y_lastE C0 hL dL_buy_9 ?_
    refine y_goto C0 25 dL_buy_10 (by decide) ?_
    refine y_iconst (v := 0) C0 dL_buy_25 (by decide) ?_
    refine y_widen (k := 1) (n := 6) (by decide) (by decide) ?_
    exact y_iretW C0 dL_buy_26 (kc_n h0) rfl (fo_n h0)
  · rcases x_buy hE with rfl | rfl | rfl
    · refine y_catch (hh := [(0, 10, 13, 21), (0, 10, 17, 13), (0, 10, 21, 15)]) C0 hX hC hN [] ⟨0, 10, 13, 21⟩ [⟨0, 10, 17, 13⟩, ⟨0, 10, 21, 15⟩] rfl (fun z hz => absurd hz List.not_mem_nil) rfl (by decide) (by decide +kernel) (by decide) (fun q9 => ?_)
      refine y_astore C0 [(4, _), (0, _), (1, _), (2, _), (3, _)] dL_buy_13 (by decide) rfl ?_
      refine y_iconst (v := 1) C0 dL_buy_15 (by decide) ?_
      refine y_widen (k := 1) (n := 6) (by decide) (by decide) ?_
      exact y_iretW C0 dL_buy_16 (kc_1 hE) rfl (fo_s hE)
    · refine y_catch (hh := [(0, 10, 13, 21), (0, 10, 17, 13), (0, 10, 21, 15)]) C0 hX hC hN [⟨0, 10, 13, 21⟩] ⟨0, 10, 17, 13⟩ [⟨0, 10, 21, 15⟩] rfl (fun z hz => by
        simp only [List.mem_cons, List.not_mem_nil, or_false] at hz
        rcases hz with rfl
        · exact ⟨by decide, yIOE, by decide +kernel, by decide +kernel⟩) rfl (by decide) (by decide +kernel) (by decide) (fun q9 => ?_)
      refine y_astore C0 [(4, _), (0, _), (1, _), (2, _), (3, _)] dL_buy_17 (by decide) rfl ?_
      refine y_iconst (v := 2) C0 dL_buy_19 (by decide) ?_
      refine y_widen (k := 1) (n := 6) (by decide) (by decide) ?_
      exact y_iretW C0 dL_buy_20 (kc_2 hE (by decide)) rfl (fo_s hE)
    · refine y_catch (hh := [(0, 10, 13, 21), (0, 10, 17, 13), (0, 10, 21, 15)]) C0 hX hC hN [⟨0, 10, 13, 21⟩, ⟨0, 10, 17, 13⟩] ⟨0, 10, 21, 15⟩ [] rfl (fun z hz => by
        simp only [List.mem_cons, List.not_mem_nil, or_false] at hz
        rcases hz with rfl | rfl
        · exact ⟨by decide, yIOE, by decide +kernel, by decide +kernel⟩
        · exact ⟨by decide, yIAE, by decide +kernel, by decide +kernel⟩) rfl (by decide) (by decide +kernel) (by decide) (fun q9 => ?_)
      refine y_astore C0 [(4, _), (0, _), (1, _), (2, _), (3, _)] dL_buy_21 (by decide) rfl ?_
      refine y_iconst (v := 3) C0 dL_buy_23 (by decide) ?_
      refine y_widen (k := 1) (n := 6) (by decide) (by decide) ?_
      exact y_iretW C0 dL_buy_24 (kc_3 hE (by decide) (by decide)) rfl (fo_s hE)
abbrev rL_count : Room := { frames := 8, cells := 1, slots := 6, locals := 132 }
set_option maxRecDepth 100000 in
set_option maxHeartbeats 4000000 in
theorem mL_count (l : Launch) (hlf : l.stackTraces = false) (D : va_G) (cy : Nat → ClassId) (cL : ClassId) (adr : Nat → Nat) (M : yM) (q : Nat) (f9 : Nat → Int64) (w : Int32)  : Cw l yL_count wsL_count rL_count D cy cL adr q [.ref (adr 54), .int w, .ref q] M f9 (kc yIOE "" "" (okK w 15)) (M) (fo (okK w 15) f9 (wTellA M 0 w)) 1 6 := by
  refine Cw.mk cL_count 4 (some .int) RL [(0, 9, 12, 21)] (by decide) rfl rfl (Nat.le_of_ble_eq_true rfl) ?_
  intro K C0 hX hC hN hL
  refine y_eq rfl (show ([(0, .ref (adr 54)), (1, .int w), (2, .ref q)] : List (Nat × Value)) = lv_args 0 [.ref (adr 54), .int w, .ref q] from rfl) rfl ?_
  refine y_aload_n C0 2 dL_count_0 rfl rfl ?_
  refine y_iconst (v := 0) C0 dL_count_1 (by decide) ?_
  refine y_aload_n C0 0 dL_count_2 rfl rfl ?_
  refine y_iload_n C0 1 dL_count_3 rfl rfl ?_
  refine y_callVXc (As := [_]) (rest := _) (n := 1) C0 hX (mX4_count l hlf D cy adr M w) 4 rfl (by decide) ykd_54 gL_count_X4_count rfl rfl rfl (by decide +kernel) ⟨by decide, by decide⟩ rfl rfl (Nat.le_of_ble_eq_true rfl) dL_count_4 ⟨by decide, by decide⟩ (fun h0 => ?_) (fun Ex hE => ?_)
  · refine y_i2l C0 dL_count_7 ?_
    refine y_lastE C0 hL dL_count_8 ?_
    refine y_goto C0 15 dL_count_9 (by decide) ?_
    refine y_iconst (v := 0) C0 dL_count_15 (by decide) ?_
    refine y_widen (k := 1) (n := 6) (by decide) (by decide) ?_
    exact y_iretW C0 dL_count_16 (kc_n h0) rfl (fo_n h0)
  · rcases x_count hE with rfl
    · refine y_catch (hh := [(0, 9, 12, 21)]) C0 hX hC hN [] ⟨0, 9, 12, 21⟩ [] rfl (fun z hz => absurd hz List.not_mem_nil) rfl (by decide) (by decide +kernel) (by decide) (fun q9 => ?_)
      refine y_astore_n C0 [(3, _), (0, _), (1, _), (2, _)] dL_count_12 rfl (by decide) rfl ?_
      refine y_iconst (v := 1) C0 dL_count_13 (by decide) ?_
      refine y_widen (k := 1) (n := 6) (by decide) (by decide) ?_
      exact y_iretW C0 dL_count_14 (kc_1 hE) rfl (fo_s hE)
abbrev rL_pass : Room := { frames := 8, cells := 1, slots := 6, locals := 169 }
set_option maxRecDepth 100000 in
set_option maxHeartbeats 4000000 in
theorem mL_pass (l : Launch) (hlf : l.stackTraces = false) (D : va_G) (cy : Nat → ClassId) (cL : ClassId) (adr : Nat → Nat) (M : yM) (q : Nat) (f9 : Nat → Int64) (h : Int32) (hsp : wSpOK M 0) : Cw l yL_pass wsL_pass rL_pass D cy cL adr q [.ref (adr 54), .int h, .ref q] M f9 (kc yIAE "" "" (okH h)) (mo (okH h) (wHours M 0 h.toNatClampNeg) M) (fo (okH h) f9 (wHoursR M 0 h.toNatClampNeg)) 1 6 := by
  refine Cw.mk cL_pass 4 (some .int) RL [(0, 9, 12, 13)] (by decide) rfl rfl (Nat.le_of_ble_eq_true rfl) ?_
  intro K C0 hX hC hN hL
  refine y_eq rfl (show ([(0, .ref (adr 54)), (1, .int h), (2, .ref q)] : List (Nat × Value)) = lv_args 0 [.ref (adr 54), .int h, .ref q] from rfl) rfl ?_
  refine y_aload_n C0 2 dL_pass_0 rfl rfl ?_
  refine y_iconst (v := 0) C0 dL_pass_1 (by decide) ?_
  refine y_aload_n C0 0 dL_pass_2 rfl rfl ?_
  refine y_iload_n C0 1 dL_pass_3 rfl rfl ?_
  refine y_callVXc (As := [_]) (rest := _) (n := 1) C0 hX (mX4_pass l hlf D cy adr M h hsp) 4 rfl (by decide) ykd_54 gL_pass_X4_pass rfl rfl rfl (by decide +kernel) ⟨by decide, by decide⟩ rfl rfl (Nat.le_of_ble_eq_true rfl) dL_pass_4 ⟨by decide, by decide⟩ (fun h0 => ?_) (fun Ex hE => ?_)
  · refine y_i2l C0 dL_pass_7 ?_
    refine y_lastE C0 hL dL_pass_8 ?_
    refine y_goto C0 15 dL_pass_9 (by decide) ?_
    refine y_iconst (v := 0) C0 dL_pass_15 (by decide) ?_
    refine y_widen (k := 1) (n := 6) (by decide) (by decide) ?_
    exact y_iretW C0 dL_pass_16 (kc_n h0) rfl (fo_n h0)
  · rcases x_pass hE with rfl
    · refine y_catch (hh := [(0, 9, 12, 13)]) C0 hX hC hN [] ⟨0, 9, 12, 13⟩ [] rfl (fun z hz => absurd hz List.not_mem_nil) rfl (by decide) (by decide +kernel) (by decide) (fun q9 => ?_)
      refine y_astore_n C0 [(3, _), (0, _), (1, _), (2, _)] dL_pass_12 rfl (by decide) rfl ?_
      refine y_iconst (v := 1) C0 dL_pass_13 (by decide) ?_
      refine y_widen (k := 1) (n := 6) (by decide) (by decide) ?_
      exact y_iretW C0 dL_pass_14 (kc_1 hE) rfl (fo_s hE)
abbrev rL_foresee : Room := { frames := 8, cells := 2, slots := 12, locals := 170 }
set_option maxRecDepth 100000 in
set_option maxHeartbeats 4000000 in
theorem mL_foresee (l : Launch) (hlf : l.stackTraces = false) (D : va_G) (cy : Nat → ClassId) (cL : ClassId) (adr : Nat → Nat) (M : yM) (q : Nat) (f9 : Nat → Int64) (h : Int32) (w : Int32) (hsp : wSpOK M 0) : Cw l yL_foresee wsL_foresee rL_foresee D cy cL adr q [.ref (adr 54), .int h, .int w, .ref q] M f9 (kc yIAE yIOE "" (forO h w)) (mo (forO h w) (wHours (wSet M 27 0) 27 h.toNatClampNeg) M) (fo (forO h w) f9 (wTellA (wHours (wSet M 27 0) 27 h.toNatClampNeg) 27 w)) 2 12 := by
  refine Cw.mk cL_foresee 5 (some .int) RL [(0, 10, 13, 13), (0, 10, 17, 21)] (by decide) rfl rfl (Nat.le_of_ble_eq_true rfl) ?_
  intro K C0 hX hC hN hL
  refine y_eq rfl (show ([(0, .ref (adr 54)), (1, .int h), (2, .int w), (3, .ref q)] : List (Nat × Value)) = lv_args 0 [.ref (adr 54), .int h, .int w, .ref q] from rfl) rfl ?_
  refine y_aload_n C0 3 dL_foresee_0 rfl rfl ?_
  refine y_iconst (v := 0) C0 dL_foresee_1 (by decide) ?_
  refine y_aload_n C0 0 dL_foresee_2 rfl rfl ?_
  refine y_iload_n C0 1 dL_foresee_3 rfl rfl ?_
  refine y_iload_n C0 2 dL_foresee_4 rfl rfl ?_
  refine y_callVXc (As := [_, _]) (rest := _) (n := 2) C0 hX (mX4_foresee l hlf D cy adr M h w hsp) 4 rfl (by decide) ykd_54 gL_foresee_X4_foresee rfl rfl rfl (by decide +kernel) ⟨by decide, by decide⟩ rfl rfl (Nat.le_of_ble_eq_true rfl) dL_foresee_5 ⟨by decide, by decide⟩ (fun h0 => ?_) (fun Ex hE => ?_)
  · refine y_i2l C0 dL_foresee_8 ?_
    refine y_lastE C0 hL dL_foresee_9 ?_
    refine y_goto C0 21 dL_foresee_10 (by decide) ?_
    refine y_iconst (v := 0) C0 dL_foresee_21 (by decide) ?_
    refine y_widen (k := 2) (n := 12) (by decide) (by decide) ?_
    exact y_iretW C0 dL_foresee_22 (kc_n h0) rfl (fo_n h0)
  · rcases x_foresee hE with rfl | rfl
    · refine y_catch (hh := [(0, 10, 13, 13), (0, 10, 17, 21)]) C0 hX hC hN [] ⟨0, 10, 13, 13⟩ [⟨0, 10, 17, 21⟩] rfl (fun z hz => absurd hz List.not_mem_nil) rfl (by decide) (by decide +kernel) (by decide) (fun q9 => ?_)
      refine y_astore C0 [(4, _), (0, _), (1, _), (2, _), (3, _)] dL_foresee_13 (by decide) rfl ?_
      refine y_iconst (v := 1) C0 dL_foresee_15 (by decide) ?_
      refine y_widen (k := 2) (n := 12) (by decide) (by decide) ?_
      exact y_iretW C0 dL_foresee_16 (kc_1 hE) rfl (fo_s hE)
    · refine y_catch (hh := [(0, 10, 13, 13), (0, 10, 17, 21)]) C0 hX hC hN [⟨0, 10, 13, 13⟩] ⟨0, 10, 17, 21⟩ [] rfl (fun z hz => by
        simp only [List.mem_cons, List.not_mem_nil, or_false] at hz
        rcases hz with rfl
        · exact ⟨by decide, yIAE, by decide +kernel, by decide +kernel⟩) rfl (by decide) (by decide +kernel) (by decide) (fun q9 => ?_)
      refine y_astore C0 [(4, _), (0, _), (1, _), (2, _), (3, _)] dL_foresee_17 (by decide) rfl ?_
      refine y_iconst (v := 2) C0 dL_foresee_19 (by decide) ?_
      refine y_widen (k := 2) (n := 12) (by decide) (by decide) ?_
      exact y_iretW C0 dL_foresee_20 (kc_2 hE (by decide)) rfl (fo_s hE)
abbrev rL_until : Room := { frames := 8, cells := 1, slots := 6, locals := 148 }
set_option maxRecDepth 100000 in
set_option maxHeartbeats 4000000 in
theorem mL_until (l : Launch) (hlf : l.stackTraces = false) (D : va_G) (cy : Nat → ClassId) (cL : ClassId) (adr : Nat → Nat) (M : yM) (q : Nat) (f9 : Nat → Int64) (x : Int32) (hsp : wSpOK M 0) : Cw l yL_until wsL_until rL_until D cy cL adr q [.ref (adr 54), .int x, .ref q] M f9 (kc yIOE "" "" (okB M x)) (mo (okB M x) (utM M (cN x)) M) (fo (okB M x) f9 (utR M (cN x))) 1 6 := by
  refine Cw.mk cL_until 4 (some .int) RL [(0, 9, 12, 21)] (by decide) rfl rfl (Nat.le_of_ble_eq_true rfl) ?_
  intro K C0 hX hC hN hL
  refine y_eq rfl (show ([(0, .ref (adr 54)), (1, .int x), (2, .ref q)] : List (Nat × Value)) = lv_args 0 [.ref (adr 54), .int x, .ref q] from rfl) rfl ?_
  refine y_aload_n C0 2 dL_until_0 rfl rfl ?_
  refine y_iconst (v := 0) C0 dL_until_1 (by decide) ?_
  refine y_aload_n C0 0 dL_until_2 rfl rfl ?_
  refine y_iload_n C0 1 dL_until_3 rfl rfl ?_
  refine y_callVXc (As := [_]) (rest := _) (n := 1) C0 hX (mX4_until l hlf D cy adr M x hsp) 4 rfl (by decide) ykd_54 gL_until_X4_until rfl rfl rfl (by decide +kernel) ⟨by decide, by decide⟩ rfl rfl (Nat.le_of_ble_eq_true rfl) dL_until_4 ⟨by decide, by decide⟩ (fun h0 => ?_) (fun Ex hE => ?_)
  · refine y_i2l C0 dL_until_7 ?_
    refine y_lastE C0 hL dL_until_8 ?_
    refine y_goto C0 15 dL_until_9 (by decide) ?_
    refine y_iconst (v := 0) C0 dL_until_15 (by decide) ?_
    refine y_widen (k := 1) (n := 6) (by decide) (by decide) ?_
    exact y_iretW C0 dL_until_16 (kc_n h0) rfl (fo_n h0)
  · rcases x_until hE with rfl
    · refine y_catch (hh := [(0, 9, 12, 21)]) C0 hX hC hN [] ⟨0, 9, 12, 21⟩ [] rfl (fun z hz => absurd hz List.not_mem_nil) rfl (by decide) (by decide +kernel) (by decide) (fun q9 => ?_)
      refine y_astore_n C0 [(3, _), (0, _), (1, _), (2, _)] dL_until_12 rfl (by decide) rfl ?_
      refine y_iconst (v := 1) C0 dL_until_13 (by decide) ?_
      refine y_widen (k := 1) (n := 6) (by decide) (by decide) ?_
      exact y_iretW C0 dL_until_14 (kc_1 hE) rfl (fo_s hE)
abbrev rL_advise : Room := { frames := 8, cells := 1, slots := 6, locals := 196 }
set_option maxRecDepth 100000 in
set_option maxHeartbeats 4000000 in
theorem mL_advise (l : Launch) (hlf : l.stackTraces = false) (D : va_G) (cy : Nat → ClassId) (cL : ClassId) (adr : Nat → Nat) (M : yM) (q : Nat) (f9 : Nat → Int64) (x : Int32) (hsp : wSpOK M 0) : Cw l yL_advise wsL_advise rL_advise D cy cL adr q [.ref (adr 54), .int x, .ref q] M f9 (kc yIOE "" "" (okS M x)) (mo (okS M x) (adM M x 3) M) (fo (okS M x) f9 (adB M x 3)) 1 6 := by
  refine Cw.mk cL_advise 4 (some .int) RL [(0, 9, 12, 21)] (by decide) rfl rfl (Nat.le_of_ble_eq_true rfl) ?_
  intro K C0 hX hC hN hL
  refine y_eq rfl (show ([(0, .ref (adr 54)), (1, .int x), (2, .ref q)] : List (Nat × Value)) = lv_args 0 [.ref (adr 54), .int x, .ref q] from rfl) rfl ?_
  refine y_aload_n C0 2 dL_advise_0 rfl rfl ?_
  refine y_iconst (v := 0) C0 dL_advise_1 (by decide) ?_
  refine y_aload_n C0 0 dL_advise_2 rfl rfl ?_
  refine y_iload_n C0 1 dL_advise_3 rfl rfl ?_
  refine y_callVXc (As := [_]) (rest := _) (n := 1) C0 hX (mX4_advise l hlf D cy adr M x hsp) 4 rfl (by decide) ykd_54 gL_advise_X4_advise rfl rfl rfl (by decide +kernel) ⟨by decide, by decide⟩ rfl rfl (Nat.le_of_ble_eq_true rfl) dL_advise_4 ⟨by decide, by decide⟩ (fun h0 => ?_) (fun Ex hE => ?_)
  · refine y_i2l C0 dL_advise_7 ?_
    refine y_lastE C0 hL dL_advise_8 ?_
    refine y_goto C0 15 dL_advise_9 (by decide) ?_
    refine y_iconst (v := 0) C0 dL_advise_15 (by decide) ?_
    refine y_widen (k := 1) (n := 6) (by decide) (by decide) ?_
    exact y_iretW C0 dL_advise_16 (kc_n h0) rfl (fo_n h0)
  · rcases x_advise hE with rfl
    · refine y_catch (hh := [(0, 9, 12, 21)]) C0 hX hC hN [] ⟨0, 9, 12, 21⟩ [] rfl (fun z hz => absurd hz List.not_mem_nil) rfl (by decide) (by decide +kernel) (by decide) (fun q9 => ?_)
      refine y_astore_n C0 [(3, _), (0, _), (1, _), (2, _)] dL_advise_12 rfl (by decide) rfl ?_
      refine y_iconst (v := 1) C0 dL_advise_13 (by decide) ?_
      refine y_widen (k := 1) (n := 6) (by decide) (by decide) ?_
      exact y_iretW C0 dL_advise_14 (kc_1 hE) rfl (fo_s hE)
end YWs
