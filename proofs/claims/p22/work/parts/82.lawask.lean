section YLaw
variable {K : yK} {l : Launch} {D : va_G} {cy : Nat → ClassId} {adr : Nat → Nat} {Q : State → Prop} {ret : Option FieldType} {b L B : Nat} {xs : Nat → Int32}
set_option maxRecDepth 100000 in
set_option maxHeartbeats 4000000 in
theorem law_ask (hlf : l.stackTraces = false) (C0 : Cx K cL_law RL wsL_law 20 ret D cy) (hX : CX K) (hB : CB K b L xs) (hL : L ≤ 2048) (hb2 : 2 ≤ B) {c s t n cm : Nat} (hb7 : B ≤ 7) (hc : c ≤ 20000) (hs : s ≤ 100000) (ht : t ≤ 20) (hn : n ≤ 1000) (hcm : cm ≤ 10000) {M : yM} (h : PI M B 3 (300 + n) cm)
    (next : ∀ (M' : yM) (k x : Nat) (v u w best seen : Int32) (dd : Int64), k < B → x < 3 → PI M' B 3 (300 + n) cm → (best = -1 ∨ ∃ f, f < 3 ∧ best = nI f ∧ sOth M' (nI f) x 5 ≤ 1) → wHours M' 0 3 0 10 = seen → Y K l room_1 D cy adr 20 (c + 10) (s + 60) Q M' [] [(13, .int w), (12, .int best), (11, .int u), (10, .int seen), (8, .long dd), (7, .int (nI x)), (6, .int (nI k)), (5, .int v), (4, .int (nI t)), (3, .int (nI n)), (2, .ref (adr 54)), (1, .int (nI B)), (0, .ref b)] 167 []) : Y K l room_1 D cy adr 20 (c) (s) Q M [] [(4, .int (nI t)), (3, .int (nI n)), (2, .ref (adr 54)), (1, .int (nI B)), (0, .ref b)] 32 [] := by
  have hne : ¬ nI B = 0 := nI_ne0 (by omega) (by omega)
  obtain ⟨v, ev⟩ : ∃ z, z = celV xs L (10 + t) >>> ((2 : Int32) &&& 31) := ⟨_, rfl⟩
  obtain ⟨k, hk, ek⟩ := bel_n v (k := B) (by omega) (by omega)
  obtain ⟨x, hx, ex⟩ := bel_n (v >>> ((3 : Int32) &&& 31)) (k := 3) (by decide) (by decide)
  obtain ⟨M1, seen, m1, v1, k1, h1, f1⟩ := la_fore h
  obtain ⟨M2, m2, v2, k2, h2⟩ := la_until h1 hk
  obtain ⟨M3, best, m3, v3, hbest, k3, h3⟩ := la_adv h2 hx
  obtain ⟨M4, w, m4, v4, hw, k4, h4⟩ := la_next h3
  obtain ⟨u1, u2, u3⟩ := ut_n (M := M1) k
  have kk := (k1.tr k2).tr (k3.tr k4)
  have e41 : M4 (0 + 4 + k) = M1 (0 + 4 + k) := (k2.tr (k3.tr k4)) _ (by omega)
  have hbest4 : best = -1 ∨ ∃ f, f < 3 ∧ best = nI f ∧ sOth M4 (nI f) x 5 ≤ 1 := by
    rcases hbest with q | ⟨f, hf, q, z⟩
    · exact Or.inl q
    · refine Or.inr ⟨f, hf, q, ?_⟩
      rw [sOth_cg (M := M2) (fun i hi => by rw [(k3.tr k4) _ (by omega)]) 5 (Nat.le_refl _)]
      exact z
  obtain ⟨hb1, hb3⟩ := best_n hbest
  refine y_aload_n C0 4 dL_law_32 rfl rfl ?_
  refine y_bipush (v := nI 10) C0 dL_law_33 (by decide) ?_
  refine y_iload C0 0 dL_law_35 rfl ?_
  refine y_iadd C0 dL_law_37 ?_
  refine y_top (nI_add 10 t) ?_
  refine y_callH (As := [_, _]) (rest := _) (n := 2) C0 hB (mL_cell l D cy b L xs (10 + t) (by omega) hL) gL_law_L_cell rfl rfl rfl (by decide +kernel) ⟨by decide, by decide⟩ rfl rfl (Nat.le_of_ble_eq_true rfl) dL_law_38 ⟨(by show _ ≤ 600130; omega), (by show _ ≤ 7301080; omega)⟩ ?_
  refine y_iconst (v := 2) C0 dL_law_41 (by decide) ?_
  refine y_ishr C0 dL_law_42 ?_
  refine y_top (ev.symm) ?_
  refine y_istore C0 [(5, _), (4, _), (3, _), (2, _), (1, _), (0, _)] dL_law_43 (by decide) rfl ?_
  refine y_iload C0 0 dL_law_45 rfl ?_
  refine y_iload_n C0 4 dL_law_47 rfl rfl ?_
  refine y_callH (As := [_, _]) (rest := _) (n := 2) C0 hB (mL_below l D cy b L xs _ _ hne) gL_law_L_below rfl rfl rfl (by decide +kernel) ⟨by decide, by decide⟩ rfl rfl (Nat.le_of_ble_eq_true rfl) dL_law_48 ⟨(by show _ ≤ 600130; omega), (by show _ ≤ 7301080; omega)⟩ ?_
  refine y_top (ek) ?_
  refine y_istore C0 [(6, _), (5, _), (4, _), (3, _), (2, _), (1, _), (0, _)] dL_law_51 (by decide) rfl ?_
  refine y_iload C0 1 dL_law_53 rfl ?_
  refine y_iconst (v := 3) C0 dL_law_55 (by decide) ?_
  refine y_ishr C0 dL_law_56 ?_
  refine y_iconst (v := 3) C0 dL_law_57 (by decide) ?_
  refine y_callH (As := [_, _]) (rest := _) (n := 2) C0 hB (mL_below l D cy b L xs _ _ (by decide)) gL_law_L_below rfl rfl rfl (by decide +kernel) ⟨by decide, by decide⟩ rfl rfl (Nat.le_of_ble_eq_true rfl) dL_law_58 ⟨(by show _ ≤ 600130; omega), (by show _ ≤ 7301080; omega)⟩ ?_
  refine y_top (ex) ?_
  refine y_istore C0 [(7, _), (6, _), (5, _), (4, _), (3, _), (2, _), (1, _), (0, _)] dL_law_61 (by decide) rfl ?_
  refine y_aload_n C0 5 dL_law_63 rfl rfl ?_
  refine y_callV (As := []) (rest := _) (n := 0) C0 (mX4_digest l D cy adr M B 3 (by omega) (by decide) h.I.o3 h.I.o4) 4 rfl (by decide) ykd_54 gL_law_X4_digest rfl rfl rfl (by decide +kernel) ⟨by decide, by decide⟩ rfl rfl (Nat.le_of_ble_eq_true rfl) dL_law_64 ⟨(by show _ ≤ 600130; omega), (by show _ ≤ 7301080; omega)⟩ ?_
  refine y_lstore C0 [(8, _), (7, _), (6, _), (5, _), (4, _), (3, _), (2, _), (1, _), (0, _)] dL_law_67 (by decide) rfl ?_
  refine y_aload_n C0 6 dL_law_69 rfl rfl ?_
  refine y_iconst (v := 3) C0 dL_law_70 (by decide) ?_
  refine y_bipush (v := 13) C0 dL_law_71 (by decide) ?_
  refine y_callK (As := [_, _]) (rest := _) (n := 2) C0 hX (mX4_foresee l hlf D cy adr M 3 13 h.I.sp) (show forO 3 13 = none by decide) 4 rfl (by decide) ykd_54 gL_law_X4_foresee rfl rfl rfl (by decide +kernel) ⟨by decide, by decide⟩ rfl rfl (Nat.le_of_ble_eq_true rfl) dL_law_73 ⟨(by show _ ≤ 600130; omega), (by show _ ≤ 7301080; omega)⟩ ?_
  refine y_mem (m1) ?_
  refine y_top (v1) ?_
  refine y_istore C0 [(10, _), (8, _), (7, _), (6, _), (5, _), (4, _), (3, _), (2, _), (1, _), (0, _)] dL_law_76 (by decide) rfl ?_
  refine y_aload_n C0 7 dL_law_78 rfl rfl ?_
  refine y_iload C0 3 dL_law_79 rfl ?_
  refine y_callK (As := [_]) (rest := _) (n := 1) C0 hX (mX4_until l hlf D cy adr M1 (nI k) h1.I.sp) (okB_i h1.I hk) 4 rfl (by decide) ykd_54 gL_law_X4_until rfl rfl rfl (by decide +kernel) ⟨by decide, by decide⟩ rfl rfl (Nat.le_of_ble_eq_true rfl) dL_law_81 ⟨(by show _ ≤ 600130; omega), (by show _ ≤ 7301080; omega)⟩ ?_
  refine y_mem (m2) ?_
  refine y_top (v2) ?_
  refine y_istore C0 [(11, _), (10, _), (8, _), (7, _), (6, _), (5, _), (4, _), (3, _), (2, _), (1, _), (0, _)] dL_law_84 (by decide) rfl ?_
  refine y_aload_n C0 8 dL_law_86 rfl rfl ?_
  refine y_iload C0 3 dL_law_87 rfl ?_
  refine y_callK (As := [_]) (rest := _) (n := 1) C0 hX (mX4_advise l hlf D cy adr M2 (nI x) h2.I.sp) (okS_i h2.I hx) 4 rfl (by decide) ykd_54 gL_law_X4_advise rfl rfl rfl (by decide +kernel) ⟨by decide, by decide⟩ rfl rfl (Nat.le_of_ble_eq_true rfl) dL_law_89 ⟨(by show _ ≤ 600130; omega), (by show _ ≤ 7301080; omega)⟩ ?_
  refine y_mem (m3) ?_
  refine y_top (v3) ?_
  refine y_istore C0 [(12, _), (11, _), (10, _), (8, _), (7, _), (6, _), (5, _), (4, _), (3, _), (2, _), (1, _), (0, _)] dL_law_92 (by decide) rfl ?_
  refine y_aload_n C0 9 dL_law_94 rfl rfl ?_
  refine y_callV (As := []) (rest := _) (n := 0) C0 (mX4_next l D cy adr M3 h3.I.sp) 4 rfl (by decide) ykd_54 gL_law_X4_next rfl rfl rfl (by decide +kernel) ⟨by decide, by decide⟩ rfl rfl (Nat.le_of_ble_eq_true rfl) dL_law_95 ⟨(by show _ ≤ 600130; omega), (by show _ ≤ 7301080; omega)⟩ ?_
  refine y_mem (m4) ?_
  refine y_top (v4) ?_
  refine y_istore C0 [(13, _), (12, _), (11, _), (10, _), (8, _), (7, _), (6, _), (5, _), (4, _), (3, _), (2, _), (1, _), (0, _)] dL_law_98 (by decide) rfl ?_
  refine y_aload_n C0 10 dL_law_100 rfl rfl ?_
  refine y_callV (As := []) (rest := _) (n := 0) C0 (mX4_digest l D cy adr M4 B 3 (by omega) (by decide) h4.I.o3 h4.I.o4) 4 rfl (by decide) ykd_54 gL_law_X4_digest rfl rfl rfl (by decide +kernel) ⟨by decide, by decide⟩ rfl rfl (Nat.le_of_ble_eq_true rfl) dL_law_101 ⟨(by show _ ≤ 600130; omega), (by show _ ≤ 7301080; omega)⟩ ?_
  refine y_lload C0 4 dL_law_104 rfl ?_
  refine y_lcmpE C0 (dig_n h h4 kk) dL_law_106 ?_
  refine y_if_ne C0 165 dL_law_107 (by decide) (fun c => absurd c ((fun z => z rfl))) (fun _ => ?_)
  refine y_iload C0 1 dL_law_110 rfl ?_
  refine y_iconst (v := (-1)) C0 dL_law_112 (by decide) ?_
  refine y_icmp_lt C0 165 dL_law_113 (by decide) (fun c => absurd c (hb1)) (fun _ => ?_)
  refine y_iload C0 1 dL_law_116 rfl ?_
  refine y_iconst (v := 2) C0 dL_law_118 (by decide) ?_
  refine y_icmp_gt C0 165 dL_law_119 (by decide) (fun c => absurd c (hb3)) (fun _ => ?_)
  refine y_iload C0 2 dL_law_122 rfl ?_
  refine y_sipush (v := 250) C0 dL_law_124 (by decide) ?_
  refine y_icmp_gt C0 165 dL_law_127 (by decide) (fun c => absurd c (u1)) (fun _ => ?_)
  by_cases h5 : M4 (0 + 4 + k) 4 < 5
  · have u9 := u2 (by rw [← e41]; exact h5)
    refine y_iload C0 2 dL_law_130 rfl ?_
    refine y_if_ne C0 139 dL_law_132 (by decide) (fun _ => ?_) (fun c => absurd c (u9))
    refine y_iconst (v := 0) C0 dL_law_139 (by decide) ?_
    refine y_aload_n C0 10 dL_law_140 rfl rfl ?_
    refine y_iload C0 6 dL_law_141 rfl ?_
    refine y_iconst (v := 3) C0 dL_law_143 (by decide) ?_
    refine y_callK (As := [_, _]) (rest := _) (n := 2) C0 hX (mX4_told l hlf D cy adr M4 (nI k) 3) (ok_told h4.I hk (k := 3) (by decide)) 4 rfl (by decide) ykd_54 gL_law_X4_told rfl rfl rfl (by decide +kernel) ⟨by decide, by decide⟩ rfl rfl (Nat.le_of_ble_eq_true rfl) dL_law_144 ⟨(by show _ ≤ 600130; omega), (by show _ ≤ 7301080; omega)⟩ ?_
    refine y_top (tl (by omega) (bT3)) ?_
    refine y_iconst (v := 5) C0 dL_law_147 (by decide) ?_
    refine y_icmp_lt C0 155 dL_law_148 (by decide) (fun _ => ?_) (fun c => absurd (h5) c)
    refine y_iconst (v := 0) C0 dL_law_155 (by decide) ?_
    refine y_icmp_ne C0 165 dL_law_156 (by decide) (fun c => absurd c ((fun z => z rfl))) (fun _ => ?_)
    refine y_iload C0 0 dL_law_159 rfl ?_
    refine y_iload_n C0 11 dL_law_161 rfl rfl ?_
    refine y_icmp_lt C0 167 dL_law_162 (by decide) (fun _ => ?_) (fun c => absurd (hw) c)
    refine y_widen (k := c + 10) (n := s + 60) (by omega) (by omega) ?_
    exact next M4 k x v _ w best seen _ hk hx h4 hbest4 (f1 M4 kk h4)
  · have u9 := u3 (by rw [← e41]; exact h5)
    refine y_iload C0 2 dL_law_130 rfl ?_
    refine y_if_ne C0 139 dL_law_132 (by decide) (fun c => absurd c ((fun z => z u9))) (fun _ => ?_)
    refine y_iconst (v := 1) C0 dL_law_135 (by decide) ?_
    refine y_goto C0 140 dL_law_136 (by decide) ?_
    refine y_aload_n C0 10 dL_law_140 rfl rfl ?_
    refine y_iload C0 6 dL_law_141 rfl ?_
    refine y_iconst (v := 3) C0 dL_law_143 (by decide) ?_
    refine y_callK (As := [_, _]) (rest := _) (n := 2) C0 hX (mX4_told l hlf D cy adr M4 (nI k) 3) (ok_told h4.I hk (k := 3) (by decide)) 4 rfl (by decide) ykd_54 gL_law_X4_told rfl rfl rfl (by decide +kernel) ⟨by decide, by decide⟩ rfl rfl (Nat.le_of_ble_eq_true rfl) dL_law_144 ⟨(by show _ ≤ 600130; omega), (by show _ ≤ 7301080; omega)⟩ ?_
    refine y_top (tl (by omega) (bT3)) ?_
    refine y_iconst (v := 5) C0 dL_law_147 (by decide) ?_
    refine y_icmp_lt C0 155 dL_law_148 (by decide) (fun c => absurd c (h5)) (fun _ => ?_)
    refine y_iconst (v := 1) C0 dL_law_151 (by decide) ?_
    refine y_goto C0 156 dL_law_152 (by decide) ?_
    refine y_icmp_ne C0 165 dL_law_156 (by decide) (fun c => absurd c ((fun z => z rfl))) (fun _ => ?_)
    refine y_iload C0 0 dL_law_159 rfl ?_
    refine y_iload_n C0 11 dL_law_161 rfl rfl ?_
    refine y_icmp_lt C0 167 dL_law_162 (by decide) (fun _ => ?_) (fun c => absurd (hw) c)
    refine y_widen (k := c + 10) (n := s + 60) (by omega) (by omega) ?_
    exact next M4 k x v _ w best seen _ hk hx h4 hbest4 (f1 M4 kk h4)
end YLaw
