section YLaw
variable {K : yK} {l : Launch} {D : va_G} {cy : Nat → ClassId} {adr : Nat → Nat} {Q : State → Prop} {ret : Option FieldType} {b L B : Nat} {xs : Nat → Int32}
set_option maxRecDepth 100000 in
set_option maxHeartbeats 4000000 in
theorem law_counts (hlf : l.stackTraces = false) (C0 : Cx K cL_law RL wsL_law 20 ret D cy) (hX : CX K) {c s t n cm q : Nat} (hb7 : B ≤ 7) (hc : c ≤ 20000) (hs : s ≤ 100000) (ht : t ≤ 20) (hn : n ≤ 1000) (hcm : cm ≤ 10000) {M : yM} (h : PI M B 3 (300 + n) cm)
    (next : Y K l room_1 D cy adr 20 (c + 7) (s + 42) Q M [(q, .inl (cy 0, 7, .inl (fun j => nI (stC M j (B)))))] [(17, .int (nI 7)), (16, .int (nI 0)), (15, .ref q), (4, .int (nI t)), (3, .int (nI n)), (2, .ref (adr 54)), (1, .int (nI B)), (0, .ref b)] 672 []) : ∀ (m k : Nat), 7 - k = m → k ≤ 7 → Y K l room_1 D cy adr 20 (c + k) (s + 6 * k) Q M [(q, .inl (cy 0, 7, .inl (fun j => nI (stC M j (B)))))] [(17, .int (nI (k))), (16, .int (nI 0)), (15, .ref q), (4, .int (nI t)), (3, .int (nI n)), (2, .ref (adr 54)), (1, .int (nI B)), (0, .ref b)] 641 [] := by
  intro m
  induction m using Nat.strongRecOn with
  | _ m ih =>
    intro k hm hk7
    refine y_iload C0 0 dL_law_641 rfl ?_
    refine y_bipush (v := nI 7) C0 dL_law_643 (by decide) ?_
    refine y_icmp_ge C0 672 dL_law_645 (by decide) (fun c9 => ?_) (fun c9 => ?_)
    · have he := ct_end (N := 7) (by decide) hk7 c9
      subst he
      exact next
    · have hk := ct_lt (N := 7) (by decide) hk7 c9
      refine y_aload_n C0 5 dL_law_648 rfl rfl ?_
      refine y_iconst (v := nI 2) C0 dL_law_649 (by decide) ?_
      refine y_iload C0 0 dL_law_650 rfl ?_
      refine y_iadd C0 dL_law_652 ?_
      refine y_top (nI_add 2 k) ?_
      refine y_callK (As := [_]) (rest := _) (n := 1) C0 hX (mX4_count l hlf D cy adr M (nI (2 + k))) (ok_count (k := 2 + k) (by omega)) 4 rfl (by decide) ykd_54 gL_law_X4_count rfl rfl rfl (by decide +kernel) ⟨by decide, by decide⟩ rfl rfl (Nat.le_of_ble_eq_true rfl) dL_law_653 ⟨(by show _ ≤ 600130; omega), (by show _ ≤ 7301080; omega)⟩ ?_
      refine y_top ((cTk hk).trans (stC_e h.I hk)) ?_
      refine y_aload C0 2 dL_law_656 rfl ?_
      refine y_iload C0 0 dL_law_658 rfl ?_
      refine y_ialdE C0 (k) rfl (by omega) dL_law_660 ?_
      refine y_icmp_eq C0 666 dL_law_661 (by decide) (fun _ => ?_) (fun c => absurd (rfl) c)
      refine y_iinc (v := nI (k + 1)) C0 0 [(17, _), (16, _), (15, _), (4, _), (3, _), (2, _), (1, _), (0, _)] dL_law_666 rfl (yinc_ok rfl rfl) (by decide) rfl ?_
      refine y_goto C0 641 dL_law_669 (by decide) ?_
      refine y_widen (k := c + (k + 1)) (n := s + 6 * (k + 1)) (by omega) (by omega) ?_
      exact ih (7 - (k + 1)) (by omega) (k + 1) rfl hk
set_option maxRecDepth 100000 in
set_option maxHeartbeats 4000000 in
theorem law_frames (hlf : l.stackTraces = false) (C0 : Cx K cL_law RL wsL_law 20 ret D cy) (hX : CX K) {c s t n cm : Nat} (hb7 : B ≤ 7) (hc : c ≤ 20000) (hs : s ≤ 100000) (ht : t ≤ 20) (hn : n ≤ 1000) (hcm : cm ≤ 10000) {M : yM} (h : PI M B 3 (300 + n) cm) {w : Nat → Nat} (hw : ∀ f, f < 3 → M (0 + 24 + f) 3 = nI (w f))
    (next : Y K l room_1 D cy adr 20 (c + 30) (s + 180) Q M [] [(17, .int (nI 3)), (16, .int (nI (wS w 3))), (4, .int (nI t)), (3, .int (nI n)), (2, .ref (adr 54)), (1, .int (nI B)), (0, .ref b)] 745 []) : ∀ (m f : Nat), 3 - f = m → f ≤ 3 → Y K l room_1 D cy adr 20 (c + 10 * f) (s + 60 * f) Q M [] [(17, .int (nI f)), (16, .int (nI (wS w f))), (4, .int (nI t)), (3, .int (nI n)), (2, .ref (adr 54)), (1, .int (nI B)), (0, .ref b)] 675 [] := by
  intro m
  induction m using Nat.strongRecOn with
  | _ m ih =>
    intro f hm hf3
    refine y_iload C0 0 dL_law_675 rfl ?_
    refine y_iconst (v := nI 3) C0 dL_law_677 (by decide) ?_
    refine y_icmp_ge C0 745 dL_law_678 (by decide) (fun c9 => ?_) (fun c9 => ?_)
    · have he := ct_end (N := 3) (by decide) hf3 c9
      subst he
      exact next
    · have hf := ct_lt (N := 3) (by decide) hf3 c9
      refine y_iload C0 1 dL_law_681 rfl ?_
      refine y_aload_n C0 4 dL_law_683 rfl rfl ?_
      refine y_iload C0 0 dL_law_684 rfl ?_
      refine y_iconst (v := 5) C0 dL_law_686 (by decide) ?_
      refine y_callK (As := [_, _]) (rest := _) (n := 2) C0 hX (mX4_frame l hlf D cy adr M (nI f) 5) (ok_frame hf (k := 5) (by decide)) 4 rfl (by decide) ykd_54 gL_law_X4_frame rfl rfl rfl (by decide +kernel) ⟨by decide, by decide⟩ rfl rfl (Nat.le_of_ble_eq_true rfl) dL_law_687 ⟨(by show _ ≤ 600130; omega), (by show _ ≤ 7301080; omega)⟩ ?_
      refine y_top (fl hf (fT5.trans (hw f hf))) ?_
      refine y_iadd C0 dL_law_690 ?_
      refine y_top (show _ = nI (wS w (f + 1)) from nI_add _ _) ?_
      refine y_istore C0 [(16, _), (17, _), (4, _), (3, _), (2, _), (1, _), (0, _)] dL_law_691 (by decide) rfl ?_
      refine y_aload_n C0 4 dL_law_693 rfl rfl ?_
      refine y_iload C0 1 dL_law_694 rfl ?_
      refine y_iconst (v := 2) C0 dL_law_696 (by decide) ?_
      refine y_callK (As := [_, _]) (rest := _) (n := 2) C0 hX (mX4_frame l hlf D cy adr M (nI f) 2) (ok_frame hf (k := 2) (by decide)) 4 rfl (by decide) ykd_54 gL_law_X4_frame rfl rfl rfl (by decide +kernel) ⟨by decide, by decide⟩ rfl rfl (Nat.le_of_ble_eq_true rfl) dL_law_697 ⟨(by show _ ≤ 600130; omega), (by show _ ≤ 7301080; omega)⟩ ?_
      refine y_top (fl hf (fT2 h.I hf)) ?_
      refine y_iconst (v := 2) C0 dL_law_700 (by decide) ?_
      refine y_icmp_gt C0 737 dL_law_701 (by decide) (fun c => absurd c (nI_nlt (a := 2) (h.2.1 f hf) (by decide))) (fun _ => ?_)
      have hdec : 3 - (f + 1) < m := by omega
      rcases fT4 h.I hf with ⟨a1, a2⟩ | ⟨a1, a2⟩
      · refine y_aload_n C0 4 dL_law_704 rfl rfl ?_
        refine y_iload C0 1 dL_law_705 rfl ?_
        refine y_iconst (v := 1) C0 dL_law_707 (by decide) ?_
        refine y_callK (As := [_, _]) (rest := _) (n := 2) C0 hX (mX4_frame l hlf D cy adr M (nI f) 1) (ok_frame hf (k := 1) (by decide)) 4 rfl (by decide) ykd_54 gL_law_X4_frame rfl rfl rfl (by decide +kernel) ⟨by decide, by decide⟩ rfl rfl (Nat.le_of_ble_eq_true rfl) dL_law_708 ⟨(by show _ ≤ 600130; omega), (by show _ ≤ 7301080; omega)⟩ ?_
        refine y_top (fl hf (fT1)) ?_
        refine y_if_ge C0 718 dL_law_711 (by decide) (fun c => absurd c (Int32.not_le.mpr a1)) (fun _ => ?_)
        refine y_iconst (v := 1) C0 dL_law_714 (by decide) ?_
        refine y_goto C0 719 dL_law_715 (by decide) ?_
        refine y_aload_n C0 4 dL_law_719 rfl rfl ?_
        refine y_iload C0 1 dL_law_720 rfl ?_
        refine y_iconst (v := 4) C0 dL_law_722 (by decide) ?_
        refine y_callK (As := [_, _]) (rest := _) (n := 2) C0 hX (mX4_frame l hlf D cy adr M (nI f) 4) (ok_frame hf (k := 4) (by decide)) 4 rfl (by decide) ykd_54 gL_law_X4_frame rfl rfl rfl (by decide +kernel) ⟨by decide, by decide⟩ rfl rfl (Nat.le_of_ble_eq_true rfl) dL_law_723 ⟨(by show _ ≤ 600130; omega), (by show _ ≤ 7301080; omega)⟩ ?_
        refine y_top (fl hf (a2)) ?_
        refine y_if_ne C0 733 dL_law_726 (by decide) (fun c => absurd c ((fun z => z rfl))) (fun _ => ?_)
        refine y_iconst (v := 1) C0 dL_law_729 (by decide) ?_
        refine y_goto C0 734 dL_law_730 (by decide) ?_
        refine y_icmp_eq C0 739 dL_law_734 (by decide) (fun _ => ?_) (fun c => absurd (rfl) c)
        refine y_iinc (v := nI (f + 1)) C0 1 [(17, _), (16, _), (4, _), (3, _), (2, _), (1, _), (0, _)] dL_law_739 rfl (yinc_ok rfl rfl) (by decide) rfl ?_
        refine y_goto C0 675 dL_law_742 (by decide) ?_
        refine y_sub [0, 1, 2, 3, 4, 5, 6] [(17, _), (16, _), (4, _), (3, _), (2, _), (1, _), (0, _)] rfl ?_
        refine y_widen (k := c + 10 * (f + 1)) (n := s + 60 * (f + 1)) (by omega) (by omega) ?_
        exact ih (3 - (f + 1)) hdec (f + 1) rfl hf
      · refine y_aload_n C0 4 dL_law_704 rfl rfl ?_
        refine y_iload C0 1 dL_law_705 rfl ?_
        refine y_iconst (v := 1) C0 dL_law_707 (by decide) ?_
        refine y_callK (As := [_, _]) (rest := _) (n := 2) C0 hX (mX4_frame l hlf D cy adr M (nI f) 1) (ok_frame hf (k := 1) (by decide)) 4 rfl (by decide) ykd_54 gL_law_X4_frame rfl rfl rfl (by decide +kernel) ⟨by decide, by decide⟩ rfl rfl (Nat.le_of_ble_eq_true rfl) dL_law_708 ⟨(by show _ ≤ 600130; omega), (by show _ ≤ 7301080; omega)⟩ ?_
        refine y_top (fl hf (fT1)) ?_
        refine y_if_ge C0 718 dL_law_711 (by decide) (fun _ => ?_) (fun c => absurd (Int32.not_lt.mp a1) c)
        refine y_iconst (v := 0) C0 dL_law_718 (by decide) ?_
        refine y_aload_n C0 4 dL_law_719 rfl rfl ?_
        refine y_iload C0 1 dL_law_720 rfl ?_
        refine y_iconst (v := 4) C0 dL_law_722 (by decide) ?_
        refine y_callK (As := [_, _]) (rest := _) (n := 2) C0 hX (mX4_frame l hlf D cy adr M (nI f) 4) (ok_frame hf (k := 4) (by decide)) 4 rfl (by decide) ykd_54 gL_law_X4_frame rfl rfl rfl (by decide +kernel) ⟨by decide, by decide⟩ rfl rfl (Nat.le_of_ble_eq_true rfl) dL_law_723 ⟨(by show _ ≤ 600130; omega), (by show _ ≤ 7301080; omega)⟩ ?_
        refine y_top (fl hf (rfl)) ?_
        refine y_if_ne C0 733 dL_law_726 (by decide) (fun _ => ?_) (fun c => absurd c (a2))
        refine y_iconst (v := 0) C0 dL_law_733 (by decide) ?_
        refine y_icmp_eq C0 739 dL_law_734 (by decide) (fun _ => ?_) (fun c => absurd (rfl) c)
        refine y_iinc (v := nI (f + 1)) C0 1 [(17, _), (16, _), (4, _), (3, _), (2, _), (1, _), (0, _)] dL_law_739 rfl (yinc_ok rfl rfl) (by decide) rfl ?_
        refine y_goto C0 675 dL_law_742 (by decide) ?_
        refine y_sub [0, 1, 2, 3, 4, 5, 6] [(17, _), (16, _), (4, _), (3, _), (2, _), (1, _), (0, _)] rfl ?_
        refine y_widen (k := c + 10 * (f + 1)) (n := s + 60 * (f + 1)) (by omega) (by omega) ?_
        exact ih (3 - (f + 1)) hdec (f + 1) rfl hf
end YLaw
