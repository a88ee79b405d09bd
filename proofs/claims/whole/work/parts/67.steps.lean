section YSt
/-- between two calls: what the law sees -/
def Step (N : yM) (o : Option String) (k v b : Int32) : Prop := (∃ B S, LInv N B S) ∧ N 55 0 = k ∧ (k = 0 → ∀ f, fo o f v 0 = b.toInt64)
theorem tn_55 {M : yM} {n : Int32} {R : Rw} : va_up (TN M n) 56 R 55 0 = n := by
  rw [up_n (by decide)]
  unfold TN
  exact yst_same
theorem LInv.of {A N : yM} {B S : Nat} (hI : Inv A 0 B S) (hL : LNum A) (e : ∀ j, j < 54 → N j = A j) (h6 : N 56 = enc A 0 B S) : LInv N B S := by
  refine ⟨hI.cg (fun j _ h => e j (by omega)), ?_, hL.cg (fun j _ h => e j h)⟩
  rw [h6, enc_cg hI.hB hI.hS (M := A) (fun j _ h => e j (by omega))]
theorem tnup_lt {A : yM} {n : Int32} {R : Rw} {j : Nat} (h : j < 54) : va_up (TN A n) 56 R j = A j := by
  rw [up_n (by omega)]
  unfold TN
  exact yst_row (by omega)
theorem LInv.tn {A : yM} {B S : Nat} {n : Int32} {R : Rw} (hI : Inv A 0 B S) (hL : LNum A) (h6 : R = enc A 0 B S) : LInv (va_up (TN A n) 56 R) B S := LInv.of hI hL (fun j h => tnup_lt h) (by rw [up_s]; exact h6)
theorem step_err {M A X : yM} {B S : Nat} {o : Option String} {E a b d : String} {c n v x : Int32} (h : LInv M B S) (ho : o = some E) (hc : c = n) (hn : ¬ n = 0) (hk : n = kc a b d o) : Step (mo2 c X (va_up (TN (mo o A M) c) 56 (mo o A M 56))) o (kc a b d o) v (mr c x) := by
  have e1 : mo o A M = M := by rw [ho]; rfl
  have e2 : mo2 c X (va_up (TN M c) 56 (M 56)) = va_up (TN M c) 56 (M 56) := by unfold mo2; rw [if_neg (hc ▸ hn)]
  rw [e1, e2]
  refine ⟨⟨B, S, LInv.tn h.1 h.2.2 h.2.1⟩, ?_, fun q => absurd (hk.trans q) hn⟩
  rw [tn_55, hc]; exact hk
theorem step_errM {M X : yM} {B S : Nat} {o : Option String} {E a b d : String} {c n v x : Int32} (h : LInv M B S) (ho : o = some E) (hc : c = n) (hn : ¬ n = 0) (hk : n = kc a b d o) : Step (mo2 c X (va_up (TN M c) 56 (M 56))) o (kc a b d o) v (mr c x) := by
  have h9 := step_err (A := M) (X := X) (v := v) (x := x) h ho hc hn hk
  rw [show mo o M M = M by rw [ho]; rfl] at h9
  exact h9
theorem step_ok {N Z : yM} {B S : Nat} {o : Option String} {a b d : String} {c v x : Int32} (ho : o = none) (hc : c = 0) (hL : LInv N B S) (h55 : N 55 0 = 0) (hv : v = x) : Step (mo2 c N Z) o (kc a b d o) v (mr c x) := by
  have e2 : mo2 c N Z = N := by unfold mo2; rw [if_pos hc]
  rw [e2, ho, mr, if_pos hc, hv]
  exact ⟨⟨B, S, hL⟩, h55, fun _ f => rfl⟩
theorem mo_none {o : Option String} {A M : yM} (h : o = none) : mo o A M = A := by rw [h]; rfl
theorem mo_some {o : Option String} {A M : yM} {E : String} (h : o = some E) : mo o A M = M := by rw [h]; rfl
/-! which throw -/
theorem i32_of {v : Int32} {n : Nat} (hn : n < 1000) (h1 : ¬ v < 1) (h2 : v ≤ nI n) : ∃ k, 1 ≤ k ∧ k ≤ n ∧ v = nI k := by
  have h0 : ¬ v < 0 := fun q => h1 (Int32.lt_trans q (by decide))
  obtain ⟨k, hk, rfl⟩ := nI_of h0
  refine ⟨k, ?_, (nI_leI hk (by omega)).mp h2, rfl⟩
  rcases Nat.eq_zero_or_pos k with q | q
  · subst q; exact absurd (by decide) h1
  · exact q
theorem i32_of0 {v : Int32} {n : Nat} (hn : n < 1000) (h1 : ¬ v < 0) (h2 : v ≤ nI n) : ∃ k, k ≤ n ∧ v = nI k := by
  obtain ⟨k, hk, rfl⟩ := nI_of h1
  exact ⟨k, (nI_leI hk (by omega)).mp h2, rfl⟩
theorem mI_a {v a b : Int32} (h : v < a) : mI v a b = 0 := by unfold mI; rw [if_pos h]
theorem mI_b {v a b : Int32} (h : ¬ v ≤ b) : mI v a b = 0 := by
  unfold mI
  split
  · rfl
  · rw [if_pos (Int32.not_le.mp h)]
theorem mI_c {v a b : Int32} (h : ¬ v < a) (h2 : v ≤ b) : ¬ mI v a b = 0 := by
  unfold mI
  rw [if_neg h, if_neg (Int32.not_lt.mpr h2)]
  decide
theorem kind_cs {w : Int32} {n : Nat} (hn : n < 1000) : (okK w (nI (n + 1)) = some yIOE ∧ mI w 0 (nI n) = 0) ∨ (okK w (nI (n + 1)) = none ∧ ¬ mI w 0 (nI n) = 0 ∧ cN w < n + 1 ∧ w = nI (cN w)) := by
  unfold okK
  by_cases h1 : w < 0
  · rw [if_pos h1]; exact Or.inl ⟨rfl, mI_a h1⟩
  · rw [if_neg h1]
    obtain ⟨k, hk, rfl⟩ := nI_of h1
    by_cases h2 : nI k < nI (n + 1)
    · rw [if_pos h2]
      have h3 := (nI_ltI hk (by omega)).mp h2
      refine Or.inr ⟨rfl, mI_c h1 (nI_le (by omega) (by omega)), ?_, ?_⟩ <;> rw [cN_n hk]
      exact h3
    · rw [if_neg h2]
      refine Or.inl ⟨rfl, mI_b (fun q => h2 ?_)⟩
      have h3 := (nI_leI hk (by omega)).mp q
      exact nI_lt (by omega) (by omega)
theorem frame_cs {x : Int32} : (okF x = some yIOE ∧ mI x 0 2 = 0) ∨ (okF x = none ∧ ¬ mI x 0 2 = 0 ∧ cN x < 3 ∧ x = nI (cN x)) := kind_cs (n := 2) (by decide)
theorem hours_cs {h : Int32} : (okH h = some yIAE ∧ mI h 1 120 = 0) ∨ (okH h = none ∧ ¬ mI h 1 120 = 0) := by
  unfold okH
  by_cases h1 : h < 1
  · rw [if_pos h1]; exact Or.inl ⟨rfl, mI_a h1⟩
  · rw [if_neg h1]
    by_cases h2 : h ≤ 120
    · rw [if_pos h2]; exact Or.inr ⟨rfl, mI_c h1 h2⟩
    · rw [if_neg h2]; exact Or.inl ⟨rfl, mI_b h2⟩
theorem pred_cs {x : Int32} {n : Nat} (hn : n < 1000) : ((x < 0 ∨ nI n ≤ x) ∧ mI x 0 (nI n - 1) = 0) ∨ (¬ (x < 0 ∨ nI n ≤ x) ∧ ¬ mI x 0 (nI n - 1) = 0 ∧ cN x < n ∧ x = nI (cN x)) := by
  by_cases h1 : x < 0
  · exact Or.inl ⟨Or.inl h1, mI_a h1⟩
  · obtain ⟨k, hk, rfl⟩ := nI_of h1
    have h5 : (nI n - 1).toInt = (n : Int) - 1 := pk_sub_toInt (a := n) (b := 1) (by omega) (by omega)
    by_cases h2 : k < n
    · refine Or.inr ⟨fun q => ?_, mI_c h1 ?_, ?_, ?_⟩
      · rcases q with q | q
        · exact h1 q
        · exact nI_ge h2 (by omega) q
      · apply Int32.le_iff_toInt_le.mpr
        rw [h5, nI_toInt hk]; omega
      · rw [cN_n hk]; exact h2
      · rw [cN_n hk]
    · refine Or.inl ⟨Or.inr (nI_le (by omega) hk), mI_b (fun q => ?_)⟩
      have h6 := Int32.le_iff_toInt_le.mp q
      rw [h5, nI_toInt hk] at h6
      omega
theorem book_cs {M : yM} {B S : Nat} {x : Int32} (h : Inv M 0 B S) : (okB M x = some yIOE ∧ mI x 0 (nI B - 1) = 0) ∨ (okB M x = none ∧ ¬ mI x 0 (nI B - 1) = 0 ∧ cN x < B ∧ x = nI (cN x)) := by
  have hB := h.hB
  rcases pred_cs (x := x) (n := B) (by omega) with ⟨h1, h2⟩ | ⟨h1, h2, h3, h4⟩
  · refine Or.inl ⟨okB_t ?_, h2⟩
    rcases h1 with q | q
    · exact Or.inl q
    · exact Or.inr (Or.inl (by rw [h.o3]; exact q))
  · refine Or.inr ⟨okB_f (fun q => ?_), h2, h3, h4⟩
    rcases q with q | q | q
    · exact h1 (Or.inl q)
    · rw [h.o3] at q; exact h1 (Or.inr q)
    · rw [h4] at q
      exact nI_ge (a := cN x) (b := 15) (by omega) (by decide) q
theorem sewer_cs {M : yM} {B S : Nat} {x : Int32} (h : Inv M 0 B S) : (okS M x = some yIOE ∧ mI x 0 (nI S - 1) = 0) ∨ (okS M x = none ∧ ¬ mI x 0 (nI S - 1) = 0 ∧ cN x < S ∧ x = nI (cN x)) := by
  have hS := h.hS
  rcases pred_cs (x := x) (n := S) (by omega) with ⟨h1, h2⟩ | ⟨h1, h2, h3, h4⟩
  · refine Or.inl ⟨okS_t ?_, h2⟩
    rcases h1 with q | q
    · exact Or.inl q
    · exact Or.inr (Or.inl (by rw [h.o4]; exact q))
  · refine Or.inr ⟨okS_f (fun q => ?_), h2, h3, h4⟩
    rcases q with q | q | q
    · exact h1 (Or.inl q)
    · rw [h.o4] at q; exact h1 (Or.inr q)
    · rw [h4] at q
      exact nI_ge (a := cN x) (b := 5) (by omega) (by decide) q
/-! calls that only tell -/
section
variable {M : yM} {B S : Nat}
theorem told_step (h : LInv M B S) {x w : Int32} : Step (mo2 (tolC B x w) (va_up (TN M 0) 56 (M 56)) (va_up (TN M (tolC B x w)) 56 (M 56))) (thn (okB M x) (okK w 11)) (kc yIOE "" "" (thn (okB M x) (okK w 11))) (bTell (M (bkI x)) w) (mr (tolC B x w) (rBT (M 56) (cN x) w)) := by
  rcases book_cs (x := x) h.1 with ⟨a, b⟩ | ⟨a, b, c, d⟩
  · exact step_errM h (by rw [a]; rfl) (by unfold tolC; rw [if_pos b]) (by decide) (kc_1 (by rw [a]; rfl))
  · rcases kind_cs (w := w) (n := 10) (by decide) with ⟨a', b'⟩ | ⟨a', b', c', d'⟩
    · exact step_errM h (by rw [a]; exact a') (by unfold tolC; rw [if_neg b, if_pos (show mI w 0 10 = 0 from b')]) (by decide) (kc_1 (by rw [a]; exact a'))
    · refine step_ok (by rw [a]; exact a') (by unfold tolC; rw [if_neg b, if_neg (show ¬ mI w 0 10 = 0 from b')]) (LInv.tn h.1 h.2.2 h.2.1) tn_55 ?_
      rw [h.2.1, rBT_enc h.1 c c' d']
      rfl
theorem sewer_step (h : LInv M B S) {x w : Int32} : Step (mo2 (sewC S x w) (va_up (TN M 0) 56 (M 56)) (va_up (TN M (sewC S x w)) 56 (M 56))) (thn (okS M x) (okK w 2)) (kc yIOE "" "" (thn (okS M x) (okK w 2))) (sTell (M (swI x)) w) (mr (sewC S x w) (M 56 (174 + 2 * cN x + cN w))) := by
  rcases sewer_cs (x := x) h.1 with ⟨a, b⟩ | ⟨a, b, c, d⟩
  · exact step_errM h (by rw [a]; rfl) (by unfold sewC; rw [if_pos b]) (by decide) (kc_1 (by rw [a]; rfl))
  · rcases kind_cs (w := w) (n := 1) (by decide) with ⟨a', b'⟩ | ⟨a', b', c', d'⟩
    · exact step_errM h (by rw [a]; exact a') (by unfold sewC; rw [if_neg b, if_pos (show mI w 0 1 = 0 from b')]) (by decide) (kc_1 (by rw [a]; exact a'))
    · refine step_ok (by rw [a]; exact a') (by unfold sewC; rw [if_neg b, if_neg (show ¬ mI w 0 1 = 0 from b')]) (LInv.tn h.1 h.2.2 h.2.1) tn_55 ?_
      have hS := h.1.hS
      rw [h.2.1, enc_sw c hS (by omega)]
      generalize cN w = k at c' d'
      rcases (show k = 0 ∨ k = 1 by omega) with rfl | rfl
      · rw [d']; rfl
      · rw [d']; rfl
theorem frame_step (h : LInv M B S) {f w : Int32} : Step (mo2 (fraC f w) (va_up (TN M 0) 56 (M 56)) (va_up (TN M (fraC f w)) 56 (M 56))) (thn (okF f) (okK w 6)) (kc yIOE "" "" (thn (okF f) (okK w 6))) (wTellF M 0 (cN f) w) (mr (fraC f w) (rFT (M 56) (cN f) w S)) := by
  rcases frame_cs (x := f) with ⟨a, b⟩ | ⟨a, b, c, d⟩
  · exact step_errM h (by rw [a]; rfl) (by unfold fraC; rw [if_pos b]) (by decide) (kc_1 (by rw [a]; rfl))
  · rcases kind_cs (w := w) (n := 5) (by decide) with ⟨a', b'⟩ | ⟨a', b', c', d'⟩
    · exact step_errM h (by rw [a]; exact a') (by unfold fraC; rw [if_neg b, if_pos (show mI w 0 5 = 0 from b')]) (by decide) (kc_1 (by rw [a]; exact a'))
    · refine step_ok (by rw [a]; exact a') (by unfold fraC; rw [if_neg b, if_neg (show ¬ mI w 0 5 = 0 from b')]) (LInv.tn h.1 h.2.2 h.2.1) tn_55 ?_
      rw [h.2.1, rFT_enc h.1 c c' d']
theorem count_step (h : LInv M B S) {w : Int32} : Step (mo2 (couC w) (va_up (TN M 0) 56 (M 56)) (va_up (TN M (couC w)) 56 (M 56))) (okK w 15) (kc yIOE "" "" (okK w 15)) (wTellA M 0 w) (mr (couC w) (rCo (M 56) w B)) := by
  rcases kind_cs (w := w) (n := 14) (by decide) with ⟨a', b'⟩ | ⟨a', b', c', d'⟩
  · exact step_errM h a' (by unfold couC; rw [if_pos (show mI w 0 14 = 0 from b')]) (by decide) (kc_1 a')
  · refine step_ok a' (by unfold couC; rw [if_neg (show ¬ mI w 0 14 = 0 from b')]) (LInv.tn h.1 h.2.2 h.2.1) tn_55 ?_
    rw [h.2.1, rCo_all h.1]
/-! calls that change the workshop -/
theorem LNum.s {j k : Nat} {v : Int32} (h : LNum M) (hj : ¬ (27 ≤ j ∧ j < 54)) : LNum (yst M j k v) := h.cg (fun i _ _ => yst_row (by omega))
theorem LNum.u {j : Nat} {r : Rw} (h : LNum M) (hj : ¬ (27 ≤ j ∧ j < 54)) : LNum (va_up M j r) := h.cg (fun i _ _ => up_n (by omega))
theorem ok_56 {A : yM} {o : Option String} (h : M 56 = enc M 0 B S) (ho : o = none) (hA : A 56 = M 56) : mo o A M 56 = enc M 0 B S := by rw [mo_none ho, hA, h]
theorem sell_step (h : LInv M B S) {x : Int32} : Step (mo2 (selC (mo (selO M x) (selM M (bkI x)) M 56) B x) (va_up (TN (mo (selO M x) (selM M (bkI x)) M) 0) 56 (mSel (mo (selO M x) (selM M (bkI x)) M 56) (cN x))) (va_up (TN (mo (selO M x) (selM M (bkI x)) M) (selC (mo (selO M x) (selM M (bkI x)) M 56) B x)) 56 (mo (selO M x) (selM M (bkI x)) M 56))) (selO M x) (kc yIOE yISE "" (selO M x)) (selM M (bkI x) 0 6) (mr (selC (mo (selO M x) (selM M (bkI x)) M 56) B x) (mSel (mo (selO M x) (selM M (bkI x)) M 56) (cN x) 187)) := by
  have hB := h.1.hB
  rcases book_cs (x := x) h.1 with ⟨a, b⟩ | ⟨a, b, c, d⟩
  · have ho : selO M x = some yIOE := by unfold selO; rw [a]; rfl
    exact step_err h ho (by unfold selC; rw [if_pos b]) (by decide) (kc_1 ho)
  · have e4 : enc M 0 B S (11 * cN x + 3) = M (bkI x) 4 := enc_b3 c hB
    by_cases h5 : M (bkI x) 4 = 5
    · have ho : selO M x = none := by unfold selO; rw [a, if_pos h5]; rfl
      have h6 : mo (selO M x) (selM M (bkI x)) M 56 = enc M 0 B S := ok_56 h.2.1 ho (by unfold selM yinc; rw [yst_row (by decide), yst_row (by unfold bkI; omega)])
      have hI1 : Inv (yst M (bkI x) 4 6) 0 B S := by
        rw [yst_ru]
        have hbk := h.1.bk c
        refine h.1.book (b := cN x) c ⟨hbk.1.cg rfl rfl rfl rfl rfl rfl rfl, BkB.late (t := 6) (by decide) rfl (by decide) (by omega) (by omega)⟩ ⟨fun q => absurd (show (6 : Int32) = 1 from q) (by decide), fun q => ?_⟩ (fun q => absurd (show (6 : Int32) = 1 from q) (by decide))
        exact absurd (h5.symm.trans q) (by decide)
      have e1 : enc (yst M (bkI x) 4 6) 0 B S = ru (enc M 0 B S) (11 * cN x + 3) 6 := enc_yb (k := 3) c hB (by decide)
      have e2 : enc (selM M (bkI x)) 0 B S = mSel (enc M 0 B S) (cN x) := by
        unfold mSel
        rw [← e1, rWo_enc c hB]
        exact enc_yo (k := 6) (by decide) (by decide)
      rw [h6, mo_none ho]
      refine step_ok ho (by unfold selC; rw [if_neg b, if_pos (e4.trans h5)]) (LInv.tn (A := selM M (bkI x)) (hI1.sc (by decide)) ?_ e2.symm) tn_55 ?_
      · unfold selM yinc
        exact (h.2.2.s (by unfold bkI; omega)).s (by decide)
      · rw [← e2]; rfl
    · have ho : selO M x = some yISE := by unfold selO; rw [a, if_neg h5]; rfl
      refine step_err h ho ?_ (by decide) (kc_2 ho (by decide))
      rw [mo_some ho, h.2.1]
      unfold selC
      rw [if_neg b, if_neg (fun q => h5 (e4.symm.trans q))]
theorem seat_step (h : LInv M B S) {x f : Int32} : Step (mo2 (seaC (mo (seaO M x f) (yst M (swI x) 2 f) M 56) S x f) (va_up (TN (mo (seaO M x f) (yst M (swI x) 2 f) M) 0) 56 (ru (mo (seaO M x f) (yst M (swI x) 2 f) M 56) (174 + 2 * cN x + 1) f)) (va_up (TN (mo (seaO M x f) (yst M (swI x) 2 f) M) (seaC (mo (seaO M x f) (yst M (swI x) 2 f) M 56) S x f)) 56 (mo (seaO M x f) (yst M (swI x) 2 f) M 56))) (seaO M x f) (kc yIOE yISE "" (seaO M x f)) (M (swI x) 2) (mr (seaC (mo (seaO M x f) (yst M (swI x) 2 f) M 56) S x f) (mo (seaO M x f) (yst M (swI x) 2 f) M 56 (174 + 2 * cN x + 1))) := by
  have hS := h.1.hS
  rcases sewer_cs (x := x) h.1 with ⟨a, b⟩ | ⟨a, b, c, d⟩
  · have ho : seaO M x f = some yIOE := by unfold seaO; rw [a]; rfl
    exact step_err h ho (by unfold seaC; rw [if_pos b]) (by decide) (kc_1 ho)
  · have ok : ∀ (ho : seaO M x f = none) (hc : seaC (enc M 0 B S) S x f = 0), Step (mo2 (seaC (mo (seaO M x f) (yst M (swI x) 2 f) M 56) S x f) (va_up (TN (mo (seaO M x f) (yst M (swI x) 2 f) M) 0) 56 (ru (mo (seaO M x f) (yst M (swI x) 2 f) M 56) (174 + 2 * cN x + 1) f)) (va_up (TN (mo (seaO M x f) (yst M (swI x) 2 f) M) (seaC (mo (seaO M x f) (yst M (swI x) 2 f) M 56) S x f)) 56 (mo (seaO M x f) (yst M (swI x) 2 f) M 56))) (seaO M x f) (kc yIOE yISE "" (seaO M x f)) (M (swI x) 2) (mr (seaC (mo (seaO M x f) (yst M (swI x) 2 f) M 56) S x f) (mo (seaO M x f) (yst M (swI x) 2 f) M 56 (174 + 2 * cN x + 1))) := by
      intro ho hc
      have h6 : mo (seaO M x f) (yst M (swI x) 2 f) M 56 = enc M 0 B S := ok_56 h.2.1 ho (yst_row (by unfold swI; omega))
      rw [h6, mo_none ho]
      refine step_ok ho hc (LInv.tn (A := yst M (swI x) 2 f) (h.1.seat c) (h.2.2.s (by unfold swI; omega)) ?_) tn_55 ?_
      · exact (enc_ys (k := 1) hS c (by decide)).symm
      · exact (enc_s1 c hS).symm
    have err : ∀ {E : String} {n : Int32} (ho : seaO M x f = some E) (hc : seaC (enc M 0 B S) S x f = n) (hn : ¬ n = 0) (hk : n = kc yIOE yISE "" (seaO M x f)), Step (mo2 (seaC (mo (seaO M x f) (yst M (swI x) 2 f) M 56) S x f) (va_up (TN (mo (seaO M x f) (yst M (swI x) 2 f) M) 0) 56 (ru (mo (seaO M x f) (yst M (swI x) 2 f) M 56) (174 + 2 * cN x + 1) f)) (va_up (TN (mo (seaO M x f) (yst M (swI x) 2 f) M) (seaC (mo (seaO M x f) (yst M (swI x) 2 f) M 56) S x f)) 56 (mo (seaO M x f) (yst M (swI x) 2 f) M 56))) (seaO M x f) (kc yIOE yISE "" (seaO M x f)) (M (swI x) 2) (mr (seaC (mo (seaO M x f) (yst M (swI x) 2 f) M 56) S x f) (mo (seaO M x f) (yst M (swI x) 2 f) M 56 (174 + 2 * cN x + 1))) := by
      intro E n ho hc hn hk
      refine step_err h ho ?_ hn hk
      rw [mo_some ho, h.2.1]
      exact hc
    by_cases h1 : f = -1
    · refine ok (by unfold seaO; rw [a, if_pos h1]; rfl) ?_
      unfold seaC
      rw [if_neg b, if_neg, if_pos (by rw [h1]; decide)]
      rw [h1]; decide
    · by_cases h2 : f < 0
      · refine err (E := yIOE) (n := 1) (by unfold seaO; rw [a, if_neg h1, if_pos h2]; rfl) ?_ (by decide) (kc_1 (by unfold seaO; rw [a, if_neg h1, if_pos h2]; rfl))
        unfold seaC
        rw [if_neg b, if_pos (mI_a ?_)]
        apply Int32.lt_iff_toInt_lt.mpr
        have h3 := Int32.lt_iff_toInt_lt.mp h2
        have h4 : (0 : Int32).toInt = 0 := rfl
        have h5 : (-1 : Int32).toInt = -1 := by decide
        have h6 : f.toInt ≠ -1 := fun q => h1 (Int32.toInt_inj.mp (q.trans h5.symm))
        omega
      · have h0 : ¬ f < -1 := fun q => h2 (Int32.lt_trans q (by decide))
        by_cases h3 : f < 3
        · obtain ⟨g, hg, rfl⟩ := nI_of h2
          have hg3 : g < 3 := (nI_ltI (b := 3) hg (by decide)).mp h3
          have hm : ¬ mI (nI g) (-1) 2 = 0 := mI_c h0 (nI_le (b := 2) (by omega) (by decide))
          have ew : rOt (enc M 0 B S) x (nI g) S = wOth M 0 (nI g) x 5 := rOt_enc h.1 h1
          by_cases h4 : wOth M 0 (nI g) x 5 < 2
          · refine ok (by unfold seaO; rw [a, if_neg h1, if_neg h2, if_pos h3, if_pos h4]; rfl) ?_
            unfold seaC
            rw [if_neg b, if_neg hm, if_neg h2, if_pos]
            rw [ew]
            have h5 := Int32.lt_iff_toInt_lt.mp h4
            have h6 : (2 : Int32).toInt = 2 := rfl
            have h7 : (1 : Int32).toInt = 1 := rfl
            apply Int32.le_iff_toInt_le.mpr
            omega
          · refine err (E := yISE) (n := 2) (by unfold seaO; rw [a, if_neg h1, if_neg h2, if_pos h3, if_neg h4]; rfl) ?_ (by decide) (kc_2 (by unfold seaO; rw [a, if_neg h1, if_neg h2, if_pos h3, if_neg h4]; rfl) (by decide))
            unfold seaC
            rw [if_neg b, if_neg hm, if_neg h2, if_neg]
            rw [ew]
            intro q
            have h5 := Int32.le_iff_toInt_le.mp q
            have h6 : (2 : Int32).toInt = 2 := rfl
            have h7 : (1 : Int32).toInt = 1 := rfl
            exact h4 (Int32.lt_iff_toInt_lt.mpr (by omega))
        · refine err (E := yIOE) (n := 1) (by unfold seaO; rw [a, if_neg h1, if_neg h2, if_neg h3]; rfl) ?_ (by decide) (kc_1 (by unfold seaO; rw [a, if_neg h1, if_neg h2, if_neg h3]; rfl))
          unfold seaC
          rw [if_neg b, if_pos (mI_b ?_)]
          intro q
          obtain ⟨g, hg, rfl⟩ := nI_of h2
          have h4 := (nI_leI (b := 2) hg (by decide)).mp q
          exact h3 (nI_lt (b := 3) (by omega) (by decide))
theorem string_step (h : LInv M B S) {f c : Int32} : Step (mo2 (strC (mo (strO M f c) (yst M (frI f) 1 c) M 56) f c) (va_up (TN (mo (strO M f c) (yst M (frI f) 1 c) M) 0) 56 (ru (mo (strO M f c) (yst M (frI f) 1 c) M 56) (165 + 3 * cN f) c)) (va_up (TN (mo (strO M f c) (yst M (frI f) 1 c) M) (strC (mo (strO M f c) (yst M (frI f) 1 c) M 56) f c)) 56 (mo (strO M f c) (yst M (frI f) 1 c) M 56))) (strO M f c) (kc yIOE yIAE yISE (strO M f c)) (M (frI f) 1) (mr (strC (mo (strO M f c) (yst M (frI f) 1 c) M 56) f c) (mo (strO M f c) (yst M (frI f) 1 c) M 56 (165 + 3 * cN f))) := by
  have hB := h.1.hB
  rcases frame_cs (x := f) with ⟨a, b⟩ | ⟨a, b, d, e⟩
  · have ho : strO M f c = some yIOE := by unfold strO; rw [a]; rfl
    exact step_err h ho (by unfold strC; rw [if_pos b]) (by decide) (kc_1 ho)
  · by_cases h1 : c < 2
    · have ho : strO M f c = some yIAE := by unfold strO; rw [a, if_pos h1]; rfl
      exact step_err h ho (by unfold strC; rw [if_neg b, if_pos (mI_a h1)]) (by decide) (kc_2 ho (by decide))
    · by_cases h2 : c ≤ 6
      · have hm := mI_c h1 h2
        have e1 : enc M 0 B S (165 + 3 * cN f + 1) = M (frI f) 2 := enc_f1 d
        by_cases h3 : M (frI f) 2 = -1
        · have ho : strO M f c = none := by unfold strO; rw [a, if_neg h1, if_pos h2, if_pos h3]; rfl
          have h6 : mo (strO M f c) (yst M (frI f) 1 c) M 56 = enc M 0 B S := ok_56 h.2.1 ho (yst_row (by unfold frI; omega))
          obtain ⟨c0, hc0, ec⟩ := i32_of0 (v := c) (n := 6) (by decide) (fun q => h1 (Int32.lt_trans q (by decide))) h2
          rw [h6, mo_none ho]
          refine step_ok ho ?_ (LInv.tn (A := yst M (frI f) 1 c) (h.1.fr d (Or.inr ⟨rfl, c0, hc0, ec⟩)) (h.2.2.s (by unfold frI; omega)) ?_) tn_55 ?_
          · unfold strC
            rw [if_neg b, if_neg hm, if_pos (by rw [e1, h3]; decide)]
          · exact (enc_yf (k := 0) d (by decide)).symm
          · exact (enc_f0 d).symm
        · have ho : strO M f c = some yISE := by unfold strO; rw [a, if_neg h1, if_pos h2, if_neg h3]; rfl
          refine step_err h ho ?_ (by decide) (kc_3 ho (by decide) (by decide))
          rw [mo_some ho, h.2.1]
          unfold strC
          obtain ⟨b2, hb2, q1, _⟩ := h.1.fb d h3
          rw [if_neg b, if_neg hm, if_neg]
          rw [e1]
          intro q
          have q1 : M (frI f) 2 = nI b2 := q1
          rw [q1] at q
          exact nI_pos (by omega) q
      · have ho : strO M f c = some yIAE := by unfold strO; rw [a, if_neg h1, if_neg h2]; rfl
        exact step_err h ho (by unfold strC; rw [if_neg b, if_pos (mI_b h2)]) (by decide) (kc_2 ho (by decide))
theorem buy_step (h : LInv M B S) {w x : Int32} : Step (mo2 (buyC (mo (buyO M w x) (wStore (buyA M w x) 0 w x) M 56) w x) (va_up (TN (mo (buyO M w x) (wStore (buyA M w x) 0 w x) M) 0) 56 (mBuy (mo (buyO M w x) (wStore (buyA M w x) 0 w x) M 56) w x)) (va_up (TN (mo (buyO M w x) (wStore (buyA M w x) 0 w x) M) (buyC (mo (buyO M w x) (wStore (buyA M w x) 0 w x) M 56) w x)) 56 (mo (buyO M w x) (wStore (buyA M w x) 0 w x) M 56))) (buyO M w x) (kc yIOE yIAE yISE (buyO M w x)) (wStoreR (buyA M w x) 0 w x) (mr (buyC (mo (buyO M w x) (wStore (buyA M w x) 0 w x) M 56) w x) (mBuy (mo (buyO M w x) (wStore (buyA M w x) 0 w x) M 56) w x (184 + cN w))) := by
  by_cases h1 : w < 0
  · have ho : buyO M w x = some yIOE := by unfold buyO; rw [if_pos h1]
    exact step_err h ho (by unfold buyC; rw [if_pos (mI_a h1)]) (by decide) (kc_1 ho)
  · by_cases h2 : w ≤ 2
    · have hm := mI_c h1 h2
      by_cases h3 : x < 1
      · have ho : buyO M w x = some yIAE := by unfold buyO; rw [if_neg h1, if_pos h2, if_pos h3]
        exact step_err h ho (by unfold buyC; rw [if_neg hm, if_pos (mI_a h3)]) (by decide) (kc_2 ho (by decide))
      · by_cases h4 : x ≤ 200
        · have hm2 := mI_c h3 h4
          by_cases h5 : prc w x ≤ M 0 6
          · have ho : buyO M w x = none := by unfold buyO; rw [if_neg h1, if_pos h2, if_neg h3, if_pos h4, if_pos h5]
            have hI : Inv (buyA M w x) 0 B S := h.1.sc (by decide)
            have hN : LNum (buyA M w x) := h.2.2.s (by decide)
            have e1 : enc (buyA M w x) 0 B S = rdec (enc M 0 B S) 187 (prc w x) := enc_yo (k := 6) (by decide) (by decide)
            obtain ⟨k, hk, rfl⟩ := i32_of0 (n := 2) (by decide) h1 h2
            have key : ∃ j, 7 ≤ j ∧ j ≤ 9 ∧ sc j = 184 + cN (nI k) ∧ wStore (buyA M (nI k) x) 0 (nI k) x = yinc (buyA M (nI k) x) 0 j x ∧ wStoreR (buyA M (nI k) x) 0 (nI k) x = buyA M (nI k) x 0 j + x ∧ enc (buyA M (nI k) x) 0 B S (184 + cN (nI k)) = buyA M (nI k) x 0 j := by
              rw [cN_n (by omega)]
              rcases (show k = 0 ∨ k = 1 ∨ k = 2 by omega) with rfl | rfl | rfl
              · exact ⟨7, by decide, by decide, rfl, rfl, rfl, rfl⟩
              · exact ⟨8, by decide, by decide, rfl, rfl, rfl, rfl⟩
              · exact ⟨9, by decide, by decide, rfl, rfl, rfl, rfl⟩
            obtain ⟨j, j1, j2, j3, j4, j5, j6⟩ := key
            have h6 : mo (buyO M (nI k) x) (wStore (buyA M (nI k) x) 0 (nI k) x) M 56 = enc M 0 B S := ok_56 h.2.1 ho (by rw [j4]; unfold yinc buyA ydec; rw [yst_row (by decide), yst_row (by decide)])
            have e2 : enc (wStore (buyA M (nI k) x) 0 (nI k) x) 0 B S = mBuy (enc M 0 B S) (nI k) x := by
              unfold mBuy rinc
              rw [← e1, j4, j6, ← j3]
              exact enc_yo (by omega) (by omega)
            rw [h6, mo_none ho]
            refine step_ok ho (by unfold buyC; rw [if_neg hm, if_neg hm2, if_pos (show prc (nI k) x ≤ enc M 0 B S 187 from h5)]) (LInv.tn (A := wStore (buyA M (nI k) x) 0 (nI k) x) ?_ ?_ e2.symm) tn_55 ?_
            · rw [j4]; exact hI.sc (by omega)
            · rw [j4]; exact hN.s (by decide)
            · unfold mBuy rinc
              rw [← e1, ru_s, j6, j5]
          · have ho : buyO M w x = some yISE := by unfold buyO; rw [if_neg h1, if_pos h2, if_neg h3, if_pos h4, if_neg h5]
            refine step_err h ho ?_ (by decide) (kc_3 ho (by decide) (by decide))
            rw [mo_some ho, h.2.1]
            unfold buyC
            rw [if_neg hm, if_neg hm2, if_neg (show ¬ prc w x ≤ enc M 0 B S 187 from h5)]
        · have ho : buyO M w x = some yIAE := by unfold buyO; rw [if_neg h1, if_pos h2, if_neg h3, if_neg h4]
          exact step_err h ho (by unfold buyC; rw [if_neg hm, if_pos (mI_b h4)]) (by decide) (kc_2 ho (by decide))
    · have ho : buyO M w x = some yIOE := by unfold buyO; rw [if_neg h1, if_neg h2]
      exact step_err h ho (by unfold buyC; rw [if_pos (mI_b h2)]) (by decide) (kc_1 ho)
end
end YSt
