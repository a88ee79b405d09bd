section YSu
variable {M : yM} {B S : Nat}
theorem nI_prd {n : Nat} : nI n + 1 - 1 = nI n := by rw [Int32.add_sub_cancel]
/-- a new book -/
theorem order_tie (h : Inv M 0 B S) (hB : B < 15) {s e : Nat} {hh : Int32} (s1 : 1 ≤ s) (s2 : s ≤ 24) (he : e ≤ 3) {h9 : Nat} (eh : hh = nI h9) : Inv (ordM M B (nI s) hh (nI e)) 0 (B + 1) S ∧ enc (ordM M B (nI s) hh (nI e)) 0 (B + 1) S = mOrd (enc M 0 B S) B (nI s) hh (nI e) := by
  have hS := h.hS
  have hu := h.2.2.1 B (Nat.le_refl _) hB
  have hbk : BkO (bBegin (M (0 + 4 + B)) (nI s) hh (nI e)) B := by rw [eh]; exact BkO.begin hu s1 s2 he
  obtain ⟨A, eA⟩ : ∃ z, z = ordM M B (nI s) hh (nI e) := ⟨_, rfl⟩
  have a0 : A 0 = ru (M 0) 3 (M 0 3 + 1) := by
    rw [eA]; unfold ordM yinc; rw [yst_ru, up_s, up_n (by omega)]
  have ab : A (0 + 4 + B) = bBegin (M (0 + 4 + B)) (nI s) hh (nI e) := by
    rw [eA]; unfold ordM yinc; rw [yst_row (by omega), up_s]
  have an : ∀ j, j ≠ 0 → j ≠ 0 + 4 + B → A j = M j := fun j h1 h2 => by
    rw [eA]; unfold ordM yinc; rw [yst_row h1, up_n h2]
  rw [← eA]
  obtain ⟨a1, a2, a3, a4, a5, a6⟩ := h
  refine ⟨⟨⟨?_, by omega, ?_, hS⟩, fun b hb => ?_, fun b hb hb2 => ?_, fun f hf => ?_, fun b hb => ?_, fun t ht => ?_⟩, ?_⟩
  · rw [a0]; show M 0 3 + 1 = nI (B + 1); rw [a1.1]; exact nI_add B 1
  · rw [a0]; exact a1.2.2.1
  · by_cases q : b = B
    · subst q; rw [ab]; exact hbk
    · rw [an _ (by omega) (by omega)]; exact a2 b (by omega)
  · rw [an _ (by omega) (by omega)]; exact a3 b (by omega) hb2
  · obtain ⟨k1, k2, k3⟩ := a4 f hf
    unfold FrI
    rw [an (0 + 24 + f) (by omega) (by omega)]
    refine ⟨k1, k2, ?_⟩
    rcases k3 with q | ⟨b, hb, q⟩
    · exact Or.inl q
    · exact Or.inr ⟨b, by omega, by rw [an (0 + 4 + b) (by omega) (by omega)]; exact q⟩
  · by_cases q : b = B
    · subst q
      rw [ab]
      intro k
      exact absurd (show (0 : Int32) = 1 from k) (by decide)
    · rw [an _ (by omega) (by omega)]
      intro k
      obtain ⟨f, hf, q1, q2⟩ := a5 b (by omega) k
      exact ⟨f, hf, q1, by rw [an (0 + 24 + f) (by omega) (by omega)]; exact q2⟩
  · unfold SwI
    rw [an _ (by omega) (by omega)]
    exact a6 t ht
  · obtain ⟨u0, u4, u5, u6, u7, u8, u9, u10, u11, u12⟩ := hu
    unfold mOrd rinc
    refine row_eq (fun b hb k hk => ?_) (fun f hf k hk => ?_) (fun t ht k hk => ?_) (fun i hi => ?_)
    · rw [enc_rb hb hk, ru_n (by omega)]
      by_cases q : b = B
      · subst q
        rw [if_pos (by omega), ab]
        have ez : enc M 0 b S (11 * b + k) = 0 := by rw [enc_rb hb hk, if_neg (by omega)]
        rcases (show k = 0 ∨ k = 1 ∨ k = 2 ∨ k = 3 ∨ k = 4 ∨ k = 5 ∨ k = 6 ∨ k = 7 ∨ k = 8 ∨ k = 9 ∨ k = 10 by omega) with rfl | rfl | rfl | rfl | rfl | rfl | rfl | rfl | rfl | rfl | rfl
        · rw [ru_n (by omega), ru_n (by omega), ru_n (by omega)]; exact ru_s.symm
        · rw [ru_n (by omega), ru_n (by omega), ru_s]; rfl
        · rw [ru_n (by omega), ru_s]; rfl
        · rw [ru_n (by omega), ru_n (by omega), ru_n (by omega), ru_n (by omega), ez]; rfl
        · rw [ru_s]; exact u5
        · rw [ru_n (by omega), ru_n (by omega), ru_n (by omega), ru_n (by omega), ez]; exact u8
        · rw [ru_n (by omega), ru_n (by omega), ru_n (by omega), ru_n (by omega), ez]; exact u9
        · rw [ru_n (by omega), ru_n (by omega), ru_n (by omega), ru_n (by omega), ez]; exact u10
        · rw [ru_n (by omega), ru_n (by omega), ru_n (by omega), ru_n (by omega), ez]; exact u11
        · rw [ru_n (by omega), ru_n (by omega), ru_n (by omega), ru_n (by omega), ez]; exact u12
        · rw [ru_n (by omega), ru_n (by omega), ru_n (by omega), ru_n (by omega), ez]; exact u6
      · rw [ru_n (by omega), ru_n (by omega), ru_n (by omega), ru_n (by omega), enc_rb hb hk]
        by_cases q2 : b < B
        · rw [if_pos q2, if_pos (by omega), an _ (by omega) (by omega)]
        · rw [if_neg q2, if_neg (by omega)]
    · rw [enc_fr hf hk, ru_n (by omega), ru_n (by omega), ru_n (by omega), ru_n (by omega), ru_n (by omega), enc_fr hf hk, an _ (by omega) (by omega)]
    · rw [enc_rs ht hk, ru_n (by omega), ru_n (by omega), ru_n (by omega), ru_n (by omega), ru_n (by omega), enc_rs ht hk, an _ (by omega) (by omega)]
    · have e3 : ru (ru (ru (ru (enc M 0 B S) (11 * B) (nI s)) (11 * B + 1) hh) (11 * B + 2) (nI e)) (11 * B + 4) (-1) 189 = M 0 3 := by
        rw [ru_n (by omega), ru_n (by omega), ru_n (by omega), ru_n (by omega)]; rfl
      rw [enc_rw hi, a0, encW_ru (by decide) (by decide), e3]
      show ru (encW (M 0)) 189 (M 0 3 + 1) i = _
      unfold ru
      by_cases q : i = 189
      · rw [if_pos q, if_pos q]
      · rw [if_neg q, if_neg q, if_neg (by omega), if_neg (by omega), if_neg (by omega), if_neg (by omega), enc_rw hi]
/-- a new sewer -/
theorem hire_tie (h : Inv M 0 B S) (hS : S < 5) {s : Nat} (s2 : s ≤ 9) : Inv (hirM M S (nI s)) 0 B (S + 1) ∧ enc (hirM M S (nI s)) 0 B (S + 1) = mHir (enc M 0 B S) S (nI s) := by
  have hB := h.hB
  obtain ⟨A, eA⟩ : ∃ z, z = hirM M S (nI s) := ⟨_, rfl⟩
  have a0 : A 0 = ru (M 0) 4 (M 0 4 + 1) := by
    rw [eA]; unfold hirM yinc; rw [yst_ru, up_s, yst_row (by omega)]
  have ab : A (0 + 19 + S) = ru (M (0 + 19 + S)) 1 (nI s) := by
    rw [eA]; unfold hirM yinc; rw [yst_row (by omega), yst_ru, up_s]
  have an : ∀ j, j ≠ 0 → j ≠ 0 + 19 + S → A j = M j := fun j h1 h2 => by
    rw [eA]; unfold hirM yinc; rw [yst_row h1, yst_row h2]
  rw [← eA]
  obtain ⟨a1, a2, a3, a4, a5, a6⟩ := h
  obtain ⟨u0, u2, u1⟩ := a6 S hS
  refine ⟨⟨⟨?_, hB, ?_, by omega⟩, fun b hb => ?_, fun b hb hb2 => ?_, fun f hf => ?_, fun b hb => ?_, fun t ht => ?_⟩, ?_⟩
  · rw [a0]; exact a1.1
  · rw [a0]; show M 0 4 + 1 = nI (S + 1); rw [a1.2.2.1]; exact nI_add S 1
  · rw [an _ (by omega) (by omega)]; exact a2 b hb
  · rw [an _ (by omega) (by omega)]; exact a3 b hb hb2
  · obtain ⟨k1, k2, k3⟩ := a4 f hf
    unfold FrI
    rw [an (0 + 24 + f) (by omega) (by omega)]
    refine ⟨k1, k2, ?_⟩
    rcases k3 with q | ⟨b, hb, q⟩
    · exact Or.inl q
    · exact Or.inr ⟨b, hb, by rw [an (0 + 4 + b) (by omega) (by omega)]; exact q⟩
  · rw [an _ (by omega) (by omega)]
    intro k
    obtain ⟨f, hf, q1, q2⟩ := a5 b hb k
    exact ⟨f, hf, q1, by rw [an (0 + 24 + f) (by omega) (by omega)]; exact q2⟩
  · obtain ⟨k1, k2, k3⟩ := a6 t ht
    unfold SwI
    by_cases q : t = S
    · subst q
      rw [ab]
      exact ⟨u0, fun z => by omega, s, s2, rfl⟩
    · rw [an _ (by omega) (by omega)]
      exact ⟨k1, fun z => k2 (by omega), k3⟩
  · unfold mHir rinc
    refine row_eq (fun b hb k hk => ?_) (fun f hf k hk => ?_) (fun t ht k hk => ?_) (fun i hi => ?_)
    · rw [enc_rb hb hk, ru_n (by omega), ru_n (by omega), ru_n (by omega), enc_rb hb hk, an _ (by omega) (by omega)]
    · rw [enc_fr hf hk, ru_n (by omega), ru_n (by omega), ru_n (by omega), enc_fr hf hk, an _ (by omega) (by omega)]
    · rw [enc_rs ht hk, ru_n (by omega)]
      by_cases q : t = S
      · subst q
        rw [if_pos (by omega), ab]
        rcases (show k = 0 ∨ k = 1 by omega) with rfl | rfl
        · show nI s = _
          rw [ru_n (by omega)]; exact ru_s.symm
        · show M (0 + 19 + t) 2 = _
          rw [ru_s]; exact u2 (Nat.le_refl _)
      · rw [ru_n (by omega), ru_n (by omega), enc_rs ht hk]
        by_cases q2 : t < S
        · rw [if_pos q2, if_pos (by omega), an _ (by omega) (by omega)]
        · rw [if_neg q2, if_neg (by omega)]
    · have e3 : ru (ru (enc M 0 B S) (174 + 2 * S) (nI s)) (174 + 2 * S + 1) (-1) 190 = M 0 4 := by
        rw [ru_n (by omega), ru_n (by omega)]; rfl
      rw [enc_rw hi, a0, encW_ru (by decide) (by decide), e3]
      show ru (encW (M 0)) 190 (M 0 4 + 1) i = _
      unfold ru
      by_cases q : i = 190
      · rw [if_pos q, if_pos q]
      · rw [if_neg q, if_neg q, if_neg (by omega), if_neg (by omega), enc_rw hi]
/-- a book off its frame -/
theorem clr_tie (h : Inv M 0 B S) {f b : Nat} (hf : f < 3) (hb : b < B) (hfb : M (0 + 24 + f) 2 = nI b) (h4 : M (0 + 4 + b) 4 = 1) : wClr M 0 (nI b) 3 = yst M (0 + 24 + f) 2 (-1) := by
  have hB := h.hB
  have ne : ∀ g, g < 3 → g ≠ f → ¬ M (0 + 24 + g) 2 = nI b := fun g hg q1 q2 => by
    obtain ⟨b2, hb2, r1, r2, r3⟩ := h.fb hg (by rw [q2]; exact nI_ne1 (by omega))
    obtain ⟨b3, hb3, t1, t2, t3⟩ := h.fb hf (by rw [hfb]; exact nI_ne1 (by omega))
    have e1 : b = b2 := nI_inj (by omega) (by omega) (q2.symm.trans r1)
    have e2 : b = b3 := nI_inj (by omega) (by omega) (hfb.symm.trans t1)
    subst e1; subst e2
    exact q1 (nI_inj (by omega) (by omega) (r3.symm.trans t3))
  have st : ∀ {n : Nat} {X : yM}, wClr M 0 (nI b) n = X → wClr M 0 (nI b) (n + 1) = if X (0 + 24 + n) 2 = nI b then yst X (0 + 24 + n) 2 (-1) else X := fun {n X} e => by rw [wClr, e]
  have s0 : wClr M 0 (nI b) 0 = M := rfl
  rcases (show f = 0 ∨ f = 1 ∨ f = 2 by omega) with rfl | rfl | rfl
  · have c1 := (st s0).trans (if_pos hfb)
    have c2 := (st c1).trans (if_neg (by rw [yst_row (by decide)]; exact ne 1 (by decide) (by decide)))
    exact (st c2).trans (if_neg (by rw [yst_row (by decide)]; exact ne 2 (by decide) (by decide)))
  · have c1 := (st s0).trans (if_neg (ne 0 (by decide) (by decide)))
    have c2 := (st c1).trans (if_pos hfb)
    exact (st c2).trans (if_neg (by rw [yst_row (by decide)]; exact ne 2 (by decide) (by decide)))
  · have c1 := (st s0).trans (if_neg (ne 0 (by decide) (by decide)))
    have c2 := (st c1).trans (if_neg (ne 1 (by decide) (by decide)))
    exact (st c2).trans (if_pos hfb)
theorem unpick_tie (h : Inv M 0 B S) {b : Nat} (hb : b < B) (h4 : M (0 + 4 + b) 4 = 1) : Inv (unpM M (0 + 4 + b)) 0 B S ∧ enc (unpM M (0 + 4 + b)) 0 B S = rUn (rUp2 (enc M 0 B S) b) b 5 ∧ (∀ j, j ≠ 0 + 4 + b → ¬ (24 ≤ j ∧ j < 27) → unpM M (0 + 4 + b) j = M j) := by
  have hB := h.hB
  obtain ⟨f, hf, q1, q2⟩ := h.2.2.2.2.1 b hb h4
  have hbk := h.bk hb
  have e0 : unpM M (0 + 4 + b) = va_up (yst M (0 + 24 + f) 2 (-1)) (0 + 4 + b) (bUndo (M (0 + 4 + b))) := by
    unfold unpM
    rw [hbk.1.1, clr_tie h hf hb q2 h4, yst_row (by omega)]
  refine ⟨?_, ?_, fun j h1 h2 => ?_⟩
  · rw [e0]
    exact h.off hf hb q2 (hbk.undo h4) (fun q => absurd (show (0 : Int32) = 1 from q) (by decide))
  · rw [e0]
    obtain ⟨X, eX⟩ : ∃ z, z = yst M (0 + 24 + f) 2 (-1) := ⟨_, rfl⟩
    have xb : X (0 + 4 + b) = M (0 + 4 + b) := by rw [eX]; exact yst_row (by omega)
    have e1 : enc X 0 B S = ru (enc M 0 B S) (165 + 3 * f + 1) (-1) := by rw [eX]; exact enc_yf (k := 1) hf (by decide)
    rw [← eX, ← xb]
    unfold bUndo
    rw [enc_u10 hb hB, enc_u9 hb hB, enc_u8 hb hB, enc_u7 hb hB (Or.inl rfl), enc_u6 hb hB, enc_u5 hb hB, enc_u4 hb hB, enc_id, e1]
    have e2 : rUp2 (enc M 0 B S) b = ru (ru (enc M 0 B S) (165 + 3 * f + 1) (-1)) (11 * b + 4) (-1) := by
      unfold rUp2
      rw [enc_b4 hb hB, q1, cN_n (by omega)]
    rw [e2]
    have e3 : ∀ r : Rw, rUn r b 5 = ru (ru (ru (ru (ru r (11 * b + 3) 0) (11 * b + 5) 0) (11 * b + 6) 0) (11 * b + 7) 0) (11 * b + 10) 0 := fun r => rfl
    rw [e3]
    rw [ru_cm (a := 11 * b + 3) (b := 11 * b + 4) (by omega), ru_cm (a := 11 * b + 10) (b := 11 * b + 5) (by omega), ru_cm (a := 11 * b + 10) (b := 11 * b + 6) (by omega), ru_cm (a := 11 * b + 10) (b := 11 * b + 7) (by omega)]
  · rw [e0, up_n h1, yst_row (by omega)]
end YSu
