section YHr
theorem ru_cm {r : Rw} {a b : Nat} {x y : Int32} (h : a ≠ b) : ru (ru r a x) b y = ru (ru r b y) a x := by
  funext i
  unfold ru
  by_cases h1 : i = a
  · subst h1; rw [if_neg h, if_pos rfl, if_pos rfl]
  · rw [if_neg h1, if_neg h1]
section
variable {M : yM} {o B S : Nat}
theorem rFs_enc {s : Int32} (hB : B ≤ 15) : ∀ n, n ≤ B → rFs (enc M o B S) s n = wFst M o s n := by
  intro n
  induction n with
  | zero => intro _; rfl
  | succ n ih =>
    intro hn
    rw [rFs, wFst, ih (by omega), enc_b3 (by omega) hB]
    cases wFst M o s n <;> rfl
theorem wFst_B (h : Inv M o B S) {s : Int32} (hs : ¬ s = -1) : wFst M o s 15 = rFs (enc M o B S) s B := by
  rw [rFs_enc h.hB B (Nat.le_refl _)]
  have key : ∀ d, B + d ≤ 15 → wFst M o s (B + d) = wFst M o s B := by
    intro d
    induction d with
    | zero => intro _; rfl
    | succ d ih =>
      intro hd
      rw [← Nat.add_assoc, wFst, ih (by omega)]
      cases wFst M o s B with
      | some k => rfl
      | none =>
        show (if M (o + 4 + (B + d)) 4 = s then _ else _) = _
        rw [if_neg]
        rw [h.un (by omega) (by omega)]
        exact fun q => hs q.symm
  have := key (15 - B) (by have := h.hB; omega)
  rwa [show B + (15 - B) = 15 by have := h.hB; omega] at this
theorem wFst_s {s : Int32} : ∀ {n i : Nat}, wFst M o s n = some i → M (o + 4 + i) 4 = s := by
  intro n
  induction n with
  | zero => intro i h; simp [wFst] at h
  | succ n ih =>
    intro i h
    cases hq : wFst M o s n with
    | some k => simp [wFst, hq] at h; subst h; exact ih hq
    | none =>
      simp only [wFst, hq] at h
      split at h
      · cases h; assumption
      · cases h
/-- gilding -/
theorem gild_tie (h : Inv M o B S) : rGild (enc M o B S) B = enc (wGild M o) o B S ∧ Inv (wGild M o) o B S := by
  have hB := h.hB
  have hw := wFst_B (s := 4) h (by decide)
  cases hq : wFst M o 4 15 with
  | none =>
    rw [← wGild_none hq, rGild_n (hw.symm.trans hq)]
    exact ⟨rfl, h⟩
  | some b =>
    have hb := rFs_lt (hw.symm.trans hq)
    have h4 := wFst_s hq
    rw [wGild_some hq, rGild_s (hw.symm.trans hq), wGildAt]
    have el : rLf (enc M o B S) b = bLeaves (M (o + 4 + b)) := by
      unfold rLf rTh bLeaves bThick
      rw [enc_b0 hb hB, enc_b1 hb hB]
    rw [el, enc_186]
    by_cases hc : M o 9 < bLeaves (M (o + 4 + b))
    · rw [if_pos hc, if_neg (Int32.not_le.mpr hc)]
      exact ⟨rfl, h⟩
    · rw [if_neg hc, if_pos (Int32.not_lt.mp hc)]
      obtain ⟨X, eX⟩ : ∃ z, z = wPay M o (bLeaves (M (o + 4 + b))) := ⟨_, rfl⟩
      rw [← eX]
      have hX : Inv X o B S := by rw [eX]; exact h.sc (by decide)
      have eb : X (o + 4 + b) = M (o + 4 + b) := by rw [eX]; exact yst_row (by omega)
      have e1 : rdec (enc M o B S) 186 (bLeaves (M (o + 4 + b))) = enc X o B S := by
        rw [eX]
        exact (enc_yo (k := 9) (by decide) (by decide)).symm
      obtain ⟨g, eg⟩ : ∃ z, z = X (o + 4 + b) := ⟨_, rfl⟩
      have e2 : rGb (enc M o B S) b = enc (va_up X (o + 4 + b) (ru g 12 (g 12 + 1))) o B S := by
        unfold rGb
        rw [el, e1, enc_u12 hb hB, eg, enc_id, rinc, enc_b9 hb hB]
      have hbk := hX.bk hb
      rw [← eg] at hbk
      have g4 : g 4 = 4 := by rw [eg, eb]; exact h4
      have hlt := hbk.2.2.2.2.1 g4
      unfold rGc
      rw [e2, enc_b9 hb hB, enc_b2 hb hB, up_s]
      unfold wGildB
      rw [← eg]
      have hI : Inv (va_up X (o + 4 + b) (bGild g)) o B S := by
        have h9 := hbk.gild g4
        have g1 : ¬ bGild g 4 = 1 := by
          unfold bGild
          split
          · show ¬ g 4 = 1
            rw [g4]; decide
          · show ¬ (5 : Int32) = 1
            decide
        refine hX.book hb h9 ⟨fun q => absurd q g1, fun q => ?_⟩ (fun q => absurd q g1)
        rw [← eg, g4] at q
        exact absurd q (by decide)
      refine ⟨?_, hI⟩
      show (if g 12 + 1 = g 3 then _ else _) = _
      unfold bGild
      by_cases hd : g 12 + 1 < g 3
      · rw [if_pos hd, if_neg (fun q => by rw [q] at hd; exact Int32.lt_irrefl hd)]
      · rw [if_neg hd, if_pos (i32_succ hlt (Int32.not_lt.mp hd)), enc_u4 hb hB]
/-- boards, for one book -/
def wBd1 (X : yM) (o b : Nat) : yM := if X (o + 4 + b) 4 = 3 then (if X o 8 < 2 then X else wBoardAt X o b) else X
theorem board_tie {b : Nat} (h : Inv M o B S) (hb : b < B) : rBd (enc M o B S) (11 * b) = enc (wBd1 M o b) o B S ∧ Inv (wBd1 M o b) o B S := by
  have hB := h.hB
  unfold rBd wBd1
  rw [enc_b3 hb hB, enc_185]
  by_cases h3 : M (o + 4 + b) 4 = 3
  · rw [if_pos h3, if_pos h3]
    by_cases hc : M o 8 < 2
    · rw [if_pos hc, if_neg (Int32.not_le.mpr hc)]
      exact ⟨rfl, h⟩
    · rw [if_neg hc, if_pos (Int32.not_lt.mp hc)]
      obtain ⟨X, eX⟩ : ∃ z, z = yst M o 8 (M o 8 - 2) := ⟨_, rfl⟩
      unfold wBoardAt
      rw [← eX]
      have hX : Inv X o B S := by rw [eX]; exact h.sc (by decide)
      have eb : X (o + 4 + b) = M (o + 4 + b) := by rw [eX]; exact yst_row (by omega)
      have e1 : rdec (enc M o B S) 185 2 = enc X o B S := by
        rw [eX]
        exact (enc_yo (k := 8) (by decide) (by decide)).symm
      rw [e1, enc_b2 hb hB]
      unfold wBoardB bBind
      rw [enc_u4 hb hB, enc_id]
      refine ⟨rfl, ?_⟩
      have hbk := hX.bk hb
      have x4 : X (o + 4 + b) 4 = 3 := by rw [eb]; exact h3
      have g1 : ¬ bBind (X (o + 4 + b)) 4 = 1 := by
        show ¬ (if _ then (5 : Int32) else 4) = 1
        split <;> decide
      refine hX.book hb (hbk.bind x4) ⟨fun q => absurd q g1, fun q => ?_⟩ (fun q => absurd q g1)
      rw [x4] at q
      exact absurd q (by decide)
  · rw [if_neg h3, if_neg h3]
    exact ⟨rfl, h⟩
theorem boards_tie (h : Inv M o B S) : ∀ n, n ≤ B → rBds (enc M o B S) n = enc (wBoard M o n) o B S ∧ Inv (wBoard M o n) o B S := by
  intro n
  induction n with
  | zero => intro _; exact ⟨rfl, h⟩
  | succ n ih =>
    intro hn
    obtain ⟨e, hI⟩ := ih (by omega)
    rw [rBds, e]
    exact board_tie hI (by omega)
theorem boards_B (h : Inv M o B S) : wBoard M o 15 = wBoard M o B := by
  have hI := (boards_tie h B (Nat.le_refl _)).2
  have hB := h.hB
  have key : ∀ d, B + d ≤ 15 → wBoard M o (B + d) = wBoard M o B := by
    intro d
    induction d with
    | zero => intro _; rfl
    | succ d ih =>
      intro hd
      rw [← Nat.add_assoc, wBoard, ih (by omega), if_neg]
      rw [hI.un (by omega) (by omega)]
      decide
  have := key (15 - B) (by omega)
  rwa [show B + (15 - B) = 15 by omega] at this
/-- drying -/
theorem dry_tie {b : Nat} (h : Inv M o B S) (hb : b < B) : rDr (enc M o B S) (11 * b) = enc (if M (o + 4 + b) 4 = 2 then va_up M (o + 4 + b) (bDryH (M (o + 4 + b))) else M) o B S ∧ Inv (if M (o + 4 + b) 4 = 2 then va_up M (o + 4 + b) (bDryH (M (o + 4 + b))) else M) o B S := by
  have hB := h.hB
  unfold rDr
  rw [enc_b3 hb hB]
  by_cases h3 : M (o + 4 + b) 4 = 2
  · rw [if_pos h3, if_pos h3]
    obtain ⟨g, eg⟩ : ∃ z, z = M (o + 4 + b) := ⟨_, rfl⟩
    have e1 : rdec (enc M o B S) (11 * b + 8) 1 = enc (va_up M (o + 4 + b) (ru g 11 (g 11 - 1))) o B S := by
      rw [enc_u11 hb hB, eg, enc_id, rdec, enc_b8 hb hB]
    rw [e1, enc_b8 hb hB, up_s, ← eg]
    rw [← eg] at h3
    have hbk := h.bk hb
    rw [← eg] at hbk
    have g1 : ¬ bDryH g 4 = 1 := by
      unfold bDryH
      split
      · show ¬ (3 : Int32) = 1
        decide
      · show ¬ g 4 = 1
        rw [h3]; decide
    refine ⟨?_, h.book hb (hbk.dryH h3) ⟨fun q => absurd q g1, fun q => ?_⟩ (fun q => absurd q g1)⟩
    · show (if g 11 - 1 = 0 then _ else _) = _
      unfold bDryH
      by_cases hz : g 11 - 1 = 0
      · rw [if_pos hz, if_pos hz, enc_u4 hb hB]
      · rw [if_neg hz, if_neg hz]
    · rw [← eg, h3] at q
      exact absurd q (by decide)
  · rw [if_neg h3, if_neg h3]
    exact ⟨rfl, h⟩
theorem drys_tie (h : Inv M o B S) : ∀ n, n ≤ B → rDrs (enc M o B S) n = enc (wDry M o n) o B S ∧ Inv (wDry M o n) o B S := by
  intro n
  induction n with
  | zero => intro _; exact ⟨rfl, h⟩
  | succ n ih =>
    intro hn
    obtain ⟨e, hI⟩ := ih (by omega)
    rw [rDrs, e]
    exact dry_tie hI (by omega)
theorem drys_B (h : Inv M o B S) : wDry M o 15 = wDry M o B := by
  have hI := (drys_tie h B (Nat.le_refl _)).2
  have hB := h.hB
  have key : ∀ d, B + d ≤ 15 → wDry M o (B + d) = wDry M o B := by
    intro d
    induction d with
    | zero => intro _; rfl
    | succ d ih =>
      intro hd
      rw [← Nat.add_assoc, wDry, ih (by omega), if_neg]
      rw [hI.un (by omega) (by omega)]
      decide
  have := key (15 - B) (by omega)
  rwa [show B + (15 - B) = 15 by omega] at this
theorem pa_tie (h : Inv M o B S) : rPa (enc M o B S) B = enc (wDry (wBoard (wGild M o) o 15) o 15) o B S ∧ Inv (wDry (wBoard (wGild M o) o 15) o 15) o B S := by
  obtain ⟨e1, h1⟩ := gild_tie h
  obtain ⟨e2, h2⟩ := boards_tie h1 B (Nat.le_refl _)
  obtain ⟨e3, h3⟩ := drys_tie h2 B (Nat.le_refl _)
  rw [boards_B h1, drys_B h2]
  refine ⟨?_, h3⟩
  unfold rPa
  rw [e1, e2, e3]
end
end YHr
