section YTi
def LNum (M : yM) : Prop := (∀ b, b < 15 → M (27 + 4 + b) 0 = nI b) ∧ (∀ f, f < 3 → M (27 + 24 + f) 0 = nI f) ∧ (∀ s, s < 5 → M (27 + 19 + s) 0 = nI s)
/-- what holds between two of the law's calls -/
def LInv (M : yM) (B S : Nat) : Prop := Inv M 0 B S ∧ True ∧ LNum M
section
variable {M : yM} {o B S : Nat}
theorem enc_cg {M' : yM} (hB : B ≤ 15) (hS : S ≤ 5) (e : ∀ j, o ≤ j → j < o + 27 → M' j = M j) : enc M' o B S = enc M o B S :=
  enc_eq (fun b hb k _ => by rw [e _ (by omega) (by omega)]) (fun f hf k _ => by rw [e _ (by omega) (by omega)]) (fun s hs k _ => by rw [e _ (by omega) (by omega)]) (fun k _ _ => by rw [e _ (by omega) (by omega)])
theorem Inv.LN (h : Inv M 27 B S) : LNum M := ⟨fun b hb => h.num hb, fun f hf => (h.2.2.2.1 f hf).1, fun s hs => (h.2.2.2.2.2 s hs).1⟩
theorem LNum.cg {M' : yM} (h : LNum M) (e : ∀ j, 27 ≤ j → j < 54 → M' j = M j) : LNum M' := ⟨fun b hb => by rw [e _ (by omega) (by omega)]; exact h.1 b hb, fun b hb => by rw [e _ (by omega) (by omega)]; exact h.2.1 b hb, fun b hb => by rw [e _ (by omega) (by omega)]; exact h.2.2 b hb⟩
/-- the copy -/
theorem bSet_0 {f g : Rw} {k : Nat} (h : 1 ≤ k) (h2 : k ≤ 12) : bSet f g k = g k := by unfold bSet; rw [if_pos ⟨h, h2⟩]
theorem copy_tie (h : Inv M 0 B S) (hn : LNum M) : Inv (wSet M 27 0) 27 B S ∧ enc (wSet M 27 0) 27 B S = enc M 0 B S := by
  have hB := h.hB
  have hS := h.hS
  have eb : ∀ i, i < 15 → ∀ k, 1 ≤ k → k ≤ 12 → wSet M 27 0 (27 + 4 + i) k = M (0 + 4 + i) k := fun i hi k h1 h2 => by
    have e := wCopy_bk (M := M) hi
    unfold wCopy at e
    rw [e]; exact bSet_0 h1 h2
  have eb0 : ∀ i, i < 15 → wSet M 27 0 (27 + 4 + i) 0 = nI i := fun i hi => by
    have e := wCopy_bk (M := M) hi
    unfold wCopy at e
    rw [e]; exact hn.1 i hi
  have ef : ∀ i, i < 3 → ∀ k, 1 ≤ k → k ≤ 3 → wSet M 27 0 (27 + 24 + i) k = M (0 + 24 + i) k := fun i hi k h1 h2 => by
    have e := wCopy_fr (M := M) hi
    unfold wCopy at e
    rw [e]; unfold fSet; rw [if_pos ⟨h1, h2⟩]
  have ef0 : ∀ i, i < 3 → wSet M 27 0 (27 + 24 + i) 0 = nI i := fun i hi => by
    have e := wCopy_fr (M := M) hi
    unfold wCopy at e
    rw [e]; exact hn.2.1 i hi
  have es : ∀ i, i < 5 → ∀ k, 1 ≤ k → k ≤ 2 → wSet M 27 0 (27 + 19 + i) k = M (0 + 19 + i) k := fun i hi k h1 h2 => by
    have e := wCopy_sw (M := M) hi
    unfold wCopy at e
    rw [e]; unfold sSet; rw [if_pos ⟨h1, h2⟩]
  have es0 : ∀ i, i < 5 → wSet M 27 0 (27 + 19 + i) 0 = nI i := fun i hi => by
    have e := wCopy_sw (M := M) hi
    unfold wCopy at e
    rw [e]; exact hn.2.2 i hi
  have ew : ∀ k, 3 ≤ k → k ≤ 11 → wSet M 27 0 27 k = M 0 k := fun k h1 h2 => by
    have e := wCopy_row (M := M)
    unfold wCopy at e
    rw [e]; unfold wRow; rw [if_pos ⟨h1, h2⟩]
  refine ⟨⟨⟨?_, hB, ?_, hS⟩, fun b hb => ?_, fun b hb hb2 => ?_, fun f hf => ?_, fun b hb => ?_, fun s hs => ?_⟩, ?_⟩
  · rw [ew 3 (by decide) (by decide)]; exact h.o3
  · rw [ew 4 (by decide) (by decide)]; exact h.o4
  · obtain ⟨⟨a0, a1, a3, a8, a6, a7⟩, b0, b1, b2, b3, b4⟩ := h.bk hb
    have E : ∀ k, 1 ≤ k → k ≤ 12 → wSet M 27 0 (27 + 4 + b) k = M (0 + 4 + b) k := eb b (by omega)
    refine ⟨⟨eb0 b (by omega), ?_, ?_, ?_, ?_, ?_⟩, ?_, ?_, ?_, ?_, ?_⟩
    · rw [E 1 (by decide) (by decide)]; exact a1
    · rw [E 3 (by decide) (by decide)]; exact a3
    · rw [E 8 (by decide) (by decide)]; exact a8
    · rw [E 6 (by decide) (by decide)]; exact a6
    · rw [E 7 (by decide) (by decide), E 8 (by decide) (by decide), E 9 (by decide) (by decide), bSum_cg (E 1 (by decide) (by decide)) (E 6 (by decide) (by decide))]; exact a7
    · rw [E 4 (by decide) (by decide)]; exact b0
    · rw [E 4 (by decide) (by decide), E 7 (by decide) (by decide), E 8 (by decide) (by decide), E 9 (by decide) (by decide)]; exact b1
    · rw [E 4 (by decide) (by decide), E 8 (by decide) (by decide), E 1 (by decide) (by decide), E 9 (by decide) (by decide), bSos_cg (E 1 (by decide) (by decide)) (E 6 (by decide) (by decide))]; exact b2
    · rw [E 4 (by decide) (by decide), E 12 (by decide) (by decide), E 3 (by decide) (by decide)]; exact b3
    · rw [E 4 (by decide) (by decide), E 12 (by decide) (by decide)]; exact b4
  · obtain ⟨u0, u4, u5, u6, u7, u8, u9, u10, u11, u12⟩ := h.2.2.1 b hb hb2
    have E : ∀ k, 1 ≤ k → k ≤ 12 → wSet M 27 0 (27 + 4 + b) k = M (0 + 4 + b) k := eb b (by omega)
    refine ⟨eb0 b hb2, ?_, ?_, ?_, ?_, ?_, ?_, ?_, ?_, ?_⟩
    · rw [E 4 (by decide) (by decide)]; exact u4
    · rw [E 5 (by decide) (by decide)]; exact u5
    · rw [E 6 (by decide) (by decide)]; exact u6
    · rw [E 7 (by decide) (by decide)]; exact u7
    · rw [E 8 (by decide) (by decide)]; exact u8
    · rw [E 9 (by decide) (by decide)]; exact u9
    · rw [E 10 (by decide) (by decide)]; exact u10
    · rw [E 11 (by decide) (by decide)]; exact u11
    · rw [E 12 (by decide) (by decide)]; exact u12
  · obtain ⟨k1, k2, k3⟩ := h.2.2.2.1 f hf
    refine ⟨ef0 f hf, ?_, ?_⟩
    · rw [ef f hf 1 (by decide) (by decide)]; exact k2
    · rw [ef f hf 2 (by decide) (by decide)]
      rcases k3 with q | ⟨b, hb, q1, q2, q3⟩
      · exact Or.inl q
      · exact Or.inr ⟨b, hb, q1, by rw [eb b (by omega) 4 (by decide) (by decide)]; exact q2, by rw [eb b (by omega) 5 (by decide) (by decide)]; exact q3⟩
  · rw [eb b (by omega) 4 (by decide) (by decide), eb b (by omega) 5 (by decide) (by decide)]
    intro q
    obtain ⟨f, hf, q1, q2⟩ := h.2.2.2.2.1 b hb q
    exact ⟨f, hf, q1, by rw [ef f hf 2 (by decide) (by decide)]; exact q2⟩
  · obtain ⟨k1, k2, k3⟩ := h.2.2.2.2.2 s hs
    refine ⟨es0 s hs, ?_, ?_⟩
    · rw [es s hs 2 (by decide) (by decide)]; exact k2
    · rw [es s hs 1 (by decide) (by decide)]; exact k3
  · refine enc_eq (fun b hb k hk => eb b (by omega) _ ?_ ?_) (fun f hf k hk => ef f hf _ (by omega) (by omega)) (fun s hs k hk => es s (by omega) _ (by omega) (by omega)) (fun k h1 h2 => ew k h1 h2)
    · have := fm_ne7 (k := k); omega
    · unfold fm
      repeat' split
      all_goals omega
/-- the reads -/
theorem rWo_enc {b : Nat} (hb : b < B) (hB : B ≤ 15) : rWo (enc M o B S) (11 * b) = bVal (M (o + 4 + b)) := by
  unfold rWo rWe bVal
  rw [enc_b0 hb hB, enc_b10 hb hB, enc_b9 hb hB, enc_b7 hb hB]
theorem rIn_enc (h : Inv M o B S) {b : Nat} (hb : b < B) : rIn (enc M o B S) (11 * b) = M (o + 4 + b) 7 := by
  have hB := h.hB
  unfold rIn
  rw [enc_b5 hb hB, enc_b6 hb hB, rUp_enc hb hB]
  exact (h.bk hb).1.2.2.2.2.2.symm
theorem rLk_enc (h : Inv M o B S) {s : Int32} (hs : ¬ s = -1) : rLk (enc M o B S) s B = wCnt M o s 15 := by
  have hB := h.hB
  have k1 : ∀ n, n ≤ B → rLk (enc M o B S) s n = wCnt M o s n := by
    intro n
    induction n with
    | zero => intro _; rfl
    | succ n ih =>
      intro hn
      rw [rLk, wCnt, ih (by omega), enc_b3 (by omega) hB]
      by_cases hc : M (o + 4 + n) 4 = s
      · rw [if_pos hc, if_pos hc]
      · rw [if_neg hc, if_neg hc, Int32.add_zero]
  have k2 : ∀ d, B + d ≤ 15 → wCnt M o s (B + d) = wCnt M o s B := by
    intro d
    induction d with
    | zero => intro _; rfl
    | succ d ih =>
      intro hd
      rw [← Nat.add_assoc, wCnt, ih (by omega), if_neg]
      rw [h.un (by omega) (by omega)]
      exact fun q => hs q.symm
  have := k2 (15 - B) (by omega)
  rw [show B + (15 - B) = 15 by omega] at this
  rw [k1 B (Nat.le_refl _), this]
theorem rOt_enc (h : Inv M o B S) {x f : Int32} (hf : ¬ f = -1) : rOt (enc M o B S) x f S = wOth M o f x 5 := by
  have hS := h.hS
  have k1 : ∀ n, n ≤ S → rOt (enc M o B S) x f n = wOth M o f x n := by
    intro n
    induction n with
    | zero => intro _; rfl
    | succ n ih =>
      intro hn
      rw [rOt, wOth, ih (by omega), enc_s1 (by omega) hS, (h.2.2.2.2.2 n (by omega)).1]
      by_cases hc : M (o + 19 + n) 2 = f
      · rw [if_pos hc, if_pos hc]
        by_cases hx : nI n = x
        · rw [if_pos hx, if_pos hx, Int32.add_zero]
        · rw [if_neg hx, if_neg hx]
      · rw [if_neg hc, if_neg hc]
        by_cases hx : nI n = x
        · rw [if_pos hx, Int32.add_zero]
        · rw [if_neg hx, Int32.add_zero]
  rw [(oth_S h (s := x) hf).1, k1 S (Nat.le_refl _)]
theorem rLe_enc (h : Inv M o B S) {f : Nat} (hf : f < 3) : rLe (enc M o B S) (enc M o B S (165 + 3 * f + 1)) = (if M (o + 24 + f) 2 = -1 then 0 else bToSew (M (o + 4 + (M (o + 24 + f) 2).toNatClampNeg))) := by
  have hB := h.hB
  rw [enc_f1 hf]
  by_cases hn : M (o + 24 + f) 2 = -1
  · rw [if_pos hn, hn, rLe, if_neg (by decide)]
  · obtain ⟨b, hb, hfb, _⟩ := h.fb hf hn
    rw [if_neg hn, hfb, rLe, if_pos (nI_pos' (by omega)), cN_n (by omega), nI_clamp (by omega), rIn_enc h hb, enc_b0 hb hB, rUp_enc hb hB]
    rfl
theorem rFT_enc (h : Inv M 0 B S) {f : Nat} {w : Int32} (hf : f < 3) (hw : cN w < 6) (ew : w = nI (cN w)) : rFT (enc M 0 B S) f w S = wTellF M 0 f w := by
  have hB := h.hB
  obtain ⟨k1, k2, k3⟩ := h.2.2.2.1 f hf
  have hno : wNo M 0 (M (0 + 24 + f) 2) ↔ M (0 + 24 + f) 2 = -1 := by
    constructor
    · intro q
      rcases k3 with z | ⟨b, hb, z, _⟩
      · exact z
      · exfalso
        rw [z] at q
        unfold wNo at q
        rw [h.o3] at q
        rcases q with q | q | q
        · exact nI_pos (by omega) q
        · exact nI_ge hb (by omega) q
        · exact nI_ge (show b < 15 by omega) (by omega) q
    · intro z
      rw [z]
      exact Or.inl (by decide)
  generalize cN w = k at hw ew
  rcases (show k = 0 ∨ k = 1 ∨ k = 2 ∨ k = 3 ∨ k = 4 ∨ k = 5 by omega) with rfl | rfl | rfl | rfl | rfl | rfl
  · rw [ew]; show enc M 0 B S (165 + 3 * f + 0) = M (0 + 24 + f) 1; exact enc_f0 hf
  · rw [ew]; show enc M 0 B S (165 + 3 * f + 1) = M (0 + 24 + f) 2; exact enc_f1 hf
  · rw [ew]
    show rOt (enc M 0 B S) (-1) (nI f) S = wOth M 0 (M (0 + 24 + f) 0) (-1) 5
    rw [k1, rOt_enc h (nI_ne1 (by omega))]
  · rw [ew]
    show rRa (enc M 0 B S) (nI f) S = wRate M 0 (M (0 + 24 + f) 0)
    rw [k1, rate_tie h hf]
  · rw [ew]
    have e1 : rFT (enc M 0 B S) f (nI 4) S = rLe (enc M 0 B S) (enc M 0 B S (165 + 3 * f + 1)) := rfl
    rw [e1, rLe_enc h hf]
    by_cases hn : M (0 + 24 + f) 2 = -1
    · rw [if_pos hn]; exact (wTellF_4n (x := nI 4) (hno.mpr hn) rfl).symm
    · obtain ⟨b, hb, hfb, _⟩ := h.fb hf hn
      rw [if_neg hn, hfb, nI_clamp (by omega)]
      exact (wTellF_4b (x := nI 4) (b := b) (fun q => hn (hno.mp q)) (by omega) hfb rfl).symm
  · rw [ew]; show enc M 0 B S (165 + 3 * f + 2) = M (0 + 24 + f) 3; exact enc_f2 hf
theorem rBT_enc (h : Inv M 0 B S) {b : Nat} {w : Int32} (hb : b < B) (hw : cN w < 11) (ew : w = nI (cN w)) : rBT (enc M 0 B S) b w = bTell (M (0 + 4 + b)) w := by
  have hB := h.hB
  generalize cN w = k at hw ew
  rcases (show k = 0 ∨ k = 1 ∨ k = 2 ∨ k = 3 ∨ k = 4 ∨ k = 5 ∨ k = 6 ∨ k = 7 ∨ k = 8 ∨ k = 9 ∨ k = 10 by omega) with rfl | rfl | rfl | rfl | rfl | rfl | rfl | rfl | rfl | rfl | rfl
  · rw [ew]; exact enc_b0 hb hB
  · rw [ew]; exact enc_b1 hb hB
  · rw [ew]; exact enc_b2 hb hB
  · rw [ew]; exact enc_b3 hb hB
  · rw [ew]; exact enc_b4 hb hB
  · rw [ew]; exact enc_b5 hb hB
  · rw [ew]; exact enc_b6 hb hB
  · rw [ew]; exact enc_b7 hb hB
  · rw [ew]; exact enc_b8 hb hB
  · rw [ew]; exact enc_b9 hb hB
  · rw [ew]; exact rWo_enc hb hB
theorem rCo_enc (h : Inv M o B S) {w : Int32} (hw : ¬ w = 1) : rCo (enc M o B S) w B = wTellA M o w := by
  have h9 : ¬ w - 2 = -1 := fun q => hw (by
    have h1 := congrArg (· + 2) q
    simp only [Int32.sub_add_cancel] at h1
    rw [h1]; decide)
  unfold rCo wTellA
  rw [rLk_enc h h9]
  rfl
theorem rCo_1 : rCo (enc M o B S) 1 B = wTellA M o 1 := rfl
theorem rCo_all (h : Inv M o B S) {w : Int32} : rCo (enc M o B S) w B = wTellA M o w := by
  by_cases hw : w = 1
  · subst hw; exact rCo_1
  · exact rCo_enc h hw
end
end YTi
