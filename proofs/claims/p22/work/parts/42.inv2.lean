section YI2
def FrI (M : yM) (o B f : Nat) : Prop := M (o + 24 + f) 0 = nI f ∧ (∃ c, c ≤ 6 ∧ M (o + 24 + f) 1 = nI c) ∧ (M (o + 24 + f) 2 = -1 ∨ ∃ b, b < B ∧ M (o + 24 + f) 2 = nI b ∧ M (o + 4 + b) 4 = 1 ∧ M (o + 4 + b) 5 = nI f)
def SwI (M : yM) (o S s : Nat) : Prop := M (o + 19 + s) 0 = nI s ∧ (S ≤ s → M (o + 19 + s) 2 = -1) ∧ ∃ v, v ≤ 9 ∧ M (o + 19 + s) 1 = nI v
def Inv (M : yM) (o B S : Nat) : Prop := (M o 3 = nI B ∧ B ≤ 15 ∧ M o 4 = nI S ∧ S ≤ 5) ∧ (∀ b, b < B → BkO (M (o + 4 + b)) b) ∧ (∀ b, B ≤ b → b < 15 → BkU (M (o + 4 + b)) b) ∧ (∀ f, f < 3 → FrI M o B f) ∧ (∀ b, b < B → M (o + 4 + b) 4 = 1 → ∃ f, f < 3 ∧ M (o + 4 + b) 5 = nI f ∧ M (o + 24 + f) 2 = nI b) ∧ (∀ s, s < 5 → SwI M o S s)
section
variable {M : yM} {o B S : Nat}
theorem Inv.cg {M' : yM} (h : Inv M o B S) (e : ∀ j, o ≤ j → j < o + 27 → M' j = M j) : Inv M' o B S := by
  obtain ⟨h1, h2, h3, h4, h5, h6⟩ := h
  have hB := h1.2.1
  refine ⟨by rw [e o (by omega) (by omega)]; exact h1, fun b hb => ?_, fun b hb hb2 => ?_, fun f hf => ?_, fun b hb => ?_, fun s hs => ?_⟩
  · rw [e (o + 4 + b) (by omega) (by omega)]; exact h2 b hb
  · rw [e (o + 4 + b) (by omega) (by omega)]; exact h3 b hb hb2
  · obtain ⟨a1, a2, a3⟩ := h4 f hf
    unfold FrI
    rw [e (o + 24 + f) (by omega) (by omega)]
    refine ⟨a1, a2, ?_⟩
    rcases a3 with q | ⟨b, hb, q⟩
    · exact Or.inl q
    · exact Or.inr ⟨b, hb, by rw [e (o + 4 + b) (by omega) (by omega)]; exact q⟩
  · rw [e (o + 4 + b) (by omega) (by omega)]
    intro q
    obtain ⟨f, hf, q1, q2⟩ := h5 b hb q
    exact ⟨f, hf, q1, by rw [e (o + 24 + f) (by omega) (by omega)]; exact q2⟩
  · unfold SwI
    rw [e (o + 19 + s) (by omega) (by omega)]
    exact h6 s hs
theorem Inv.sp (h : Inv M o B S) : wSpOK M o := fun i hi => (h.2.2.2.2.2 i hi).2.2
theorem Inv.o3 (h : Inv M o B S) : M o 3 = nI B := h.1.1
theorem Inv.o4 (h : Inv M o B S) : M o 4 = nI S := h.1.2.2.1
theorem Inv.hB (h : Inv M o B S) : B ≤ 15 := h.1.2.1
theorem Inv.hS (h : Inv M o B S) : S ≤ 5 := h.1.2.2.2
theorem Inv.bk (h : Inv M o B S) {b : Nat} (hb : b < B) : BkO (M (o + 4 + b)) b := h.2.1 b hb
theorem Inv.num (h : Inv M o B S) {b : Nat} (hb : b < 15) : M (o + 4 + b) 0 = nI b := by
  rcases Nat.lt_or_ge b B with q | q
  · exact (h.bk q).1.1
  · exact (h.2.2.1 b q hb).1
theorem Inv.un (h : Inv M o B S) {b : Nat} (hb : B ≤ b) (h15 : b < 15) : M (o + 4 + b) 4 = -1 := (h.2.2.1 b hb h15).2.1
/-- the frame's book -/
theorem Inv.fb (h : Inv M o B S) {f : Nat} (hf : f < 3) (hn : ¬ M (o + 24 + f) 2 = -1) : ∃ b, b < B ∧ M (o + 24 + f) 2 = nI b ∧ M (o + 4 + b) 4 = 1 ∧ M (o + 4 + b) 5 = nI f := by
  rcases (h.2.2.2.1 f hf).2.2 with q | q
  · exact absurd q hn
  · exact q
theorem Inv.sc {k : Nat} {v : Int32} (h : Inv M o B S) (hk : 5 ≤ k) : Inv (yst M o k v) o B S := by
  obtain ⟨h1, h2, h3, h4, h5, h6⟩ := h
  have hB := h1.2.1
  have e : ∀ j, j ≠ o → yst M o k v j = M j := fun j hj => yst_row hj
  refine ⟨by rw [yst_at, if_neg (by omega), yst_at, if_neg (by omega)]; exact h1, fun b hb => ?_, fun b hb hb2 => ?_, fun f hf => ?_, fun b hb => ?_, fun s hs => ?_⟩
  · rw [e _ (by omega)]; exact h2 b hb
  · rw [e _ (by omega)]; exact h3 b hb hb2
  · obtain ⟨a1, a2, a3⟩ := h4 f hf
    unfold FrI
    rw [e (o + 24 + f) (by omega)]
    refine ⟨a1, a2, ?_⟩
    rcases a3 with q | ⟨b, hb, q⟩
    · exact Or.inl q
    · exact Or.inr ⟨b, hb, by rw [e (o + 4 + b) (by omega)]; exact q⟩
  · rw [e _ (by omega)]
    intro q
    obtain ⟨f, hf, q1, q2⟩ := h5 b hb q
    exact ⟨f, hf, q1, by rw [e (o + 24 + f) (by omega)]; exact q2⟩
  · unfold SwI
    rw [e _ (by omega)]
    exact h6 s hs
/-- a book that is, or isn't, on a frame as it was -/
theorem Inv.book {b : Nat} {g : Rw} (h : Inv M o B S) (hb : b < B) (hg : BkO g b) (h1 : g 4 = 1 ↔ M (o + 4 + b) 4 = 1) (h5 : g 4 = 1 → g 5 = M (o + 4 + b) 5) : Inv (va_up M (o + 4 + b) g) o B S := by
  obtain ⟨a1, a2, a3, a4, a5, a6⟩ := h
  have hB := a1.2.1
  refine ⟨by rw [up_n (by omega)]; exact a1, fun c hc => ?_, fun c hc hc2 => ?_, fun f hf => ?_, fun c hc => ?_, fun s hs => ?_⟩
  · by_cases q : c = b
    · subst q; rw [up_s]; exact hg
    · rw [up_n (by omega)]; exact a2 c hc
  · rw [up_n (by omega)]; exact a3 c hc hc2
  · obtain ⟨k1, k2, k3⟩ := a4 f hf
    unfold FrI
    rw [up_n (by omega)]
    refine ⟨k1, k2, ?_⟩
    rcases k3 with q | ⟨c, hc, q1, q2, q3⟩
    · exact Or.inl q
    · refine Or.inr ⟨c, hc, q1, ?_⟩
      by_cases q : c = b
      · subst q; rw [up_s]; exact ⟨h1.mpr q2, (h5 (h1.mpr q2)).trans q3⟩
      · rw [up_n (by omega)]; exact ⟨q2, q3⟩
  · by_cases q : c = b
    · subst q
      rw [up_s]
      intro k
      obtain ⟨f, hf, q1, q2⟩ := a5 c hc (h1.mp k)
      exact ⟨f, hf, (h5 k).trans q1, by rw [up_n (by omega)]; exact q2⟩
    · rw [up_n (by omega)]
      intro k
      obtain ⟨f, hf, q1, q2⟩ := a5 c hc k
      exact ⟨f, hf, q1, by rw [up_n (by omega)]; exact q2⟩
  · unfold SwI
    rw [up_n (by omega)]
    exact a6 s hs
/-- a frame's cords, or what was sewn at it -/
theorem Inv.fr {f k : Nat} {v : Int32} (h : Inv M o B S) (hf : f < 3) (hk : k = 3 ∨ (k = 1 ∧ ∃ c, c ≤ 6 ∧ v = nI c)) : Inv (yst M (o + 24 + f) k v) o B S := by
  obtain ⟨a1, a2, a3, a4, a5, a6⟩ := h
  have hB := a1.2.1
  have e2 : ∀ g, yst M (o + 24 + f) k v (o + 24 + g) 2 = M (o + 24 + g) 2 := fun g => by
    by_cases q : g = f
    · subst q; rw [yst_at, if_neg (by omega)]
    · rw [yst_row (by omega)]
  have e0 : ∀ g, yst M (o + 24 + f) k v (o + 24 + g) 0 = M (o + 24 + g) 0 := fun g => by
    by_cases q : g = f
    · subst q; rw [yst_at, if_neg (by omega)]
    · rw [yst_row (by omega)]
  refine ⟨by rw [yst_row (by omega)]; exact a1, fun c hc => ?_, fun c hc hc2 => ?_, fun g hg => ?_, fun c hc => ?_, fun s hs => ?_⟩
  · rw [yst_row (by omega)]; exact a2 c hc
  · rw [yst_row (by omega)]; exact a3 c hc hc2
  · obtain ⟨k1, k2, k3⟩ := a4 g hg
    unfold FrI
    rw [e0, e2]
    refine ⟨k1, ?_, ?_⟩
    · by_cases q : g = f
      · subst q
        rw [yst_at]
        rcases hk with rfl | ⟨rfl, hv⟩
        · rw [if_neg (by decide)]; exact k2
        · rw [if_pos rfl]; exact hv
      · rw [yst_row (by omega)]; exact k2
    · rcases k3 with q | ⟨c, hc, q⟩
      · exact Or.inl q
      · exact Or.inr ⟨c, hc, by rw [yst_row (by omega)]; exact q⟩
  · rw [yst_row (by omega)]
    intro q
    obtain ⟨g, hg, q1, q2⟩ := a5 c hc q
    exact ⟨g, hg, q1, by rw [e2]; exact q2⟩
  · unfold SwI
    rw [yst_row (by omega)]
    exact a6 s hs
/-- a book comes off its frame -/
theorem Inv.off {f b : Nat} {g : Rw} (h : Inv M o B S) (hf : f < 3) (hb : b < B) (hfb : M (o + 24 + f) 2 = nI b) (hg : BkO g b) (h1 : ¬ g 4 = 1) : Inv (va_up (yst M (o + 24 + f) 2 (-1)) (o + 4 + b) g) o B S := by
  obtain ⟨a1, a2, a3, a4, a5, a6⟩ := h
  have hB := a1.2.1
  have ef : ∀ j, j ≠ o + 4 + b → j ≠ o + 24 + f → va_up (yst M (o + 24 + f) 2 (-1)) (o + 4 + b) g j = M j := fun j q1 q2 => by rw [up_n q1, yst_row q2]
  refine ⟨by rw [ef _ (by omega) (by omega)]; exact a1, fun c hc => ?_, fun c hc hc2 => ?_, fun k hk => ?_, fun c hc => ?_, fun s hs => ?_⟩
  · by_cases q : c = b
    · subst q; rw [up_s]; exact hg
    · rw [ef _ (by omega) (by omega)]; exact a2 c hc
  · rw [ef _ (by omega) (by omega)]; exact a3 c hc hc2
  · obtain ⟨k1, k2, k3⟩ := a4 k hk
    unfold FrI
    by_cases q : k = f
    · subst q
      rw [up_n (by omega), yst_at, if_neg (by decide), yst_at, if_neg (by decide), yst_at, if_pos rfl]
      exact ⟨k1, k2, Or.inl rfl⟩
    · rw [ef (o + 24 + k) (by omega) (by omega)]
      refine ⟨k1, k2, ?_⟩
      rcases k3 with q3 | ⟨c, hc, q1, q2, q3⟩
      · exact Or.inl q3
      · refine Or.inr ⟨c, hc, q1, ?_⟩
        have hcb : c ≠ b := by
          intro e
          subst e
          obtain ⟨f2, hf2, r1, r2⟩ := a5 c hc q2
          have e1 : k = f2 := nI_inj (by omega) (by omega) (q3.symm.trans r1)
          subst e1
          obtain ⟨c2, hc2, s1, s2, s3⟩ : ∃ c2, c2 < B ∧ M (o + 24 + f) 2 = nI c2 ∧ M (o + 4 + c2) 4 = 1 ∧ M (o + 4 + c2) 5 = nI f := by
            rcases (a4 f hf).2.2 with z | z
            · rw [hfb] at z; exact absurd z (nI_ne1 (by omega))
            · exact z
          have e2 : c = c2 := nI_inj (by omega) (by omega) (hfb.symm.trans s1)
          subst e2
          exact q (nI_inj (by omega) (by omega) (q3.symm.trans s3))
        rw [ef _ (by omega) (by omega)]
        exact ⟨q2, q3⟩
  · by_cases q : c = b
    · subst q; rw [up_s]; intro k; exact absurd k h1
    · rw [ef _ (by omega) (by omega)]
      intro k
      obtain ⟨f2, hf2, q1, q2⟩ := a5 c hc k
      refine ⟨f2, hf2, q1, ?_⟩
      have hff : f2 ≠ f := by
        intro e
        subst e
        exact q (nI_inj (by omega) (by omega) (q2.symm.trans hfb))
      rw [ef _ (by omega) (by omega)]
      exact q2
  · unfold SwI
    rw [ef _ (by omega) (by omega)]
    exact a6 s hs
/-- a book comes onto a frame -/
theorem Inv.on {f b : Nat} {g : Rw} (h : Inv M o B S) (hf : f < 3) (hb : b < B) (hfb : M (o + 24 + f) 2 = -1) (h0 : ¬ M (o + 4 + b) 4 = 1) (hg : BkO g b) (h1 : g 4 = 1) (h5 : g 5 = nI f) : Inv (yst (va_up M (o + 4 + b) g) (o + 24 + f) 2 (nI b)) o B S := by
  obtain ⟨a1, a2, a3, a4, a5, a6⟩ := h
  have hB := a1.2.1
  have ef : ∀ j, j ≠ o + 4 + b → j ≠ o + 24 + f → yst (va_up M (o + 4 + b) g) (o + 24 + f) 2 (nI b) j = M j := fun j q1 q2 => by rw [yst_row q2, up_n q1]
  have eb : yst (va_up M (o + 4 + b) g) (o + 24 + f) 2 (nI b) (o + 4 + b) = g := by rw [yst_row (by omega), up_s]
  refine ⟨by rw [ef _ (by omega) (by omega)]; exact a1, fun c hc => ?_, fun c hc hc2 => ?_, fun k hk => ?_, fun c hc => ?_, fun s hs => ?_⟩
  · by_cases q : c = b
    · subst q; rw [eb]; exact hg
    · rw [ef _ (by omega) (by omega)]; exact a2 c hc
  · rw [ef _ (by omega) (by omega)]; exact a3 c hc hc2
  · obtain ⟨k1, k2, k3⟩ := a4 k hk
    unfold FrI
    by_cases q : k = f
    · subst q
      refine ⟨?_, ?_, Or.inr ⟨b, hb, yst_same, by rw [eb]; exact h1, by rw [eb]; exact h5⟩⟩
      · rw [yst_at, if_neg (by decide), up_n (by omega)]; exact k1
      · rw [yst_at, if_neg (by decide), up_n (by omega)]; exact k2
    · rw [ef (o + 24 + k) (by omega) (by omega)]
      refine ⟨k1, k2, ?_⟩
      rcases k3 with q3 | ⟨c, hc, q1, q2, q3⟩
      · exact Or.inl q3
      · have hcb : c ≠ b := fun e => h0 (e ▸ q2)
        exact Or.inr ⟨c, hc, q1, by rw [ef _ (by omega) (by omega)]; exact ⟨q2, q3⟩⟩
  · by_cases q : c = b
    · subst q; intro _; exact ⟨f, hf, by rw [eb]; exact h5, yst_same⟩
    · rw [ef _ (by omega) (by omega)]
      intro k
      obtain ⟨f2, hf2, q1, q2⟩ := a5 c hc k
      have hff : f2 ≠ f := by
        intro e
        subst e
        rw [hfb] at q2
        exact nI_ne1 (by omega) q2.symm
      exact ⟨f2, hf2, q1, by rw [ef _ (by omega) (by omega)]; exact q2⟩
  · unfold SwI
    rw [ef _ (by omega) (by omega)]
    exact a6 s hs
theorem Inv.seat {s : Nat} {v : Int32} (h : Inv M o B S) (hs : s < S) : Inv (yst M (o + 19 + s) 2 v) o B S := by
  obtain ⟨a1, a2, a3, a4, a5, a6⟩ := h
  have hB := a1.2.1
  have hS := a1.2.2.2
  have e : ∀ j, j ≠ o + 19 + s → yst M (o + 19 + s) 2 v j = M j := fun j hj => yst_row hj
  refine ⟨by rw [e _ (by omega)]; exact a1, fun b hb => ?_, fun b hb hb2 => ?_, fun f hf => ?_, fun b hb => ?_, fun t ht => ?_⟩
  · rw [e _ (by omega)]; exact a2 b hb
  · rw [e _ (by omega)]; exact a3 b hb hb2
  · obtain ⟨k1, k2, k3⟩ := a4 f hf
    unfold FrI
    rw [e (o + 24 + f) (by omega)]
    refine ⟨k1, k2, ?_⟩
    rcases k3 with q | ⟨b, hb, q⟩
    · exact Or.inl q
    · exact Or.inr ⟨b, hb, by rw [e (o + 4 + b) (by omega)]; exact q⟩
  · rw [e _ (by omega)]
    intro q
    obtain ⟨f, hf, q1, q2⟩ := a5 b hb q
    exact ⟨f, hf, q1, by rw [e (o + 24 + f) (by omega)]; exact q2⟩
  · obtain ⟨k1, k2, k3⟩ := a6 t ht
    unfold SwI
    by_cases q : t = s
    · subst q
      rw [yst_at, if_neg (by decide), yst_at (b := 1), if_neg (by decide)]
      exact ⟨k1, fun z => by omega, k3⟩
    · rw [e _ (by omega)]; exact ⟨k1, k2, k3⟩
end
end YI2
