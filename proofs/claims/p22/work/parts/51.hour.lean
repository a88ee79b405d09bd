section YEh
/-- WHAT STANDS BETWEEN THE LAW'S CALLS, of the workshop at o -/
def Ext (M : yM) (o B S tot cm : Nat) : Prop := Inv M o B S ∧ (∀ b, b < B → BkE (M (o + 4 + b))) ∧ WE M o tot cm 0
variable {M : yM} {o B S tot cm : Nat}
theorem Ext.bkput {b : Nat} {g : Rw} (h : Ext M o B S tot cm) (hb : b < B) (hI : Inv (va_up M (o + 4 + b) g) o B S) (hg : BkE g) : Ext (va_up M (o + 4 + b) g) o B S tot cm := by
  have hB := h.1.hB
  refine ⟨hI, fun c hc => ?_, h.2.2.bk (by omega)⟩
  by_cases q : c = b
  · subst q; rw [up_s]; exact hg
  · rw [up_n (by omega)]; exact h.2.1 c hc
theorem Ext.oput {k : Nat} {v : Int32} (h : Ext M o B S tot cm) (hk : 5 ≤ k) (hW : WE (yst M o k v) o tot cm 0) : Ext (yst M o k v) o B S tot cm := ⟨h.1.sc hk, fun c hc => by rw [yst_row (by omega)]; exact h.2.1 c hc, hW⟩
theorem gild_ext (h : Ext M o B S tot cm) : Ext (wGild M o) o B S tot cm := by
  have hB := h.1.hB
  have hI := (gild_tie h.1).2
  have hw := wFst_B (s := 4) h.1 (by decide)
  cases hq : wFst M o 4 15 with
  | none => rw [← wGild_none hq]; exact h
  | some b =>
    have hb := rFs_lt (hw.symm.trans hq)
    have h4 := wFst_s hq
    rw [wGild_some hq] at hI ⊢
    unfold wGildAt at hI ⊢
    by_cases hc : M o 9 < bLeaves (M (o + 4 + b))
    · rw [if_pos hc]; exact h
    · rw [if_neg hc] at hI ⊢
      have hE := h.2.1 b hb
      obtain ⟨⟨n, n1, n2, en⟩, -⟩ := id hE
      obtain ⟨-, ⟨s, s1, s2, es⟩, -⟩ := (h.1.bk hb).1
      have hsn : s * n ≤ 24 * 8 := Nat.mul_le_mul s2 n2
      have el : bLeaves (M (o + 4 + b)) = nI (1 + s * n / 16) := by
        unfold bLeaves
        rw [bThick_n es en, show (16 : Int32) = nI 16 from rfl, pk_div (by omega) (by decide) (by decide)]
        exact nI_add 1 (s * n / 16)
      obtain ⟨T, W, Lo, b0, g, c, w, h1, h2, h3, h49, h5, h6, h7⟩ := id h.2.2
      rw [el] at hc hI ⊢
      rw [h49.1] at hc
      have hle : 1 + s * n / 16 ≤ g := (nI_leI (by omega) (by omega)).mp (Int32.not_lt.mp hc)
      obtain ⟨X, eX⟩ : ∃ z, z = wPay M o (nI (1 + s * n / 16)) := ⟨_, rfl⟩
      have hX : Ext X o B S tot cm := by
        rw [eX]
        unfold wPay
        rw [h49.1, pk_sub hle]
        exact h.oput (by decide) (h.2.2.gold (by omega))
      rw [← eX] at hI ⊢
      have eb : X (o + 4 + b) = M (o + 4 + b) := by rw [eX]; exact yst_row (by omega)
      unfold wGildB at hI ⊢
      have x4 : X (o + 4 + b) 4 = 4 := by rw [eb]; exact h4
      exact hX.bkput hb hI ((hX.2.1 b hb).gild x4 ((hX.1.bk hb).2.2.2.2.1 x4))
theorem board_ext {b : Nat} (h : Ext M o B S tot cm) (hb : b < B) : Ext (wBd1 M o b) o B S tot cm := by
  have hB := h.1.hB
  have hI := (board_tie h.1 hb).2
  unfold wBd1 at hI ⊢
  by_cases h3 : M (o + 4 + b) 4 = 3
  · rw [if_pos h3] at hI ⊢
    by_cases hc : M o 8 < 2
    · rw [if_pos hc]; exact h
    · rw [if_neg hc] at hI ⊢
      obtain ⟨T, W, Lo, b0, g, c, w, h1, h2, h38, h4, h5, h6, h7⟩ := id h.2.2
      rw [h38.1] at hc
      have hle : 2 ≤ b0 := (nI_leI (a := 2) (by omega) (by omega)).mp (Int32.not_lt.mp hc)
      unfold wBoardAt at hI ⊢
      obtain ⟨X, eX⟩ : ∃ z, z = yst M o 8 (M o 8 - 2) := ⟨_, rfl⟩
      have hX : Ext X o B S tot cm := by
        rw [eX, h38.1]
        have e9 : nI b0 - 2 = nI (b0 - 2) := pk_sub (b := 2) hle
        rw [e9]
        exact h.oput (by decide) (h.2.2.boards (by omega))
      rw [← eX] at hI ⊢
      have x4 : X (o + 4 + b) 4 = 3 := by rw [eX, yst_row (by omega)]; exact h3
      unfold wBoardB at hI ⊢
      exact hX.bkput hb hI ((hX.2.1 b hb).bind x4)
  · rw [if_neg h3]; exact h
theorem boards_ext (h : Ext M o B S tot cm) : ∀ n, n ≤ B → Ext (wBoard M o n) o B S tot cm := by
  intro n
  induction n with
  | zero => intro _; exact h
  | succ n ih => intro hn; exact board_ext (ih (by omega)) (by omega)
theorem dry_ext {b : Nat} (h : Ext M o B S tot cm) (hb : b < B) : Ext (if M (o + 4 + b) 4 = 2 then va_up M (o + 4 + b) (bDryH (M (o + 4 + b))) else M) o B S tot cm := by
  have hI := (dry_tie h.1 hb).2
  by_cases h3 : M (o + 4 + b) 4 = 2
  · rw [if_pos h3] at hI ⊢
    exact h.bkput hb hI ((h.2.1 b hb).dryH h3)
  · rw [if_neg h3]; exact h
theorem drys_ext (h : Ext M o B S tot cm) : ∀ n, n ≤ B → Ext (wDry M o n) o B S tot cm := by
  intro n
  induction n with
  | zero => intro _; exact h
  | succ n ih => intro hn; exact dry_ext (ih (by omega)) (by omega)
theorem pa_ext (h : Ext M o B S tot cm) : Ext (wDry (wBoard (wGild M o) o 15) o 15) o B S tot cm := by
  have h1 := gild_ext h
  have h2 := boards_ext h1 B (Nat.le_refl _)
  have h3 := drys_ext h2 B (Nat.le_refl _)
  rw [boards_B h1.1, drys_B h2.1]
  exact h3
/-! the rows that a stitch writes -/
theorem sewE_b2 {N : yM} {f b c : Nat} (hc : c < 15) : wSewE N o f b (o + 4 + c) = if bSewn (N (o + 4 + b)) = 0 then N (o + 4 + c) else (if c = b then bDryB (N (o + 4 + b)) else N (o + 4 + c)) := by
  unfold wSewE wDryB
  by_cases h : bSewn (N (o + 4 + b)) = 0
  · rw [if_pos h, if_pos h]
  · rw [if_neg h, if_neg h]
    by_cases q : c = b
    · subst q; rw [up_s, if_pos rfl, yst_row (by omega)]
    · rw [if_neg q, up_n (by omega), yst_row (by omega)]
theorem sewE_WE {N : yM} {f b d : Nat} (h : WE N o tot cm d) (hb : b < 15) : WE (wSewE N o f b) o tot cm d := by
  unfold wSewE wDryB
  split
  · exact h
  · exact (h.fr 2 (by decide)).bk hb
theorem stitch_ext {f b k T : Nat} (h : Ext M o B S tot cm) (hf : f < 3) (hb : b < B) (hfb : M (o + 24 + f) 2 = nI b) (h4 : M (o + 4 + b) 4 = 1) (hT : M o 7 = nI (T + 1)) (hT2 : T + 1 ≤ tot) (ht : tot < 2 ^ 20) : Ext (wSewE (wStitch M o f b k) o f b) o B S tot cm := by
  have hB := h.1.hB
  have hI := (stitch_tie (k := k) h.1 hf hb hfb h4).2.1
  obtain ⟨P, eP⟩ : ∃ z, z = wStA M o f := ⟨_, rfl⟩
  have hPW : WE P o tot cm 1 := by rw [eP]; exact h.2.2.stA hf hT (by omega) (by omega)
  have hPb : ∀ c, c < 15 → P (o + 4 + c) = M (o + 4 + c) := fun c hc => by rw [eP]; exact stA_bk hc
  obtain ⟨g, eg⟩ : ∃ z, z = M (o + 4 + b) := ⟨_, rfl⟩
  have hE := h.2.1 b hb
  have hO := h.1.bk hb
  rw [← eg] at hE hO h4
  have egP : wStA M o f (o + 4 + b) = g := by rw [← eP, hPb b (by omega), eg]
  have eB : wStB M o f b = va_up P (o + 4 + b) (bAdd g) := by unfold wStB wAddB; rw [egP, ← eP]
  have key : ∃ G, (G = bAdd g ∨ (G = ru (bAdd g) 10 (bAdd g 10 + 1) ∧ ¬ bAddR g = 0)) ∧ wStitch M o f b k (o + 4 + b) = G ∧ (∀ c, c < 15 → c ≠ b → wStitch M o f b k (o + 4 + c) = M (o + 4 + c)) ∧ WE (wStitch M o f b k) o tot cm 0 := by
    by_cases hr : bAddR g = 0
    · have e : wStitch M o f b k = va_up P (o + 4 + b) (bAdd g) := by rw [wStitch_a (by rw [egP]; exact hr), eB]
      rw [e]
      exact ⟨_, Or.inl rfl, up_s, fun c hc q => by rw [up_n (by omega)]; exact hPb c hc, hPW.lo.bk (by omega)⟩
    · by_cases hk : nI k < 10
      · have e : wStitch M o f b k = va_up P (o + 4 + b) (bAdd g) := by rw [wStitch_b (by rw [egP]; exact hr) hk, eB]
        rw [e]
        exact ⟨_, Or.inl rfl, up_s, fun c hc q => by rw [up_n (by omega)]; exact hPb c hc, hPW.lo.bk (by omega)⟩
      · have e : wStitch M o f b k = yst (va_up P (o + 4 + b) (ru (bAdd g) 10 (bAdd g 10 + 1))) o 11 (va_up P (o + 4 + b) (ru (bAdd g) 10 (bAdd g 10 + 1)) o 11 + 1) := by
          rw [wStitch_c (by rw [egP]; exact hr) hk, eB]
          unfold wStC yinc
          rw [up_s, yst_u1]
        rw [e]
        refine ⟨_, Or.inr ⟨rfl, hr⟩, ?_, fun c hc q => ?_, (hPW.bk (by omega)).loose1⟩
        · rw [yst_row (by omega), up_s]
        · rw [yst_row (by omega), up_n (by omega)]; exact hPb c hc
  obtain ⟨G, hG, e1, e2, e3⟩ := key
  obtain ⟨k1, k2⟩ := hE.add hO h4 hG
  refine ⟨hI, fun c hc => ?_, sewE_WE e3 (by omega)⟩
  rw [sewE_b2 (by omega), e1]
  by_cases hs : bSewn G = 0
  · rw [if_pos hs]
    by_cases q : c = b
    · subst q; rw [e1]; exact k1
    · rw [e2 c (by omega) q]; exact h.2.1 c hc
  · rw [if_neg hs]
    by_cases q : c = b
    · rw [if_pos q]; exact k2 hs
    · rw [if_neg q, e2 c (by omega) q]; exact h.2.1 c hc
theorem sewL_ext {f b T : Nat} (h : Ext M o B S tot cm) (hf : f < 3) (hb : b < B) (hfb : M (o + 24 + f) 2 = nI b) (h4 : M (o + 4 + b) 4 = 1) (hT : M o 7 = nI T) (hT2 : T ≤ tot) (ht : tot < 2 ^ 20) : ∀ n, n ≤ T → Ext (wSewE (wSewL M o f b n) o f b) o B S tot cm := by
  have hB := h.1.hB
  have hcl : (M o 7).toNatClampNeg = T := by rw [hT]; exact nI_clamp (by omega)
  intro n
  induction n with
  | zero =>
    intro _
    have hs := ((h.1.bk hb).2.2.2.1 h4).1
    have e : wSewE M o f b = M := (sewE_a (f := f) hs).1
    show Ext (wSewE M o f b) o B S tot cm
    rw [e]
    exact h
  | succ n ih =>
    intro hn
    have i2 := ih (by omega)
    obtain ⟨-, j2, j3⟩ := sewL_tie h.1 hf hb hfb h4 n (by omega)
    obtain ⟨X, eX⟩ : ∃ z, z = wSewL M o f b n := ⟨_, rfl⟩
    rw [← eX] at i2 j2 j3
    by_cases hs : bSewn (X (o + 4 + b)) = 0
    · obtain ⟨x1, x2⟩ := j3 hs
      have hE : wSewE X o f b = X := by unfold wSewE; rw [if_pos hs]
      rw [hE] at i2 j2
      have e1 : wSewL M o f b (n + 1) = wStitch X o f b (n + 1) := by rw [wSewL_go (by rw [← eX]; exact hs), ← eX]
      have x4 : X (o + 4 + b) 4 = 1 := by
        obtain ⟨b2, hb2, q1, q2, _⟩ := j2.fb hf (by rw [x1]; exact nI_ne1 (by omega))
        have : b = b2 := nI_inj (by omega) (by omega) (x1.symm.trans q1)
        rw [this]
        exact q2
      have x7 : X o 7 = nI ((T - n - 1) + 1) := by rw [x2, hT, pk_sub (by omega)]; congr 1; omega
      rw [e1]
      exact stitch_ext i2 hf hb x1 x4 x7 (by omega) ht
    · have e1 : wSewL M o f b (n + 1) = X := by rw [wSewL, ← eX, if_neg hs]
      rw [e1]
      exact i2
theorem sew_ext (h : Ext M o B S tot cm) {f : Nat} (hf : f < 3) (ht : tot < 2 ^ 20) : Ext (wSew M o f) o B S tot cm := by
  have hB := h.1.hB
  by_cases hn : M (o + 24 + f) 2 = -1
  · rw [wSew_no (Or.inl (by rw [hn]; decide))]; exact h
  · obtain ⟨b, hb, hfb, h4, h5⟩ := h.1.fb hf hn
    have hno : ¬ wNo M o (M (o + 24 + f) 2) := by
      rw [hfb]
      unfold wNo
      rw [h.1.o3]
      intro q
      rcases q with q | q | q
      · exact nI_pos (by omega) q
      · exact nI_ge hb (by omega) q
      · exact nI_ge (show b < 15 by omega) (by omega) q
    rw [wSew_b hno (by omega) hfb, wSewB]
    obtain ⟨T, hT, eT⟩ := h.2.2.thread
    refine sewL_ext h hf hb hfb h4 eT hT ht _ ?_
    have hcl : (M o 7).toNatClampNeg = T := by rw [eT]; exact nI_clamp (by omega)
    rw [← hcl]
    unfold wMost
    split
    · exact Nat.le_refl _
    · rename_i q
      have h1 := Int32.le_iff_toInt_le.mp (Int32.not_lt.mp q)
      have h2 : (wRate M o (M (o + 24 + f) 0)).toNatClampNeg = (wRate M o (M (o + 24 + f) 0)).toInt.toNat := rfl
      have h3 : (M o 7).toNatClampNeg = (M o 7).toInt.toNat := rfl
      omega
theorem sews_ext (h : Ext M o B S tot cm) (ht : tot < 2 ^ 20) : ∀ n, n ≤ 3 → Ext (wSews M o n) o B S tot cm := by
  intro n
  induction n with
  | zero => intro _; exact h
  | succ n ih => intro hn; exact sew_ext (ih (by omega)) (by omega) ht
theorem mount_ext (h : Ext M o B S tot cm) {f : Nat} (hf : f < 3) : Ext (if M (o + 24 + f) 2 = -1 then wMount M o f else M) o B S tot cm := by
  have hB := h.1.hB
  have hI := (mount_tie h.1 hf).2
  by_cases hn : M (o + 24 + f) 2 = -1
  · rw [if_pos hn] at hI ⊢
    have hw := wFst_B (s := 0) h.1 (by decide)
    cases hq : wFst M o 0 15 with
    | none => rw [← wMount_none hq]; exact h
    | some b =>
      have hb := rFs_lt (hw.symm.trans hq)
      have h4 := wFst_s hq
      rw [wMount_some hq] at hI ⊢
      unfold wMountAt at hI ⊢
      refine ⟨hI, fun c hc => ?_, (h.2.2.bk (by omega)).fr 2 (by decide)⟩
      rw [yst_row (by omega)]
      unfold wMountA
      by_cases q : c = b
      · subst q; rw [up_s]; exact (h.2.1 c hc).mount h4
      · rw [up_n (by omega)]; exact h.2.1 c hc
  · rw [if_neg hn]; exact h
theorem mounts_ext (h : Ext M o B S tot cm) : ∀ n, n ≤ 3 → Ext (wMounts M o n) o B S tot cm := by
  intro n
  induction n with
  | zero => intro _; exact h
  | succ n ih => intro hn; exact mount_ext (ih (by omega)) (by omega)
theorem hour_ext (h : Ext M o B S tot cm) (ht : tot < 2 ^ 20) : Ext (wHour M o) o B S tot cm := by
  have h3 := mounts_ext (sews_ext (pa_ext h) ht 3 (Nat.le_refl _)) 3 (Nat.le_refl _)
  unfold wHour wHourA
  refine h3.oput (by decide) (h3.2.2.cg (fun k hk => ?_) (fun f hf => ?_))
  · rw [yst_at, if_neg (by omega)]
  · rw [yst_row (by omega)]
theorem hours_ext (h : Ext M o B S tot cm) (ht : tot < 2 ^ 20) : ∀ n, Ext (wHours M o n) o B S tot cm := by
  intro n
  induction n with
  | zero => exact h
  | succ n ih => exact hour_ext ih ht
end YEh
