section YSx
variable {M : yM} {o B S : Nat}
theorem rRN_enc (h : Inv M o B S) {f : Int32} : ∀ n, n ≤ S → rRN (enc M o B S) f n = wOth M o f (-1) n ∧ rRS (enc M o B S) f n = wSpd M o f n := by
  intro n
  induction n with
  | zero => intro _; exact ⟨rfl, rfl⟩
  | succ n ih =>
    intro hn
    have hS := h.hS
    obtain ⟨i1, i2⟩ := ih (by omega)
    rw [rRN, rRS, wOth, wSpd, i1, i2, enc_s1 (by omega) hS, enc_s0 (by omega) hS]
    by_cases hc : M (o + 19 + n) 2 = f
    · rw [if_pos hc, if_pos hc, if_pos hc, if_neg]
      · exact ⟨rfl, rfl⟩
      · rw [(h.2.2.2.2.2 n (by omega)).1]
        exact nI_ne1 (by omega)
    · rw [if_neg hc, if_neg hc, if_neg hc]
      exact ⟨rfl, rfl⟩
theorem oth_S (h : Inv M o B S) {f s : Int32} (hf : ¬ f = -1) : wOth M o f s 5 = wOth M o f s S ∧ wSpd M o f 5 = wSpd M o f S := by
  have hS := h.hS
  have key : ∀ d, S + d ≤ 5 → wOth M o f s (S + d) = wOth M o f s S ∧ wSpd M o f (S + d) = wSpd M o f S := by
    intro d
    induction d with
    | zero => intro _; exact ⟨rfl, rfl⟩
    | succ d ih =>
      intro hd
      obtain ⟨i1, i2⟩ := ih (by omega)
      have hc : ¬ M (o + 19 + (S + d)) 2 = f := by
        rw [(h.2.2.2.2.2 (S + d) (by omega)).2.1 (by omega)]
        exact fun q => hf q.symm
      rw [← Nat.add_assoc, wOth, wSpd, if_neg hc, if_neg hc]
      exact ⟨i1, i2⟩
  have := key (5 - S) (by omega)
  rwa [show S + (5 - S) = 5 by omega] at this
theorem sit_oth (h : Inv M o B S) {f : Int32} : ∀ n, n ≤ 5 → wSit M o f n = wOth M o f (-1) n := by
  intro n
  induction n with
  | zero => intro _; rfl
  | succ n ih =>
    intro hn
    rw [wSit, wOth, ih (by omega)]
    by_cases hc : M (o + 19 + n) 2 = f
    · rw [if_pos hc, if_pos hc, if_neg]
      rw [(h.2.2.2.2.2 n (by omega)).1]
      exact nI_ne1 (by omega)
    · rw [if_neg hc, if_neg hc]
theorem rate_tie (h : Inv M o B S) {f : Nat} (hf : f < 3) : rRa (enc M o B S) (nI f) S = wRate M o (nI f) := by
  obtain ⟨h1, h2⟩ := rRN_enc h (f := nI f) S (Nat.le_refl _)
  obtain ⟨h3, h4⟩ := oth_S h (f := nI f) (s := -1) (nI_ne1 (by omega))
  unfold rRa wRate
  rw [sit_oth h 5 (Nat.le_refl _), h1, h2, h3, h4]
theorem mOK_enc (h : Inv M o B S) : mOK (enc M o B S) B S := by
  refine ⟨h.o3, h.hB, h.o4, h.hS, fun f hf => ?_, fun s hs => ?_⟩
  · rw [enc_f1 hf]
    have hB := h.hB
    rcases (h.2.2.2.1 f hf).2.2 with q | ⟨b, hb, q, _⟩
    · exact Or.inl (by rw [q]; decide)
    · exact Or.inr ⟨b, by omega, q⟩
  · have e := enc_rs (M := M) (o := o) (B := B) (S := S) (k := 0) hs (by decide)
    rw [Nat.add_zero] at e
    rw [e]
    split
    · exact (h.2.2.2.2.2 s hs).2.2
    · exact ⟨0, by decide, rfl⟩
theorem nI_sub {a b : Nat} (h : b ≤ a) (ha : a < 2 ^ 30) : nI a - nI b = nI (a - b) := by
  apply Int32.toInt_inj.mp
  rw [pk_sub_toInt (by omega) (by omega), nI_toInt (by omega)]
  omega
theorem ydec_7 {n T : Nat} (hT : n < T) (hTT : T < 2 ^ 31) : nI T - nI n - 1 = nI T - nI (n + 1) := by
  rw [show nI (n + 1) = nI n + 1 from (nI_add n 1).symm, Int32.sub_sub]
theorem nI_subp {n T : Nat} (hT : n < T) (hTT : T < 2 ^ 31) : ¬ nI T - nI n ≤ 0 := by
  have e : nI T - nI n = nI (T - n) := by
    have h1 : nI T = nI (T - n) + nI n := by rw [nI_add]; congr 1; omega
    rw [h1, Int32.add_sub_cancel]
  rw [e]
  exact nI_ge (a := 0) (by omega) (by omega)
theorem clamp_pos {x : Int32} {n : Nat} (h : n < x.toNatClampNeg) : x = nI x.toNatClampNeg ∧ x.toNatClampNeg < 2 ^ 31 := by
  have h1 : ¬ x < 0 := fun q => by
    have h2 := Int32.lt_iff_toInt_lt.mp q
    have h3 : x.toNatClampNeg = x.toInt.toNat := rfl
    have h4 : (0 : Int32).toInt = 0 := rfl
    omega
  obtain ⟨j, hj, rfl⟩ := nI_of h1
  rw [nI_clamp hj]
  exact ⟨rfl, hj⟩
/-- THE STITCHES OF A FRAME'S HOUR, as long as there is thread -/
theorem sewL_tie (h : Inv M o B S) {f b : Nat} (hf : f < 3) (hb : b < B) (hfb : M (o + 24 + f) 2 = nI b) (h4 : M (o + 4 + b) 4 = 1) : ∀ n, n ≤ (M o 7).toNatClampNeg → rSew (enc M o B S) f n = enc (wSewE (wSewL M o f b n) o f b) o B S ∧ Inv (wSewE (wSewL M o f b n) o f b) o B S ∧ (bSewn (wSewL M o f b n (o + 4 + b)) = 0 → wSewL M o f b n (o + 24 + f) 2 = nI b ∧ wSewL M o f b n o 7 = M o 7 - nI n) := by
  have hB := h.hB
  intro n
  induction n with
  | zero =>
    intro _
    have hs := ((h.bk hb).2.2.2.1 h4).1
    have e : wSewE M o f b = M := (sewE_a (f := f) hs).1
    show enc M o B S = enc (wSewE M o f b) o B S ∧ Inv (wSewE M o f b) o B S ∧ _
    rw [e]
    refine ⟨rfl, h, fun _ => ⟨hfb, ?_⟩⟩
    show M o 7 = M o 7 - nI 0
    rw [show nI 0 = (0 : Int32) from rfl, Int32.sub_zero]
  | succ n ih =>
    intro hn
    obtain ⟨i1, i2, i3⟩ := ih (by omega)
    obtain ⟨X, eX⟩ : ∃ z, z = wSewL M o f b n := ⟨_, rfl⟩
    rw [← eX] at i1 i2 i3
    by_cases hs : bSewn (X (o + 4 + b)) = 0
    · obtain ⟨x1, x2⟩ := i3 hs
      have hE : wSewE X o f b = X := by unfold wSewE; rw [if_pos hs]
      rw [hE] at i1 i2
      have e1 : wSewL M o f b (n + 1) = wStitch X o f b (n + 1) := by rw [wSewL_go (by rw [← eX]; exact hs), ← eX]
      obtain ⟨t1, t2⟩ := clamp_pos (x := M o 7) (n := n) (by omega)
      have r1 : ¬ rSew (enc M o B S) f n (165 + 3 * f + 1) < 0 := by rw [i1, enc_f1 hf, x1]; exact nI_pos (by omega)
      have r2 : ¬ rSew (enc M o B S) f n 184 ≤ 0 := by
        rw [i1, enc_184, x2, t1]
        exact nI_subp (by omega) t2
      have r3 : rSew (enc M o B S) f n (165 + 3 * f + 1) = nI b := by rw [i1, enc_f1 hf, x1]
      have x4 : X (o + 4 + b) 4 = 1 := by
        obtain ⟨b2, hb2, q1, q2, _⟩ := i2.fb hf (by rw [x1]; exact nI_ne1 (by omega))
        have : b = b2 := nI_inj (by omega) (by omega) (x1.symm.trans q1)
        rw [this]
        exact q2
      have key := stitch_tie (k := n + 1) i2 hf hb x1 x4
      rw [rSew_go r1 r2 r3 (by omega), i1, e1]
      refine ⟨key.1, key.2.1, fun q => ⟨(key.2.2 q).1, ?_⟩⟩
      rw [(key.2.2 q).2]
      unfold ydec
      rw [yst_same, x2, t1]
      exact ydec_7 (by omega) t2
    · have e1 : wSewL M o f b (n + 1) = X := by rw [wSewL, ← eX, if_neg hs]
      have e2 : wSewE X o f b = wDryB (yst X (o + 24 + f) 2 (-1)) (o + 4 + b) := by unfold wSewE; rw [if_neg hs]
      have r1 : rSew (enc M o B S) f n (165 + 3 * f + 1) < 0 := by
        rw [i1, enc_f1 hf, e2]
        unfold wDryB
        rw [up_n (by omega), yst_same]
        decide
      rw [rSew_a r1 1, e1]
      exact ⟨i1, i2, fun q => absurd q hs⟩
theorem sew_tie (h : Inv M o B S) {f : Nat} (hf : f < 3) : rSw (enc M o B S) f S = enc (wSew M o f) o B S ∧ Inv (wSew M o f) o B S := by
  have hB := h.hB
  by_cases hn : M (o + 24 + f) 2 = -1
  · have hno : wNo M o (M (o + 24 + f) 2) := Or.inl (by rw [hn]; decide)
    rw [wSew_no hno]
    refine ⟨?_, h⟩
    unfold rSw
    have r1 : rSew (enc M o B S) f 0 (165 + 3 * f + 1) < 0 := by
      show enc M o B S (165 + 3 * f + 1) < 0
      rw [enc_f1 hf, hn]
      decide
    have := rSew_a r1 (rRa (enc M o B S) (nI f) S).toNatClampNeg
    rw [Nat.zero_add] at this
    rw [this]
    rfl
  · obtain ⟨b, hb, hfb, h4, h5⟩ := h.fb hf hn
    have hno : ¬ wNo M o (M (o + 24 + f) 2) := by
      rw [hfb]
      unfold wNo
      rw [h.o3]
      intro q
      rcases q with q | q | q
      · exact nI_pos (by omega) q
      · exact nI_ge hb (by omega) q
      · exact nI_ge (show b < 15 by omega) (by omega) q
    rw [wSew_b hno (by omega) hfb, wSewB]
    obtain ⟨f0, hf0⟩ : ∃ z, z = wRate M o (nI f) := ⟨_, rfl⟩
    have er := rate_tie h hf
    have em : wMost M o f = if M o 7 < f0 then M o 7 else f0 := by
      unfold wMost
      rw [(h.2.2.2.1 f hf).1, hf0]
    have hcl : (wMost M o f).toNatClampNeg ≤ (M o 7).toNatClampNeg := by
      rw [em]
      split
      · exact Nat.le_refl _
      · rename_i q
        have h1 := Int32.le_iff_toInt_le.mp (Int32.not_lt.mp q)
        have h2 : f0.toNatClampNeg = f0.toInt.toNat := rfl
        have h3 : (M o 7).toNatClampNeg = (M o 7).toInt.toNat := rfl
        omega
    obtain ⟨k1, k2, k3⟩ := sewL_tie h hf hb hfb h4 _ hcl
    obtain ⟨N, eN⟩ : ∃ z, z = (wMost M o f).toNatClampNeg := ⟨_, rfl⟩
    rw [← eN] at k1 k2 k3 ⊢
    refine ⟨?_, k2⟩
    rw [← k1]
    unfold rSw
    rw [er, ← hf0]
    by_cases hc : M o 7 < f0
    · have eN2 : N = (M o 7).toNatClampNeg := by rw [eN, em, if_pos hc]
      have hle : N ≤ f0.toNatClampNeg := by
        have h1 := Int32.lt_iff_toInt_lt.mp hc
        have h2 : f0.toNatClampNeg = f0.toInt.toNat := rfl
        have h3 : (M o 7).toNatClampNeg = (M o 7).toInt.toNat := rfl
        omega
      have hst : ∀ d, rSew (enc M o B S) f (N + d) = rSew (enc M o B S) f N := by
        by_cases hs : bSewn (wSewL M o f b N (o + 4 + b)) = 0
        · refine rSew_b ?_
          have hE : wSewE (wSewL M o f b N) o f b = wSewL M o f b N := by unfold wSewE; rw [if_pos hs]
          rw [k1, hE, enc_184, (k3 hs).2]
          by_cases hz : M o 7 < 0
          · have hN0 : N = 0 := by
              have h2 := Int32.lt_iff_toInt_lt.mp hz
              have h3 : (M o 7).toNatClampNeg = (M o 7).toInt.toNat := rfl
              have h4 : (0 : Int32).toInt = 0 := rfl
              omega
            rw [hN0, show nI 0 = (0 : Int32) from rfl, Int32.sub_zero]
            exact Int32.le_of_lt hz
          · obtain ⟨j, hj, e⟩ := nI_of hz
            rw [eN2, e, nI_clamp hj, Int32.sub_self]
            exact Int32.le_refl _
        · refine rSew_a ?_
          have e2 : wSewE (wSewL M o f b N) o f b = wDryB (yst (wSewL M o f b N) (o + 24 + f) 2 (-1)) (o + 4 + b) := by unfold wSewE; rw [if_neg hs]
          rw [k1, enc_f1 hf, e2]
          unfold wDryB
          rw [up_n (by omega), yst_same]
          decide
      have := hst (f0.toNatClampNeg - N)
      rwa [show N + (f0.toNatClampNeg - N) = f0.toNatClampNeg by omega] at this
    · have eN2 : N = f0.toNatClampNeg := by rw [eN, em, if_neg hc]
      rw [eN2]
theorem sews_tie (h : Inv M o B S) : ∀ n, n ≤ 3 → rSws (enc M o B S) S n = enc (wSews M o n) o B S ∧ Inv (wSews M o n) o B S := by
  intro n
  induction n with
  | zero => intro _; exact ⟨rfl, h⟩
  | succ n ih =>
    intro hn
    obtain ⟨e, hI⟩ := ih (by omega)
    rw [rSws, e]
    exact sew_tie hI (by omega)
/-- mounting -/
theorem mount_tie (h : Inv M o B S) {f : Nat} (hf : f < 3) : rMt (enc M o B S) f B = enc (if M (o + 24 + f) 2 = -1 then wMount M o f else M) o B S ∧ Inv (if M (o + 24 + f) 2 = -1 then wMount M o f else M) o B S := by
  have hB := h.hB
  by_cases hn : M (o + 24 + f) 2 = -1
  · rw [if_pos hn]
    have h0 : ¬ 0 ≤ enc M o B S (165 + 3 * f + 1) := by rw [enc_f1 hf, hn]; decide
    have hw := wFst_B (s := 0) h (by decide)
    cases hq : wFst M o 0 15 with
    | none =>
      rw [← wMount_none hq, rMt_n h0 (hw.symm.trans hq)]
      exact ⟨rfl, h⟩
    | some b =>
      have hb := rFs_lt (hw.symm.trans hq)
      have h4 := wFst_s hq
      rw [wMount_some hq, rMt_s h0 (hw.symm.trans hq)]
      obtain ⟨k1, ⟨c, hc, k2⟩, _⟩ := h.2.2.2.1 f hf
      have hbk := h.bk hb
      have enum : wMountA M o f b (o + 4 + b) 0 = nI b := by
        unfold wMountA
        rw [up_s]
        exact hbk.1.1
      unfold wMountAt
      rw [enum]
      unfold wMountA
      rw [k1, k2]
      refine ⟨?_, h.on hf hb hn (by rw [h4]; decide) (hbk.mount h4 hc) rfl rfl⟩
      have e1 := enc_yf (M := va_up M (o + 4 + b) (bMount (M (o + 4 + b)) (nI f) (nI c))) (o := o) (B := B) (S := S) (k := 1) (v := nI b) hf (by decide)
      rw [e1]
      unfold bMount
      rw [enc_u6 hb hB, enc_u5 hb hB, enc_u4 hb hB, enc_id]
      unfold rMa
      rw [ru_n (by omega), ru_n (by omega), ru_n (by omega), enc_f0 hf, k2, ru_cm (a := 11 * b + 10) (by omega), ru_cm (a := 11 * b + 4) (b := 165 + 3 * f + 1) (by omega), ru_cm (a := 11 * b + 3) (b := 165 + 3 * f + 1) (by omega)]
  · rw [if_neg hn]
    obtain ⟨b, hb, hfb, _⟩ := h.fb hf hn
    rw [rMt_f (by rw [enc_f1 hf, hfb]; exact nI_pos' (by omega))]
    exact ⟨rfl, h⟩
theorem mounts_tie (h : Inv M o B S) : ∀ n, n ≤ 3 → rMts (enc M o B S) B n = enc (wMounts M o n) o B S ∧ Inv (wMounts M o n) o B S := by
  intro n
  induction n with
  | zero => intro _; exact ⟨rfl, h⟩
  | succ n ih =>
    intro hn
    obtain ⟨e, hI⟩ := ih (by omega)
    rw [rMts, e]
    exact mount_tie hI (by omega)
/-- AN HOUR -/
theorem hour_tie (h : Inv M o B S) : rPass (enc M o B S) B S = enc (wHour M o) o B S ∧ Inv (wHour M o) o B S := by
  obtain ⟨e1, h1⟩ := pa_tie h
  obtain ⟨e2, h2⟩ := sews_tie h1 3 (Nat.le_refl _)
  obtain ⟨e3, h3⟩ := mounts_tie h2 3 (Nat.le_refl _)
  unfold rPass wHour wHourA
  rw [e1, e2, e3]
  exact ⟨(enc_yo (k := 5) (by decide) (by decide)).symm, h3.sc (by decide)⟩
theorem hours_tie (h : Inv M o B S) : ∀ n, rHours (enc M o B S) B S n = enc (wHours M o n) o B S ∧ Inv (wHours M o n) o B S := by
  intro n
  induction n with
  | zero => exact ⟨rfl, h⟩
  | succ n ih =>
    rw [rHours, ih.1]
    exact hour_tie ih.2
end YSx
