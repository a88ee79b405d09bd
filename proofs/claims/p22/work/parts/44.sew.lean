section YSw
variable {M : yM} {o B S : Nat}
theorem yst_u1 {P : yM} {j k : Nat} {G : Rw} {v : Int32} : yst (va_up P j G) j k v = va_up P j (ru G k v) := by rw [yst_ru, up_s, up_up]
theorem yst_u2 {P : yM} {i j k : Nat} {G : Rw} {v : Int32} (h : i ≠ j) : yst (va_up P j G) i k v = va_up (yst P i k v) j G := by rw [yst_ru, up_n h, yst_ru, up_cm (fun q => h q.symm)]
theorem rSt_enc {b : Nat} {s : Int32} (hb : b < B) (hB : B ≤ 15) : rSt (enc M o B S) (11 * b) s = bSos (M (o + 4 + b)) s := by
  unfold rSt bSos
  rw [enc_b10 hb hB, enc_b0 hb hB]
  by_cases h1 : s = 0
  · by_cases h2 : s = M (o + 4 + b) 1 - 1
    · rw [if_pos h1, if_pos h2, if_pos h2, if_pos h1]
    · rw [if_pos h1, if_neg h2, if_neg h2, if_pos h1, Int32.add_zero]
  · by_cases h2 : s = M (o + 4 + b) 1 - 1
    · rw [if_neg h1, if_pos h2, if_pos h2, if_neg h1, Int32.add_zero]
    · rw [if_neg h1, if_neg h2, if_neg h2, if_neg h1, Int32.add_zero, Int32.add_zero]
theorem rUp_enc {b : Nat} (hb : b < B) (hB : B ≤ 15) : ∀ n, rUp (enc M o B S) (11 * b) n = bSum (M (o + 4 + b)) n := by
  intro n
  induction n with
  | zero => rfl
  | succ n ih => rw [rUp, bSum, ih, rSt_enc hb hB]
/-- the frame's hour of stitches begins with these three numbers -/
theorem stA_tie {f : Nat} (hf : f < 3) : enc (wStA M o f) o B S = rinc (rinc (rdec (enc M o B S) 184 1) (165 + 3 * f + 2) 1) 191 1 := by
  obtain ⟨X, eX⟩ : ∃ z, z = ydec M o 7 1 := ⟨_, rfl⟩
  obtain ⟨Z, eZ⟩ : ∃ z, z = yinc X o 10 1 := ⟨_, rfl⟩
  have e1 : enc X o B S = rdec (enc M o B S) 184 1 := by rw [eX]; exact enc_yo (k := 7) (by decide) (by decide)
  have e2 : enc Z o B S = ru (enc X o B S) 191 (X o 10 + 1) := by rw [eZ]; exact enc_yo (k := 10) (by decide) (by decide)
  have e3 : wStA M o f = yinc Z (o + 24 + f) 3 1 := by rw [eZ, eX]; rfl
  have z3 : Z (o + 24 + f) 3 = X (o + 24 + f) 3 := by rw [eZ]; unfold yinc; rw [yst_row (by omega)]
  rw [e3]
  unfold yinc
  rw [enc_yf (k := 2) hf (by decide), e2, z3, ← e1]
  unfold rinc
  rw [enc_f2 hf, ru_n (by omega), enc_191, ru_cm (by omega)]
theorem stA_Inv {f : Nat} (h : Inv M o B S) (hf : f < 3) : Inv (wStA M o f) o B S := by
  unfold wStA yinc ydec
  exact ((h.sc (by decide)).sc (by decide)).fr hf (Or.inl rfl)
theorem stA_bk {f b : Nat} (hb : b < 15) : wStA M o f (o + 4 + b) = M (o + 4 + b) := by
  unfold wStA yinc ydec
  rw [yst_row (by omega), yst_row (by omega), yst_row (by omega)]
theorem stA_fb {f : Nat} : wStA M o f (o + 24 + f) 2 = M (o + 24 + f) 2 := by
  unfold wStA yinc ydec
  rw [yst_at, if_neg (by decide), yst_row (by omega), yst_row (by omega)]
theorem stA_7 {f : Nat} : wStA M o f o 7 = M o 7 - 1 := by
  unfold wStA yinc ydec
  rw [yst_row (by omega), yst_at, if_neg (by decide), yst_same]
/-- what stands behind a stitch that may have been the book's last -/
def SewR (M : yM) (o B S f b : Nat) (r : Rw) (N : yM) : Prop := r = enc (wSewE N o f b) o B S ∧ Inv (wSewE N o f b) o B S ∧ (bSewn (N (o + 4 + b)) = 0 → N (o + 24 + f) 2 = nI b ∧ N o 7 = M o 7)
theorem sewE_a {f b : Nat} {N : yM} (h : N (o + 4 + b) 8 < N (o + 4 + b) 1) : wSewE N o f b = N ∧ bSewn (N (o + 4 + b)) = 0 := by
  have : bSewn (N (o + 4 + b)) = 0 := by unfold bSewn; rw [if_pos h]
  unfold wSewE
  rw [if_pos this]
  exact ⟨rfl, this⟩
theorem sewE_b {f b : Nat} {N : yM} (h : ¬ N (o + 4 + b) 8 < N (o + 4 + b) 1) : wSewE N o f b = wDryB (yst N (o + 24 + f) 2 (-1)) (o + 4 + b) ∧ ¬ bSewn (N (o + 4 + b)) = 0 := by
  have : ¬ bSewn (N (o + 4 + b)) = 0 := by unfold bSewn; rw [if_neg h]; decide
  unfold wSewE
  rw [if_neg this]
  exact ⟨rfl, this⟩
/-- the end of a stitch that ends a signature: P a workshop whose book b is still as before; N: with the book's row g -/
theorem sew_end {P N : yM} {f b : Nat} {g : Rw} (hP : Inv P o B S) (hf : f < 3) (hb : b < B) (hfb : P (o + 24 + f) 2 = nI b) (h4 : P (o + 4 + b) 4 = 1) (hN : N = va_up P (o + 4 + b) g) (hA : BkA g b) (h9 : g 8 < g 1 → g 9 < bSos g (g 8)) (g4 : g 4 = 1) (g5 : g 5 = P (o + 4 + b) 5) (g12 : g 12 = 0) : SewR P o B S f b (rS5 (enc N o B S) f b) N := by
  have hB := hP.hB
  have eN : N (o + 4 + b) = g := by rw [hN, up_s]
  have eN2 : ∀ j, j ≠ o + 4 + b → N j = P j := fun j hj => by rw [hN, up_n hj]
  unfold SewR
  by_cases hc : g 8 < g 1
  · have hc2 : N (o + 4 + b) 8 < N (o + 4 + b) 1 := by rw [eN]; exact hc
    rw [(sewE_a (f := f) hc2).1]
    have hg : BkO g b := ⟨hA, ⟨1, by decide, g4⟩, fun q => absurd (g4.symm.trans q) (by decide), fun _ => ⟨hc, h9 hc⟩, fun q => absurd (g4.symm.trans q) (by decide), fun _ => g12⟩
    refine ⟨rS5_a (by rw [enc_b5 hb hB, enc_b0 hb hB]; exact hc2), ?_, fun _ => ⟨by rw [eN2 _ (by omega)]; exact hfb, by rw [eN2 _ (by omega)]⟩⟩
    rw [hN]
    exact hP.book hb hg ⟨fun _ => h4, fun _ => g4⟩ (fun _ => g5)
  · have hc2 : ¬ N (o + 4 + b) 8 < N (o + 4 + b) 1 := by rw [eN]; exact hc
    obtain ⟨e1, e2⟩ := sewE_b (f := f) hc2
    rw [e1]
    refine ⟨?_, ?_, fun q => absurd q e2⟩
    · rw [rS5_b (by rw [enc_b5 hb hB, enc_b0 hb hB]; exact hc2)]
      obtain ⟨X, eX⟩ : ∃ z, z = yst N (o + 24 + f) 2 (-1) := ⟨_, rfl⟩
      have e3 : enc X o B S = ru (enc N o B S) (165 + 3 * f + 1) (-1) := by rw [eX]; exact enc_yf (k := 1) hf (by decide)
      have xb : X (o + 4 + b) = N (o + 4 + b) := by rw [eX]; exact yst_row (by omega)
      rw [← eX]
      unfold wDryB bDryB
      rw [enc_u11 hb hB, enc_u5 hb hB, enc_u4 hb hB, enc_id, e3]
      unfold rS4 rS4a
      have et : rTh (ru (ru (enc N o B S) (11 * b + 3) 2) (11 * b + 4) (-1)) (11 * b) = bThick (X (o + 4 + b)) := by
        unfold rTh bThick
        rw [ru_n (by omega), ru_n (by omega), ru_n (by omega), ru_n (by omega), enc_b0 hb hB, enc_b1 hb hB, xb]
      rw [et, ru_cm (a := 11 * b + 8) (by omega), ru_cm (a := 11 * b + 4) (b := 165 + 3 * f + 1) (by omega), ru_cm (a := 11 * b + 3) (b := 165 + 3 * f + 1) (by omega)]
    · have h0 := hP.off (g := bDryB g) hf hb hfb (BkO.dryB hA g12) (by show ¬ (2 : Int32) = 1; decide)
      refine h0.cg (fun j _ _ => ?_)
      unfold wDryB
      by_cases q : j = o + 4 + b
      · subst q
        rw [up_s, up_s, yst_row (by omega), eN]
      · rw [up_n q, up_n q]
        by_cases q2 : j = o + 24 + f
        · subst q2
          funext k
          rw [yst_at, yst_at, eN2 _ q]
        · rw [yst_row q2, yst_row q2, eN2 _ q]
/-- ONE STITCH -/
theorem stitch_tie {f b k : Nat} (h : Inv M o B S) (hf : f < 3) (hb : b < B) (hfb : M (o + 24 + f) 2 = nI b) (h4 : M (o + 4 + b) 4 = 1) : SewR (ydec M o 7 1) o B S f b (rStitch (enc M o B S) f b k) (wStitch M o f b k) := by
  have hB := h.hB
  obtain ⟨P, eP⟩ : ∃ z, z = wStA M o f := ⟨_, rfl⟩
  have hP : Inv P o B S := by rw [eP]; exact stA_Inv h hf
  have p7 : P o 7 = ydec M o 7 1 o 7 := by rw [eP, stA_7]; unfold ydec; rw [yst_same]
  have pfb : P (o + 24 + f) 2 = nI b := by rw [eP, stA_fb]; exact hfb
  have p4 : P (o + 4 + b) 4 = 1 := by rw [eP, stA_bk (by omega)]; exact h4
  obtain ⟨g, eg⟩ : ∃ z, z = P (o + 4 + b) := ⟨_, rfl⟩
  have hbk := hP.bk hb
  rw [← eg] at hbk
  have g4 : g 4 = 1 := by rw [eg]; exact p4
  have g12 : g 12 = 0 := hbk.2.2.2.2.2 (by rw [g4]; decide)
  obtain ⟨a1, a2, a3, a4, a5, a6, a7⟩ := hbk.add g4
  have e1 : rS1 (enc M o B S) f b = enc (va_up P (o + 4 + b) (bInc g)) o B S := by
    unfold rS1 bInc
    rw [enc_u9 hb hB, enc_u7 hb hB (Or.inl rfl), eg, enc_id, ← stA_tie hf, ← eP, rinc, enc_b6 hb hB]
  have e2 : enc (va_up P (o + 4 + b) (bInc g)) o B S (11 * b + 6) = g 9 + 1 := by rw [enc_b6 hb hB, up_s]; rfl
  have e3 : rSt (enc (va_up P (o + 4 + b) (bInc g)) o B S) (11 * b) (enc (va_up P (o + 4 + b) (bInc g)) o B S (11 * b + 5)) = bSos g (g 8) := by
    rw [rSt_enc hb hB, enc_b5 hb hB, up_s]
    exact bSos_cg rfl rfl
  have hR : ∀ {r : Rw} {N : yM}, SewR P o B S f b r N → SewR (ydec M o 7 1) o B S f b r N := fun q => ⟨q.1, q.2.1, fun z => ⟨(q.2.2 z).1, (q.2.2 z).2.trans p7⟩⟩
  have egM : wStA M o f (o + 4 + b) = g := by rw [← eP, eg]
  by_cases hc : bSos g (g 8) ≤ g 9 + 1
  · have hnl : ¬ rS1 (enc M o B S) f b (11 * b + 6) < rSt (rS1 (enc M o B S) f b) (11 * b) (rS1 (enc M o B S) f b (11 * b + 5)) := by
      rw [e1, e2, e3]; exact Int32.not_lt.mpr hc
    have hR0 : ¬ bAddR (wStA M o f (o + 4 + b)) = 0 := by rw [egM]; unfold bAddR; rw [if_pos hc]; decide
    have eA : bAdd g = ru (ru (bInc g) 8 (g 8 + 1)) 9 0 := by unfold bAdd; rw [if_pos hc]
    have eB : wStB M o f b = va_up P (o + 4 + b) (bAdd g) := by unfold wStB wAddB; rw [egM, ← eP]
    have e4 : rS2 (rS1 (enc M o B S) f b) b = enc (wStB M o f b) o B S := by
      rw [e1, eB, eA, enc_u9 hb hB, enc_u8 hb hB]
      unfold rS2 rinc
      rw [ru_n (by omega), enc_b5 hb hB, up_s, ru_cm (by omega)]
      rfl
    by_cases hk : nI k < 10
    · rw [rStitch_b hnl hk, wStitch_b hR0 hk, e4]
      exact hR (sew_end hP hf hb pfb p4 eB a1 a2 a3 (by rw [a4, eg]) (a5.trans g12))
    · rw [rStitch_c hnl hk, wStitch_c hR0 hk, e4]
      obtain ⟨N, eN⟩ : ∃ z, z = wStB M o f b := ⟨_, rfl⟩
      have hP2 : Inv (yst P o 11 (N o 11 + 1)) o B S := hP.sc (by decide)
      have eW : wStC N o b = va_up (yst P o 11 (N o 11 + 1)) (o + 4 + b) (ru (bAdd g) 10 (bAdd g 10 + 1)) := by
        unfold wStC yinc
        have n1 : yst N (o + 4 + b) 10 (N (o + 4 + b) 10 + 1) o 11 = N o 11 := by rw [yst_row (by omega)]
        rw [n1, eN, eB, up_s, yst_u1, yst_u2 (by omega)]
      have e5 : rS3 (enc N o B S) b = enc (wStC N o b) o B S := by
        have h1 : enc (yinc N (o + 4 + b) 10 1) o B S = rinc (enc N o B S) (11 * b + 7) 1 := by
          have h2 : yinc N (o + 4 + b) 10 1 = yst N (o + 4 + b) (fm 7) (N (o + 4 + b) 10 + 1) := rfl
          rw [h2, enc_yb hb hB (by decide), rinc, enc_b7 hb hB]
        have h3 : enc (wStC N o b) o B S = rinc (enc (yinc N (o + 4 + b) 10 1) o B S) 192 1 := by
          have h2 : wStC N o b = yst (yinc N (o + 4 + b) 10 1) o 11 (yinc N (o + 4 + b) 10 1 o 11 + 1) := rfl
          rw [h2, enc_yo (by decide) (by decide)]
          rfl
        rw [h3, h1]
        rfl
      rw [← eN, e5]
      have q7 : yst P o 11 (N o 11 + 1) o 7 = P o 7 := by rw [yst_at, if_neg (by decide)]
      have hE := sew_end (P := yst P o 11 (N o 11 + 1)) (N := wStC N o b) (g := ru (bAdd g) 10 (bAdd g 10 + 1)) hP2 hf hb (by rw [yst_row (by omega)]; exact pfb) (by rw [yst_row (by omega)]; exact p4) eW (a1.cg rfl rfl rfl rfl rfl rfl rfl) (fun q => by rw [bSos_cg (f := ru (bAdd g) 10 (bAdd g 10 + 1)) (g := bAdd g) rfl rfl]; exact a2 q) a3 (by rw [yst_row (by omega), ← eg]; exact a4) (a5.trans g12)
      exact hR ⟨hE.1, hE.2.1, fun z => ⟨(hE.2.2 z).1, (hE.2.2 z).2.trans q7⟩⟩
  · have hl : rS1 (enc M o B S) f b (11 * b + 6) < rSt (rS1 (enc M o B S) f b) (11 * b) (rS1 (enc M o B S) f b (11 * b + 5)) := by
      rw [e1, e2, e3]; exact Int32.not_le.mp hc
    have hR0 : bAddR (wStA M o f (o + 4 + b)) = 0 := by rw [egM]; unfold bAddR; rw [if_neg hc]
    have eA : bAdd g = bInc g := by unfold bAdd; rw [if_neg hc]
    have eB : wStB M o f b = va_up P (o + 4 + b) (bInc g) := by unfold wStB wAddB; rw [egM, ← eP, eA]
    rw [rStitch_a hl, wStitch_a hR0, e1, ← eB]
    have hlt : bInc g 8 < bInc g 1 := (hbk.2.2.2.1 g4).1
    have hr := rS5_a (r := enc (wStB M o f b) o B S) (f := f) (b := b) (by rw [enc_b5 hb hB, enc_b0 hb hB, eB, up_s]; exact hlt)
    rw [← hr]
    rw [eA] at a1 a2 a3 a4 a5
    exact hR (sew_end hP hf hb pfb p4 eB a1 a2 a3 (by rw [a4, eg]) (a5.trans g12))
end YSw
