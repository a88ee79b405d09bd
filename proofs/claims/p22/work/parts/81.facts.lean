section YFa
variable {M M' : yM} {B tot cm : Nat}
/-! WHAT STANDS BEHIND THE LAW'S ASKING -/
theorem la_fore (h : PI M B 3 tot cm) : ∃ M1 v, mo (forO 3 13) (wHours (wSet M 27 0) 27 (3 : Int32).toNatClampNeg) M = M1 ∧ wTellA (wHours (wSet M 27 0) 27 (3 : Int32).toNatClampNeg) 27 13 = v ∧ nOut M M1 ∧ PI M1 B 3 tot cm ∧ (∀ M', nOut M M' → PI M' B 3 tot cm → wHours M' 0 3 0 10 = v) :=
  ⟨wHours (wSet M 27 0) 27 3, wHours (wSet M 27 0) 27 3 27 10, mo_none (by decide), rfl, W_out 3, h.ask (W_out 3) (W_tie h.L 3).1.LN, fun _ k h' => (fore_n h h' k 3).symm⟩
theorem la_until {k : Nat} (h : PI M B 3 tot cm) (hk : k < B) : ∃ M1, mo (okB M (nI k)) (utM M (cN (nI k))) M = M1 ∧ utR M (cN (nI k)) = utR M k ∧ nOut M M1 ∧ PI M1 B 3 tot cm := by
  have hB := h.I.hB
  obtain ⟨a, b⟩ := ut_LI h.L (b := cN (nI k))
  exact ⟨_, mo_none (okB_i h.I hk), by rw [cN_n (by omega)], a, h.ask a b⟩
theorem la_adv {x : Nat} (h : PI M B 3 tot cm) (hx : x < 3) : ∃ M1 v, mo (okS M (nI x)) (adM M (nI x) 3) M = M1 ∧ adB M (nI x) 3 = v ∧ (v = -1 ∨ ∃ f, f < 3 ∧ v = nI f ∧ sOth M (nI f) x 5 ≤ 1) ∧ nOut M M1 ∧ PI M1 B 3 tot cm := by
  obtain ⟨a, -, b⟩ := ad_LI h.L (x := nI x) (by rw [cN_n (by omega)]; exact hx) 3
  exact ⟨_, _, mo_none (okS_i h.I hx), rfl, ad_n h hx 3 (Nat.le_refl _), a, h.ask a b⟩
theorem la_next (h : PI M B 3 tot cm) : ∃ M1 v, nxM M = M1 ∧ nxR M = v ∧ v < nI B ∧ nOut M M1 ∧ PI M1 B 3 tot cm := by
  obtain ⟨a, b⟩ := nx_LI h.L
  exact ⟨_, _, rfl, rfl, nx_n h, a, h.ask a b⟩
theorem best_n {v : Int32} {P : Nat → Prop} (h : v = -1 ∨ ∃ f, f < 3 ∧ v = nI f ∧ P f) : ¬ v < -1 ∧ ¬ 2 < v := by
  rcases h with q | ⟨f, hf, q, _⟩
  · rw [q]; exact ⟨by decide, by decide⟩
  · rw [q]
    refine ⟨fun z => nI_pos (n := f) (by omega) (Int32.lt_trans z (by decide)), nI_nlt (a := 2) (b := f) (by omega) (by decide)⟩
theorem SR_hours {b S : Nat} (h : Inv M 0 B S) (hb : b < 15) : ∀ n, SR (M (0 + 4 + b) 4) (wHours M 0 n (0 + 4 + b) 4) := by
  intro n
  induction n with
  | zero => exact SR.rf
  | succ n ih => exact ih.tr (SR_hour (hours_tie h n).2 hb)
theorem pass_ge {S : Nat} (h : Inv M 0 B S) (n : Nat) : ¬ wHoursR M 0 n < 0 := by
  rw [hoursR_tie, wCnt_kD, wCnt_kD]
  have h1 := (kD_mono (o := 0) (M := M) (M' := wHours M 0 n) (fun b hb => SR_hours h hb n) 15 (Nat.le_refl _)).1
  have h2 := kD_le (M := wHours M 0 n) (o := 0) 15
  rw [pk_sub h1]
  exact nI_pos (by omega)
theorem many_up {k t : Nat} (ht : cN (M (0 + 4 + k) 4) = t) : upd (fun j => nI (stC M j k)) t (nI (stC M t k) + 1) = fun j => nI (stC M j (k + 1)) := by
  funext j
  by_cases q : j = t
  · subst q
    rw [pk_us, nI_1, stC, if_pos ht]
  · rw [pk_un q, stC, if_neg (fun z => q (z.symm.trans ht))]
theorem tl {k : Nat} {w v : Int32} (hk : k < 15) (e : bTell (M (0 + 4 + k)) w = v) : bTell (M (bkI (nI k))) w = v := by rw [bkI_n hk]; exact e
theorem fl {f : Nat} {w v : Int32} (hf : f < 3) (e : wTellF M 0 f w = v) : wTellF M 0 (cN (nI f)) w = v := by rw [cN_n (by omega)]; exact e
/-- all that the law asks of a book -/
theorem book_f {k : Nat} (h : PI M B 3 tot cm) (hk : k < B) : ∃ t, t ≤ 6 ∧ M (0 + 4 + k) 4 = nI t ∧ (t = 1 → ∃ g, g < 3 ∧ M (0 + 4 + k) 5 = nI g ∧ M (0 + 24 + g) 2 = nI k) ∧ (¬ t = 1 → M (0 + 4 + k) 5 = -1) ∧ (t = 2 → ¬ M (0 + 4 + k) 11 ≤ 0) ∧ (¬ t = 2 → M (0 + 4 + k) 11 = 0) ∧ (¬ M (0 + 4 + k) 1 < M (0 + 4 + k) 8 ∧ ¬ M (0 + 4 + k) 8 < M (0 + 4 + k) 10 ∧ ¬ M (0 + 4 + k) 3 < M (0 + 4 + k) 12 ∧ ¬ bVal (M (0 + 4 + k)) < 1) ∧ (t = 0 → M (0 + 4 + k) 8 = 0 ∧ M (0 + 4 + k) 9 = 0) ∧ (2 ≤ t → M (0 + 4 + k) 8 = M (0 + 4 + k) 1) := by
  have hB := h.I.hB
  have hO := h.I.bk hk
  have hE := h.1.2.1 k hk
  have h5 := h.I.2.2.2.2.1 k hk
  obtain ⟨n, n1, n2, en⟩ := bVal_n hO.1 hE
  obtain ⟨f, ef⟩ : ∃ z, z = M (0 + 4 + k) := ⟨_, rfl⟩
  rw [← ef] at hO hE h5 en ⊢
  obtain ⟨⟨_, ⟨s, s1, s2, es⟩, _⟩, ⟨t, ht, et⟩, b0, b1, _⟩ := hO
  obtain ⟨_, c2, c3, c4, ⟨l, w, lw, w24, el, ew⟩, ⟨g, e, g1, e1, eg, ee⟩, c7⟩ := hE
  have tn : ∀ m, m ≤ 6 → (f 4 = nI m ↔ t = m) := fun m hm => by
    rw [et]
    exact nI_eq (by omega) (by omega)
  have t1 : t = 1 → f 4 = 1 := fun q => (tn 1 (by decide)).mpr q
  have t2 : t = 2 → f 4 = 2 := fun q => (tn 2 (by decide)).mpr q
  have t0 : t = 0 → f 4 = 0 := fun q => (tn 0 (by decide)).mpr q
  have t8 : 2 ≤ t → f 8 = f 1 := fun q => c7 (by rw [et]; exact nI_le (a := 2) q (by omega))
  refine ⟨t, ht, et, fun q => h5 (t1 q), fun q => c4 (fun z => q ((tn 1 (by decide)).mp z)), fun q => ?_, fun q => c3 (fun z => q ((tn 2 (by decide)).mp z)), ⟨?_, ?_, ?_, ?_⟩, fun q => ⟨(b0 (t0 q)).2.1, (b0 (t0 q)).2.2⟩, t8⟩
  · obtain ⟨m, m1, m2, em⟩ := c2 (t2 q)
    rw [em]
    exact nI_nle (by omega) (by omega)
  · rcases (show t = 0 ∨ t = 1 ∨ 2 ≤ t by omega) with q | q | q
    · rw [(b0 (t0 q)).2.1, es]; exact nI_pos (by omega)
    · exact fun z => Int32.lt_irrefl (Int32.lt_trans z (b1 (t1 q)).1)
    · rw [t8 q]; exact Int32.lt_irrefl
  · rw [ew, el]; exact nI_nlt lw (by omega)
  · rw [ee, eg]; exact nI_nlt g1 (by omega)
  · rw [en]; exact nI_nlt (a := n) (b := 1) n1 (by omega)
end YFa
