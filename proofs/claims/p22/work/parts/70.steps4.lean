section YSw2
variable {M : yM} {o B S : Nat}
/-- next -/
theorem nx_true (h : LInv M B S) {n : Nat} : nxP M (n + 1) = true ↔ ∃ b, b < 15 ∧ wHours (wSet M 27 0) 27 (n + 1) (27 + 4 + b) 4 = 5 ∧ ¬ wHours (wSet M 27 0) 27 n (27 + 4 + b) 4 = 5 := by
  have k := hourR_le (W_tie h n).1
  have e : nxP M (n + 1) = !decide (wHourR (wHours (wSet M 27 0) 27 n) 27 ≤ 0) := rfl
  rw [e]
  constructor
  · intro q
    have q1 : ¬ wHourR (wHours (wSet M 27 0) 27 n) 27 ≤ 0 := fun z => by rw [decide_eq_true z] at q; cases q
    rw [k] at q1
    apply Classical.byContradiction
    intro z
    exact q1 (fun b hb hc => Classical.byContradiction fun w => z ⟨b, hb, hc, w⟩)
  · rintro ⟨b, hb, h1, h2⟩
    have q1 : ¬ wHourR (wHours (wSet M 27 0) 27 n) 27 ≤ 0 := fun z => h2 (k.mp z b hb h1)
    rw [decide_eq_false q1]
    rfl
theorem W_stay (h : LInv M B S) {b : Nat} (hb : b < 15) {j : Nat} (h5 : 5 ≤ wHours (wSet M 27 0) 27 j (27 + 4 + b) 4) : ∀ d, wHours (wSet M 27 0) 27 (j + d) (27 + 4 + b) 4 = wHours (wSet M 27 0) 27 j (27 + 4 + b) 4 := by
  intro d
  induction d with
  | zero => rfl
  | succ d ih =>
    have k := W_SR h hb (j + d)
    rw [← Nat.add_assoc, k.1 (by rw [ih]; exact h5), ih]
theorem nx_A (h : LInv M B S) {b k : Nat} (hb : b < 15) (h5 : M (0 + 4 + b) 4 < 5) (hu : utH M b = some k) : 1 ≤ k ∧ k ≤ 250 ∧ nxP M k = true ∧ wHours (wSet M 27 0) 27 k (27 + 4 + b) 4 = 5 := by
  obtain ⟨a, c, d, e⟩ := hF_spec hu
  have d' := of_decide_eq_true d
  refine ⟨a, c, ?_, d'⟩
  obtain ⟨n, rfl⟩ : ∃ n, k = n + 1 := ⟨k - 1, by omega⟩
  refine (nx_true h).mpr ⟨b, hb, d', ?_⟩
  by_cases z : n = 0
  · subst z
    show ¬ wSet M 27 0 (27 + 4 + b) 4 = 5
    rw [W_0 h hb]
    intro q
    rw [q] at h5
    exact absurd h5 (by decide)
  · exact of_decide_eq_false (e n (by omega) (by omega))
theorem nx_B (h : LInv M B S) {k : Nat} (h1 : 1 ≤ k) (h2 : k ≤ 250) (hp : nxP M k = true) : ∃ b, b < B ∧ M (0 + 4 + b) 4 < 5 ∧ utH M b = some k := by
  obtain ⟨n, rfl⟩ : ∃ n, k = n + 1 := ⟨k - 1, by omega⟩
  obtain ⟨b, hb, e1, e2⟩ := (nx_true h).mp hp
  have hnot : ∀ j, j ≤ n → ¬ wHours (wSet M 27 0) 27 j (27 + 4 + b) 4 = 5 := fun j hj q => by
    have := W_stay h hb (j := j) (by rw [q]; exact Int32.le_refl _) (n - j)
    rw [show j + (n - j) = n by omega, q] at this
    exact e2 this
  have h5 : M (0 + 4 + b) 4 < 5 := by
    apply Classical.byContradiction
    intro q
    have q' := Int32.not_lt.mp q
    have w0 : wHours (wSet M 27 0) 27 0 (27 + 4 + b) 4 = M (0 + 4 + b) 4 := W_0 h hb
    have s1 := W_stay h hb (j := 0) (by rw [w0]; exact q') (n + 1)
    rw [Nat.zero_add] at s1
    exact hnot 0 (Nat.zero_le _) (s1.symm.trans e1)
  refine ⟨b, ?_, h5, hF_intro h1 h2 (decide_eq_true e1) (fun j g1 g2 => decide_eq_false (hnot j (by omega)))⟩
  rcases Nat.lt_or_ge b B with q | q
  · exact q
  · exfalso
    have := (W_tie h (n + 1)).1.un q hb
    rw [e1] at this
    exact absurd this (by decide)
theorem fdA_in {M' : yM} {b : Nat} (hn : ∀ c, c < b → ¬ (M' (0 + 4 + c) 4 < 5 ∧ M' (27 + 4 + c) 4 = 5)) (h1 : M' (0 + 4 + b) 4 < 5) (h2 : M' (27 + 4 + b) 4 = 5) (hb : b < 15) : fdR M' = nI b := by
  have k : ∀ n, n ≤ b → fdA M' n = none := by
    intro n
    induction n with
    | zero => intro _; rfl
    | succ n ih =>
      intro hle
      have z := hn n (by omega)
      by_cases c1 : M' (0 + 4 + n) 4 < 5
      · exact fdA_b (ih (by omega)) (fun q => z ⟨c1, q⟩)
      · exact fdA_a (ih (by omega)) c1
  exact fdA_s (k b (Nat.le_refl _)) h1 h2 hb
def NxI (M : yM) (B S n : Nat) : Prop := ((∀ c, c < n → M (0 + 4 + c) 4 < 5 → utH M c = none) ∧ mnS (enc M 0 B S) B S n = nI 251 ∧ mnB (enc M 0 B S) B S n = -1) ∨ (∃ b k, b < n ∧ M (0 + 4 + b) 4 < 5 ∧ utH M b = some k ∧ mnS (enc M 0 B S) B S n = nI k ∧ mnB (enc M 0 B S) B S n = nI b ∧ (∀ c, c < n → M (0 + 4 + c) 4 < 5 → ∀ j, utH M c = some j → k ≤ j) ∧ (∀ c, c < b → M (0 + 4 + c) 4 < 5 → ∀ j, utH M c = some j → k < j))
theorem nx_fold (h : LInv M B S) : ∀ n, n ≤ B → NxI M B S n := by
  have hB := h.1.hB
  intro n
  induction n with
  | zero => intro _; exact Or.inl ⟨fun c hc => absurd hc (Nat.not_lt_zero _), rfl, rfl⟩
  | succ n ih =>
    intro hn
    have i := ih (by omega)
    have eo : mnO (enc M 0 B S) B S n = if M (0 + 4 + n) 4 < 5 then hR (utH M n) else -1 := by
      unfold mnO
      rw [enc_b3 (by omega) hB]
      by_cases h5 : M (0 + 4 + n) 4 < 5
      · rw [if_pos h5, if_pos h5, until_tie h (by omega)]
        unfold utR
        rw [if_pos h5]
      · rw [if_neg h5, if_neg h5]
    -- nothing new
    have skip : mnO (enc M 0 B S) B S n < 0 → (M (0 + 4 + n) 4 < 5 → utH M n = none) → NxI M B S (n + 1) := by
      intro q1 q2
      have e1 : mnS (enc M 0 B S) B S (n + 1) = mnS (enc M 0 B S) B S n := by rw [mnS, if_pos q1]
      have e2 : mnB (enc M 0 B S) B S (n + 1) = mnB (enc M 0 B S) B S n := by rw [mnB, if_pos q1]
      rcases i with ⟨a1, a2, a3⟩ | ⟨b, k, b1, b2, b3, b4, b5, b6, b7⟩
      · refine Or.inl ⟨fun c hc h5 => ?_, e1.trans a2, e2.trans a3⟩
        by_cases z : c = n
        · subst z; exact q2 h5
        · exact a1 c (by omega) h5
      · refine Or.inr ⟨b, k, by omega, b2, b3, e1.trans b4, e2.trans b5, fun c hc h5 j hj => ?_, b7⟩
        by_cases z : c = n
        · subst z; rw [q2 h5] at hj; cases hj
        · exact b6 c (by omega) h5 j hj
    by_cases h5 : M (0 + 4 + n) 4 < 5
    · cases hu : utH M n with
      | none =>
        refine skip ?_ (fun _ => hu)
        rw [eo, if_pos h5, hu]
        decide
      | some k =>
        obtain ⟨k1, k2, _⟩ := nx_A h (by omega) h5 hu
        have e0 : mnO (enc M 0 B S) B S n = nI k := by rw [eo, if_pos h5, hu]; rfl
        have p0 : ¬ mnO (enc M 0 B S) B S n < 0 := by rw [e0]; exact nI_pos (by omega)
        have take : mnO (enc M 0 B S) B S n < mnS (enc M 0 B S) B S n → (∀ c, c < n → M (0 + 4 + c) 4 < 5 → ∀ j, utH M c = some j → k < j) → NxI M B S (n + 1) := by
          intro q1 q2
          refine Or.inr ⟨n, k, by omega, h5, hu, by rw [mnS, if_neg p0, if_pos q1]; exact e0, by rw [mnB, if_neg p0, if_pos q1], fun c hc g5 j hj => ?_, q2⟩
          by_cases z : c = n
          · subst z; rw [hu] at hj; cases hj; exact Nat.le_refl _
          · exact Nat.le_of_lt (q2 c (by omega) g5 j hj)
        rcases i with ⟨a1, a2, a3⟩ | ⟨b, k', b1, b2, b3, b4, b5, b6, b7⟩
        · exact take (by rw [e0, a2]; exact nI_lt (by omega) (by decide)) (fun c hc g5 j hj => by rw [a1 c hc g5] at hj; cases hj)
        · obtain ⟨k'1, k'2, _⟩ := nx_A h (by omega) b2 b3
          by_cases q : k < k'
          · exact take (by rw [e0, b4]; exact nI_lt q (by omega)) (fun c hc g5 j hj => Nat.lt_of_lt_of_le q (b6 c hc g5 j hj))
          · have q1 : ¬ mnO (enc M 0 B S) B S n < mnS (enc M 0 B S) B S n := by
              rw [e0, b4]
              intro z
              exact q ((nI_ltI (by omega) (by omega)).mp z)
            refine Or.inr ⟨b, k', by omega, b2, b3, by rw [mnS, if_neg p0, if_neg q1]; exact b4, by rw [mnB, if_neg p0, if_neg q1]; exact b5, fun c hc g5 j hj => ?_, b7⟩
            by_cases z : c = n
            · subst z; rw [hu] at hj; cases hj; omega
            · exact b6 c (by omega) g5 j hj
    · refine skip ?_ (fun z => absurd z h5)
      rw [eo, if_neg h5]
      decide
theorem next_tie (h : LInv M B S) : mnB (enc M 0 B S) B S B = nxR M := by
  have hB := h.1.hB
  rcases nx_fold h B (Nat.le_refl _) with ⟨a1, a2, a3⟩ | ⟨b, k, b1, b2, b3, b4, b5, b6, b7⟩
  · have e : nxH M = none := hF_introN (fun j h1 h2 => by
      cases hp : nxP M j with
      | false => rfl
      | true =>
        obtain ⟨b, c1, c2, c3⟩ := nx_B h h1 h2 hp
        rw [a1 b c1 c2] at c3
        cases c3)
    unfold nxR
    rw [e, a3]
  · obtain ⟨k1, k2, k3, k4⟩ := nx_A h (by omega) b2 b3
    have e : nxH M = some k := hF_intro k1 k2 k3 (fun j h1 h2 => by
      cases hp : nxP M j with
      | false => rfl
      | true =>
        obtain ⟨c, c1, c2, c3⟩ := nx_B h h1 (by omega) hp
        have := b6 c c1 c2 j c3
        omega)
    unfold nxR
    rw [e, b5]
    have ho := W_out (M := M) k
    refine (fdA_in (fun c hc z => ?_) (by rw [ho (0 + 4 + b) (by omega)]; exact b2) k4 (by omega)).symm
    rw [ho (0 + 4 + c) (by omega)] at z
    cases hu : utH M c with
    | none =>
      have := hF_none hu k k1 k2
      unfold utP at this
      rw [decide_eq_true z.2] at this
      cases this
    | some j =>
      have g1 := b7 c hc z.1 j hu
      obtain ⟨_, _, _, d⟩ := hF_spec hu
      have := d k k1 g1
      unfold utP at this
      rw [decide_eq_true z.2] at this
      cases this
theorem nx_LI (h : LInv M B S) : nOut M (nxM M) ∧ LNum (nxM M) := by
  unfold nxM
  exact ⟨W_out _, (W_tie h _).1.LN⟩
/-- advise -/
theorem ad_LI (h : LInv M B S) {x : Int32} (hx : cN x < S) : ∀ n, nOut M (adM M x n) ∧ Inv (adM M x n) 0 B S ∧ LNum (adM M x n) := by
  have hS := h.1.hS
  intro n
  induction n with
  | zero => exact ⟨fun _ _ => rfl, h.1, h.2.2⟩
  | succ n ih =>
    obtain ⟨i1, i2, i3⟩ := ih
    rw [adM]
    split
    · exact ⟨i1, i2, i3⟩
    · have h1 := (copy_tie i2 i3).1
      have h2 : Inv (saA (adM M x n) (cN x) (nI n)) 27 B S := h1.seat hx
      have h3 := (hours_tie h2 12).2
      have ho := nOut_saM (M := adM M x n) (b := cN x) (f := nI n) (by omega)
      exact ⟨i1.tr ho, i2.n ho, h3.LN⟩
theorem st_tie (h : LInv M B S) {x : Int32} (hx : cN x < S) (n : Nat) : saR (adM M x n) (cN x) (nI n) = stR (enc M 0 B S) B S (cN x) (nI n) := by
  have hS := h.1.hS
  obtain ⟨i1, i2, i3⟩ := ad_LI h hx n
  obtain ⟨c1, c2⟩ := copy_tie i2 i3
  have h2 : Inv (saA (adM M x n) (cN x) (nI n)) 27 B S := c1.seat hx
  have e2 : enc (saA (adM M x n) (cN x) (nI n)) 27 B S = ru (enc M 0 B S) (174 + 2 * cN x + 1) (nI n) := by
    rw [← enc_n h.1 i1, ← c2]
    exact enc_ys (k := 1) hS hx (by decide)
  have e3 := (hours_tie h2 12).1
  unfold stR stM
  rw [← e2, e3]
  rfl
theorem ad_tie (h : LInv M B S) {x : Int32} (hx : cN x < S) : ∀ n, n ≤ 3 → maT (enc M 0 B S) B S x n = adT M x n ∧ maB (enc M 0 B S) B S x n = adB M x n ∧ -1 ≤ adT M x n := by
  have hS := h.1.hS
  intro n
  induction n with
  | zero => intro _; exact ⟨rfl, rfl, Int32.le_refl _⟩
  | succ n ih =>
    intro hn
    obtain ⟨i1, i2, i3⟩ := ih (by omega)
    obtain ⟨a1, a2, a3⟩ := ad_LI h hx n
    have ew : rOt (enc M 0 B S) x (nI n) S = wOth (adM M x n) 0 (nI n) x 5 := by
      rw [← enc_n h.1 a1, rOt_enc a2 (nI_ne1 (by omega))]
    have es := st_tie h hx n
    rw [maT, maB, adT, adB, i1, i2]
    unfold maO
    rw [ew, ← es]
    by_cases c : 2 ≤ wOth (adM M x n) 0 (nI n) x 5
    · have c2 : ¬ wOth (adM M x n) 0 (nI n) x 5 ≤ 1 := fun q => absurd (Int32.le_trans c q) (by decide)
      rw [if_pos c, if_pos c, if_neg c2, if_neg (Int32.not_lt.mpr i3), if_neg (Int32.not_lt.mpr i3)]
      exact ⟨rfl, rfl, i3⟩
    · have c2 : wOth (adM M x n) 0 (nI n) x 5 ≤ 1 := by
        have h1 := Int32.lt_iff_toInt_lt.mp (Int32.not_le.mp c)
        have h2 : (2 : Int32).toInt = 2 := rfl
        have h3 : (1 : Int32).toInt = 1 := rfl
        exact Int32.le_iff_toInt_le.mpr (by omega)
      rw [if_neg c, if_neg c, if_pos c2]
      by_cases d : saR (adM M x n) (cN x) (nI n) ≤ adT M x n
      · rw [if_pos d, if_pos d, if_neg (Int32.not_lt.mpr d), if_neg (Int32.not_lt.mpr d)]
        exact ⟨rfl, rfl, i3⟩
      · rw [if_neg d, if_neg d, if_pos (Int32.not_le.mp d), if_pos (Int32.not_le.mp d)]
        exact ⟨rfl, rfl, Int32.le_trans i3 (Int32.le_of_lt (Int32.not_le.mp d))⟩
/-- the checksum -/
theorem digest_tie (h : LInv M B S) : mdB (enc M 0 B S) B S (11 * B) = dgBs M S B := by
  have hB := h.1.hB
  have hS := h.1.hS
  have a1 : ∀ n, mdA (enc M 0 B S) B n = dgA M n := by
    intro n
    induction n with
    | zero => rfl
    | succ n ih => rw [mdA, dgA, ih, rCo_all h.1]
  have f1 : ∀ n, n ≤ 3 → mdF (enc M 0 B S) B S (6 * n) = dgFs M n := by
    intro n
    induction n with
    | zero => intro _; exact a1 15
    | succ n ih =>
      intro hn
      have g : ∀ j, j ≤ 6 → mdF (enc M 0 B S) B S (6 * n + j) = dgF M (dgFs M n) n j := by
        intro j
        induction j with
        | zero => intro _; exact ih (by omega)
        | succ j ij =>
          intro hj
          rw [← Nat.add_assoc, mdF, dgF, ij (by omega), show (6 * n + j) / 6 = n by omega, show (6 * n + j) % 6 = j by omega, rFT_enc h.1 (by omega) (cN_c (m := 6) (by omega) (by decide)).1 (cN_c (m := 6) (by omega) (by decide)).2]
      have := g 6 (Nat.le_refl _)
      rw [show 6 * (n + 1) = 6 * n + 6 by omega, this]
      rfl
  have s1 : ∀ n, n ≤ S → mdS (enc M 0 B S) B S (2 * n) = dgSs M n := by
    intro n
    induction n with
    | zero => intro _; exact f1 3 (Nat.le_refl _)
    | succ n ih =>
      intro hn
      rw [show 2 * (n + 1) = 2 * n + 1 + 1 by omega, mdS, mdS, ih (by omega), show 174 + (2 * n + 1) = 174 + 2 * n + 1 by omega, enc_s0 (by omega) hS, enc_s1 (by omega) hS]
      rfl
  have b1 : ∀ n, n ≤ B → mdB (enc M 0 B S) B S (11 * n) = dgBs M S n := by
    intro n
    induction n with
    | zero => intro _; exact s1 S (Nat.le_refl _)
    | succ n ih =>
      intro hn
      have g : ∀ j, j ≤ 11 → mdB (enc M 0 B S) B S (11 * n + j) = dgB M S (dgBs M S n) n j := by
        intro j
        induction j with
        | zero => intro _; exact ih (by omega)
        | succ j ij =>
          intro hj
          rw [← Nat.add_assoc, mdB, dgB, ij (by omega), show (11 * n + j) / 11 = n by omega, show (11 * n + j) % 11 = j by omega, rBT_enc h.1 (by omega) (cN_c (m := 11) (by omega) (by decide)).1 (cN_c (m := 11) (by omega) (by decide)).2]
      have := g 11 (Nat.le_refl _)
      rw [show 11 * (n + 1) = 11 * n + 11 by omega, this]
      rfl
  exact b1 B (Nat.le_refl _)
end YSw2
