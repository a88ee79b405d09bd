section YAn
variable {M M' : yM} {B S tot cm : Nat}
/-! WHAT THE LAW'S CALLS ANSWER -/
theorem dig_n (h : PI M B S tot cm) (h' : PI M' B S tot cm) (k : nOut M M') : dgBs M' S B = dgBs M S B := by
  rw [← digest_tie h.L, ← digest_tie h'.L, enc_n h.I k]
theorem fore_n (h : PI M B S tot cm) (h' : PI M' B S tot cm) (k : nOut M M') (n : Nat) : wHours (wSet M 27 0) 27 n 27 10 = wHours M' 0 n 0 10 := by
  obtain ⟨-, e1⟩ := W_tie h.L n
  obtain ⟨e2, -⟩ := hours_tie h'.I n
  rw [enc_n h.I k] at e2
  have e4 := congrFun (e1.symm.trans e2) 191
  rwa [enc_191, enc_191] at e4
theorem ut_n (b : Nat) : ¬ 250 < utR M b ∧ (M (0 + 4 + b) 4 < 5 → ¬ utR M b = 0) ∧ (¬ M (0 + 4 + b) 4 < 5 → utR M b = 0) := by
  unfold utR
  by_cases h5 : M (0 + 4 + b) 4 < 5
  · rw [if_pos h5]
    cases hq : utH M b with
    | none => exact ⟨by decide, fun _ => by decide, fun q => absurd h5 q⟩
    | some k =>
      obtain ⟨k1, k2, -⟩ := hF_spec hq
      exact ⟨nI_nlt (a := 250) (b := k) k2 (by decide), fun _ => nI_ne0 (by omega) (by omega), fun q => absurd h5 q⟩
  · rw [if_neg h5]
    exact ⟨by decide, fun q => absurd q h5, fun _ => rfl⟩
theorem ad_n (h : PI M B S tot cm) {x : Nat} (hx : x < S) : ∀ n, n ≤ 3 → adB M (nI x) n = -1 ∨ ∃ f, f < 3 ∧ adB M (nI x) n = nI f ∧ sOth M (nI f) x 5 ≤ 1 := by
  have hS := h.I.hS
  intro n
  induction n with
  | zero => intro _; exact Or.inl rfl
  | succ n ih =>
    intro hn
    rw [adB]
    by_cases hc : 2 ≤ wOth (adM M (nI x) n) 0 (nI n) (nI x) 5
    · rw [if_pos hc]; exact ih (by omega)
    · rw [if_neg hc]
      by_cases hd : saR (adM M (nI x) n) (cN (nI x)) (nI n) ≤ adT M (nI x) n
      · rw [if_pos hd]; exact ih (by omega)
      · rw [if_neg hd]
        obtain ⟨k1, k2, -⟩ := ad_LI h.L (x := nI x) (by rw [cN_n (by omega)]; exact hx) n
        refine Or.inr ⟨n, by omega, rfl, ?_⟩
        rw [sOth_e k2.nums (by omega) 5 (Nat.le_refl _), sOth_cg (M := M) (fun i hi => by rw [k1 _ (by omega)]) 5 (Nat.le_refl _)] at hc
        have h9 := sOth_le (M := M) (g := nI n) (x := x) 5
        have h8 := sTot_len (M := M) (g := nI n) 5
        rcases Nat.lt_or_ge (sOth M (nI n) x 5) 2 with q | q
        · omega
        · exact absurd (nI_le (a := 2) q (by omega)) hc
theorem mnB_lt {r : Rw} : ∀ n, mnB r B S n = -1 ∨ ∃ k, k < n ∧ mnB r B S n = nI k := by
  intro n
  induction n with
  | zero => exact Or.inl rfl
  | succ n ih =>
    have up : mnB r B S n = -1 ∨ ∃ k, k < n + 1 ∧ mnB r B S n = nI k := by
      rcases ih with q | ⟨k, hk, q⟩
      · exact Or.inl q
      · exact Or.inr ⟨k, by omega, q⟩
    rw [mnB]
    split
    · exact up
    · split
      · exact Or.inr ⟨n, by omega, rfl⟩
      · exact up
theorem nx_n (h : PI M B S tot cm) : nxR M < nI B := by
  have hB := h.I.hB
  rw [← next_tie h.L]
  rcases mnB_lt (r := enc M 0 B S) (B := B) (S := S) B with q | ⟨k, hk, q⟩
  · rw [q]
    have h1 : (-1 : Int32) < 0 := by decide
    rcases Nat.eq_zero_or_pos B with z | z
    · rw [z]; exact h1
    · exact Int32.lt_trans h1 (nI_lt (a := 0) z (by omega))
  · rw [q]; exact nI_lt hk (by omega)
/-! how many books are how far -/
def stC (M : yM) (j : Nat) : Nat → Nat | 0 => 0 | n + 1 => if cN (M (0 + 4 + n) 4) = j then stC M j n + 1 else stC M j n
theorem stC_e (h : Inv M 0 B S) {j : Nat} (hj : j < 7) : wCnt M 0 (nI j) 15 = nI (stC M j B) := by
  have hB := h.hB
  have k1 : ∀ n, n ≤ B → wCnt M 0 (nI j) n = nI (stC M j n) := by
    intro n
    induction n with
    | zero => intro _; rfl
    | succ n ih =>
      intro hn
      obtain ⟨t, ht, et⟩ := (h.bk (b := n) (by omega)).2.1
      rw [wCnt, stC, ih (by omega), et, cN_n (by omega)]
      by_cases q : t = j
      · rw [if_pos (by rw [q]), if_pos q]; exact nI_1 _
      · rw [if_neg (fun z => q (nI_inj (by omega) (by omega) z)), if_neg q]
  have k2 : ∀ d, B + d ≤ 15 → wCnt M 0 (nI j) (B + d) = wCnt M 0 (nI j) B := by
    intro d
    induction d with
    | zero => intro _; rfl
    | succ d ih =>
      intro hd
      rw [← Nat.add_assoc, wCnt, ih (by omega), if_neg]
      rw [h.un (by omega) (by omega)]
      exact fun z => nI_ne1 (a := j) (by omega) z.symm
  have := k2 (15 - B) (by omega)
  rw [show B + (15 - B) = 15 by omega] at this
  rw [this, k1 B (Nat.le_refl _)]
/-! stitches to sew -/
theorem toSew_ne {f : Rw} {b : Nat} (hO : BkO f b) (h4 : f 4 = 1) : ¬ bToSew f = 0 := by
  obtain ⟨k1, k2⟩ := hO.2.2.2.1 h4
  obtain ⟨⟨_, ⟨s, s1, s2, es⟩, _, ⟨w, w1, ew⟩, ⟨c, hc, ec⟩, a7⟩, _⟩ := hO
  have hws : w < s := by rw [ew, es] at k1; exact (nI_ltI (by omega) (by omega)).mp k1
  have key : ∀ d, ∃ D, D ≤ 12 * d ∧ bSum f (w + 1 + d) = bSum f w + bSos f (nI w) + nI D := by
    intro d
    induction d with
    | zero => exact ⟨0, Nat.le_refl _, by rw [show nI 0 = (0 : Int32) from rfl, Int32.add_zero]; rfl⟩
    | succ d ih =>
      obtain ⟨D, hD, e⟩ := ih
      obtain ⟨n, n1, n2, en⟩ := bSos_nat (f := f) (w := w + 1 + d) hc ec s2 es
      refine ⟨D + n, by omega, ?_⟩
      rw [← Nat.add_assoc, bSum, e, en, Int32.add_assoc, nI_add]
  obtain ⟨D, hD, e⟩ := key (s - w - 1)
  rw [show w + 1 + (s - w - 1) = s by omega] at e
  obtain ⟨n, n1, n2, en⟩ := bSos_nat (f := f) (w := w) hc ec s2 es
  intro hz
  unfold bToSew at hz
  rw [es, nI_clamp (by omega), e, a7, ew, nI_clamp (by omega), en, Int32.add_assoc, nI_add] at hz
  have h1 : bSum f w + nI (n + D) = bSum f w + f 9 := by
    have := congrArg (fun z => z + (bSum f w + f 9)) hz
    simpa [Int32.sub_add_cancel, Int32.zero_add] using this
  have h2 : nI (n + D) = f 9 := by
    rw [Int32.add_comm, Int32.add_comm (bSum f w)] at h1
    have := congrArg (fun z => z - bSum f w) h1
    simpa [Int32.add_sub_cancel] using this
  rw [← h2, ew, en] at k2
  have := (nI_ltI (by omega) (by omega)).mp k2
  omega
/-! told -/
theorem bT0 {f : Rw} : bTell f 0 = f 1 := rfl
theorem bT2 {f : Rw} : bTell f 2 = f 3 := rfl
theorem bT3 {f : Rw} : bTell f 3 = f 4 := rfl
theorem bT4 {f : Rw} : bTell f 4 = f 5 := rfl
theorem bT5 {f : Rw} : bTell f 5 = f 8 := rfl
theorem bT6 {f : Rw} : bTell f 6 = f 9 := rfl
theorem bT7 {f : Rw} : bTell f 7 = f 10 := rfl
theorem bT8 {f : Rw} : bTell f 8 = f 11 := rfl
theorem bT9 {f : Rw} : bTell f 9 = f 12 := rfl
theorem bT10 {f : Rw} : bTell f 10 = bVal f := rfl
theorem cT9 : wTellA M 0 9 = M 0 6 := rfl
theorem cT10 : wTellA M 0 10 = M 0 7 := rfl
theorem cT11 : wTellA M 0 11 = M 0 8 := rfl
theorem cT12 : wTellA M 0 12 = M 0 9 := rfl
theorem cT13 {o : Nat} : wTellA M o 13 = M o 10 := rfl
theorem cT14 : wTellA M 0 14 = M 0 11 := rfl
theorem cTk {k : Nat} (hk : k < 7) : wTellA M 0 (nI (2 + k)) = wCnt M 0 (nI k) 15 := by
  rcases (show k = 0 ∨ k = 1 ∨ k = 2 ∨ k = 3 ∨ k = 4 ∨ k = 5 ∨ k = 6 by omega) with rfl | rfl | rfl | rfl | rfl | rfl | rfl <;> rfl
/-! frames -/
theorem fT1 {f : Nat} : wTellF M 0 f 1 = M (0 + 24 + f) 2 := by
  unfold wTellF
  rw [if_neg (by decide), if_pos rfl]
theorem fT2 (h : Inv M 0 B S) {f : Nat} (hf : f < 3) : wTellF M 0 f 2 = nI (sTot M (nI f) 5) := by
  unfold wTellF
  rw [if_neg (by decide), if_neg (by decide), if_pos rfl, (h.2.2.2.1 f hf).1, sTot_e h.nums 5 (Nat.le_refl _)]
theorem fT5 {f : Nat} : wTellF M 0 f 5 = M (0 + 24 + f) 3 := by
  unfold wTellF
  rw [if_neg (by decide), if_neg (by decide), if_neg (by decide), if_neg (by decide), if_neg (by decide)]
theorem fT4 (h : Inv M 0 B S) {f : Nat} (hf : f < 3) : (M (0 + 24 + f) 2 < 0 ∧ wTellF M 0 f 4 = 0) ∨ (¬ M (0 + 24 + f) 2 < 0 ∧ ¬ wTellF M 0 f 4 = 0) := by
  have hB := h.hB
  have e4 : wTellF M 0 f 4 = (by classical exact if wNo M 0 (M (0 + 24 + f) 2) then 0 else bToSew (M (0 + 4 + (M (0 + 24 + f) 2).toNatClampNeg))) := by
    unfold wTellF
    rw [if_neg (by decide), if_neg (by decide), if_neg (by decide), if_neg (by decide), if_pos rfl]
  rw [e4]
  by_cases hn : M (0 + 24 + f) 2 = -1
  · refine Or.inl ⟨by rw [hn]; decide, ?_⟩
    rw [if_pos (show wNo M 0 (M (0 + 24 + f) 2) from Or.inl (by rw [hn]; decide))]
  · obtain ⟨b, hb, hfb, h4, h5⟩ := h.fb hf hn
    refine Or.inr ⟨by rw [hfb]; exact nI_pos (by omega), ?_⟩
    rw [if_neg]
    · rw [hfb, nI_clamp (by omega)]
      exact toSew_ne (h.bk hb) h4
    · rw [hfb]
      unfold wNo
      rw [h.o3]
      intro q
      rcases q with q | q | q
      · exact nI_pos (by omega) q
      · exact nI_ge hb (by omega) q
      · exact nI_ge (show b < 15 by omega) (by omega) q
def wS (w : Nat → Nat) : Nat → Nat | 0 => 0 | n + 1 => wS w n + w n
end YAn
