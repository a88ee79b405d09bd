section YSv
variable {M : yM} {o B S : Nat}
theorem i32_tele {a b c : Int32} : (a - c) + (b - a) = b - c := by
  rw [Int32.add_comm, Int32.sub_eq_add_neg b a, Int32.sub_eq_add_neg a c, Int32.add_assoc, ← Int32.add_assoc (-a) a (-c), Int32.add_left_neg, Int32.zero_add, ← Int32.sub_eq_add_neg]
theorem hoursR_tie : ∀ n, wHoursR M o n = wCnt (wHours M o n) o 5 15 - wCnt M o 5 15 := by
  intro n
  induction n with
  | zero => show (0 : Int32) = _; rw [show wHours M o 0 = M from rfl, Int32.sub_self]
  | succ n ih =>
    rw [wHoursR, ih]
    exact i32_tele
/-- what is looked ahead in -/
theorem W_tie (h : LInv M B S) (n : Nat) : Inv (wHours (wSet M 27 0) 27 n) 27 B S ∧ rHours (enc M 0 B S) B S n = enc (wHours (wSet M 27 0) 27 n) 27 B S := by
  obtain ⟨c1, c2⟩ := copy_tie h.1 h.2.2
  obtain ⟨t1, t2⟩ := hours_tie c1 n
  rw [c2] at t1
  exact ⟨t2, t1⟩
theorem W_out (n : Nat) : nOut M (wHours (wSet M 27 0) 27 n) := nOut_copy.tr (nOut_h (wOut_hours n))
theorem Inv.n {M' : yM} (h : Inv M 0 B S) (k : nOut M M') : Inv M' 0 B S := h.cg (fun j _ h2 => k j (by omega))
theorem enc_n {M' : yM} (h : Inv M 0 B S) (k : nOut M M') : enc M' 0 B S = enc M 0 B S := enc_cg h.hB h.hS (fun j _ h2 => k j (by omega))
theorem for_cs {w : Int32} : ((if w < 2 then some yIOE else if 14 < w then some yIOE else if w = 8 then some yIOE else if w = 9 then some yIOE else none) = some yIOE ∧ (if mI w 2 7 = 0 then (if mI w 10 14 = 0 then (2 : Int32) else 0) else 0) = 2) ∨ ((if w < 2 then some yIOE else if 14 < w then some yIOE else if w = 8 then some yIOE else if w = 9 then some yIOE else none) = none ∧ (if mI w 2 7 = 0 then (if mI w 10 14 = 0 then (2 : Int32) else 0) else 0) = 0) := by
  by_cases h1 : w < 2
  · refine Or.inl ⟨if_pos h1, ?_⟩
    rw [if_pos (mI_a h1), if_pos (mI_a (Int32.lt_trans h1 (by decide)))]
  · by_cases h2 : 14 < w
    · refine Or.inl ⟨by rw [if_neg h1, if_pos h2], ?_⟩
      rw [if_pos (mI_b (fun q => ?_)), if_pos (mI_b (Int32.not_le.mpr h2))]
      exact absurd (Int32.lt_of_lt_of_le h2 q) (by decide)
    · obtain ⟨k, hk, rfl⟩ := i32_of0 (v := w) (n := 14) (by decide) (fun q => h1 (Int32.lt_trans q (by decide))) (Int32.not_lt.mp h2)
      have hk2 : 2 ≤ k := by
        rcases Nat.lt_or_ge k 2 with q | q
        · exact absurd (nI_lt (b := 2) q (by decide)) h1
        · exact q
      rcases (show k = 2 ∨ k = 3 ∨ k = 4 ∨ k = 5 ∨ k = 6 ∨ k = 7 ∨ k = 8 ∨ k = 9 ∨ k = 10 ∨ k = 11 ∨ k = 12 ∨ k = 13 ∨ k = 14 by omega) with rfl | rfl | rfl | rfl | rfl | rfl | rfl | rfl | rfl | rfl | rfl | rfl | rfl
      · exact Or.inr ⟨by decide, by decide⟩
      · exact Or.inr ⟨by decide, by decide⟩
      · exact Or.inr ⟨by decide, by decide⟩
      · exact Or.inr ⟨by decide, by decide⟩
      · exact Or.inr ⟨by decide, by decide⟩
      · exact Or.inr ⟨by decide, by decide⟩
      · exact Or.inl ⟨by decide, by decide⟩
      · exact Or.inl ⟨by decide, by decide⟩
      · exact Or.inr ⟨by decide, by decide⟩
      · exact Or.inr ⟨by decide, by decide⟩
      · exact Or.inr ⟨by decide, by decide⟩
      · exact Or.inr ⟨by decide, by decide⟩
      · exact Or.inr ⟨by decide, by decide⟩
/-! how a book goes through an hour: done stays done, and nobody sells -/
def SR (s s' : Int32) : Prop := (5 ≤ s → s' = s) ∧ (s < 5 → s' ≤ 5)
theorem SR.rf {s : Int32} : SR s s := ⟨fun _ => rfl, fun h => Int32.le_of_lt h⟩
theorem SR.tr {a b c : Int32} (h : SR a b) (k : SR b c) : SR a c := by
  refine ⟨fun q => ?_, fun q => ?_⟩
  · have e := h.1 q
    rw [← e] at q
    exact (k.1 q).trans e
  · have e := h.2 q
    by_cases z : b < 5
    · exact k.2 z
    · rw [k.1 (Int32.not_lt.mp z)]; exact e
theorem SR.of {s s' : Int32} (h : s < 5) (k : s' ≤ 5) : SR s s' := ⟨fun q => absurd h (Int32.not_lt.mpr q), fun _ => k⟩
theorem SR_gild (h : Inv M o B S) {b : Nat} (hb : b < 15) : SR (M (o + 4 + b) 4) (wGild M o (o + 4 + b) 4) := by
  cases hq : wFst M o 4 15 with
  | none => rw [← wGild_none hq]; exact SR.rf
  | some i =>
    have h4 := wFst_s hq
    rw [wGild_some hq, wGildAt]
    split
    · exact SR.rf
    · unfold wGildB wPay
      by_cases q : b = i
      · subst q
        refine SR.of (by rw [h4]; decide) ?_
        rw [up_s]
        unfold bGild
        split
        · show yst M o 9 _ (o + 4 + b) 4 ≤ 5
          rw [yst_row (by omega), h4]; decide
        · exact Int32.le_refl _
      · rw [up_n (by omega), yst_row (by omega)]; exact SR.rf
theorem SR_board {b : Nat} (hb : b < 15) : ∀ n, n ≤ 15 → SR (M (o + 4 + b) 4) (wBoard M o n (o + 4 + b) 4) := by
  intro n
  induction n with
  | zero => intro _; exact SR.rf
  | succ n ih =>
    intro hn
    refine (ih (by omega)).tr ?_
    rw [wBoard]
    split
    · rename_i h3
      split
      · exact SR.rf
      · unfold wBoardAt wBoardB
        by_cases q : b = n
        · subst q
          refine SR.of (by rw [h3]; decide) ?_
          rw [up_s]
          show (if _ then (5 : Int32) else 4) ≤ 5
          split <;> decide
        · rw [up_n (by omega), yst_row (by omega)]; exact SR.rf
    · exact SR.rf
theorem SR_dry {b : Nat} (hb : b < 15) : ∀ n, n ≤ 15 → SR (M (o + 4 + b) 4) (wDry M o n (o + 4 + b) 4) := by
  intro n
  induction n with
  | zero => intro _; exact SR.rf
  | succ n ih =>
    intro hn
    refine (ih (by omega)).tr ?_
    rw [wDry]
    split
    · rename_i h3
      by_cases q : b = n
      · subst q
        refine SR.of (by rw [h3]; decide) ?_
        rw [up_s]
        unfold bDryH
        split
        · show (3 : Int32) ≤ 5; decide
        · show wDry M o b (o + 4 + b) 4 ≤ 5
          rw [h3]; decide
      · rw [up_n (by omega)]; exact SR.rf
    · exact SR.rf
theorem stitch_4 {f b k c : Nat} (hf : f < 3) (hc : c < 15) : wStitch M o f b k (o + 4 + c) 4 = M (o + 4 + c) 4 := by
  have e1 : wStB M o f b (o + 4 + c) 4 = M (o + 4 + c) 4 := by
    unfold wStB wAddB
    by_cases q : c = b
    · subst q
      rw [up_s, stA_bk hc]
      unfold bAdd
      split <;> rfl
    · rw [up_n (by omega), stA_bk hc]
  unfold wStitch
  split
  · exact e1
  · split
    · exact e1
    · unfold wStC yinc
      rw [yst_row (by omega)]
      by_cases q : c = b
      · subst q; rw [yst_at, if_neg (by decide)]; exact e1
      · rw [yst_row (by omega)]; exact e1
theorem sewL_4 {f b c : Nat} (hf : f < 3) (hc : c < 15) : ∀ n, wSewL M o f b n (o + 4 + c) 4 = M (o + 4 + c) 4 := by
  intro n
  induction n with
  | zero => rfl
  | succ n ih =>
    rw [wSewL]
    split
    · rw [stitch_4 hf hc]; exact ih
    · exact ih
theorem SR_sew (h : Inv M o B S) {f b : Nat} (hf : f < 3) (hb : b < 15) : SR (M (o + 4 + b) 4) (wSew M o f (o + 4 + b) 4) := by
  by_cases hn : wNo M o (M (o + 24 + f) 2)
  · rw [wSew_no hn]; exact SR.rf
  · obtain ⟨i, hi, ei, -⟩ := wNo_not hn
    have hne : ¬ M (o + 24 + f) 2 = -1 := by rw [ei]; exact nI_ne1 (by omega)
    obtain ⟨i2, hi2, e2, e4, _⟩ := h.fb hf hne
    have hB := h.hB
    have : i = i2 := nI_inj (by omega) (by omega) (ei.symm.trans e2)
    subst this
    rw [wSew_b hn hi ei, wSewB, wSewE]
    split
    · rw [sewL_4 hf hb]; exact SR.rf
    · unfold wDryB
      by_cases q : b = i
      · subst q
        rw [up_s]
        exact SR.of (by rw [e4]; decide) (by show (2 : Int32) ≤ 5; decide)
      · rw [up_n (by omega), yst_row (by omega), sewL_4 hf hb]; exact SR.rf
theorem SR_sews (h : Inv M o B S) {b : Nat} (hb : b < 15) : ∀ n, n ≤ 3 → SR (M (o + 4 + b) 4) (wSews M o n (o + 4 + b) 4) := by
  intro n
  induction n with
  | zero => intro _; exact SR.rf
  | succ n ih =>
    intro hn
    exact (ih (by omega)).tr (SR_sew (sews_tie h n (by omega)).2 (by omega) hb)
theorem SR_mount {f b : Nat} (hf : f < 3) (hb : b < 15) : SR (M (o + 4 + b) 4) (wMount M o f (o + 4 + b) 4) := by
  cases hq : wFst M o 0 15 with
  | none => rw [← wMount_none hq]; exact SR.rf
  | some i =>
    have h4 := wFst_s hq
    rw [wMount_some hq]
    unfold wMountAt wMountA
    rw [yst_row (by omega)]
    by_cases q : b = i
    · subst q
      rw [up_s]
      exact SR.of (by rw [h4]; decide) (by show (1 : Int32) ≤ 5; decide)
    · rw [up_n (by omega)]; exact SR.rf
theorem SR_mounts {b : Nat} (hb : b < 15) : ∀ n, n ≤ 3 → SR (M (o + 4 + b) 4) (wMounts M o n (o + 4 + b) 4) := by
  intro n
  induction n with
  | zero => intro _; exact SR.rf
  | succ n ih =>
    intro hn
    refine (ih (by omega)).tr ?_
    rw [wMounts]
    split
    · exact SR_mount (by omega) hb
    · exact SR.rf
theorem SR_hour (h : Inv M o B S) {b : Nat} (hb : b < 15) : SR (M (o + 4 + b) 4) (wHour M o (o + 4 + b) 4) := by
  unfold wHour wHourA
  rw [yst_row (by omega)]
  have h1 := (gild_tie h).2
  have h2 := (pa_tie h).2
  exact ((((SR_gild h hb).tr (SR_board hb 15 (Nat.le_refl _))).tr (SR_dry hb 15 (Nat.le_refl _))).tr (SR_sews h2 hb 3 (Nat.le_refl _))).tr (SR_mounts hb 3 (Nat.le_refl _))
/-- the done books, counted -/
def kD (M : yM) (o : Nat) : Nat → Nat | 0 => 0 | n + 1 => if M (o + 4 + n) 4 = 5 then kD M o n + 1 else kD M o n
theorem kD_le : ∀ n, kD M o n ≤ n := by
  intro n
  induction n with
  | zero => exact Nat.le_refl _
  | succ n ih => rw [kD]; split <;> omega
theorem wCnt_kD : ∀ n, wCnt M o 5 n = nI (kD M o n) := by
  intro n
  induction n with
  | zero => rfl
  | succ n ih =>
    rw [wCnt, kD, ih]
    split
    · exact nI_add _ 1
    · rfl
theorem kD_mono {M' : yM} (h : ∀ b, b < 15 → SR (M (o + 4 + b) 4) (M' (o + 4 + b) 4)) : ∀ n, n ≤ 15 → kD M o n ≤ kD M' o n ∧ (kD M o n = kD M' o n → ∀ b, b < n → M' (o + 4 + b) 4 = 5 → M (o + 4 + b) 4 = 5) ∧ ((∀ b, b < n → M' (o + 4 + b) 4 = 5 → M (o + 4 + b) 4 = 5) → kD M o n = kD M' o n) := by
  intro n
  induction n with
  | zero => intro _; exact ⟨Nat.le_refl _, fun _ b hb => absurd hb (Nat.not_lt_zero _), fun _ => rfl⟩
  | succ n ih =>
    intro hn
    obtain ⟨i1, i2, i3⟩ := ih (by omega)
    have hs := h n (by omega)
    rw [kD, kD]
    by_cases c : M (o + 4 + n) 4 = 5
    · have c2 : M' (o + 4 + n) 4 = 5 := (hs.1 (by rw [c]; exact Int32.le_refl _)).trans c
      rw [if_pos c, if_pos c2]
      refine ⟨by omega, fun q b hb z => ?_, fun q => by rw [i3 (fun b hb => q b (by omega))]⟩
      by_cases e : b = n
      · subst e; exact c
      · exact i2 (by omega) b (by omega) z
    · rw [if_neg c]
      by_cases c2 : M' (o + 4 + n) 4 = 5
      · rw [if_pos c2]
        exact ⟨by omega, fun q => by omega, fun q => absurd (q n (by omega) c2) c⟩
      · rw [if_neg c2]
        refine ⟨i1, fun q b hb z => ?_, fun q => i3 (fun b hb => q b (by omega))⟩
        by_cases e : b = n
        · subst e; exact absurd z c2
        · exact i2 q b (by omega) z
theorem hourR_le (h : Inv M o B S) : wHourR M o ≤ 0 ↔ ∀ b, b < 15 → wHour M o (o + 4 + b) 4 = 5 → M (o + 4 + b) 4 = 5 := by
  obtain ⟨k1, k2, k3⟩ := kD_mono (M := M) (M' := wHour M o) (o := o) (fun b hb => SR_hour h hb) 15 (Nat.le_refl _)
  have l1 := kD_le (M := M) (o := o) 15
  have l2 := kD_le (M := wHour M o) (o := o) 15
  have e : (wHourR M o).toInt = (kD (wHour M o) o 15 : Int) - kD M o 15 := by
    unfold wHourR
    rw [wCnt_kD, wCnt_kD]
    exact pk_sub_toInt (by omega) (by omega)
  have e0 : (0 : Int32).toInt = 0 := rfl
  constructor
  · intro q
    have := Int32.le_iff_toInt_le.mp q
    exact k2 (by omega)
  · intro q
    have := k3 q
    exact Int32.le_iff_toInt_le.mpr (by omega)
/-! the first hour at which something holds -/
theorem hF_spec {p : Nat → Bool} : ∀ {n k : Nat}, hF p n = some k → 1 ≤ k ∧ k ≤ n ∧ p k = true ∧ ∀ j, 1 ≤ j → j < k → p j = false := by
  intro n
  induction n with
  | zero => intro k h; simp [hF] at h
  | succ n ih =>
    intro k h
    cases hq : hF p n with
    | some i =>
      rw [hF, hq] at h
      cases h
      obtain ⟨a, b, c, d⟩ := ih hq
      exact ⟨a, by omega, c, d⟩
    | none =>
      have hn : ∀ m, hF p m = none → ∀ j, 1 ≤ j → j ≤ m → p j = false := by
        intro m
        induction m with
        | zero => intro _ j h1 h2; omega
        | succ m im =>
          intro e j h1 h2
          cases hm : hF p m with
          | some i => rw [hF, hm] at e; cases e
          | none =>
            by_cases z : j = m + 1
            · subst z
              rw [hF, hm] at e
              cases hp : p (m + 1) with
              | true => simp [hp] at e
              | false => rfl
            · exact im hm j h1 (by omega)
      rw [hF, hq] at h
      cases hp : p (n + 1) with
      | false => simp [hp] at h
      | true =>
        simp [hp] at h
        subst h
        exact ⟨by omega, Nat.le_refl _, hp, fun j h1 h2 => hn n hq j h1 (by omega)⟩
theorem hF_none {p : Nat → Bool} : ∀ {n : Nat}, hF p n = none → ∀ j, 1 ≤ j → j ≤ n → p j = false := by
  intro n
  induction n with
  | zero => intro _ j h1 h2; omega
  | succ m im =>
    intro e j h1 h2
    cases hm : hF p m with
    | some i => rw [hF, hm] at e; cases e
    | none =>
      by_cases z : j = m + 1
      · subst z
        rw [hF, hm] at e
        cases hp : p (m + 1) with
        | true => simp [hp] at e
        | false => rfl
      · exact im hm j h1 (by omega)
theorem hF_intro {p : Nat → Bool} {n k : Nat} (h1 : 1 ≤ k) (h2 : k ≤ n) (hp : p k = true) (hn : ∀ j, 1 ≤ j → j < k → p j = false) : hF p n = some k := by
  cases hq : hF p n with
  | none => have := hF_none hq k h1 h2; rw [hp] at this; cases this
  | some i =>
    obtain ⟨a, b, c, d⟩ := hF_spec hq
    rcases Nat.lt_trichotomy i k with q | q | q
    · have := hn i a q; rw [c] at this; cases this
    · rw [q]
    · have := d k h1 q; rw [hp] at this; cases this
theorem hF_introN {p : Nat → Bool} {n : Nat} (hn : ∀ j, 1 ≤ j → j ≤ n → p j = false) : hF p n = none := by
  cases hq : hF p n with
  | none => rfl
  | some i =>
    obtain ⟨a, b, c, d⟩ := hF_spec hq
    have := hn i a b
    rw [c] at this
    cases this
/-- until -/
theorem W_0 (h : LInv M B S) {b : Nat} (hb : b < 15) : wSet M 27 0 (27 + 4 + b) 4 = M (0 + 4 + b) 4 := by
  have e := wCopy_bk (M := M) hb
  unfold wCopy at e
  rw [e]
  exact bSet_0 (by decide) (by decide)
theorem W_SR (h : LInv M B S) {b : Nat} (hb : b < 15) (n : Nat) : SR (wHours (wSet M 27 0) 27 n (27 + 4 + b) 4) (wHours (wSet M 27 0) 27 (n + 1) (27 + 4 + b) 4) := SR_hour (W_tie h n).1 hb
theorem W_le (h : LInv M B S) {b : Nat} (hb : b < 15) (h5 : M (0 + 4 + b) 4 < 5) : ∀ n, wHours (wSet M 27 0) 27 n (27 + 4 + b) 4 ≤ 5 := by
  intro n
  induction n with
  | zero => show wSet M 27 0 (27 + 4 + b) 4 ≤ 5; rw [W_0 h hb]; exact Int32.le_of_lt h5
  | succ n ih =>
    have k := W_SR h hb n
    by_cases q : wHours (wSet M 27 0) 27 n (27 + 4 + b) 4 < 5
    · exact k.2 q
    · rw [k.1 (Int32.not_lt.mp q)]; exact ih
theorem until_tie (h : LInv M B S) {b : Nat} (hb : b < B) : dnR (enc M 0 B S) B S b = utR M b := by
  have hB := h.1.hB
  have ep : ∀ n, rHours (enc M 0 B S) B S n (11 * b + 3) = wHours (wSet M 27 0) 27 n (27 + 4 + b) 4 := fun n => by
    rw [(W_tie h n).2, enc_b3 hb hB]
  by_cases h5 : M (0 + 4 + b) 4 < 5
  · have hp : ∀ n, 1 ≤ n → dnP (enc M 0 B S) B S b (n + 1) = utP M (27 + 4 + b) n := fun n _ => by
      unfold dnP utP
      rw [Nat.add_sub_cancel, ep]
      have l := W_le h (by omega) h5 n
      by_cases q : wHours (wSet M 27 0) 27 n (27 + 4 + b) 4 = 5
      · rw [decide_eq_true q, decide_eq_true (by rw [q]; exact Int32.le_refl _)]
      · rw [decide_eq_false q, decide_eq_false (fun z => q (Int32.le_antisymm l z))]
    have h0 : dnP (enc M 0 B S) B S b 1 = false := by
      unfold dnP
      rw [ep 0]
      refine decide_eq_false (Int32.not_le.mpr ?_)
      show wSet M 27 0 (27 + 4 + b) 4 < 5
      rw [W_0 h (by omega)]
      exact h5
    unfold utR
    rw [if_pos h5]
    cases hq : utH M b with
    | none =>
      have hn := hF_none hq
      have e : dnH (enc M 0 B S) B S b = none := hF_introN (fun j h1 h2 => by
        by_cases z : j = 1
        · rw [z]; exact h0
        · have := hp (j - 1) (by omega)
          rw [show j - 1 + 1 = j by omega] at this
          rw [this]
          exact hn _ (by omega) (by omega))
      unfold dnR
      rw [e]
      rfl
    | some k =>
      obtain ⟨a, b1, c, d⟩ := hF_spec hq
      have e : dnH (enc M 0 B S) B S b = some (k + 1) := hF_intro (by omega) (by omega) (by rw [hp k a]; exact c) (fun j h1 h2 => by
        by_cases z : j = 1
        · rw [z]; exact h0
        · have := hp (j - 1) (by omega)
          rw [show j - 1 + 1 = j by omega] at this
          rw [this]
          exact d _ (by omega) (by omega))
      unfold dnR
      rw [e]
      rfl
  · have e : dnH (enc M 0 B S) B S b = some 1 := hF_intro (Nat.le_refl _) (by decide) (by
      unfold dnP
      rw [ep 0]
      refine decide_eq_true ?_
      show 5 ≤ wSet M 27 0 (27 + 4 + b) 4
      rw [W_0 h (by omega)]
      exact Int32.not_lt.mp h5) (fun j h1 h2 => by omega)
    unfold utR dnR
    rw [if_neg h5, e]
    rfl
theorem ut_LI (h : LInv M B S) {b : Nat} : nOut M (utM M b) ∧ LNum (utM M b) := by
  unfold utM
  split
  · exact ⟨W_out _, (W_tie h _).1.LN⟩
  · exact ⟨fun _ _ => rfl, h.2.2⟩
end YSv
