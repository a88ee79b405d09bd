section YMm
def adrs (a b : Nat → Nat) (x : Nat) : Nat → Nat := fun j => if j < 27 then a j else if j < 54 then b (j - 27) else x
/-- the memory at the start -/
def M0 : yM := fun j => if j < 27 then R27 j else if j < 54 then R27 (j - 27) else fun _ => 0
theorem ykd27 : ∀ j, j < 27 → (ykd (27 + j) = ykd j ∧ ykd j ≠ 4 ∧ ykd j ≠ 5 ∧ ykd j ≠ 6 ∧ (ykd j = 3 → j = 0) ∧ (ykd j = 7 → j = 1) ∧ (ykd j = 8 → j = 2) ∧ (¬ ykd j < 6 → ykd j = 7 ∨ ykd j = 8 ∨ (ykd j = 9 ∧ j = 3))) := by
  have : ∀ i : Fin 27, (ykd (27 + i.val) = ykd i.val ∧ ykd i.val ≠ 4 ∧ ykd i.val ≠ 5 ∧ ykd i.val ≠ 6 ∧ (ykd i.val = 3 → i.val = 0) ∧ (ykd i.val = 7 → i.val = 1) ∧ (ykd i.val = 8 → i.val = 2) ∧ (¬ ykd i.val < 6 → ykd i.val = 7 ∨ ykd i.val = 8 ∨ (ykd i.val = 9 ∧ i.val = 3))) := by decide +kernel
  exact fun j hj => this ⟨j, hj⟩
theorem ycl_at {D : va_G} {cy : Nat → ClassId} {a adr : Nat → Nat} {o : Nat} {M : yM} {j : Nat} (hj : j < 27) (ho : o = 0 ∨ o = 27) (ha : ∀ k, k < 27 → adr (o + k) = a k) (hM : M (o + j) = R27 j) {r : Nat} {H : Heap} (h : va_at D vwCl (r, ycl a cy R27 j) H) : va_at D vwCl (r, ycl adr cy M (o + j)) H := by
  obtain ⟨k0, k4, k5, k6, k3, k7, k8, k9⟩ := ykd27 j hj
  have ek : ykd (o + j) = ykd j := by
    rcases ho with rfl | rfl
    · rw [Nat.zero_add]
    · exact k0
  unfold ycl at h ⊢
  rw [ek]
  by_cases h6 : ykd j < 6
  · rw [if_pos h6] at h ⊢
    have e : yfs adr M (o + j) (ynf (ykd j)) = yfs a R27 j (ynf (ykd j)) := by
      unfold yfs
      apply List.map_congr_left
      intro k hk
      unfold yvl yrf
      rw [ek, hM]
      by_cases h3 : ykd j = 3
      · have hj0 := k3 h3
        simp only [if_pos h3]
        by_cases hk3 : k < 3
        · simp only [if_pos hk3]
          rw [show o + j + 1 + k = o + (j + 1 + k) by omega, ha _ (by omega)]
        · simp only [if_neg hk3]
      · simp only [if_neg h3, if_neg k4]
    rw [e]
    exact h
  · rw [if_neg h6, if_neg k6] at h ⊢
    refine arr27 (f := fun i => some (a (yel j i))) (fun i hi => ?_) h
    unfold yel
    rw [ek]
    rcases k9 h6 with h7 | h8 | ⟨h9, hj3⟩
    · have hj1 := k7 h7
      have hi : i < 15 := by rw [h7] at hi; exact hi
      simp only [if_pos h7]
      rw [show o + j + 3 + i = o + (j + 3 + i) by omega, ha _ (by omega)]
    · have hj1 := k8 h8
      have hi : i < 5 := by rw [h8] at hi; exact hi
      have h7 : ¬ ykd j = 7 := by rw [h8]; decide
      simp only [if_neg h7, if_pos h8]
      rw [show o + j + 17 + i = o + (j + 17 + i) by omega, ha _ (by omega)]
    · have hi : i < 3 := by rw [h9] at hi; exact hi
      have h7 : ¬ ykd j = 7 := by rw [h9]; decide
      have h8 : ¬ ykd j = 8 := by rw [h9]; decide
      simp only [if_neg h7, if_neg h8]
      rw [show o + j + 21 + i = o + (j + 21 + i) by omega, ha _ (by omega)]
theorem W27_len {a : Nat → Nat} {cy : Nat → ClassId} : (W27 a cy).length = 27 := by simp [W27]
theorem W27_at {a : Nat → Nat} {cy : Nat → ClassId} {k : Nat} (hk : k < 27) : (W27 a cy)[k]? = some (a k, ycl a cy R27 k) := by simp [W27, hk]
def WW (a b : Nat → Nat) (x : Nat) (cy : Nat → ClassId) : va_W := (S4 x (a 0) (b 0) :: W27 a cy) ++ W27 b cy
def gg (k : Nat) : Nat := if k < 54 then k + 1 else 0
theorem gg_inj {i j : Nat} (hi : i < 55) (hj : j < 55) (h : gg i = gg j) : i = j := by
  unfold gg at h
  repeat' split at h
  all_goals omega
section
variable {D : va_G} {a b : Nat → Nat} {x : Nat} {cy : Nat → ClassId}
theorem WW_a {k : Nat} (hk : k < 27) : (WW a b x cy)[k + 1]? = some (a k, ycl a cy R27 k) := by
  unfold WW
  rw [List.cons_append, List.getElem?_cons_succ, List.getElem?_append_left (by rw [W27_len]; exact hk), W27_at hk]
theorem WW_b {k : Nat} (hk : k < 27) : (WW a b x cy)[27 + k + 1]? = some (b k, ycl b cy R27 k) := by
  unfold WW
  rw [List.cons_append, List.getElem?_cons_succ, List.getElem?_append_right (by rw [W27_len]; omega), W27_len, show 27 + k - 27 = k by omega, W27_at hk]
theorem key55 : ∀ k, k < 55 → ∃ e, (WW a b x cy)[gg k]? = some (adrs a b x k, e) ∧ ∀ H, va_at D vwCl (adrs a b x k, e) H → va_at D vwCl (adrs a b x k, ycl (adrs a b x) cy M0 k) H := by
  intro k hk
  by_cases h1 : k < 27
  · have eg : gg k = k + 1 := by unfold gg; rw [if_pos (by omega)]
    have ea : ∀ j, j < 27 → adrs a b x (0 + j) = a j := fun j hj => by rw [Nat.zero_add]; unfold adrs; rw [if_pos hj]
    have e0 : adrs a b x k = a k := by have := ea k h1; rwa [Nat.zero_add] at this
    refine ⟨ycl a cy R27 k, by rw [eg, WW_a h1, e0], fun H h => ?_⟩
    have := ycl_at (adr := adrs a b x) (M := M0) h1 (Or.inl rfl) ea (by rw [Nat.zero_add]; unfold M0; rw [if_pos h1]) h
    rwa [Nat.zero_add] at this
  · by_cases h2 : k < 54
    · obtain ⟨j, rfl⟩ : ∃ j, k = 27 + j := ⟨k - 27, by omega⟩
      have hj : j < 27 := by omega
      have eg : gg (27 + j) = 27 + j + 1 := by unfold gg; rw [if_pos h2]
      have ea : ∀ j, j < 27 → adrs a b x (27 + j) = b j := fun j hj => by unfold adrs; rw [if_neg (by omega), if_pos (by omega), show 27 + j - 27 = j by omega]
      refine ⟨ycl b cy R27 j, by rw [eg, WW_b hj, ea j hj], fun H h => ?_⟩
      exact ycl_at (adr := adrs a b x) (M := M0) hj (Or.inr rfl) ea (by unfold M0; rw [if_neg (by omega), if_pos (by omega), show 27 + j - 27 = j by omega]) h
    · obtain rfl : k = 54 := by omega
      exact ⟨.inr (4, [.ref (a 0), .ref (b 0)]), rfl, fun H h => h⟩
theorem WW_P {H : Heap} (hP : va_P D vwCl (WW a b x cy) H) : va_P D vwCl (ypl (adrs a b x) cy M0 ++ []) H := by
  intro k z hz
  by_cases hk : k < 55
  · rw [ypl_get hk] at hz
    cases hz
    obtain ⟨e, e1, e2⟩ := key55 (D := D) (a := a) (b := b) (x := x) (cy := cy) k hk
    exact e2 H (hP _ _ e1)
  · obtain ⟨i, rfl⟩ : ∃ i, k = 55 + i := ⟨k - 55, by omega⟩
    rw [ypl_E] at hz
    simp at hz
theorem WW_D {A : Nat → Prop} (hD : va_D A (WW a b x cy)) : va_D A (ypl (adrs a b x) cy M0 ++ []) := by
  have key : ∀ (k : Nat) (z : Nat × va_E), (ypl (adrs a b x) cy M0 ++ [])[k]? = some z → k < 55 ∧ ∃ e, (WW a b x cy)[gg k]? = some (z.1, e) := by
    intro k z hz
    by_cases hk : k < 55
    · rw [ypl_get hk] at hz
      cases hz
      obtain ⟨e, e1, e2⟩ := key55 (D := (fun _ => 0, fun _ _ => 0)) (a := a) (b := b) (x := x) (cy := cy) k hk
      exact ⟨by omega, e, e1⟩
    · obtain ⟨i, rfl⟩ : ∃ i, k = 55 + i := ⟨k - 55, by omega⟩
      rw [ypl_E] at hz
      simp at hz
  refine ⟨fun i j y z h1 h2 he => ?_, fun k z hz => ?_⟩
  · obtain ⟨hi, e, e1⟩ := key i y h1
    obtain ⟨hj, e', e1'⟩ := key j z h2
    exact gg_inj hi hj (hD.1 _ _ _ _ e1 e1' he)
  · obtain ⟨hi, e, e1⟩ := key k z hz
    have := hD.2 _ _ e1
    exact this
theorem z_toY {K : yK} {l : Launch} {R : Room} {nL cells slots : Nat} {Q : State → Prop} {lv : List (Nat × Value)} {pc : Nat} {st : List Value} (h : Y K l R D cy (adrs a b x) nL cells slots Q M0 [] lv pc st) : Z K l R D nL cells slots Q (WW a b x cy) lv pc st := by
  obtain ⟨p, e, s, m, args, below, meth, c, A⟩ := K
  exact fun H locs ls hP hD hS hl => h H locs ls (WW_P hP) (WW_D hD) hS hl
end
theorem M0_bk : ∀ b, b < 15 → BkU (M0 (0 + 4 + b)) b := by
  have : ∀ b : Fin 15, BkU (M0 (0 + 4 + b.val)) b.val := by unfold BkU; decide +kernel
  exact fun b hb => this ⟨b, hb⟩
theorem M0_fr : ∀ f, f < 3 → M0 (0 + 24 + f) 0 = nI f ∧ M0 (0 + 24 + f) 1 = nI 3 ∧ M0 (0 + 24 + f) 2 = -1 := by
  have : ∀ f : Fin 3, M0 (0 + 24 + f.val) 0 = nI f.val ∧ M0 (0 + 24 + f.val) 1 = nI 3 ∧ M0 (0 + 24 + f.val) 2 = -1 := by decide +kernel
  exact fun b hb => this ⟨b, hb⟩
theorem M0_sw : ∀ f, f < 5 → M0 (0 + 19 + f) 0 = nI f ∧ M0 (0 + 19 + f) 2 = -1 ∧ M0 (0 + 19 + f) 1 = nI 0 := by
  have : ∀ f : Fin 5, M0 (0 + 19 + f.val) 0 = nI f.val ∧ M0 (0 + 19 + f.val) 2 = -1 ∧ M0 (0 + 19 + f.val) 1 = nI 0 := by decide +kernel
  exact fun b hb => this ⟨b, hb⟩
theorem M0_Inv : Inv M0 0 0 0 := ⟨⟨rfl, by decide, rfl, by decide⟩, fun b hb => absurd hb (Nat.not_lt_zero _), fun b _ hb => M0_bk b hb, fun f hf => ⟨(M0_fr f hf).1, ⟨3, by decide, (M0_fr f hf).2.1⟩, Or.inl (M0_fr f hf).2.2⟩, fun b hb => absurd hb (Nat.not_lt_zero _), fun s hs => ⟨(M0_sw s hs).1, fun _ => (M0_sw s hs).2.1, 0, by decide, (M0_sw s hs).2.2⟩⟩
theorem M0_LN : LNum M0 := by
  have a1 : ∀ b : Fin 15, M0 (27 + 4 + b.val) 0 = nI b.val := by decide +kernel
  have a2 : ∀ b : Fin 3, M0 (27 + 24 + b.val) 0 = nI b.val := by decide +kernel
  have a3 : ∀ b : Fin 5, M0 (27 + 19 + b.val) 0 = nI b.val := by decide +kernel
  exact ⟨fun b hb => a1 ⟨b, hb⟩, fun b hb => a2 ⟨b, hb⟩, fun b hb => a3 ⟨b, hb⟩⟩
theorem M0_PI : PI M0 0 0 300 30 := by
  refine ⟨⟨M0_Inv, fun b hb => absurd hb (Nat.not_lt_zero _), 300, 0, 0, 12, 20, 30, fun _ => 0, ⟨by decide +kernel, by decide +kernel, rfl⟩, ⟨by decide +kernel, by decide⟩, ⟨by decide +kernel, by decide⟩, ⟨by decide +kernel, by decide⟩, ⟨by decide +kernel, by decide⟩, ?_, rfl⟩, ?_, M0_LN, by decide⟩
  · have : ∀ f : Fin 3, M0 (0 + 24 + f.val) 3 = nI 0 := by decide +kernel
    exact fun f hf => this ⟨f, hf⟩
  · have : ∀ f : Fin 3, sTot M0 (nI f.val) 5 ≤ 2 := by decide +kernel
    exact fun f hf => this ⟨f, hf⟩
theorem M0_bk1 : ∀ f, f < 3 → M0 (0 + 24 + f) 2 = -1 := fun f hf => (M0_fr f hf).2.2
theorem M0_off : ∀ i, i < 5 → M0 (0 + 19 + i) 2 = -1 := fun i hi => (M0_sw i hi).2.1
end YMm
