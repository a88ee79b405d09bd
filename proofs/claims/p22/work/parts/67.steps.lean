section YSt
theorem mo_none {o : Option String} {A M : yM} (h : o = none) : mo o A M = A := by rw [h]; rfl
theorem mo_some {o : Option String} {A M : yM} {E : String} (h : o = some E) : mo o A M = M := by rw [h]; rfl
/-! which throw -/
theorem i32_of {v : Int32} {n : Nat} (hn : n < 1000) (h1 : ¬ v < 1) (h2 : v ≤ nI n) : ∃ k, 1 ≤ k ∧ k ≤ n ∧ v = nI k := by
  have h0 : ¬ v < 0 := fun q => h1 (Int32.lt_trans q (by decide))
  obtain ⟨k, hk, rfl⟩ := nI_of h0
  refine ⟨k, ?_, (nI_leI hk (by omega)).mp h2, rfl⟩
  rcases Nat.eq_zero_or_pos k with q | q
  · subst q; exact absurd (by decide) h1
  · exact q
theorem i32_of0 {v : Int32} {n : Nat} (hn : n < 1000) (h1 : ¬ v < 0) (h2 : v ≤ nI n) : ∃ k, k ≤ n ∧ v = nI k := by
  obtain ⟨k, hk, rfl⟩ := nI_of h1
  exact ⟨k, (nI_leI hk (by omega)).mp h2, rfl⟩
theorem mI_a {v a b : Int32} (h : v < a) : mI v a b = 0 := by unfold mI; rw [if_pos h]
theorem mI_b {v a b : Int32} (h : ¬ v ≤ b) : mI v a b = 0 := by
  unfold mI
  split
  · rfl
  · rw [if_pos (Int32.not_le.mp h)]
theorem mI_c {v a b : Int32} (h : ¬ v < a) (h2 : v ≤ b) : ¬ mI v a b = 0 := by
  unfold mI
  rw [if_neg h, if_neg (Int32.not_lt.mpr h2)]
  decide
theorem kind_cs {w : Int32} {n : Nat} (hn : n < 1000) : (okK w (nI (n + 1)) = some yIOE ∧ mI w 0 (nI n) = 0) ∨ (okK w (nI (n + 1)) = none ∧ ¬ mI w 0 (nI n) = 0 ∧ cN w < n + 1 ∧ w = nI (cN w)) := by
  unfold okK
  by_cases h1 : w < 0
  · rw [if_pos h1]; exact Or.inl ⟨rfl, mI_a h1⟩
  · rw [if_neg h1]
    obtain ⟨k, hk, rfl⟩ := nI_of h1
    by_cases h2 : nI k < nI (n + 1)
    · rw [if_pos h2]
      have h3 := (nI_ltI hk (by omega)).mp h2
      refine Or.inr ⟨rfl, mI_c h1 (nI_le (by omega) (by omega)), ?_, ?_⟩ <;> rw [cN_n hk]
      exact h3
    · rw [if_neg h2]
      refine Or.inl ⟨rfl, mI_b (fun q => h2 ?_)⟩
      have h3 := (nI_leI hk (by omega)).mp q
      exact nI_lt (by omega) (by omega)
theorem frame_cs {x : Int32} : (okF x = some yIOE ∧ mI x 0 2 = 0) ∨ (okF x = none ∧ ¬ mI x 0 2 = 0 ∧ cN x < 3 ∧ x = nI (cN x)) := kind_cs (n := 2) (by decide)
theorem hours_cs {h : Int32} : (okH h = some yIAE ∧ mI h 1 120 = 0) ∨ (okH h = none ∧ ¬ mI h 1 120 = 0) := by
  unfold okH
  by_cases h1 : h < 1
  · rw [if_pos h1]; exact Or.inl ⟨rfl, mI_a h1⟩
  · rw [if_neg h1]
    by_cases h2 : h ≤ 120
    · rw [if_pos h2]; exact Or.inr ⟨rfl, mI_c h1 h2⟩
    · rw [if_neg h2]; exact Or.inl ⟨rfl, mI_b h2⟩
theorem pred_cs {x : Int32} {n : Nat} (hn : n < 1000) : ((x < 0 ∨ nI n ≤ x) ∧ mI x 0 (nI n - 1) = 0) ∨ (¬ (x < 0 ∨ nI n ≤ x) ∧ ¬ mI x 0 (nI n - 1) = 0 ∧ cN x < n ∧ x = nI (cN x)) := by
  by_cases h1 : x < 0
  · exact Or.inl ⟨Or.inl h1, mI_a h1⟩
  · obtain ⟨k, hk, rfl⟩ := nI_of h1
    have h5 : (nI n - 1).toInt = (n : Int) - 1 := pk_sub_toInt (a := n) (b := 1) (by omega) (by omega)
    by_cases h2 : k < n
    · refine Or.inr ⟨fun q => ?_, mI_c h1 ?_, ?_, ?_⟩
      · rcases q with q | q
        · exact h1 q
        · exact nI_ge h2 (by omega) q
      · apply Int32.le_iff_toInt_le.mpr
        rw [h5, nI_toInt hk]; omega
      · rw [cN_n hk]; exact h2
      · rw [cN_n hk]
    · refine Or.inl ⟨Or.inr (nI_le (by omega) hk), mI_b (fun q => ?_)⟩
      have h6 := Int32.le_iff_toInt_le.mp q
      rw [h5, nI_toInt hk] at h6
      omega
theorem book_cs {M : yM} {B S : Nat} {x : Int32} (h : Inv M 0 B S) : (okB M x = some yIOE ∧ mI x 0 (nI B - 1) = 0) ∨ (okB M x = none ∧ ¬ mI x 0 (nI B - 1) = 0 ∧ cN x < B ∧ x = nI (cN x)) := by
  have hB := h.hB
  rcases pred_cs (x := x) (n := B) (by omega) with ⟨h1, h2⟩ | ⟨h1, h2, h3, h4⟩
  · refine Or.inl ⟨okB_t ?_, h2⟩
    rcases h1 with q | q
    · exact Or.inl q
    · exact Or.inr (Or.inl (by rw [h.o3]; exact q))
  · refine Or.inr ⟨okB_f (fun q => ?_), h2, h3, h4⟩
    rcases q with q | q | q
    · exact h1 (Or.inl q)
    · rw [h.o3] at q; exact h1 (Or.inr q)
    · rw [h4] at q
      exact nI_ge (a := cN x) (b := 15) (by omega) (by decide) q
theorem sewer_cs {M : yM} {B S : Nat} {x : Int32} (h : Inv M 0 B S) : (okS M x = some yIOE ∧ mI x 0 (nI S - 1) = 0) ∨ (okS M x = none ∧ ¬ mI x 0 (nI S - 1) = 0 ∧ cN x < S ∧ x = nI (cN x)) := by
  have hS := h.hS
  rcases pred_cs (x := x) (n := S) (by omega) with ⟨h1, h2⟩ | ⟨h1, h2, h3, h4⟩
  · refine Or.inl ⟨okS_t ?_, h2⟩
    rcases h1 with q | q
    · exact Or.inl q
    · exact Or.inr (Or.inl (by rw [h.o4]; exact q))
  · refine Or.inr ⟨okS_f (fun q => ?_), h2, h3, h4⟩
    rcases q with q | q | q
    · exact h1 (Or.inl q)
    · rw [h.o4] at q; exact h1 (Or.inr q)
    · rw [h4] at q
      exact nI_ge (a := cN x) (b := 5) (by omega) (by decide) q
/-! calls that only tell -/
section
variable {M : yM} {B S : Nat}
/-! calls that change the workshop -/
theorem LNum.s {j k : Nat} {v : Int32} (h : LNum M) (hj : ¬ (27 ≤ j ∧ j < 54)) : LNum (yst M j k v) := h.cg (fun i _ _ => yst_row (by omega))
theorem LNum.u {j : Nat} {r : Rw} (h : LNum M) (hj : ¬ (27 ≤ j ∧ j < 54)) : LNum (va_up M j r) := h.cg (fun i _ _ => up_n (by omega))
end
end YSt
