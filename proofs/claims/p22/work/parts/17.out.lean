section YO
/-- from M to M' a workshop's hour changes its own row, its books and its frames alone -/
def wOut (M M' : yM) (o : Nat) : Prop := ∀ j, j ≠ o → ¬ (o + 4 ≤ j ∧ j < o + 19) → ¬ (o + 24 ≤ j ∧ j < o + 27) → M' j = M j
theorem wOut.rf {M : yM} {o : Nat} : wOut M M o := fun _ _ _ _ => rfl
theorem wOut.tr {M M' M'' : yM} {o : Nat} (h : wOut M M' o) (k : wOut M' M'' o) : wOut M M'' o := fun j a b c => (k j a b c).trans (h j a b c)
theorem wOut_o {M : yM} {o k : Nat} {v : Int32} : wOut M (yst M o k v) o := fun j a _ _ => yst_row a
theorem wOut_f {M : yM} {o f k : Nat} {v : Int32} (hf : f < 3) : wOut M (yst M (o + 24 + f) k v) o := fun j _ _ c => yst_row (by omega)
theorem wOut_b {M : yM} {o b : Nat} {r : Rw} (hb : b < 15) : wOut M (va_up M (o + 4 + b) r) o := fun j _ c _ => up_n (by omega)
theorem wOut_bk {M : yM} {o b k : Nat} {v : Int32} (hb : b < 15) : wOut M (yst M (o + 4 + b) k v) o := fun j _ c _ => yst_row (by omega)
theorem wFst_lt {M : yM} {o : Nat} {s : Int32} : ∀ {n i : Nat}, wFst M o s n = some i → i < n := by
  intro n
  induction n with
  | zero => intro i h; simp [wFst] at h
  | succ n ih =>
    intro i h
    cases hq : wFst M o s n with
    | some k => simp [wFst, hq] at h; have := ih hq; omega
    | none =>
      simp only [wFst, hq] at h
      split at h
      · cases h; omega
      · cases h
theorem wOut_gild {M : yM} {o : Nat} : wOut M (wGild M o) o := by
  cases h : wFst M o 4 15 with
  | none => rw [← wGild_none h]; exact wOut.rf
  | some i =>
    rw [wGild_some h, wGildAt]
    split
    · exact wOut.rf
    · exact wOut.tr wOut_o (wOut_b (wFst_lt h))
theorem wOut_board {M : yM} {o : Nat} : ∀ n, n ≤ 15 → wOut M (wBoard M o n) o := by
  intro n
  induction n with
  | zero => intro _; exact wOut.rf
  | succ n ih =>
    intro hn
    have h := ih (by omega)
    rw [wBoard]
    split
    · split
      · exact h
      · exact h.tr (wOut.tr wOut_o (wOut_b (by omega)))
    · exact h
theorem wOut_dry {M : yM} {o : Nat} : ∀ n, n ≤ 15 → wOut M (wDry M o n) o := by
  intro n
  induction n with
  | zero => intro _; exact wOut.rf
  | succ n ih =>
    intro hn
    have h := ih (by omega)
    rw [wDry]
    split
    · exact h.tr (wOut_b (by omega))
    · exact h
theorem wOut_mount {M : yM} {o f : Nat} (hf : f < 3) : wOut M (wMount M o f) o := by
  cases h : wFst M o 0 15 with
  | none => rw [← wMount_none h]; exact wOut.rf
  | some i =>
    rw [wMount_some h]
    exact wOut.tr (wOut_b (wFst_lt h)) (wOut_f hf)
theorem wOut_stB {M : yM} {o f b : Nat} (hf : f < 3) (hb : b < 15) : wOut M (wStB M o f b) o := by
  unfold wStB wAddB wStA yinc ydec
  exact ((wOut_o.tr wOut_o).tr (wOut_f hf)).tr (wOut_b hb)
theorem wOut_stitch {M : yM} {o f b k : Nat} (hf : f < 3) (hb : b < 15) : wOut M (wStitch M o f b k) o := by
  unfold wStitch
  split
  · exact wOut_stB hf hb
  · split
    · exact wOut_stB hf hb
    · unfold wStC yinc
      exact (wOut_stB hf hb).tr ((wOut_bk hb).tr wOut_o)
theorem wOut_sewL {M : yM} {o f b : Nat} (hf : f < 3) (hb : b < 15) : ∀ n, wOut M (wSewL M o f b n) o := by
  intro n
  induction n with
  | zero => exact wOut.rf
  | succ n ih =>
    rw [wSewL]
    split
    · exact ih.tr (wOut_stitch hf hb)
    · exact ih
theorem wOut_sew {M : yM} {o f : Nat} (hf : f < 3) : wOut M (wSew M o f) o := by
  by_cases hn : wNo M o (M (o + 24 + f) 2)
  · rw [wSew_no hn]; exact wOut.rf
  · obtain ⟨b, hb, eb, -⟩ := wNo_not hn
    rw [wSew_b hn hb eb, wSewB, wSewE]
    split
    · exact wOut_sewL hf hb _
    · exact (wOut_sewL hf hb _).tr ((wOut_f hf).tr (wOut_b hb))
theorem wOut_sews {M : yM} {o : Nat} : ∀ n, n ≤ 3 → wOut M (wSews M o n) o := by
  intro n
  induction n with
  | zero => intro _; exact wOut.rf
  | succ n ih => intro hn; exact (ih (by omega)).tr (wOut_sew (by omega))
theorem wOut_mounts {M : yM} {o : Nat} : ∀ n, n ≤ 3 → wOut M (wMounts M o n) o := by
  intro n
  induction n with
  | zero => intro _; exact wOut.rf
  | succ n ih =>
    intro hn
    rw [wMounts]
    split
    · exact (ih (by omega)).tr (wOut_mount (by omega))
    · exact ih (by omega)
theorem wOut_D {M : yM} {o : Nat} : wOut M (wDry (wBoard (wGild M o) o 15) o 15) o := (wOut_gild.tr (wOut_board 15 (Nat.le_refl _))).tr (wOut_dry 15 (Nat.le_refl _))
theorem wOut_hour {M : yM} {o : Nat} : wOut M (wHour M o) o := by
  unfold wHour wHourA
  exact ((wOut_D.tr (wOut_sews 3 (Nat.le_refl _))).tr (wOut_mounts 3 (Nat.le_refl _))).tr wOut_o
theorem wOut_hours {M : yM} {o : Nat} : ∀ n, wOut M (wHours M o n) o := by
  intro n
  induction n with
  | zero => exact wOut.rf
  | succ n ih => exact ih.tr wOut_hour
theorem wSpOK.out {M M' : yM} {o : Nat} (h : wSpOK M o) (k : wOut M M' o) : wSpOK M' o := by
  intro i hi
  obtain ⟨v, hv, e⟩ := h i hi
  exact ⟨v, hv, by rw [k (o + 19 + i) (by omega) (by omega) (by omega)]; exact e⟩
theorem wRow_e (f g : Rw) : ru (ru (ru (ru (ru (ru (ru (ru (ru f 3 (g 3)) 4 (g 4)) 5 (g 5)) 6 (g 6)) 7 (g 7)) 8 (g 8)) 9 (g 9)) 10 (g 10)) 11 (g 11) = wRow f g := by
  funext k
  unfold wRow
  simp only [ru_i]
  by_cases h : k = 3 ∨ k = 4 ∨ k = 5 ∨ k = 6 ∨ k = 7 ∨ k = 8 ∨ k = 9 ∨ k = 10 ∨ k = 11
  · rcases h with rfl | rfl | rfl | rfl | rfl | rfl | rfl | rfl | rfl <;> simp
  · simp only [not_or] at h
    simp [h]
    intros
    omega
end YO
