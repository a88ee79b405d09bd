section YW
/-! THE WORKSHOP at o (0 now, 27 ahead). Its row: 3 bookCount, 4 sewerCount, 5 hour, 6 coins, 7 thread, 8 boards, 9 gold, 10 sewn, 11 loose. Written as the code goes. -/
def wOth (M : yM) (o : Nat) (f s : Int32) : Nat → Int32 | 0 => 0 | n + 1 => if M (o + 19 + n) 2 = f then (if M (o + 19 + n) 0 = s then wOth M o f s n else wOth M o f s n + 1) else wOth M o f s n
def wSpd (M : yM) (o : Nat) (f : Int32) : Nat → Int32 | 0 => 0 | n + 1 => if M (o + 19 + n) 2 = f then wSpd M o f n + M (o + 19 + n) 1 else wSpd M o f n
/-- those who sit at f, of the first n -/
def wSit (M : yM) (o : Nat) (f : Int32) : Nat → Int32 | 0 => 0 | n + 1 => if M (o + 19 + n) 2 = f then wSit M o f n + 1 else wSit M o f n
def wRate (M : yM) (o : Nat) (f : Int32) : Int32 := if wSit M o f 5 = 2 then (if 1 < wSpd M o f 5 - 3 then wSpd M o f 5 - 3 else 1) else wSpd M o f 5
def wCnt (M : yM) (o : Nat) (s : Int32) : Nat → Int32 | 0 => 0 | n + 1 => if M (o + 4 + n) 4 = s then wCnt M o s n + 1 else wCnt M o s n
def wFst (M : yM) (o : Nat) (s : Int32) : Nat → Option Nat | 0 => none | n + 1 => match wFst M o s n with | some i => some i | none => if M (o + 4 + n) 4 = s then some n else none
def wNo (M : yM) (o : Nat) (x : Int32) : Prop := x < 0 ∨ M o 3 ≤ x ∨ nI 15 ≤ x
def wNoS (M : yM) (o : Nat) (x : Int32) : Prop := x < 0 ∨ M o 4 ≤ x ∨ nI 5 ≤ x
def wPay (M : yM) (o : Nat) (x : Int32) : yM := yst M o 9 (M o 9 - x)
def wGildB (M : yM) (j : Nat) : yM := va_up M j (bGild (M j))
def wGildAt (M : yM) (o i : Nat) : yM := if M o 9 < bLeaves (M (o + 4 + i)) then M else wGildB (wPay M o (bLeaves (M (o + 4 + i)))) (o + 4 + i)
def wGild (M : yM) (o : Nat) : yM := match wFst M o 4 15 with | some i => wGildAt M o i | none => M
def wBoardB (M : yM) (j : Nat) : yM := va_up M j (bBind (M j))
def wBoardAt (M : yM) (o i : Nat) : yM := wBoardB (yst M o 8 (M o 8 - 2)) (o + 4 + i)
def wBoard (M : yM) (o : Nat) : Nat → yM | 0 => M | n + 1 => if wBoard M o n (o + 4 + n) 4 = 3 then (if wBoard M o n o 8 < 2 then wBoard M o n else wBoardAt (wBoard M o n) o n) else wBoard M o n
def wDry (M : yM) (o : Nat) : Nat → yM | 0 => M | n + 1 => if wDry M o n (o + 4 + n) 4 = 2 then va_up (wDry M o n) (o + 4 + n) (bDryH (wDry M o n (o + 4 + n))) else wDry M o n
def wMountA (M : yM) (o f i : Nat) : yM := va_up M (o + 4 + i) (bMount (M (o + 4 + i)) (M (o + 24 + f) 0) (M (o + 24 + f) 1))
def wMountAt (M : yM) (o f i : Nat) : yM := yst (wMountA M o f i) (o + 24 + f) 2 (wMountA M o f i (o + 4 + i) 0)
def wMount (M : yM) (o f : Nat) : yM := match wFst M o 0 15 with | some i => wMountAt M o f i | none => M
def yinc (M : yM) (j k : Nat) (x : Int32) : yM := yst M j k (M j k + x)
def ydec (M : yM) (j k : Nat) (x : Int32) : yM := yst M j k (M j k - x)
def wStA (M : yM) (o f : Nat) : yM := yinc (yinc (ydec M o 7 1) o 10 1) (o + 24 + f) 3 1
def wAddB (M : yM) (j : Nat) : yM := va_up M j (bAdd (M j))
def wStB (M : yM) (o f b : Nat) : yM := wAddB (wStA M o f) (o + 4 + b)
def wStC (M : yM) (o b : Nat) : yM := yinc (yinc M (o + 4 + b) 10 1) o 11 1
def wStitch (M : yM) (o f b k : Nat) : yM := if bAddR (wStA M o f (o + 4 + b)) = 0 then wStB M o f b else (if nI k < 10 then wStB M o f b else wStC (wStB M o f b) o b)
def wSewL (M : yM) (o f b : Nat) : Nat → yM | 0 => M | n + 1 => if bSewn (wSewL M o f b n (o + 4 + b)) = 0 then wStitch (wSewL M o f b n) o f b (n + 1) else wSewL M o f b n
def wMost (M : yM) (o f : Nat) : Int32 := if M o 7 < wRate M o (M (o + 24 + f) 0) then M o 7 else wRate M o (M (o + 24 + f) 0)
def wDryB (M : yM) (j : Nat) : yM := va_up M j (bDryB (M j))
def wSewE (M : yM) (o f b : Nat) : yM := if bSewn (M (o + 4 + b)) = 0 then M else wDryB (yst M (o + 24 + f) 2 (-1)) (o + 4 + b)
def wSewB (M : yM) (o f b : Nat) : yM := wSewE (wSewL M o f b (wMost M o f).toNatClampNeg) o f b
noncomputable def wSew (M : yM) (o f : Nat) : yM := by classical exact if wNo M o (M (o + 24 + f) 2) then M else wSewB M o f (M (o + 24 + f) 2).toNatClampNeg
noncomputable def wSews (M : yM) (o : Nat) : Nat → yM | 0 => M | n + 1 => wSew (wSews M o n) o n
def wMounts (M : yM) (o : Nat) : Nat → yM | 0 => M | n + 1 => if wMounts M o n (o + 24 + n) 2 = -1 then wMount (wMounts M o n) o n else wMounts M o n
noncomputable def wHourA (M : yM) (o : Nat) : yM := wMounts (wSews (wDry (wBoard (wGild M o) o 15) o 15) o 3) o 3
noncomputable def wHour (M : yM) (o : Nat) : yM := yst (wHourA M o) o 5 (wHourA M o o 5 + 1)
noncomputable def wHourR (M : yM) (o : Nat) : Int32 := wCnt (wHour M o) o 5 15 - wCnt M o 5 15
noncomputable def wHours (M : yM) (o : Nat) : Nat → yM | 0 => M | n + 1 => wHour (wHours M o n) o
noncomputable def wHoursR (M : yM) (o : Nat) : Nat → Int32 | 0 => 0 | n + 1 => wHoursR M o n + wHourR (wHours M o n) o
def wClr (M : yM) (o : Nat) (x : Int32) : Nat → yM | 0 => M | n + 1 => if wClr M o x n (o + 24 + n) 2 = x then yst (wClr M o x n) (o + 24 + n) 2 (-1) else wClr M o x n
def wSetB (M : yM) (o a : Nat) : Nat → yM | 0 => M | n + 1 => va_up (wSetB M o a n) (o + 4 + n) (bSet (wSetB M o a n (o + 4 + n)) (wSetB M o a n (a + 4 + n)))
def wSetS (M : yM) (o a : Nat) : Nat → yM | 0 => M | n + 1 => va_up (wSetS M o a n) (o + 19 + n) (sSet (wSetS M o a n (o + 19 + n)) (wSetS M o a n (a + 19 + n)))
def wSetF (M : yM) (o a : Nat) : Nat → yM | 0 => M | n + 1 => va_up (wSetF M o a n) (o + 24 + n) (fSet (wSetF M o a n (o + 24 + n)) (wSetF M o a n (a + 24 + n)))
def wRow (f g : Rw) : Rw := fun k => if 3 ≤ k ∧ k ≤ 11 then g k else f k
def wSetA (M : yM) (o a : Nat) : yM := wSetF (wSetS (wSetB M o a 15) o a 5) o a 3
def wSet (M : yM) (o a : Nat) : yM := va_up (wSetA M o a) o (wRow (wSetA M o a o) (wSetA M o a a))
noncomputable def wTellF (M : yM) (o f : Nat) (w : Int32) : Int32 := by classical exact if w = 0 then M (o + 24 + f) 1 else if w = 1 then M (o + 24 + f) 2 else if w = 2 then wOth M o (M (o + 24 + f) 0) (-1) 5 else if w = 3 then wRate M o (M (o + 24 + f) 0) else if w = 4 then (if wNo M o (M (o + 24 + f) 2) then 0 else bToSew (M (o + 4 + (M (o + 24 + f) 2).toNatClampNeg))) else M (o + 24 + f) 3
def wTellA (M : yM) (o : Nat) (w : Int32) : Int32 := if w = 0 then M o 5 else if w = 1 then M o 3 else if w = 9 then M o 6 else if w = 10 then M o 7 else if w = 11 then M o 8 else if w = 12 then M o 9 else if w = 13 then M o 10 else if w = 14 then M o 11 else wCnt M o (w - 2) 15
def wStore (M : yM) (o : Nat) (w x : Int32) : yM := if w = 0 then yst M o 7 (M o 7 + x) else if w = 1 then yst M o 8 (M o 8 + x) else yst M o 9 (M o 9 + x)
def wStoreR (M : yM) (o : Nat) (w x : Int32) : Int32 := if w = 0 then M o 7 + x else if w = 1 then M o 8 + x else M o 9 + x
theorem wNo_not {M : yM} {o : Nat} {x : Int32} (h : ¬ wNo M o x) : ∃ b : Nat, b < 15 ∧ x = nI b ∧ ¬ M o 3 ≤ nI b := by
  simp only [wNo, not_or] at h
  obtain ⟨b, hb, rfl⟩ := nI_of h.1
  refine ⟨b, ?_, rfl, h.2.1⟩
  rcases Nat.lt_or_ge b 15 with q | q
  · exact q
  · exact absurd (nI_le q (by omega)) h.2.2
theorem wNoS_not {M : yM} {o : Nat} {x : Int32} (h : ¬ wNoS M o x) : ∃ b : Nat, b < 5 ∧ x = nI b ∧ ¬ M o 4 ≤ nI b := by
  simp only [wNoS, not_or] at h
  obtain ⟨b, hb, rfl⟩ := nI_of h.1
  refine ⟨b, ?_, rfl, h.2.1⟩
  rcases Nat.lt_or_ge b 5 with q | q
  · exact q
  · exact absurd (nI_le q (by omega)) h.2.2
theorem wSew_no {M : yM} {o f : Nat} (h : wNo M o (M (o + 24 + f) 2)) : wSew M o f = M := by unfold wSew; rw [if_pos h]
theorem wSew_b {M : yM} {o f b : Nat} (h : ¬ wNo M o (M (o + 24 + f) 2)) (hb : b < 15) (e : M (o + 24 + f) 2 = nI b) : wSew M o f = wSewB M o f b := by unfold wSew; rw [if_neg h, e, nI_clamp (by omega)]
/-- the speeds of a workshop's sewers -/
def wSpOK (M : yM) (o : Nat) : Prop := ∀ i, i < 5 → ∃ v : Nat, v ≤ 9 ∧ M (o + 19 + i) 1 = nI v
theorem wSpd_le {M : yM} {o : Nat} {f : Int32} (h : wSpOK M o) : ∀ n, n ≤ 5 → ∃ v : Nat, v ≤ 9 * n ∧ wSpd M o f n = nI v := by
  intro n
  induction n with
  | zero => intro _; exact ⟨0, Nat.le_refl _, rfl⟩
  | succ n ih =>
    intro hn
    obtain ⟨v, hv, e⟩ := ih (by omega)
    obtain ⟨w, hw, e2⟩ := h n (by omega)
    by_cases hc : M (o + 19 + n) 2 = f
    · exact ⟨v + w, by omega, by simp only [wSpd, if_pos hc]; rw [e, e2, nI_add]⟩
    · exact ⟨v, by omega, by simp only [wSpd, if_neg hc]; exact e⟩
theorem wRate_le {M : yM} {o : Nat} {f : Int32} (h : wSpOK M o) : (wRate M o f).toNatClampNeg ≤ 45 := by
  obtain ⟨v, hv, e⟩ := wSpd_le (f := f) h 5 (Nat.le_refl _)
  have h1 : (nI v).toNatClampNeg = v := nI_clamp (by omega)
  have h2 : (1 : Int32).toNatClampNeg = 1 := rfl
  unfold wRate
  rw [e]
  split
  · split
    · have h3 : (nI v - 3).toInt = (v : Int) - 3 := pk_sub_toInt (a := v) (b := 3) (by omega) (by omega)
      have h4 : (nI v - 3).toNatClampNeg = (nI v - 3).toInt.toNat := rfl
      omega
    · omega
  · omega
theorem wMost_le {M : yM} {o f : Nat} (h : wSpOK M o) : (wMost M o f).toNatClampNeg < 1000 := by
  have h1 := wRate_le (f := M (o + 24 + f) 0) h
  unfold wMost
  split
  · rename_i h2
    have h3 := Int32.lt_iff_toInt_lt.mp h2
    have h4 : (M o 7).toNatClampNeg = (M o 7).toInt.toNat := rfl
    have h5 : (wRate M o (M (o + 24 + f) 0)).toNatClampNeg = (wRate M o (M (o + 24 + f) 0)).toInt.toNat := rfl
    omega
  · omega
theorem wFst_none {M : yM} {o : Nat} {s : Int32} : ∀ {n i : Nat}, wFst M o s n = none → i < n → ¬ M (o + 4 + i) 4 = s := by
  intro n
  induction n with
  | zero => intro i _ h; exact absurd h (Nat.not_lt_zero _)
  | succ n ih =>
    intro i h hi hc
    have hn : wFst M o s n = none := by
      cases hq : wFst M o s n with
      | none => rfl
      | some k => simp [wFst, hq] at h
    rcases Nat.lt_or_ge i n with q | q
    · exact ih hn q hc
    · have : i = n := by omega
      subst this
      simp [wFst, hn, hc] at h
theorem wFst_up {M : yM} {o : Nat} {s : Int32} {n k : Nat} (h : wFst M o s n = some k) : ∀ d, wFst M o s (n + d) = some k := by
  intro d
  induction d with
  | zero => exact h
  | succ d ih => simp [wFst, ← Nat.add_assoc, ih]
theorem wFst_at {M : yM} {o : Nat} {s : Int32} {i : Nat} (h : wFst M o s i = none) (hc : M (o + 4 + i) 4 = s) (hi : i < 15) : wFst M o s 15 = some i := by
  have h1 : wFst M o s (i + 1) = some i := by simp [wFst, h, hc]
  have := wFst_up h1 (14 - i)
  rwa [show i + 1 + (14 - i) = 15 by omega] at this
theorem wGild_none {M : yM} {o : Nat} (h : wFst M o 4 15 = none) : M = wGild M o := by unfold wGild; rw [h]
theorem wGild_some {M : yM} {o i : Nat} (h : wFst M o 4 15 = some i) : wGild M o = wGildAt M o i := by unfold wGild; rw [h]
theorem wMount_none {M : yM} {o f : Nat} (h : wFst M o 0 15 = none) : M = wMount M o f := by unfold wMount; rw [h]
theorem wMount_some {M : yM} {o f i : Nat} (h : wFst M o 0 15 = some i) : wMount M o f = wMountAt M o f i := by unfold wMount; rw [h]
theorem wSewL_go {M : yM} {o f b n : Nat} (h : bSewn (wSewL M o f b n (o + 4 + b)) = 0) : wSewL M o f b (n + 1) = wStitch (wSewL M o f b n) o f b (n + 1) := by rw [wSewL, if_pos h]
theorem wStitch_a {M : yM} {o f b k : Nat} (h : bAddR (wStA M o f (o + 4 + b)) = 0) : wStitch M o f b k = wStB M o f b := by rw [wStitch, if_pos h]
theorem wStitch_b {M : yM} {o f b k : Nat} (h : ¬ bAddR (wStA M o f (o + 4 + b)) = 0) (h2 : nI k < 10) : wStitch M o f b k = wStB M o f b := by rw [wStitch, if_neg h, if_pos h2]
theorem wStitch_c {M : yM} {o f b k : Nat} (h : ¬ bAddR (wStA M o f (o + 4 + b)) = 0) (h2 : ¬ nI k < 10) : wStitch M o f b k = wStC (wStB M o f b) o b := by rw [wStitch, if_neg h, if_neg h2]
theorem wSewL_stop {M : yM} {o f b n : Nat} (h : ¬ bSewn (wSewL M o f b n (o + 4 + b)) = 0) : ∀ d, wSewL M o f b (n + d) = wSewL M o f b n := by
  intro d
  induction d with
  | zero => rfl
  | succ d ih => rw [← Nat.add_assoc, wSewL, ih, if_neg h]
end YW
