section YFT
theorem wSetB_at {M : yM} {o a : Nat} (hd : a + 19 ≤ o ∨ o + 19 ≤ a) : ∀ n, n ≤ 15 → ∀ j, wSetB M o a n j = if o + 4 ≤ j ∧ j < o + 4 + n then bSet (M j) (M (a + 4 + (j - (o + 4)))) else M j := by
  intro n
  induction n with
  | zero => intro _ j; rw [if_neg (by omega)]; rfl
  | succ n ih =>
    intro hn j
    have h := ih (by omega)
    rw [wSetB]
    by_cases hj : j = o + 4 + n
    · subst hj
      rw [up_s, h, if_neg (by omega), h, if_neg (by omega), if_pos (by omega)]
      congr 2
      omega
    · rw [up_n hj, h]
      by_cases hc : o + 4 ≤ j ∧ j < o + 4 + n
      · rw [if_pos hc, if_pos (by omega)]
      · rw [if_neg hc, if_neg (by omega)]
theorem wSetS_at {M : yM} {o a : Nat} (hd : a + 24 ≤ o ∨ o + 24 ≤ a) : ∀ n, n ≤ 5 → ∀ j, wSetS M o a n j = if o + 19 ≤ j ∧ j < o + 19 + n then sSet (M j) (M (a + 19 + (j - (o + 19)))) else M j := by
  intro n
  induction n with
  | zero => intro _ j; rw [if_neg (by omega)]; rfl
  | succ n ih =>
    intro hn j
    have h := ih (by omega)
    rw [wSetS]
    by_cases hj : j = o + 19 + n
    · subst hj
      rw [up_s, h, if_neg (by omega), h, if_neg (by omega), if_pos (by omega)]
      congr 2
      omega
    · rw [up_n hj, h]
      by_cases hc : o + 19 ≤ j ∧ j < o + 19 + n
      · rw [if_pos hc, if_pos (by omega)]
      · rw [if_neg hc, if_neg (by omega)]
theorem wSetF_at {M : yM} {o a : Nat} (hd : a + 27 ≤ o ∨ o + 27 ≤ a) : ∀ n, n ≤ 3 → ∀ j, wSetF M o a n j = if o + 24 ≤ j ∧ j < o + 24 + n then fSet (M j) (M (a + 24 + (j - (o + 24)))) else M j := by
  intro n
  induction n with
  | zero => intro _ j; rw [if_neg (by omega)]; rfl
  | succ n ih =>
    intro hn j
    have h := ih (by omega)
    rw [wSetF]
    by_cases hj : j = o + 24 + n
    · subst hj
      rw [up_s, h, if_neg (by omega), h, if_neg (by omega), if_pos (by omega)]
      congr 2
      omega
    · rw [up_n hj, h]
      by_cases hc : o + 24 ≤ j ∧ j < o + 24 + n
      · rw [if_pos hc, if_pos (by omega)]
      · rw [if_neg hc, if_neg (by omega)]
/-- ahead is set to now -/
def wCopy (M : yM) : yM := wSet M 27 0
theorem wCopy_A {M : yM} (j : Nat) : wSetA M 27 0 j = if 27 + 24 ≤ j ∧ j < 27 + 27 then fSet (M j) (M (24 + (j - 51))) else if 27 + 19 ≤ j ∧ j < 27 + 24 then sSet (M j) (M (19 + (j - 46))) else if 27 + 4 ≤ j ∧ j < 27 + 19 then bSet (M j) (M (4 + (j - 31))) else M j := by
  unfold wSetA
  rw [wSetF_at (Or.inl (by decide)) 3 (Nat.le_refl _)]
  by_cases h1 : 27 + 24 ≤ j ∧ j < 27 + 27
  · rw [if_pos (by omega), if_pos h1, wSetS_at (Or.inl (by decide)) 5 (Nat.le_refl _), if_neg (by omega), wSetB_at (Or.inl (by decide)) 15 (Nat.le_refl _), if_neg (by omega), wSetS_at (Or.inl (by decide)) 5 (Nat.le_refl _), if_neg (by omega), wSetB_at (Or.inl (by decide)) 15 (Nat.le_refl _), if_neg (by omega)]
  · rw [if_neg (by omega), if_neg h1, wSetS_at (Or.inl (by decide)) 5 (Nat.le_refl _)]
    by_cases h2 : 27 + 19 ≤ j ∧ j < 27 + 24
    · rw [if_pos (by omega), if_pos h2, wSetB_at (Or.inl (by decide)) 15 (Nat.le_refl _), if_neg (by omega), wSetB_at (Or.inl (by decide)) 15 (Nat.le_refl _), if_neg (by omega)]
    · rw [if_neg (by omega), if_neg h2, wSetB_at (Or.inl (by decide)) 15 (Nat.le_refl _)]
theorem wCopy_bk {M : yM} {i : Nat} (hi : i < 15) : wCopy M (27 + 4 + i) = bSet (M (27 + 4 + i)) (M (0 + 4 + i)) := by
  show wSet M 27 0 _ = _
  unfold wSet
  rw [up_n (by omega), wCopy_A, if_neg (by omega), if_neg (by omega), if_pos (by omega)]
  congr 2
  omega
theorem wCopy_sw {M : yM} {i : Nat} (hi : i < 5) : wCopy M (27 + 19 + i) = sSet (M (27 + 19 + i)) (M (0 + 19 + i)) := by
  show wSet M 27 0 _ = _
  unfold wSet
  rw [up_n (by omega), wCopy_A, if_neg (by omega), if_pos (by omega)]
  congr 2
  omega
theorem wCopy_fr {M : yM} {i : Nat} (hi : i < 3) : wCopy M (27 + 24 + i) = fSet (M (27 + 24 + i)) (M (0 + 24 + i)) := by
  show wSet M 27 0 _ = _
  unfold wSet
  rw [up_n (by omega), wCopy_A, if_pos (by omega)]
  congr 2
  omega
theorem wCopy_row {M : yM} : wCopy M 27 = wRow (M 27) (M 0) := by
  show wSet M 27 0 _ = _
  unfold wSet
  rw [up_s, wCopy_A, wCopy_A, if_neg (by decide), if_neg (by decide), if_neg (by decide), if_neg (by decide), if_neg (by decide), if_neg (by decide)]
theorem wCopy_out {M : yM} {j : Nat} (h : ¬ (27 ≤ j ∧ j < 54)) : wCopy M j = M j := by
  show wSet M 27 0 _ = _
  unfold wSet
  rw [up_n (by omega), wCopy_A, if_neg (by omega), if_neg (by omega), if_neg (by omega)]
theorem wSpOK_copy {M : yM} (h : wSpOK M 0) : wSpOK (wCopy M) 27 := by
  intro i hi
  obtain ⟨v, hv, e⟩ := h i hi
  refine ⟨v, hv, ?_⟩
  rw [wCopy_sw hi]
  unfold sSet
  rw [if_pos (by decide)]
  exact e
theorem wSpOK_cp {M : yM} (h : wSpOK M 0) : wSpOK (wSet M 27 0) 27 := wSpOK_copy h
/-- the first of 1 .. n at which p holds -/
def hF (p : Nat → Bool) : Nat → Option Nat | 0 => none | n + 1 => match hF p n with | some k => some k | none => if p (n + 1) = true then some (n + 1) else none
theorem hF_up {p : Nat → Bool} {n k : Nat} (h : hF p n = some k) : ∀ d, hF p (n + d) = some k := by
  intro d
  induction d with
  | zero => exact h
  | succ d ih => rw [← Nat.add_assoc, hF, ih]
theorem hF_s {p : Nat → Bool} {i N : Nat} (h : hF p i = none) (hp : p (i + 1) = true) (hi : i < N) : hF p N = some (i + 1) := by
  have h1 : hF p (i + 1) = some (i + 1) := by rw [hF, h]; simp [hp]
  have := hF_up h1 (N - (i + 1))
  rwa [show i + 1 + (N - (i + 1)) = N by omega] at this
theorem hF_n {p : Nat → Bool} {i : Nat} (h : hF p i = none) (hp : p (i + 1) = false) : hF p (i + 1) = none := by rw [hF, h]; simp [hp]
noncomputable def utP (M : yM) (j : Nat) : Nat → Bool := fun h => decide (wHours (wSet M 27 0) 27 h j 4 = 5)
noncomputable def utH (M : yM) (b : Nat) : Option Nat := hF (utP M (27 + 4 + b)) 250
def hR (o : Option Nat) : Int32 := match o with | some h => nI h | none => -1
def hX (o : Option Nat) : Nat := match o with | some h => h | none => 250
noncomputable def utR (M : yM) (b : Nat) : Int32 := if M (0 + 4 + b) 4 < 5 then hR (utH M b) else 0
noncomputable def utM (M : yM) (b : Nat) : yM := if M (0 + 4 + b) 4 < 5 then wHours (wSet M 27 0) 27 (hX (utH M b)) else M
noncomputable def nxP (M : yM) : Nat → Bool := fun h => !decide (wHourR (wHours (wSet M 27 0) 27 (h - 1)) 27 ≤ 0)
noncomputable def nxH (M : yM) : Option Nat := hF (nxP M) 250
/-- the first book that isn't done now, and is ahead -/
def fdA (M : yM) : Nat → Option Nat | 0 => none | n + 1 => match fdA M n with | some i => some i | none => if M (0 + 4 + n) 4 < 5 then (if M (27 + 4 + n) 4 = 5 then some n else none) else none
def fdR (M : yM) : Int32 := match fdA M 15 with | some i => nI i | none => -1
noncomputable def nxM (M : yM) : yM := wHours (wSet M 27 0) 27 (hX (nxH M))
noncomputable def nxR (M : yM) : Int32 := match nxH M with | some h => fdR (wHours (wSet M 27 0) 27 h) | none => -1
theorem fdA_up {M : yM} {n k : Nat} (h : fdA M n = some k) : ∀ d, fdA M (n + d) = some k := by
  intro d
  induction d with
  | zero => exact h
  | succ d ih => rw [← Nat.add_assoc, fdA, ih]
theorem fdA_s {M : yM} {i : Nat} (h : fdA M i = none) (h1 : M (0 + 4 + i) 4 < 5) (h2 : M (27 + 4 + i) 4 = 5) (hi : i < 15) : fdR M = nI i := by
  have h3 : fdA M (i + 1) = some i := by rw [fdA, h]; simp [h1, h2]
  have := fdA_up h3 (15 - (i + 1))
  rw [show i + 1 + (15 - (i + 1)) = 15 by omega] at this
  unfold fdR
  rw [this]
theorem fdA_a {M : yM} {i : Nat} (h : fdA M i = none) (h1 : ¬ M (0 + 4 + i) 4 < 5) : fdA M (i + 1) = none := by rw [fdA, h]; simp only [if_neg h1]
theorem fdA_b {M : yM} {i : Nat} (h : fdA M i = none) (h2 : ¬ M (27 + 4 + i) 4 = 5) : fdA M (i + 1) = none := by
  rw [fdA, h]
  simp only [if_neg h2]
  split <;> rfl
theorem fdR_n {M : yM} (h : fdA M 15 = none) : fdR M = -1 := by unfold fdR; rw [h]
/-- what would be sewn in 12 hours -/
def saA (M : yM) (b : Nat) (f : Int32) : yM := yst (wSet M 27 0) (27 + 19 + b) 2 f
noncomputable def saM (M : yM) (b : Nat) (f : Int32) : yM := wHours (saA M b f) 27 12
noncomputable def saR (M : yM) (b : Nat) (f : Int32) : Int32 := saM M b f 27 10
theorem wSpOK_sa {M : yM} {b : Nat} {f : Int32} (h : wSpOK M 0) : wSpOK (saA M b f) 27 := by
  intro i hi
  obtain ⟨v, hv, e⟩ := wSpOK_cp h i hi
  refine ⟨v, hv, ?_⟩
  unfold saA
  by_cases hb : i = b
  · subst hb; rw [yst_at, if_neg (by decide)]; exact e
  · rw [yst_row (by omega)]; exact e
/-- advise's loop: the best, the most, the memory -/
noncomputable def adM (M : yM) (x : Int32) : Nat → yM | 0 => M | n + 1 => if 2 ≤ wOth (adM M x n) 0 (nI n) x 5 then adM M x n else saM (adM M x n) (cN x) (nI n)
noncomputable def adT (M : yM) (x : Int32) : Nat → Int32 | 0 => -1 | n + 1 => if 2 ≤ wOth (adM M x n) 0 (nI n) x 5 then adT M x n else if saR (adM M x n) (cN x) (nI n) ≤ adT M x n then adT M x n else saR (adM M x n) (cN x) (nI n)
noncomputable def adB (M : yM) (x : Int32) : Nat → Int32 | 0 => -1 | n + 1 => if 2 ≤ wOth (adM M x n) 0 (nI n) x 5 then adB M x n else if saR (adM M x n) (cN x) (nI n) ≤ adT M x n then adB M x n else nI n
/-- out of the class's ahead nothing changes -/
def nOut (M M' : yM) : Prop := ∀ j, ¬ (27 ≤ j ∧ j < 54) → M' j = M j
theorem nOut_copy {M : yM} : nOut M (wSet M 27 0) := fun _ h => wCopy_out h
theorem nOut_h {M M' : yM} (h : wOut M M' 27) : nOut M M' := fun j hj => h j (by omega) (by omega) (by omega)
theorem nOut.tr {M M' M'' : yM} (h : nOut M M') (k : nOut M' M'') : nOut M M'' := fun j hj => (k j hj).trans (h j hj)
theorem nOut_saM {M : yM} {b : Nat} {f : Int32} (hb : b < 5) : nOut M (saM M b f) := by
  refine nOut.tr (M' := saA M b f) (fun j hj => ?_) (nOut_h (wOut_hours 12))
  unfold saA
  rw [yst_row (by omega)]
  exact wCopy_out hj
theorem nOut_adM {M : yM} {x : Int32} (hb : cN x < 5) : ∀ n, nOut M (adM M x n) := by
  intro n
  induction n with
  | zero => exact fun _ _ => rfl
  | succ n ih =>
    rw [adM]
    split
    · exact ih
    · exact ih.tr (nOut_saM hb)
theorem wSpOK_n {M M' : yM} (h : wSpOK M 0) (k : nOut M M') : wSpOK M' 0 := by
  intro i hi
  obtain ⟨v, hv, e⟩ := h i hi
  exact ⟨v, hv, by rw [k _ (by omega)]; exact e⟩
def woT (M : yM) : Nat → Int32 | 0 => 0 | n + 1 => if M (0 + 4 + n) 4 = 5 then woT M n + bVal (M (0 + 4 + n)) else woT M n
theorem okB_e {M : yM} {x : Int32} (h : okB M x = none) : cN x < 15 ∧ x = nI (cN x) ∧ ¬ M 0 3 ≤ nI (cN x) := by
  obtain ⟨b, hb, rfl, hc⟩ := okB_n h
  rw [cN_n (by omega)]
  exact ⟨hb, rfl, hc⟩
theorem okS_e {M : yM} {x : Int32} (h : okS M x = none) : cN x < 5 ∧ x = nI (cN x) ∧ ¬ M 0 4 ≤ nI (cN x) := by
  obtain ⟨b, hb, rfl, hc⟩ := okS_n h
  rw [cN_n (by omega)]
  exact ⟨hb, rfl, hc⟩
theorem okF_e {x : Int32} (h : okF x = none) : cN x < 3 ∧ x = nI (cN x) := by
  obtain ⟨b, hb, rfl⟩ := okF_n h
  rw [cN_n (by omega)]
  exact ⟨hb, rfl⟩
theorem okB_k {M : yM} {x : Int32} (h : okB M x = none) : ykd (bkI x) = 0 := ykd_bk (Or.inl rfl) (okB_e h).1
theorem okS_k {M : yM} {x : Int32} (h : okS M x = none) : ykd (swI x) = 2 := ykd_sw (Or.inl rfl) (okS_e h).1
theorem okF_k {x : Int32} (h : okF x = none) : ykd (frI x) = 1 := ykd_fr (Or.inl rfl) (okF_e h).1
theorem wSet_3 {M : yM} : wSet M 27 0 27 3 = M 0 3 := by
  have h : wSet M 27 0 27 = wRow (M 27) (M 0) := wCopy_row
  rw [h, wRow, if_pos (by decide)]
theorem wSet_4 {M : yM} : wSet M 27 0 27 4 = M 0 4 := by
  have h : wSet M 27 0 27 = wRow (M 27) (M 0) := wCopy_row
  rw [h, wRow, if_pos (by decide)]
theorem ut_done {M : yM} {b : Nat} (h : ¬ M (0 + 4 + b) 4 < 5) : utR M b = 0 ∧ utM M b = M := by unfold utR utM; rw [if_neg h, if_neg h]; exact ⟨rfl, rfl⟩
theorem ut_some {M : yM} {b i : Nat} (h : M (0 + 4 + b) 4 < 5) (hn : hF (utP M (27 + 4 + b)) i = none) (hi : i < 250) (h5 : wHours (wSet M 27 0) 27 (i + 1) (27 + 4 + b) 4 = 5) : utR M b = nI (i + 1) ∧ utM M b = wHours (wSet M 27 0) 27 (i + 1) := by
  have e : utH M b = some (i + 1) := hF_s hn (decide_eq_true h5) hi
  unfold utR utM
  rw [if_pos h, if_pos h, e]
  exact ⟨rfl, rfl⟩
theorem ut_none {M : yM} {b : Nat} (h : M (0 + 4 + b) 4 < 5) (hn : hF (utP M (27 + 4 + b)) 250 = none) : utR M b = -1 ∧ utM M b = wHours (wSet M 27 0) 27 250 := by
  have e : utH M b = none := hn
  unfold utR utM
  rw [if_pos h, if_pos h, e]
  exact ⟨rfl, rfl⟩
theorem nx_some {M : yM} {i : Nat} (hn : hF (nxP M) i = none) (hi : i < 250) (h5 : ¬ wHourR (wHours (wSet M 27 0) 27 i) 27 ≤ 0) : nxR M = fdR (wHours (wSet M 27 0) 27 (i + 1)) ∧ nxM M = wHours (wSet M 27 0) 27 (i + 1) := by
  have e : nxH M = some (i + 1) := hF_s hn (by show (!decide (wHourR (wHours (wSet M 27 0) 27 i) 27 ≤ 0)) = true; rw [decide_eq_false h5]; rfl) hi
  unfold nxR nxM
  rw [e]
  exact ⟨rfl, rfl⟩
theorem nx_no {M : yM} {i : Nat} (hn : hF (nxP M) i = none) (h5 : wHourR (wHours (wSet M 27 0) 27 i) 27 ≤ 0) : hF (nxP M) (i + 1) = none := hF_n hn (by show (!decide (wHourR (wHours (wSet M 27 0) 27 i) 27 ≤ 0)) = false; rw [decide_eq_true h5]; rfl)
theorem nx_none {M : yM} (hn : hF (nxP M) 250 = none) : nxR M = -1 ∧ nxM M = wHours (wSet M 27 0) 27 250 := by
  have e : nxH M = none := hn
  unfold nxR nxM
  rw [e]
  exact ⟨rfl, rfl⟩
theorem okS_out {M M' : yM} {x : Int32} (h : nOut M M') : okS M' x = okS M x := by
  unfold okS wNoS
  rw [h 0 (by omega)]
/-! mean, digest -/
def meT (M : yM) : Nat → Int32 | 0 => 0 | n + 1 => if M (0 + 4 + n) 4 = -1 then meT M n else if M (0 + 4 + n) 4 = 6 then meT M n else meT M n + bVal (M (0 + 4 + n))
def meN (M : yM) : Nat → Nat | 0 => 0 | n + 1 => if M (0 + 4 + n) 4 = -1 then meN M n else if M (0 + 4 + n) 4 = 6 then meN M n else meN M n + 1
theorem meN_le {M : yM} : ∀ n, meN M n ≤ n := by
  intro n
  induction n with
  | zero => exact Nat.le_refl _
  | succ n ih =>
    rw [meN]
    split
    · omega
    · split <;> omega
def meD (a b : Int32) : UInt64 := if b = 0 then 0 else FP.ddiv (FP.i2d a) (FP.i2d b)
noncomputable def dgA (M : yM) : Nat → Int64 | 0 => 1367 | n + 1 => dgA M n * 31 + (wTellA M 0 (nI n)).toInt64
noncomputable def dgF (M : yM) (d : Int64) (f : Nat) : Nat → Int64 | 0 => d | n + 1 => dgF M d f n * 31 + (wTellF M 0 f (nI n)).toInt64
noncomputable def dgFs (M : yM) : Nat → Int64 | 0 => dgA M 15 | n + 1 => dgF M (dgFs M n) n 6
noncomputable def dgS (M : yM) (d : Int64) (f : Nat) : Nat → Int64 | 0 => d | n + 1 => dgS M d f n * 31 + (sTell (M (0 + 19 + f)) (nI n)).toInt64
noncomputable def dgSs (M : yM) : Nat → Int64 | 0 => dgFs M 3 | n + 1 => dgS M (dgSs M n) n 2
noncomputable def dgB (M : yM) (S : Nat) (d : Int64) (f : Nat) : Nat → Int64 | 0 => d | n + 1 => dgB M S d f n * 31 + (bTell (M (0 + 4 + f)) (nI n)).toInt64
noncomputable def dgBs (M : yM) (S : Nat) : Nat → Int64 | 0 => dgSs M S | n + 1 => dgB M S (dgBs M S n) n 11
end YFT
