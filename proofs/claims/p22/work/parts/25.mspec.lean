section YM
/-! THE MODEL'S ROW, as its code goes -/
theorem up_cm {M : yM} {i j : Nat} {f g : Rw} (h : i ≠ j) : va_up (va_up M i f) j g = va_up (va_up M j g) i f := by
  funext a
  by_cases h1 : a = i
  · subst h1; rw [up_n h, up_s, up_s]
  · by_cases h2 : a = j
    · subst h2; rw [up_s, up_n h1, up_s]
    · rw [up_n h2, up_n h1, up_n h1, up_n h2]
section
variable {K : yK} {l : Launch} {Ro : Room} {D : va_G} {cy : Nat → ClassId} {adr : Nat → Nat} {nL cells slots : Nat} {Q : State → Prop} {M : yM} {R : Rw} {E : va_W} {lv : List (Nat × Value)} {pc : Nat} {st : List Value} {cc : ByteArray} {own : String} {Ts : List Cond} {ret : Option FieldType}
end
def mI (v a b : Int32) : Int32 := if v < a then 0 else if b < v then 0 else 1
theorem mI_z {v a b : Int32} : narrow .boolean (.int (mI v a b)) = .int (mI v a b) := by
  unfold mI
  split
  · rfl
  · split <;> rfl
theorem mI_1 {v a b : Int32} (h : ¬ mI v a b = 0) : ¬ v < a ∧ ¬ b < v := by
  unfold mI at h
  split at h
  · exact absurd rfl h
  · split at h
    · exact absurd rfl h
    · constructor <;> assumption
theorem mI_i {v a b : Int32} (h1 : ¬ v < a) (h2 : ¬ b < v) : mI v a b = 1 := by unfold mI; rw [if_neg h1, if_neg h2]
/-- v is a number from 0 to n - 1 -/
theorem mI_n {v : Int32} {n : Nat} (hn : n < 1000) (h : ¬ mI v 0 (nI n - 1) = 0) : cN v < n ∧ v = nI (cN v) := by
  obtain ⟨h1, h2⟩ := mI_1 h
  obtain ⟨k, hk, rfl⟩ := nI_of h1
  rw [cN_n hk]
  refine ⟨?_, rfl⟩
  have h3 := Int32.not_lt.mp h2
  have h4 := Int32.le_iff_toInt_le.mp h3
  have h5 : (nI n - 1).toInt = (n : Int) - 1 := pk_sub_toInt (a := n) (b := 1) (by omega) (by omega)
  rw [h5, nI_toInt hk] at h4
  omega
theorem mI_k {v : Int32} {n : Nat} (hn : n < 1000) (h : ¬ mI v 0 (nI n) = 0) : cN v ≤ n ∧ v = nI (cN v) := by
  obtain ⟨h1, h2⟩ := mI_1 h
  obtain ⟨k, hk, rfl⟩ := nI_of h1
  rw [cN_n hk]
  refine ⟨?_, rfl⟩
  have h3 := Int32.not_lt.mp h2
  exact (nI_leI hk (by omega)).mp h3
def rinc (r : Rw) (k : Nat) (v : Int32) : Rw := ru r k (r k + v)
def rdec (r : Rw) (k : Nat) (v : Int32) : Rw := ru r k (r k - v)
def rTh (r : Rw) (a : Nat) : Int32 := r a * r (a + 1)
def rSt (r : Rw) (a : Nat) (s : Int32) : Int32 := r (a + 10) + 2 + (if s = 0 then 2 else 0) + (if s = r a - 1 then 2 else 0)
def rWe (r : Rw) (a : Nat) : Int32 := 4 * r a + 2 * r (a + 10) + 6 * r (a + 9) - 3 * r (a + 7)
def rWo (r : Rw) (a : Nat) : Int32 := if 1 < rWe r a then rWe r a else 1
def rUp (r : Rw) (a : Nat) : Nat → Int32 | 0 => 0 | n + 1 => rUp r a n + rSt r a (nI n)
def rIn (r : Rw) (a : Nat) : Int32 := rUp r a (r (a + 5)).toNatClampNeg + r (a + 6)
def rOt (r : Rw) (x f : Int32) : Nat → Int32 | 0 => 0 | n + 1 => rOt r x f n + (if nI n = x then 0 else if r (174 + 2 * n + 1) = f then 1 else 0)
def rRN (r : Rw) (f : Int32) : Nat → Int32 | 0 => 0 | n + 1 => if r (174 + 2 * n + 1) = f then rRN r f n + 1 else rRN r f n
def rRS (r : Rw) (f : Int32) : Nat → Int32 | 0 => 0 | n + 1 => if r (174 + 2 * n + 1) = f then rRS r f n + r (174 + 2 * n) else rRS r f n
def rRa (r : Rw) (f : Int32) (S : Nat) : Int32 := if rRN r f S = 2 then (if 1 < rRS r f S - 3 then rRS r f S - 3 else 1) else rRS r f S
def rLk (r : Rw) (s : Int32) : Nat → Int32 | 0 => 0 | n + 1 => rLk r s n + (if r (11 * n + 3) = s then 1 else 0)
def rFs (r : Rw) (s : Int32) : Nat → Option Nat | 0 => none | n + 1 => match rFs r s n with | some i => some i | none => if r (11 * n + 3) = s then some n else none
def rFr (r : Rw) (s : Int32) (n : Nat) : Int32 := match rFs r s n with | some k => nI k | none => -1
def rLe (r : Rw) (x : Int32) : Int32 := if 0 ≤ x then rUp r (11 * cN x) (r (11 * cN x)).toNatClampNeg - rIn r (11 * cN x) else 0
def rFT (r : Rw) (f : Nat) (w : Int32) (S : Nat) : Int32 := if w = 2 then rOt r (-1) (nI f) S else if w = 3 then rRa r (nI f) S else if w = 4 then rLe r (r (165 + 3 * f + 1)) else if w = 5 then r (165 + 3 * f + 2) else r (165 + 3 * f + cN w)
def rBT (r : Rw) (b : Nat) (w : Int32) : Int32 := if w = 10 then rWo r (11 * b) else r (11 * b + cN w)
def rCo (r : Rw) (w : Int32) (B : Nat) : Int32 := if w = 0 then r 188 else if w = 1 then r 189 else if w = 9 then r 187 else if w = 10 then r 184 else if w = 11 then r 185 else if w = 12 then r 186 else if w = 13 then r 191 else if w = 14 then r 192 else rLk r (w - 2) B
theorem rFs_up {r : Rw} {s : Int32} {n k : Nat} (h : rFs r s n = some k) : ∀ d, rFs r s (n + d) = some k := by
  intro d
  induction d with
  | zero => exact h
  | succ d ih => simp [rFs, ← Nat.add_assoc, ih]
theorem rFs_s {r : Rw} {s : Int32} {i n : Nat} (h : rFs r s i = none) (hc : r (11 * i + 3) = s) (hi : i < n) : rFs r s n = some i := by
  have h1 : rFs r s (i + 1) = some i := by simp [rFs, h, hc]
  have := rFs_up h1 (n - (i + 1))
  rwa [show i + 1 + (n - (i + 1)) = n by omega] at this
theorem rFs_n {r : Rw} {s : Int32} {i : Nat} (h : rFs r s i = none) (hc : ¬ r (11 * i + 3) = s) : rFs r s (i + 1) = none := by simp [rFs, h, hc]
theorem rFs_lt {r : Rw} {s : Int32} : ∀ {n i : Nat}, rFs r s n = some i → i < n := by
  intro n
  induction n with
  | zero => intro i h; simp [rFs] at h
  | succ n ih =>
    intro i h
    cases hq : rFs r s n with
    | some k => simp [rFs, hq] at h; have := ih hq; omega
    | none =>
      simp only [rFs, hq] at h
      split at h
      · cases h; omega
      · cases h
theorem rFr_s {r : Rw} {s : Int32} {n k : Nat} (h : rFs r s n = some k) : rFr r s n = nI k := by unfold rFr; rw [h]
theorem rFr_n {r : Rw} {s : Int32} {n : Nat} (h : rFs r s n = none) : rFr r s n = -1 := by unfold rFr; rw [h]
/-! an hour -/
def rLf (r : Rw) (b : Nat) : Int32 := 1 + rTh r (11 * b) / 16
def rGb (r : Rw) (b : Nat) : Rw := rinc (rdec r 186 (rLf r b)) (11 * b + 9) 1
def rGc (r : Rw) (b : Nat) : Rw := if rGb r b (11 * b + 9) = rGb r b (11 * b + 2) then ru (rGb r b) (11 * b + 3) 5 else rGb r b
def rGild (r : Rw) (B : Nat) : Rw := match rFs r 4 B with | some b => if rLf r b ≤ r 186 then rGc r b else r | none => r
theorem rGild_s {r : Rw} {B b : Nat} (h : rFs r 4 B = some b) : rGild r B = if rLf r b ≤ r 186 then rGc r b else r := by unfold rGild; rw [h]
theorem rGild_n {r : Rw} {B : Nat} (h : rFs r 4 B = none) : rGild r B = r := by unfold rGild; rw [h]
def rBd (r : Rw) (a : Nat) : Rw := if r (a + 3) = 3 then (if 2 ≤ r 185 then ru (rdec r 185 2) (a + 3) (if rdec r 185 2 (a + 2) = 0 then 5 else 4) else r) else r
def rDr (r : Rw) (a : Nat) : Rw := if r (a + 3) = 2 then (if rdec r (a + 8) 1 (a + 8) = 0 then ru (rdec r (a + 8) 1) (a + 3) 3 else rdec r (a + 8) 1) else r
def rBds (r : Rw) : Nat → Rw | 0 => r | n + 1 => rBd (rBds r n) (11 * n)
def rDrs (r : Rw) : Nat → Rw | 0 => r | n + 1 => rDr (rDrs r n) (11 * n)
def rS1 (r : Rw) (f b : Nat) : Rw := rinc (rinc (rinc (rdec r 184 1) (165 + 3 * f + 2) 1) 191 1) (11 * b + 6) 1
def rS2 (r : Rw) (b : Nat) : Rw := rinc (ru r (11 * b + 6) 0) (11 * b + 5) 1
def rS3 (r : Rw) (b : Nat) : Rw := rinc (rinc r (11 * b + 7) 1) 192 1
def rS4a (r : Rw) (b : Nat) : Rw := ru (ru r (11 * b + 3) 2) (11 * b + 4) (-1)
def rS4 (r : Rw) (f b : Nat) : Rw := ru (ru (rS4a r b) (11 * b + 8) (2 + rTh (rS4a r b) (11 * b) / 8)) (165 + 3 * f + 1) (-1)
def rS5 (r : Rw) (f b : Nat) : Rw := if r (11 * b + 5) < r (11 * b) then r else rS4 r f b
def rStitch (r : Rw) (f b k : Nat) : Rw := if rS1 r f b (11 * b + 6) < rSt (rS1 r f b) (11 * b) (rS1 r f b (11 * b + 5)) then rS1 r f b else (if nI k < 10 then rS5 (rS2 (rS1 r f b) b) f b else rS5 (rS3 (rS2 (rS1 r f b) b) b) f b)
def rSew (r : Rw) (f : Nat) : Nat → Rw | 0 => r | n + 1 => if rSew r f n (165 + 3 * f + 1) < 0 then rSew r f n else if rSew r f n 184 ≤ 0 then rSew r f n else rStitch (rSew r f n) f (cN (rSew r f n (165 + 3 * f + 1))) (n + 1)
def rSw (r : Rw) (f S : Nat) : Rw := rSew r f (rRa r (nI f) S).toNatClampNeg
theorem rSew_a {r : Rw} {f n : Nat} (h : rSew r f n (165 + 3 * f + 1) < 0) : ∀ d, rSew r f (n + d) = rSew r f n := by
  intro d
  induction d with
  | zero => rfl
  | succ d ih => rw [← Nat.add_assoc, rSew, ih, if_pos h]
theorem rSew_b {r : Rw} {f n : Nat} (h : rSew r f n 184 ≤ 0) : ∀ d, rSew r f (n + d) = rSew r f n := by
  intro d
  induction d with
  | zero => rfl
  | succ d ih =>
    rw [← Nat.add_assoc, rSew, ih, if_pos h]
    split <;> rfl
def rMa (r : Rw) (f b : Nat) : Rw := ru (ru (ru r (165 + 3 * f + 1) (nI b)) (11 * b + 3) 1) (11 * b + 4) (nI f)
def rMt (r : Rw) (f B : Nat) : Rw := if 0 ≤ r (165 + 3 * f + 1) then r else match rFs r 0 B with | some b => ru (rMa r f b) (11 * b + 10) (rMa r f b (165 + 3 * f)) | none => r
theorem rMt_s {r : Rw} {f B b : Nat} (h : ¬ 0 ≤ r (165 + 3 * f + 1)) (hq : rFs r 0 B = some b) : rMt r f B = ru (rMa r f b) (11 * b + 10) (rMa r f b (165 + 3 * f)) := by unfold rMt; rw [if_neg h, hq]
theorem rMt_n {r : Rw} {f B : Nat} (h : ¬ 0 ≤ r (165 + 3 * f + 1)) (hq : rFs r 0 B = none) : rMt r f B = r := by unfold rMt; rw [if_neg h, hq]
theorem rMt_f {r : Rw} {f B : Nat} (h : 0 ≤ r (165 + 3 * f + 1)) : rMt r f B = r := by unfold rMt; rw [if_pos h]
def rSws (r : Rw) (S : Nat) : Nat → Rw | 0 => r | n + 1 => rSw (rSws r S n) n S
def rMts (r : Rw) (B : Nat) : Nat → Rw | 0 => r | n + 1 => rMt (rMts r B n) n B
def rPa (r : Rw) (B : Nat) : Rw := rDrs (rBds (rGild r B) B) B
def rPass (r : Rw) (B S : Nat) : Rw := rinc (rMts (rSws (rPa r B) S 3) B 3) 188 1
def rHours (r : Rw) (B S : Nat) : Nat → Rw | 0 => r | n + 1 => rPass (rHours r B S n) B S
/-! what holds of the row -/
def mOK (r : Rw) (B S : Nat) : Prop := r 189 = nI B ∧ B ≤ 15 ∧ r 190 = nI S ∧ S ≤ 5 ∧ (∀ f, f < 3 → r (165 + 3 * f + 1) < 0 ∨ ∃ b, b < 15 ∧ r (165 + 3 * f + 1) = nI b) ∧ (∀ s, s < 5 → ∃ v, v ≤ 9 ∧ r (174 + 2 * s) = nI v)
def mOut (r r' : Rw) : Prop := r' 189 = r 189 ∧ r' 190 = r 190 ∧ (∀ f, f < 3 → r' (165 + 3 * f + 1) = r (165 + 3 * f + 1) ∨ r' (165 + 3 * f + 1) < 0 ∨ ∃ b, b < 15 ∧ r' (165 + 3 * f + 1) = nI b) ∧ (∀ s, s < 5 → r' (174 + 2 * s) = r (174 + 2 * s))
theorem mOK.out {r r' : Rw} {B S : Nat} (h : mOK r B S) (k : mOut r r') : mOK r' B S := by
  obtain ⟨a1, a2, a3, a4, a5, a6⟩ := h
  obtain ⟨b1, b2, b3, b4⟩ := k
  refine ⟨b1.trans a1, a2, b2.trans a3, a4, fun f hf => ?_, fun s hs => ?_⟩
  · rcases b3 f hf with h | h
    · rw [h]; exact a5 f hf
    · exact h
  · obtain ⟨v, hv, e⟩ := a6 s hs
    exact ⟨v, hv, (b4 s hs).trans e⟩
theorem mOut.rf {r : Rw} : mOut r r := ⟨rfl, rfl, fun _ _ => Or.inl rfl, fun _ _ => rfl⟩
theorem mOut.tr {a b c : Rw} (h : mOut a b) (k : mOut b c) : mOut a c := by
  refine ⟨k.1.trans h.1, k.2.1.trans h.2.1, fun f hf => ?_, fun s hs => (k.2.2.2 s hs).trans (h.2.2.2 s hs)⟩
  rcases k.2.2.1 f hf with q | q
  · rw [q]; exact h.2.2.1 f hf
  · exact Or.inr q
theorem mOut_ru {r : Rw} {i : Nat} {v : Int32} (h : i < 165 ∨ (165 ≤ i ∧ i < 174 ∧ i % 3 ≠ 1) ∨ (184 ≤ i ∧ i ≠ 189 ∧ i ≠ 190)) : mOut r (ru r i v) := ⟨ru_n (by omega), ru_n (by omega), fun f hf => Or.inl (ru_n (by omega)), fun s hs => ru_n (by omega)⟩
theorem mOut_bk {r : Rw} {f : Nat} {v : Int32} (hf : f < 3) (h : v < 0 ∨ ∃ b, b < 15 ∧ v = nI b) : mOut r (ru r (165 + 3 * f + 1) v) := by
  refine ⟨ru_n (by omega), ru_n (by omega), fun g hg => ?_, fun s hs => ru_n (by omega)⟩
  by_cases e : g = f
  · subst e; rw [ru_s]; exact Or.inr h
  · exact Or.inl (ru_n (by omega))
theorem mOut_gild {r : Rw} {B : Nat} (hB : B ≤ 15) : mOut r (rGild r B) := by
  cases h : rFs r 4 B with
  | none => rw [rGild_n h]; exact mOut.rf
  | some b =>
    have hb := rFs_lt h
    rw [rGild_s h]
    have h1 : mOut r (rGb r b) := (mOut_ru (by omega)).tr (mOut_ru (by omega))
    split
    · unfold rGc
      split
      · exact h1.tr (mOut_ru (by omega))
      · exact h1
    · exact mOut.rf
theorem mOut_bd {r : Rw} {a : Nat} (ha : a < 155) : mOut r (rBd r a) := by
  unfold rBd
  split
  · split
    · exact (mOut_ru (by omega)).tr (mOut_ru (by omega))
    · exact mOut.rf
  · exact mOut.rf
theorem mOut_dr {r : Rw} {a : Nat} (ha : a < 155) : mOut r (rDr r a) := by
  have h1 : mOut r (rdec r (a + 8) 1) := mOut_ru (by omega)
  unfold rDr
  split
  · split
    · exact h1.tr (mOut_ru (by omega))
    · exact h1
  · exact mOut.rf
theorem mOut_bds {r : Rw} : ∀ n, n ≤ 15 → mOut r (rBds r n) := by
  intro n
  induction n with
  | zero => intro _; exact mOut.rf
  | succ n ih => intro hn; exact (ih (by omega)).tr (mOut_bd (by omega))
theorem mOut_drs {r : Rw} : ∀ n, n ≤ 15 → mOut r (rDrs r n) := by
  intro n
  induction n with
  | zero => intro _; exact mOut.rf
  | succ n ih => intro hn; exact (ih (by omega)).tr (mOut_dr (by omega))
theorem mOut_s1 {r : Rw} {f b : Nat} (hf : f < 3) (hb : b < 15) : mOut r (rS1 r f b) := (((mOut_ru (by omega)).tr (mOut_ru (by omega))).tr (mOut_ru (by omega))).tr (mOut_ru (by omega))
theorem mOut_s5 {r : Rw} {f b : Nat} (hf : f < 3) (hb : b < 15) : mOut r (rS5 r f b) := by
  unfold rS5
  split
  · exact mOut.rf
  · exact (((mOut_ru (by omega)).tr (mOut_ru (by omega))).tr (mOut_ru (by omega))).tr (mOut_bk hf (Or.inl (by decide)))
theorem mOut_stitch {r : Rw} {f b k : Nat} (hf : f < 3) (hb : b < 15) : mOut r (rStitch r f b k) := by
  have h2 : mOut r (rS2 (rS1 r f b) b) := (mOut_s1 hf hb).tr ((mOut_ru (by omega)).tr (mOut_ru (by omega)))
  unfold rStitch
  split
  · exact mOut_s1 hf hb
  · split
    · exact h2.tr (mOut_s5 hf hb)
    · exact (h2.tr ((mOut_ru (by omega)).tr (mOut_ru (by omega)))).tr (mOut_s5 hf hb)
theorem mFr_b {r : Rw} {B S f : Nat} (h : mOK r B S) (hf : f < 3) (hn : ¬ r (165 + 3 * f + 1) < 0) : cN (r (165 + 3 * f + 1)) < 15 ∧ r (165 + 3 * f + 1) = nI (cN (r (165 + 3 * f + 1))) := by
  rcases h.2.2.2.2.1 f hf with q | ⟨b, hb, e⟩
  · exact absurd q hn
  · rw [e, cN_n (by omega)]; exact ⟨hb, rfl⟩
theorem mOK_sew {r : Rw} {B S f : Nat} (h : mOK r B S) (hf : f < 3) : ∀ n, mOK (rSew r f n) B S ∧ mOut r (rSew r f n) := by
  intro n
  induction n with
  | zero => exact ⟨h, mOut.rf⟩
  | succ n ih =>
    rw [rSew]
    split
    · exact ih
    · rename_i hn
      split
      · exact ih
      · have h9 := mOut_stitch (r := rSew r f n) (k := n + 1) hf (mFr_b ih.1 hf hn).1
        exact ⟨ih.1.out h9, ih.2.tr h9⟩
theorem mOut_mt {r : Rw} {f B : Nat} (hf : f < 3) (hB : B ≤ 15) : mOut r (rMt r f B) := by
  by_cases h0 : 0 ≤ r (165 + 3 * f + 1)
  · rw [rMt_f h0]; exact mOut.rf
  · cases h : rFs r 0 B with
    | none => rw [rMt_n h0 h]; exact mOut.rf
    | some b =>
      have hb := rFs_lt h
      rw [rMt_s h0 h]
      exact (((mOut_bk hf (Or.inr ⟨b, by omega, rfl⟩)).tr (mOut_ru (by omega))).tr (mOut_ru (by omega))).tr (mOut_ru (by omega))
theorem mOK_sws {r : Rw} {B S : Nat} (h : mOK r B S) : ∀ n, n ≤ 3 → mOK (rSws r S n) B S := by
  intro n
  induction n with
  | zero => intro _; exact h
  | succ n ih => intro hn; exact (mOK_sew (ih (by omega)) (by omega) _).1
theorem mOK_mts {r : Rw} {B S : Nat} (h : mOK r B S) : ∀ n, n ≤ 3 → mOK (rMts r B n) B S := by
  intro n
  induction n with
  | zero => intro _; exact h
  | succ n ih => intro hn; exact (ih (by omega)).out (mOut_mt (by omega) h.2.1)
theorem mOK_pa {r : Rw} {B S : Nat} (h : mOK r B S) : mOK (rPa r B) B S := ((h.out (mOut_gild h.2.1)).out (mOut_bds B h.2.1)).out (mOut_drs B h.2.1)
theorem mOK_pass {r : Rw} {B S : Nat} (h : mOK r B S) : mOK (rPass r B S) B S := (mOK_mts (mOK_sws (mOK_pa h) 3 (Nat.le_refl _)) 3 (Nat.le_refl _)).out (mOut_ru (by omega))
theorem mOK_hours {r : Rw} {B S : Nat} (h : mOK r B S) : ∀ n, mOK (rHours r B S n) B S := by
  intro n
  induction n with
  | zero => exact h
  | succ n ih => exact mOK_pass ih
theorem rRS_le {r : Rw} {B S : Nat} {f : Int32} (h : mOK r B S) : ∀ n, n ≤ 5 → ∃ v : Nat, v ≤ 9 * n ∧ rRS r f n = nI v := by
  intro n
  induction n with
  | zero => intro _; exact ⟨0, Nat.le_refl _, rfl⟩
  | succ n ih =>
    intro hn
    obtain ⟨v, hv, e⟩ := ih (by omega)
    obtain ⟨w, hw, e2⟩ := h.2.2.2.2.2 n (by omega)
    by_cases hc : r (174 + 2 * n + 1) = f
    · exact ⟨v + w, by omega, by simp only [rRS, if_pos hc]; rw [e, e2, nI_add]⟩
    · exact ⟨v, by omega, by simp only [rRS, if_neg hc]; exact e⟩
theorem rRa_le {r : Rw} {B S : Nat} {f : Int32} (h : mOK r B S) : (rRa r f S).toNatClampNeg < 1000 := by
  obtain ⟨v, hv, e⟩ := rRS_le (f := f) h S h.2.2.2.1
  have hS := h.2.2.2.1
  have h1 : (nI v).toNatClampNeg = v := nI_clamp (by omega)
  have h2 : (1 : Int32).toNatClampNeg = 1 := rfl
  unfold rRa
  rw [e]
  split
  · split
    · have h3 : (nI v - 3).toInt = (v : Int) - 3 := pk_sub_toInt (a := v) (b := 3) (by omega) (by omega)
      have h4 : (nI v - 3).toNatClampNeg = (nI v - 3).toInt.toNat := rfl
      omega
    · omega
  · omega
end YM
