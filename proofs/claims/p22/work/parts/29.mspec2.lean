section YMH
theorem mOK_le {r : Rw} {B S f : Nat} (h : mOK r B S) (hf : f < 3) : 0 ≤ r (165 + 3 * f + 1) → cN (r (165 + 3 * f + 1)) < 15 ∧ r (165 + 3 * f + 1) = nI (cN (r (165 + 3 * f + 1))) := fun q => mFr_b h hf (Int32.not_lt.mpr q)
def mQ : Nat → Int32 := upd (upd (upd (upd (upd (fun _ => 0) 0 3) 1 5) 2 6) 3 7) 4 10
def mW (i : Nat) : Nat := if i = 0 then 3 else if i = 1 then 5 else if i = 2 then 6 else if i = 3 then 7 else 10
theorem mQ_e {i : Nat} (h : i < 5) : mQ i = nI (mW i) := by
  rcases (show i = 0 ∨ i = 1 ∨ i = 2 ∨ i = 3 ∨ i = 4 by omega) with rfl | rfl | rfl | rfl | rfl <;> rfl
theorem mW_lt {i : Nat} : mW i < 11 := by
  unfold mW
  split
  · omega
  · split
    · omega
    · split
      · omega
      · split <;> omega
def rUn (r : Rw) (b : Nat) : Nat → Rw | 0 => r | n + 1 => ru (rUn r b n) (11 * b + mW n) 0
def rUp2 (r : Rw) (b : Nat) : Rw := ru (ru r (165 + 3 * cN (r (11 * b + 4)) + 1) (-1)) (11 * b + 4) (-1)
def ordC (B : Nat) (s h e : Int32) : Int32 := if mI s 1 24 = 0 then 1 else if mI h 1 8 = 0 then 1 else if mI e 0 3 = 0 then 1 else if nI B = 15 then 2 else 0
def mOrd (r : Rw) (B : Nat) (s h e : Int32) : Rw := rinc (ru (ru (ru (ru r (11 * B) s) (11 * B + 1) h) (11 * B + 2) e) (11 * B + 4) (-1)) 189 1
def unpC (r : Rw) (B : Nat) (x : Int32) : Int32 := if mI x 0 (nI B - 1) = 0 then 1 else if r (11 * cN x + 3) = 1 then 0 else 2
def selC (r : Rw) (B : Nat) (x : Int32) : Int32 := if mI x 0 (nI B - 1) = 0 then 1 else if r (11 * cN x + 3) = 5 then 0 else 2
def mSel (r : Rw) (b : Nat) : Rw := rinc (ru r (11 * b + 3) 6) 187 (rWo (ru r (11 * b + 3) 6) (11 * b))
def tolC (B : Nat) (x w : Int32) : Int32 := if mI x 0 (nI B - 1) = 0 then 1 else if mI w 0 10 = 0 then 1 else 0
def hirC (S : Nat) (s : Int32) : Int32 := if mI s 1 9 = 0 then 1 else if nI S = 5 then 2 else 0
def mHir (r : Rw) (S : Nat) (s : Int32) : Rw := rinc (ru (ru r (174 + 2 * S) s) (174 + 2 * S + 1) (-1)) 190 1
def seaC (r : Rw) (S : Nat) (x f : Int32) : Int32 := if mI x 0 (nI S - 1) = 0 then 1 else if mI f (-1) 2 = 0 then 1 else if f < 0 then 0 else if rOt r x f S ≤ 1 then 0 else 2
def sewC (S : Nat) (x w : Int32) : Int32 := if mI x 0 (nI S - 1) = 0 then 1 else if mI w 0 1 = 0 then 1 else 0
def strC (r : Rw) (f c : Int32) : Int32 := if mI f 0 2 = 0 then 1 else if mI c 2 6 = 0 then 2 else if r (165 + 3 * cN f + 1) < 0 then 0 else 3
def fraC (f w : Int32) : Int32 := if mI f 0 2 = 0 then 1 else if mI w 0 5 = 0 then 1 else 0
def buyC (r : Rw) (w x : Int32) : Int32 := if mI w 0 2 = 0 then 1 else if mI x 1 200 = 0 then 2 else if prc w x ≤ r 187 then 0 else 3
def mBuy (r : Rw) (w x : Int32) : Rw := rinc (rdec r 187 (prc w x)) (184 + cN w) x
def couC (w : Int32) : Int32 := if mI w 0 14 = 0 then 1 else 0
def pasC (h : Int32) : Int32 := if mI h 1 120 = 0 then 1 else 0
def forC (h w : Int32) : Int32 := if mI h 1 120 = 0 then 1 else if mI w 2 7 = 0 then (if mI w 10 14 = 0 then 2 else 0) else 0
def untC (B : Nat) (x : Int32) : Int32 := if mI x 0 (nI B - 1) = 0 then 1 else 0
def advC (S : Nat) (x : Int32) : Int32 := if mI x 0 (nI S - 1) = 0 then 1 else 0
def dnP (r : Rw) (B S b : Nat) : Nat → Bool := fun h => decide (5 ≤ rHours r B S (h - 1) (11 * b + 3))
def dnH (r : Rw) (B S b : Nat) : Option Nat := hF (dnP r B S b) 251
def dnR (r : Rw) (B S b : Nat) : Int32 := match dnH r B S b with | some h => nI (h - 1) | none => -1
def dnN (r : Rw) (B S b : Nat) : Nat := match dnH r B S b with | some h => h - 1 | none => 251
def dnM (r : Rw) (B S b : Nat) : Rw := rHours r B S (dnN r B S b)
theorem dn_s {r : Rw} {B S b i : Nat} (hn : hF (dnP r B S b) i = none) (h : ¬ rHours r B S i (11 * b + 3) < 5) (hi : i < 251) : dnR r B S b = nI i ∧ dnM r B S b = rHours r B S i := by
  have e : dnH r B S b = some (i + 1) := hF_s hn (decide_eq_true (Int32.not_lt.mp h)) hi
  unfold dnM dnR dnN
  rw [e]
  exact ⟨rfl, rfl⟩
theorem dn_k {r : Rw} {B S b i : Nat} (hn : hF (dnP r B S b) i = none) (h : rHours r B S i (11 * b + 3) < 5) : hF (dnP r B S b) (i + 1) = none := hF_n hn (decide_eq_false (Int32.not_le.mpr h))
theorem dn_n {r : Rw} {B S b : Nat} (hn : hF (dnP r B S b) 251 = none) : dnR r B S b = -1 ∧ dnM r B S b = rHours r B S 251 := by
  have e : dnH r B S b = none := hn
  unfold dnM dnR dnN
  rw [e]
  exact ⟨rfl, rfl⟩
def mnO (r : Rw) (B S n : Nat) : Int32 := if r (11 * n + 3) < 5 then dnR r B S n else -1
def mnS (r : Rw) (B S : Nat) : Nat → Int32 | 0 => 251 | n + 1 => if mnO r B S n < 0 then mnS r B S n else if mnO r B S n < mnS r B S n then mnO r B S n else mnS r B S n
def mnB (r : Rw) (B S : Nat) : Nat → Int32 | 0 => -1 | n + 1 => if mnO r B S n < 0 then mnB r B S n else if mnO r B S n < mnS r B S n then nI n else mnB r B S n
def mnP (r p : Rw) (B S : Nat) : Nat → Rw | 0 => p | n + 1 => if r (11 * n + 3) < 5 then dnM r B S n else mnP r p B S n
theorem y_m1 : ((-1 : Int32) < 0) = True := by decide
def stM (r : Rw) (B S s : Nat) (f : Int32) : Rw := rHours (ru r (174 + 2 * s + 1) f) B S 12
def stR (r : Rw) (B S s : Nat) (f : Int32) : Int32 := stM r B S s f 191
theorem mOK_st {r : Rw} {B S s : Nat} {f : Int32} (h : mOK r B S) (hs : s < 5) : mOK (ru r (174 + 2 * s + 1) f) B S := h.out ⟨ru_n (by omega), ru_n (by omega), fun g hg => Or.inl (ru_n (by omega)), fun t ht => ru_n (by omega)⟩
def maO (r : Rw) (B S : Nat) (x : Int32) (n : Nat) : Int32 := if rOt r x (nI n) S ≤ 1 then stR r B S (cN x) (nI n) else -1
def maT (r : Rw) (B S : Nat) (x : Int32) : Nat → Int32 | 0 => -1 | n + 1 => if maT r B S x n < maO r B S x n then maO r B S x n else maT r B S x n
def maB (r : Rw) (B S : Nat) (x : Int32) : Nat → Int32 | 0 => -1 | n + 1 => if maT r B S x n < maO r B S x n then nI n else maB r B S x n
def maP (r p : Rw) (B S : Nat) (x : Int32) : Nat → Rw | 0 => p | n + 1 => if rOt r x (nI n) S ≤ 1 then stM r B S (cN x) (nI n) else maP r p B S x n
def mwT (r : Rw) : Nat → Int32 | 0 => 0 | n + 1 => mwT r n + (if r (11 * n + 3) = 5 then rWo r (11 * n) else 0)
def mmT (r : Rw) : Nat → Int32 | 0 => 0 | n + 1 => if r (11 * n + 3) = 6 then mmT r n else mmT r n + rWo r (11 * n)
def mmN (r : Rw) : Nat → Nat | 0 => 0 | n + 1 => if r (11 * n + 3) = 6 then mmN r n else mmN r n + 1
theorem mmN_le {r : Rw} : ∀ n, mmN r n ≤ n := by
  intro n
  induction n with
  | zero => exact Nat.le_refl _
  | succ n ih =>
    rw [mmN]
    split <;> omega
def mdA (r : Rw) (B : Nat) : Nat → Int64 | 0 => 1367 | n + 1 => mdA r B n * 31 + (rCo r (nI n) B).toInt64
def mdF (r : Rw) (B S : Nat) : Nat → Int64 | 0 => mdA r B 15 | n + 1 => mdF r B S n * 31 + (rFT r (n / 6) (nI (n % 6)) S).toInt64
def mdS (r : Rw) (B S : Nat) : Nat → Int64 | 0 => mdF r B S 18 | n + 1 => mdS r B S n * 31 + (r (174 + n)).toInt64
def mdB (r : Rw) (B S : Nat) : Nat → Int64 | 0 => mdS r B S (2 * S) | n + 1 => mdB r B S n * 31 + (rBT r (n / 11) (nI (n % 11))).toInt64
theorem cN_c {n m : Nat} (h : n < m) (hm : m < 1000) : cN (nI n) < m ∧ nI n = nI (cN (nI n)) := by rw [cN_n (by omega)]; exact ⟨h, rfl⟩
end YMH
