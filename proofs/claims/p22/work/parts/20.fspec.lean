section YFS
theorem ngIAE : ∀ w ∈ (vx_atS RX4 23 yIAE yNs).filter (fun w => !goodWord w), w ∈ yBad := by decide +kernel
theorem ngISE : ∀ w ∈ (vx_atS RX4 38 yISE yNs).filter (fun w => !goodWord w), w ∈ yBad := by decide +kernel
theorem ngIOE : ∀ w ∈ (vx_atS RX4 113 yIOE yNs).filter (fun w => !goodWord w), w ∈ yBad := by decide +kernel
theorem gdIAE : ∀ w ∈ Cond.classLink RX4 19 yIAE :: Cond.initialized yIAE :: vx_atS RX4 23 yIAE yNs, vx_ot w = true := by decide +kernel
theorem gdISE : ∀ w ∈ Cond.classLink RX4 34 yISE :: Cond.initialized yISE :: vx_atS RX4 38 yISE yNs, vx_ot w = true := by decide +kernel
theorem gdIOE : ∀ w ∈ Cond.classLink RX4 109 yIOE :: Cond.initialized yIOE :: vx_atS RX4 113 yIOE yNs, vx_ot w = true := by decide +kernel
/-! THE FACE: o: what it throws, if so; the answer; the memory behind it -/
def thn (a b : Option String) : Option String := match a with | some e => some e | none => b
def mo (o : Option String) (a b : yM) : yM := match o with | none => a | some _ => b
theorem mo_n {o : Option String} {a b x : yM} (h : o = none) (e : x = a) : x = mo o a b := by subst h; exact e
theorem mo_t {o : Option String} {a b : yM} {e : String} (h : o = some e) : b = mo o a b := by subst h; rfl
noncomputable def okB (M : yM) (x : Int32) : Option String := by classical exact if wNo M 0 x then some yIOE else none
noncomputable def okS (M : yM) (x : Int32) : Option String := by classical exact if wNoS M 0 x then some yIOE else none
def okF (x : Int32) : Option String := if x < 0 then some yIOE else if x < 3 then none else some yIOE
def okK (w n : Int32) : Option String := if w < 0 then some yIOE else if w < n then none else some yIOE
def okH (h : Int32) : Option String := if h < 1 then some yIAE else if h ≤ 120 then none else some yIAE
theorem okB_n {M : yM} {x : Int32} (h : okB M x = none) : ∃ b : Nat, b < 15 ∧ x = nI b ∧ ¬ M 0 3 ≤ nI b := by
  unfold okB at h
  split at h
  · cases h
  · rename_i hn; exact wNo_not hn
theorem okS_n {M : yM} {x : Int32} (h : okS M x = none) : ∃ b : Nat, b < 5 ∧ x = nI b ∧ ¬ M 0 4 ≤ nI b := by
  unfold okS at h
  split at h
  · cases h
  · rename_i hn; exact wNoS_not hn
theorem okF_n {x : Int32} (h : okF x = none) : ∃ f : Nat, f < 3 ∧ x = nI f := by
  unfold okF at h
  split at h
  · cases h
  · split at h
    · rename_i h1 h2
      obtain ⟨f, hf, rfl⟩ := nI_of h1
      refine ⟨f, ?_, rfl⟩
      exact (nI_ltI (b := 3) hf (by decide)).mp h2
    · cases h
theorem okB_t {M : yM} {x : Int32} (h : wNo M 0 x) : okB M x = some yIOE := by unfold okB; rw [if_pos h]
theorem okB_f {M : yM} {x : Int32} (h : ¬ wNo M 0 x) : okB M x = none := by unfold okB; rw [if_neg h]
theorem okS_t {M : yM} {x : Int32} (h : wNoS M 0 x) : okS M x = some yIOE := by unfold okS; rw [if_pos h]
theorem okS_f {M : yM} {x : Int32} (h : ¬ wNoS M 0 x) : okS M x = none := by unfold okS; rw [if_neg h]
def cN (x : Int32) : Nat := x.toNatClampNeg
theorem cN_n {n : Nat} (h : n < 2 ^ 31) : cN (nI n) = n := nI_clamp h
def bkI (x : Int32) : Nat := 0 + 4 + cN x
def swI (x : Int32) : Nat := 0 + 19 + cN x
def frI (x : Int32) : Nat := 0 + 24 + cN x
theorem bkI_n {n : Nat} (h : n < 15) : bkI (nI n) = 0 + 4 + n := by unfold bkI; rw [cN_n (by omega)]
theorem swI_n {n : Nat} (h : n < 5) : swI (nI n) = 0 + 19 + n := by unfold swI; rw [cN_n (by omega)]
theorem frI_n {n : Nat} (h : n < 3) : frI (nI n) = 0 + 24 + n := by unfold frI; rw [cN_n (by omega)]
def ordO (B : Nat) (s h e : Int32) : Option String := if s < 1 then some yIAE else if s ≤ 24 then (if h < 1 then some yIAE else if h ≤ 8 then (if e < 0 then some yIAE else if e ≤ 3 then (if B < 15 then none else some yISE) else some yIAE) else some yIAE) else some yIAE
def ordM (M : yM) (B : Nat) (s h e : Int32) : yM := yinc (va_up M (0 + 4 + B) (bBegin (M (0 + 4 + B)) s h e)) 0 3 1
noncomputable def unpO (M : yM) (x : Int32) : Option String := thn (okB M x) (if M (bkI x) 4 = 1 then none else some yISE)
def unpM (M : yM) (b : Nat) : yM := va_up (wClr M 0 (M b 0) 3) b (bUndo (wClr M 0 (M b 0) 3 b))
noncomputable def selO (M : yM) (x : Int32) : Option String := thn (okB M x) (if M (bkI x) 4 = 5 then none else some yISE)
def selM (M : yM) (b : Nat) : yM := yinc (yst M b 4 6) 0 6 (bVal (yst M b 4 6 b))
def hirO (B : Nat) (s : Int32) : Option String := if s < 1 then some yIAE else if s ≤ 9 then (if B < 5 then none else some yISE) else some yIAE
def hirM (M : yM) (B : Nat) (s : Int32) : yM := yinc (yst M (0 + 19 + B) 1 s) 0 4 1
noncomputable def seaO (M : yM) (x f : Int32) : Option String := thn (okS M x) (if f = -1 then none else if f < 0 then some yIOE else if f < 3 then (if wOth M 0 f x 5 < 2 then none else some yISE) else some yIOE)
def strO (M : yM) (f c : Int32) : Option String := thn (okF f) (if c < 2 then some yIAE else if c ≤ 6 then (if M (frI f) 2 = -1 then none else some yISE) else some yIAE)
def prc (w x : Int32) : Int32 := if w = 0 then (x + 4) / 5 else if w = 1 then 3 * x else 2 * x
def buyO (M : yM) (w x : Int32) : Option String := if w < 0 then some yIOE else if w ≤ 2 then (if x < 1 then some yIAE else if x ≤ 200 then (if prc w x ≤ M 0 6 then none else some yISE) else some yIAE) else some yIOE
def buyA (M : yM) (w x : Int32) : yM := ydec M 0 6 (prc w x)
def forO (h w : Int32) : Option String := thn (okH h) (if w < 2 then some yIOE else if 14 < w then some yIOE else if w = 8 then some yIOE else if w = 9 then some yIOE else none)
end YFS
