section YI
theorem nI_inj {a b : Nat} (ha : a < 2 ^ 31) (hb : b < 2 ^ 31) (h : nI a = nI b) : a = b := by
  have := congrArg Int32.toNatClampNeg h
  rwa [nI_clamp ha, nI_clamp hb] at this
theorem nI_ne1 {a : Nat} (ha : a < 2 ^ 31) : ¬ nI a = -1 := by
  intro h
  have h1 := congrArg Int32.toInt h
  rw [nI_toInt ha] at h1
  have h2 : (-1 : Int32).toInt = -1 := by decide
  omega
theorem bSos_cg {f g : Rw} {s : Int32} (h1 : f 1 = g 1) (h6 : f 6 = g 6) : bSos f s = bSos g s := by unfold bSos; rw [h1, h6]
theorem bSum_cg {f g : Rw} (h1 : f 1 = g 1) (h6 : f 6 = g 6) : ∀ n, bSum f n = bSum g n := by
  intro n
  induction n with
  | zero => rfl
  | succ n ih => rw [bSum, bSum, ih, bSos_cg h1 h6]
/-- a book that isn't ordered; one that is -/
def BkU (f : Rw) (b : Nat) : Prop := f 0 = nI b ∧ f 4 = -1 ∧ f 5 = -1 ∧ f 6 = 0 ∧ f 7 = 0 ∧ f 8 = 0 ∧ f 9 = 0 ∧ f 10 = 0 ∧ f 11 = 0 ∧ f 12 = 0
def BkA (f : Rw) (b : Nat) : Prop := f 0 = nI b ∧ (∃ s, 1 ≤ s ∧ s ≤ 24 ∧ f 1 = nI s) ∧ (∃ e, e ≤ 3 ∧ f 3 = nI e) ∧ (∃ w, w ≤ 24 ∧ f 8 = nI w) ∧ (∃ c, c ≤ 6 ∧ f 6 = nI c) ∧ f 7 = bSum f (f 8).toNatClampNeg + f 9
def BkB (f : Rw) : Prop := (∃ t, t ≤ 6 ∧ f 4 = nI t) ∧ (f 4 = 0 → f 7 = 0 ∧ f 8 = 0 ∧ f 9 = 0) ∧ (f 4 = 1 → f 8 < f 1 ∧ f 9 < bSos f (f 8)) ∧ (f 4 = 4 → f 12 < f 3) ∧ (f 4 < 4 → f 12 = 0)
def BkO (f : Rw) (b : Nat) : Prop := BkA f b ∧ BkB f
theorem BkA.cg {f g : Rw} {b : Nat} (h : BkA f b) (e0 : g 0 = f 0) (e1 : g 1 = f 1) (e3 : g 3 = f 3) (e6 : g 6 = f 6) (e7 : g 7 = f 7) (e8 : g 8 = f 8) (e9 : g 9 = f 9) : BkA g b := by
  obtain ⟨a0, a1, a3, a8, a6, a7⟩ := h
  refine ⟨e0.trans a0, ?_, ?_, ?_, ?_, ?_⟩
  · rw [e1]; exact a1
  · rw [e3]; exact a3
  · rw [e8]; exact a8
  · rw [e6]; exact a6
  · rw [e7, e8, e9, bSum_cg e1 e6]; exact a7
/-- a later stage than the second -/
theorem BkB.late {f : Rw} {t : Nat} (ht : t ≤ 6) (h4 : f 4 = nI t) (h2 : 2 ≤ t) (h44 : t = 4 → f 12 < f 3) (h12 : t < 4 → f 12 = 0) : BkB f := by
  refine ⟨⟨t, ht, h4⟩, fun h => ?_, fun h => ?_, fun h => ?_, fun h => ?_⟩
  · rw [h4] at h; have := nI_inj (b := 0) (by omega) (by omega) h; omega
  · rw [h4] at h; have := nI_inj (b := 1) (by omega) (by omega) h; omega
  · rw [h4] at h; exact h44 (nI_inj (b := 4) (by omega) (by omega) h)
  · rw [h4] at h; exact h12 ((nI_ltI (b := 4) (by omega) (by omega)).mp h)
theorem i32_succ {a b : Int32} (h : a < b) (k : b ≤ a + 1) : a + 1 = b := by
  have h1 := Int32.lt_iff_toInt_lt.mp h
  have h2 := Int32.le_iff_toInt_le.mp k
  have h3 : (a + 1).toInt = a.toInt + 1 := by
    rw [Int32.toInt_add]
    have h4 : (1 : Int32).toInt = 1 := by decide
    rw [h4]
    have h5 := Int32.toInt_lt b
    have h6 := Int32.le_toInt a
    exact Int.bmod_eq_of_le (by omega) (by omega)
  exact Int32.toInt_inj.mp (by omega)
theorem BkO.bind {f : Rw} {b : Nat} (h : BkO f b) (h4 : f 4 = 3) : BkO (bBind f) b := by
  refine ⟨h.1.cg rfl rfl rfl rfl rfl rfl rfl, ?_⟩
  have h12 : f 12 = 0 := h.2.2.2.2.2 (by rw [h4]; decide)
  obtain ⟨e, he, e3⟩ := h.1.2.2.1
  unfold bBind
  by_cases hz : f 3 = 0
  · rw [if_pos hz]; exact BkB.late (t := 5) (by decide) rfl (by decide) (by omega) (by omega)
  · rw [if_neg hz]
    refine BkB.late (t := 4) (by decide) rfl (by decide) (fun _ => ?_) (by omega)
    show f 12 < f 3
    rw [h12, e3]
    rw [e3] at hz
    exact nI_lt (a := 0) (by rcases Nat.eq_zero_or_pos e with q | q; exact absurd (by rw [q]; rfl) hz; exact q) (by omega)
theorem BkO.dryH {f : Rw} {b : Nat} (h : BkO f b) (h4 : f 4 = 2) : BkO (bDryH f) b := by
  have h12 : f 12 = 0 := h.2.2.2.2.2 (by rw [h4]; decide)
  unfold bDryH
  split
  · exact ⟨h.1.cg rfl rfl rfl rfl rfl rfl rfl, BkB.late (t := 3) (by decide) rfl (by decide) (by omega) (fun _ => h12)⟩
  · exact ⟨h.1.cg rfl rfl rfl rfl rfl rfl rfl, BkB.late (t := 2) (by decide) h4 (by decide) (by omega) (fun _ => h12)⟩
theorem BkO.gild {f : Rw} {b : Nat} (h : BkO f b) (h4 : f 4 = 4) : BkO (bGild f) b := by
  unfold bGild
  split
  · exact ⟨h.1.cg rfl rfl rfl rfl rfl rfl rfl, BkB.late (t := 4) (by decide) h4 (by decide) (fun _ => by assumption) (by omega)⟩
  · exact ⟨h.1.cg rfl rfl rfl rfl rfl rfl rfl, BkB.late (t := 5) (by decide) rfl (by decide) (by omega) (by omega)⟩
theorem BkO.dryB {f : Rw} {b : Nat} (h : BkA f b) (h12 : f 12 = 0) : BkO (bDryB f) b := ⟨h.cg rfl rfl rfl rfl rfl rfl rfl, BkB.late (t := 2) (by decide) rfl (by decide) (by omega) (fun _ => h12)⟩
theorem bSos_nat {f : Rw} {c s w : Nat} (hc : c ≤ 6) (h6 : f 6 = nI c) (hs : s ≤ 24) (h1 : f 1 = nI s) : ∃ n, 2 ≤ n ∧ n ≤ 12 ∧ bSos f (nI w) = nI n := by
  have e2 : ∀ a, nI a + 2 = nI (a + 2) := fun a => nI_add a 2
  unfold bSos
  rw [h6, h1, e2]
  split
  · split
    · rw [e2, e2]; exact ⟨_, by omega, by omega, rfl⟩
    · rw [e2]; exact ⟨_, by omega, by omega, rfl⟩
  · split
    · rw [e2]; exact ⟨_, by omega, by omega, rfl⟩
    · exact ⟨_, by omega, by omega, rfl⟩
theorem BkO.mount {f : Rw} {b fr c : Nat} (h : BkO f b) (h4 : f 4 = 0) (hc : c ≤ 6) : BkO (bMount f (nI fr) (nI c)) b := by
  obtain ⟨⟨a0, a1, a3, a8, a6, a7⟩, b0, b1, b2, b3, b4⟩ := h
  obtain ⟨h7, h8, h9⟩ := b1 h4
  have h12 : f 12 = 0 := b4 (by rw [h4]; decide)
  obtain ⟨s, s1, s2, es⟩ := a1
  have e8 : bMount f (nI fr) (nI c) 8 = 0 := h8
  have e9 : bMount f (nI fr) (nI c) 9 = 0 := h9
  refine ⟨⟨a0, ⟨s, s1, s2, es⟩, a3, a8, ⟨c, hc, rfl⟩, ?_⟩, ⟨1, by decide, rfl⟩, fun q => absurd (show (1 : Int32) = 0 from q) (by decide), fun _ => ⟨?_, ?_⟩, fun q => absurd (show (1 : Int32) = 4 from q) (by decide), fun _ => h12⟩
  · rw [e8, e9]; exact h7
  · rw [e8]; show 0 < f 1; rw [es]; exact nI_lt (a := 0) (by omega) (by omega)
  · rw [e8, e9]
    obtain ⟨n, n2, n12, e⟩ := bSos_nat (f := bMount f (nI fr) (nI c)) (w := 0) hc rfl s2 es
    show 0 < bSos _ (nI 0)
    rw [e]
    exact nI_lt (a := 0) (by omega) (by omega)
theorem BkO.undo {f : Rw} {b : Nat} (h : BkO f b) (h4 : f 4 = 1) : BkO (bUndo f) b := by
  obtain ⟨⟨a0, a1, a3, a8, a6, a7⟩, b0, b1, b2, b3, b4⟩ := h
  have h12 : f 12 = 0 := b4 (by rw [h4]; decide)
  exact ⟨⟨a0, a1, a3, ⟨0, by decide, rfl⟩, ⟨0, by decide, rfl⟩, rfl⟩, ⟨0, by decide, rfl⟩, fun _ => ⟨rfl, rfl, rfl⟩, fun q => absurd (show (0 : Int32) = 1 from q) (by decide), fun q => absurd (show (0 : Int32) = 4 from q) (by decide), fun _ => h12⟩
theorem BkO.begin {f : Rw} {b s h e : Nat} (hu : BkU f b) (s1 : 1 ≤ s) (s2 : s ≤ 24) (he : e ≤ 3) : BkO (bBegin f (nI s) (nI h) (nI e)) b := by
  obtain ⟨u0, u4, u5, u6, u7, u8, u9, u10, u11, u12⟩ := hu
  have e8 : bBegin f (nI s) (nI h) (nI e) 8 = 0 := u8
  have e9 : bBegin f (nI s) (nI h) (nI e) 9 = 0 := u9
  refine ⟨⟨u0, ⟨s, s1, s2, rfl⟩, ⟨e, he, rfl⟩, ⟨0, by decide, u8⟩, ⟨0, by decide, u6⟩, ?_⟩, ⟨0, by decide, rfl⟩, fun _ => ⟨u7, u8, u9⟩, fun q => absurd (show (0 : Int32) = 1 from q) (by decide), fun q => absurd (show (0 : Int32) = 4 from q) (by decide), fun _ => u12⟩
  rw [e8, e9]; exact u7
/-- a stitch: the book's numbers, and whether it's sewn then -/
theorem BkO.add {f : Rw} {b : Nat} (h : BkO f b) (h4 : f 4 = 1) : BkA (bAdd f) b ∧ (bAdd f 8 < bAdd f 1 → bAdd f 9 < bSos (bAdd f) (bAdd f 8)) ∧ bAdd f 4 = 1 ∧ bAdd f 5 = f 5 ∧ bAdd f 12 = f 12 ∧ bAdd f 1 = f 1 ∧ bAdd f 10 = f 10 := by
  obtain ⟨⟨a0, a1, a3, a8, a6, a7⟩, b0, b1, b2, b3, b4⟩ := h
  obtain ⟨k1, k2⟩ := b2 h4
  obtain ⟨s, s1, s2, es⟩ := a1
  obtain ⟨w, w1, ew⟩ := a8
  obtain ⟨c, c1, ec⟩ := a6
  have hws : w < s := by rw [ew, es] at k1; exact (nI_ltI (by omega) (by omega)).mp k1
  have hcl : (f 8).toNatClampNeg = w := by rw [ew]; exact nI_clamp (by omega)
  unfold bAdd
  by_cases hc : bSos f (f 8) ≤ f 9 + 1
  · rw [if_pos hc]
    have e9 := i32_succ k2 hc
    have e8 : f 8 + 1 = nI (w + 1) := by rw [ew]; exact nI_add w 1
    refine ⟨⟨a0, ⟨s, s1, s2, es⟩, a3, ⟨w + 1, by omega, e8⟩, ⟨c, c1, ec⟩, ?_⟩, fun _ => ?_, h4, rfl, rfl, rfl, rfl⟩
    · show f 7 + 1 = bSum (ru (ru (bInc f) 8 (f 8 + 1)) 9 0) (f 8 + 1).toNatClampNeg + 0
      rw [e8, nI_clamp (by omega), bSum_cg (f := ru (ru (bInc f) 8 (nI (w + 1))) 9 0) (g := f) rfl rfl, bSum, a7, hcl]
      rw [← ew, ← e9]
      rw [Int32.add_zero, Int32.add_assoc]
    · show 0 < bSos (ru (ru (bInc f) 8 (f 8 + 1)) 9 0) (f 8 + 1)
      rw [e8]
      obtain ⟨n, n2, n12, e⟩ := bSos_nat (f := ru (ru (bInc f) 8 (f 8 + 1)) 9 0) (w := w + 1) c1 ec s2 es
      rw [e8] at e
      rw [e]
      exact nI_lt (a := 0) (by omega) (by omega)
  · rw [if_neg hc]
    refine ⟨⟨a0, ⟨s, s1, s2, es⟩, a3, ⟨w, w1, ew⟩, ⟨c, c1, ec⟩, ?_⟩, fun _ => ?_, h4, rfl, rfl, rfl, rfl⟩
    · show f 7 + 1 = bSum (bInc f) (f 8).toNatClampNeg + (f 9 + 1)
      rw [bSum_cg (f := bInc f) (g := f) rfl rfl, a7, Int32.add_assoc]
    · show f 9 + 1 < bSos (bInc f) (f 8)
      rw [bSos_cg (f := bInc f) (g := f) rfl rfl]
      exact Int32.not_le.mp hc
end YI
