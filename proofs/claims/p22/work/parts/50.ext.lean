section YEx
/-! WHAT THE PROPERTY WANTS BEYOND THE INVARIANT: of an ordered book -/
def BkE (f : Rw) : Prop := (∃ h, 1 ≤ h ∧ h ≤ 8 ∧ f 2 = nI h) ∧ (f 4 = 2 → ∃ k, 1 ≤ k ∧ k ≤ 26 ∧ f 11 = nI k) ∧ (¬ f 4 = 2 → f 11 = 0) ∧ (¬ f 4 = 1 → f 5 = -1) ∧ (∃ l w, l ≤ w ∧ w ≤ 24 ∧ f 10 = nI l ∧ f 8 = nI w) ∧ (∃ g e, g ≤ e ∧ e ≤ 3 ∧ f 12 = nI g ∧ f 3 = nI e) ∧ (2 ≤ f 4 → f 8 = f 1)
/-- from one late stage to another -/
theorem BkE.to {f : Rw} {t : Int32} (h : BkE f) (h1 : ¬ f 4 = 1) (h2 : ¬ f 4 = 2) (h3 : 2 ≤ f 4) (t1 : ¬ t = 2) : BkE (ru f 4 t) := by
  obtain ⟨a1, a2, a3, a4, a5, a6, a7⟩ := h
  exact ⟨a1, fun q => absurd (show t = 2 from q) t1, fun _ => a3 h2, fun _ => a4 h1, a5, a6, fun _ => a7 h3⟩
theorem BkE.bind {f : Rw} (h : BkE f) (h4 : f 4 = 3) : BkE (bBind f) := by
  unfold bBind
  refine h.to (by rw [h4]; decide) (by rw [h4]; decide) (by rw [h4]; decide) ?_
  split <;> decide
theorem BkE.sold {f : Rw} (h : BkE f) (h4 : f 4 = 5) : BkE (ru f 4 6) := h.to (by rw [h4]; decide) (by rw [h4]; decide) (by rw [h4]; decide) (by decide)
theorem BkE.dryH {f : Rw} (h : BkE f) (h4 : f 4 = 2) : BkE (bDryH f) := by
  obtain ⟨a1, a2, a3, a4, a5, a6, a7⟩ := h
  obtain ⟨k, k1, k2, ek⟩ := a2 h4
  have e : f 11 - 1 = nI (k - 1) := by rw [ek]; exact pk_sub (b := 1) k1
  unfold bDryH
  rw [e]
  by_cases hz : nI (k - 1) = 0
  · rw [if_pos hz, hz]
    exact ⟨a1, fun q => absurd (show (3 : Int32) = 2 from q) (by decide), fun _ => rfl, fun _ => a4 (by rw [h4]; decide), a5, a6, fun _ => a7 (by rw [h4]; decide)⟩
  · rw [if_neg hz]
    refine ⟨a1, fun _ => ⟨k - 1, ?_, by omega, rfl⟩, fun q => absurd h4 q, fun _ => a4 (by rw [h4]; decide), a5, a6, fun _ => a7 (by rw [h4]; decide)⟩
    rcases Nat.eq_zero_or_pos (k - 1) with q | q
    · exact absurd (by rw [q]; rfl) hz
    · exact q
theorem BkE.gild {f : Rw} (h : BkE f) (h4 : f 4 = 4) (hlt : f 12 < f 3) : BkE (bGild f) := by
  obtain ⟨a1, a2, a3, a4, a5, ⟨g, e, g1, e1, eg, ee⟩, a7⟩ := h
  have hge : g < e := by rw [eg, ee] at hlt; exact (nI_ltI (by omega) (by omega)).mp hlt
  have e12 : f 12 + 1 = nI (g + 1) := by rw [eg]; exact nI_add g 1
  have h8 := a7 (by rw [h4]; decide)
  have h5 := a4 (by rw [h4]; decide)
  have h11 := a3 (by rw [h4]; decide)
  unfold bGild
  rw [e12]
  split
  · exact ⟨a1, fun q => absurd (h4.symm.trans q) (by decide), fun _ => h11, fun _ => h5, a5, ⟨g + 1, e, by omega, e1, rfl, ee⟩, fun _ => h8⟩
  · exact ⟨a1, fun q => absurd (show (5 : Int32) = 2 from q) (by decide), fun _ => h11, fun _ => h5, a5, ⟨g + 1, e, by omega, e1, rfl, ee⟩, fun _ => h8⟩
theorem bThick_n {f : Rw} {s h : Nat} (es : f 1 = nI s) (eh : f 2 = nI h) : bThick f = nI (s * h) := by unfold bThick; rw [es, eh, pk_mul]
theorem BkE.dryB {f : Rw} {b : Nat} (h : BkE f) (hA : BkA f b) (h8 : f 8 = f 1) : BkE (bDryB f) := by
  obtain ⟨⟨n, n1, n2, en⟩, a2, a3, a4, a5, a6, a7⟩ := h
  obtain ⟨_, ⟨s, s1, s2, es⟩, _⟩ := hA
  have ht : bThick f = nI (s * n) := bThick_n es en
  have hsn : s * n ≤ 24 * 8 := Nat.mul_le_mul s2 n2
  have hd : 2 + bThick f / 8 = nI (2 + s * n / 8) := by
    rw [ht]
    have := pk_div (a := s * n) (d := 8) (by omega) (by decide) (by decide)
    rw [show (8 : Int32) = nI 8 from rfl, this]
    exact nI_add 2 (s * n / 8)
  unfold bDryB
  rw [hd]
  exact ⟨⟨n, n1, n2, en⟩, fun _ => ⟨2 + s * n / 8, by omega, by omega, rfl⟩, fun q => absurd (show (2 : Int32) = 2 from rfl) q, fun _ => rfl, a5, a6, fun _ => h8⟩
theorem BkE.undo {f : Rw} (h : BkE f) (h4 : f 4 = 1) : BkE (bUndo f) := by
  obtain ⟨a1, a2, a3, a4, a5, a6, a7⟩ := h
  have h11 := a3 (by rw [h4]; decide)
  exact ⟨a1, fun q => absurd (show (0 : Int32) = 2 from q) (by decide), fun _ => h11, fun _ => rfl, ⟨0, 0, Nat.le_refl _, by decide, rfl, rfl⟩, a6, fun q => absurd (show (2 : Int32) ≤ 0 from q) (by decide)⟩
theorem BkE.mount {f : Rw} {x y : Int32} (h : BkE f) (h4 : f 4 = 0) : BkE (bMount f x y) := by
  obtain ⟨a1, a2, a3, a4, a5, a6, a7⟩ := h
  have h11 := a3 (by rw [h4]; decide)
  exact ⟨a1, fun q => absurd (show (1 : Int32) = 2 from q) (by decide), fun _ => h11, fun q => absurd (show (1 : Int32) = 1 from rfl) q, a5, a6, fun q => absurd (show (2 : Int32) ≤ 1 from q) (by decide)⟩
theorem BkE.begin {f : Rw} {b s h e : Nat} (hu : BkU f b) (h1 : 1 ≤ h) (h2 : h ≤ 8) (he : e ≤ 3) : BkE (bBegin f (nI s) (nI h) (nI e)) := by
  obtain ⟨u0, u4, u5, u6, u7, u8, u9, u10, u11, u12⟩ := hu
  exact ⟨⟨h, h1, h2, rfl⟩, fun q => absurd (show (0 : Int32) = 2 from q) (by decide), fun _ => u11, fun _ => u5, ⟨0, 0, Nat.le_refl _, by decide, u10, u8⟩, ⟨0, e, Nat.zero_le _, he, u12, rfl⟩, fun q => absurd (show (2 : Int32) ≤ 0 from q) (by decide)⟩
/-- a stitch -/
theorem BkE.add {f : Rw} {b : Nat} (h : BkE f) (hO : BkO f b) (h4 : f 4 = 1) {G : Rw} (hG : G = bAdd f ∨ (G = ru (bAdd f) 10 (bAdd f 10 + 1) ∧ ¬ bAddR f = 0)) : BkE G ∧ (¬ bSewn G = 0 → BkE (bDryB G)) := by
  obtain ⟨k1, k2⟩ := hO.2.2.2.1 h4
  obtain ⟨hA, _⟩ := hO.add h4
  obtain ⟨a1, a2, a3, a4, ⟨l, w, lw, w24, el, ew⟩, a6, a7⟩ := h
  obtain ⟨_, ⟨s, s1, s2, es⟩, _⟩ := hO.1
  have h11 := a3 (by rw [h4]; decide)
  have hws : w < s := by rw [ew, es] at k1; exact (nI_ltI (by omega) (by omega)).mp k1
  by_cases hc : bSos f (f 8) ≤ f 9 + 1
  · have eA : bAdd f = ru (ru (bInc f) 8 (f 8 + 1)) 9 0 := by unfold bAdd; rw [if_pos hc]
    have e8 : f 8 + 1 = nI (w + 1) := by rw [ew]; exact nI_add w 1
    have e10 : f 10 + 1 = nI (l + 1) := by rw [el]; exact nI_add l 1
    have g8 : G 8 = nI (w + 1) := by
      rcases hG with rfl | ⟨rfl, _⟩
      · rw [eA]; exact e8
      · rw [eA]; exact e8
    have g1 : G 1 = f 1 := by
      rcases hG with rfl | ⟨rfl, _⟩
      · rw [eA]; rfl
      · rw [eA]; rfl
    have hB : BkA G b := by
      rcases hG with rfl | ⟨rfl, _⟩
      · exact hA
      · exact hA.cg rfl rfl rfl rfl rfl rfl rfl
    have hE : BkE G := by
      rcases hG with rfl | ⟨rfl, _⟩
      · rw [eA]
        exact ⟨a1, fun q => absurd (h4.symm.trans q) (by decide), fun _ => h11, fun q => absurd h4 q, ⟨l, w + 1, by omega, by omega, el, e8⟩, a6, fun q => absurd (show (2 : Int32) ≤ f 4 from q) (by rw [h4]; decide)⟩
      · rw [eA]
        exact ⟨a1, fun q => absurd (h4.symm.trans q) (by decide), fun _ => h11, fun q => absurd h4 q, ⟨l + 1, w + 1, by omega, by omega, e10, e8⟩, a6, fun q => absurd (show (2 : Int32) ≤ f 4 from q) (by rw [h4]; decide)⟩
    refine ⟨hE, fun hn => hE.dryB hB ?_⟩
    have : ¬ G 8 < G 1 := fun q => hn (by unfold bSewn; rw [if_pos q])
    rw [g8, g1, es] at this
    rw [g8, g1, es]
    have h9 : ¬ w + 1 < s := fun q => this (nI_lt q (by omega))
    rw [show w + 1 = s by omega]
  · have eA : bAdd f = bInc f := by unfold bAdd; rw [if_neg hc]
    have hG2 : G = bInc f := by
      rcases hG with rfl | ⟨_, hr⟩
      · exact eA
      · exact absurd (by unfold bAddR; rw [if_neg hc]) hr
    subst hG2
    refine ⟨⟨a1, fun q => absurd (h4.symm.trans q) (by decide), fun _ => h11, fun q => absurd h4 q, ⟨l, w, lw, w24, el, ew⟩, a6, fun q => absurd (show (2 : Int32) ≤ f 4 from q) (by rw [h4]; decide)⟩, fun hn => absurd ?_ hn⟩
    unfold bSewn
    rw [if_pos (show bInc f 8 < bInc f 1 from k1)]
/-! of the workshop's numbers: tot ells in all, at most cm coins, d loose stitches fewer than sewn -/
def WE (M : yM) (o tot cm d : Nat) : Prop := ∃ (T W Lo b g c : Nat) (w : Nat → Nat), (M o 7 = nI T ∧ M o 10 = nI W ∧ T + W = tot) ∧ (M o 11 = nI Lo ∧ Lo + d ≤ W) ∧ (M o 8 = nI b ∧ b ≤ 12) ∧ (M o 9 = nI g ∧ g ≤ 20) ∧ (M o 6 = nI c ∧ c ≤ cm) ∧ (∀ f, f < 3 → M (o + 24 + f) 3 = nI (w f)) ∧ w 0 + w 1 + w 2 = W
section
variable {M M' : yM} {o tot cm d : Nat}
theorem WE.cg (h : WE M o tot cm d) (e : ∀ k, 6 ≤ k → M' o k = M o k) (ef : ∀ f, f < 3 → M' (o + 24 + f) 3 = M (o + 24 + f) 3) : WE M' o tot cm d := by
  obtain ⟨T, W, Lo, b, g, c, w, h1, h2, h3, h4, h5, h6, h7⟩ := h
  refine ⟨T, W, Lo, b, g, c, w, ?_, ?_, ?_, ?_, ?_, fun f hf => (ef f hf).trans (h6 f hf), h7⟩
  · rw [e 7 (by decide), e 10 (by decide)]; exact h1
  · rw [e 11 (by decide)]; exact h2
  · rw [e 8 (by decide)]; exact h3
  · rw [e 9 (by decide)]; exact h4
  · rw [e 6 (by decide)]; exact h5
theorem WE.lo (h : WE M o tot cm d) : WE M o tot cm 0 := by
  obtain ⟨T, W, Lo, b, g, c, w, h1, h2, h3, h4, h5, h6, h7⟩ := h
  exact ⟨T, W, Lo, b, g, c, w, h1, ⟨h2.1, by omega⟩, h3, h4, h5, h6, h7⟩
theorem WE.bk {b : Nat} {g : Rw} (h : WE M o tot cm d) (hb : b < 15) : WE (va_up M (o + 4 + b) g) o tot cm d := h.cg (fun k _ => by rw [up_n (by omega)]) (fun f hf => by rw [up_n (by omega)])
theorem WE.fr {f : Nat} {v : Int32} (h : WE M o tot cm d) (k : Nat) (hk : ¬ k = 3) : WE (yst M (o + 24 + f) k v) o tot cm d := h.cg (fun k _ => by rw [yst_row (by omega)]) (fun g hg => by
  by_cases q : g = f
  · subst q; rw [yst_at, if_neg (fun z => hk z.symm)]
  · rw [yst_row (by omega)])
theorem WE.gold {g : Nat} (h : WE M o tot cm d) (hg : g ≤ 20) : WE (yst M o 9 (nI g)) o tot cm d := by
  obtain ⟨T, W, Lo, b, g0, c, w, h1, h2, h3, h4, h5, h6, h7⟩ := h
  exact ⟨T, W, Lo, b, g, c, w, by rw [yst_at, if_neg (by decide), yst_at, if_neg (by decide)]; exact h1, by rw [yst_at, if_neg (by decide)]; exact h2, by rw [yst_at, if_neg (by decide)]; exact h3, ⟨yst_same, hg⟩, by rw [yst_at, if_neg (by decide)]; exact h5, fun f hf => by rw [yst_row (by omega)]; exact h6 f hf, h7⟩
theorem WE.boards {b : Nat} (h : WE M o tot cm d) (hb : b ≤ 12) : WE (yst M o 8 (nI b)) o tot cm d := by
  obtain ⟨T, W, Lo, b0, g, c, w, h1, h2, h3, h4, h5, h6, h7⟩ := h
  exact ⟨T, W, Lo, b, g, c, w, by rw [yst_at, if_neg (by decide), yst_at, if_neg (by decide)]; exact h1, by rw [yst_at, if_neg (by decide)]; exact h2, ⟨yst_same, hb⟩, by rw [yst_at, if_neg (by decide)]; exact h4, by rw [yst_at, if_neg (by decide)]; exact h5, fun f hf => by rw [yst_row (by omega)]; exact h6 f hf, h7⟩
theorem WE.coins {c cm' : Nat} (h : WE M o tot cm d) (hc : c ≤ cm') : WE (yst M o 6 (nI c)) o tot cm' d := by
  obtain ⟨T, W, Lo, b, g, c0, w, h1, h2, h3, h4, h5, h6, h7⟩ := h
  exact ⟨T, W, Lo, b, g, c, w, by rw [yst_at, if_neg (by decide), yst_at, if_neg (by decide)]; exact h1, by rw [yst_at, if_neg (by decide)]; exact h2, by rw [yst_at, if_neg (by decide)]; exact h3, by rw [yst_at, if_neg (by decide)]; exact h4, ⟨yst_same, hc⟩, fun f hf => by rw [yst_row (by omega)]; exact h6 f hf, h7⟩
theorem WE.thread (h : WE M o tot cm d) : ∃ T, T ≤ tot ∧ M o 7 = nI T := by
  obtain ⟨T, W, Lo, b, g, c, w, h1, _⟩ := h
  exact ⟨T, by omega, h1.1⟩
theorem WE.buy {n : Nat} (h : WE M o tot cm d) : WE (yst M o 7 (M o 7 + nI n)) o (tot + n) cm d := by
  obtain ⟨T, W, Lo, b, g, c, w, h1, h2, h3, h4, h5, h6, h7⟩ := h
  exact ⟨T + n, W, Lo, b, g, c, w, ⟨by rw [yst_same, h1.1, nI_add], by rw [yst_at, if_neg (by decide)]; exact h1.2.1, by omega⟩, by rw [yst_at, if_neg (by decide)]; exact h2, by rw [yst_at, if_neg (by decide)]; exact h3, by rw [yst_at, if_neg (by decide)]; exact h4, by rw [yst_at, if_neg (by decide)]; exact h5, fun f hf => by rw [yst_row (by omega)]; exact h6 f hf, h7⟩
theorem wStA_o {f k : Nat} : wStA M o f o k = if k = 10 then M o 10 + 1 else if k = 7 then M o 7 - 1 else M o k := by
  unfold wStA yinc ydec
  rw [yst_row (by omega), yst_at, yst_at, yst_at, if_neg (by decide : ¬ (10 : Nat) = 7)]
theorem wStA_f {f g k : Nat} : wStA M o f (o + 24 + g) k = if g = f ∧ k = 3 then M (o + 24 + f) 3 + 1 else M (o + 24 + g) k := by
  unfold wStA yinc ydec
  by_cases q : g = f
  · subst q
    rw [yst_at, yst_row (by omega), yst_row (by omega)]
    by_cases z : k = 3
    · rw [if_pos z, if_pos ⟨rfl, z⟩]
    · rw [if_neg z, if_neg (fun y => z y.2)]
  · rw [if_neg (fun y => q y.1), yst_row (by omega), yst_row (by omega), yst_row (by omega)]
/-- a stitch takes an ell -/
theorem WE.stA {f T : Nat} (h : WE M o tot cm d) (hf : f < 3) (hT : M o 7 = nI (T + 1)) (hT2 : T + 1 < 2 ^ 30) (ht : tot < 2 ^ 30) : WE (wStA M o f) o tot cm (d + 1) := by
  obtain ⟨T0, W, Lo, b, g, c, w, h1, h2, h3, h4, h5, h6, h7⟩ := h
  have e0 : T0 = T + 1 := nI_inj (by omega) (by omega) (h1.1.symm.trans hT)
  refine ⟨T, W + 1, Lo, b, g, c, fun x => if x = f then w x + 1 else w x, ⟨?_, ?_, by omega⟩, ⟨?_, by omega⟩, ?_, ?_, ?_, fun x hx => ?_, ?_⟩
  · rw [wStA_o, if_neg (by decide), if_pos rfl, hT]; exact nI_pred T
  · rw [wStA_o, if_pos rfl, h1.2.1]; exact nI_1 W
  · rw [wStA_o, if_neg (by decide), if_neg (by decide)]; exact h2.1
  · rw [wStA_o, if_neg (by decide), if_neg (by decide)]; exact h3
  · rw [wStA_o, if_neg (by decide), if_neg (by decide)]; exact h4
  · rw [wStA_o, if_neg (by decide), if_neg (by decide)]; exact h5
  · rw [wStA_f]
    by_cases q : x = f
    · subst q
      rw [if_pos ⟨rfl, rfl⟩, h6 x hx]
      show nI (w x) + 1 = nI (if x = x then w x + 1 else w x)
      rw [if_pos rfl]; exact nI_1 (w x)
    · rw [if_neg (fun y => q y.1), h6 x hx]
      show nI (w x) = nI (if x = f then w x + 1 else w x)
      rw [if_neg q]
  · show (if 0 = f then w 0 + 1 else w 0) + (if 1 = f then w 1 + 1 else w 1) + (if 2 = f then w 2 + 1 else w 2) = W + 1
    rcases (show f = 0 ∨ f = 1 ∨ f = 2 by omega) with rfl | rfl | rfl
    · rw [if_pos rfl, if_neg (by decide), if_neg (by decide)]; omega
    · rw [if_neg (by decide), if_pos rfl, if_neg (by decide)]; omega
    · rw [if_neg (by decide), if_neg (by decide), if_pos rfl]; omega
theorem WE.loose1 (h : WE M o tot cm (d + 1)) : WE (yst M o 11 (M o 11 + 1)) o tot cm d := by
  obtain ⟨T, W, Lo, b, g, c, w, h1, h2, h3, h4, h5, h6, h7⟩ := h
  exact ⟨T, W, Lo + 1, b, g, c, w, by rw [yst_at, if_neg (by decide), yst_at, if_neg (by decide)]; exact h1, ⟨by rw [yst_same, h2.1]; exact nI_1 Lo, by omega⟩, by rw [yst_at, if_neg (by decide)]; exact h3, by rw [yst_at, if_neg (by decide)]; exact h4, by rw [yst_at, if_neg (by decide)]; exact h5, fun f hf => by rw [yst_row (by omega)]; exact h6 f hf, h7⟩
end
end YEx
