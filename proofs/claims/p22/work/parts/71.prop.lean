section YPr
variable {M M' : yM} {B S tot cm : Nat}
/-! who sits where -/
def sTot (M : yM) (g : Int32) : Nat → Nat | 0 => 0 | n + 1 => if M (0 + 19 + n) 2 = g then sTot M g n + 1 else sTot M g n
def sOth (M : yM) (g : Int32) (x : Nat) : Nat → Nat | 0 => 0 | n + 1 => if M (0 + 19 + n) 2 = g then (if n = x then sOth M g x n else sOth M g x n + 1) else sOth M g x n
theorem sTot_e (hn : ∀ s, s < 5 → M (0 + 19 + s) 0 = nI s) {g : Int32} : ∀ n, n ≤ 5 → wOth M 0 g (-1) n = nI (sTot M g n) := by
  intro n
  induction n with
  | zero => intro _; rfl
  | succ n ih =>
    intro hle
    rw [wOth, sTot, ih (by omega)]
    by_cases hc : M (0 + 19 + n) 2 = g
    · rw [if_pos hc, if_pos hc, if_neg (by rw [hn n (by omega)]; exact nI_ne1 (by omega))]
      exact nI_1 _
    · rw [if_neg hc, if_neg hc]
theorem sOth_e (hn : ∀ s, s < 5 → M (0 + 19 + s) 0 = nI s) {g : Int32} {x : Nat} (hx : x < 5) : ∀ n, n ≤ 5 → wOth M 0 g (nI x) n = nI (sOth M g x n) := by
  intro n
  induction n with
  | zero => intro _; rfl
  | succ n ih =>
    intro hle
    rw [wOth, sOth, ih (by omega)]
    by_cases hc : M (0 + 19 + n) 2 = g
    · rw [if_pos hc, if_pos hc, hn n (by omega)]
      by_cases e : n = x
      · rw [if_pos e, if_pos (by rw [e])]
      · rw [if_neg e, if_neg (fun q => e (nI_inj (by omega) (by omega) q))]
        exact nI_1 _
    · rw [if_neg hc, if_neg hc]
theorem sOth_le {g : Int32} {x : Nat} : ∀ n, sOth M g x n ≤ sTot M g n := by
  intro n
  induction n with
  | zero => exact Nat.le_refl _
  | succ n ih =>
    rw [sOth, sTot]
    repeat' split
    all_goals omega
theorem sTot_len {g : Int32} : ∀ n, sTot M g n ≤ n := by
  intro n
  induction n with
  | zero => exact Nat.le_refl _
  | succ n ih =>
    rw [sTot]
    split <;> omega
theorem sTot_put {g v : Int32} {x : Nat} : ∀ n, sTot (yst M (0 + 19 + x) 2 v) g n = sOth M g x n + (if x < n ∧ v = g then 1 else 0) := by
  intro n
  induction n with
  | zero => rw [if_neg (by omega)]; rfl
  | succ n ih =>
    rw [sTot, sOth, ih]
    by_cases e : n = x
    · subst e
      have hR : (if M (0 + 19 + n) 2 = g then (if n = n then sOth M g n n else sOth M g n n + 1) else sOth M g n n) = sOth M g n n := by
        split
        · rw [if_pos rfl]
        · rfl
      rw [hR, yst_same, if_neg (show ¬ (n < n ∧ v = g) by omega)]
      by_cases hv : v = g
      · rw [if_pos hv, if_pos (show n < n + 1 ∧ v = g from ⟨by omega, hv⟩)]
      · rw [if_neg hv, if_neg (show ¬ (n < n + 1 ∧ v = g) from fun q => hv q.2)]
    · rw [yst_row (show 0 + 19 + n ≠ 0 + 19 + x by omega), if_neg e]
      by_cases h2 : x < n ∧ v = g
      · rw [if_pos h2, if_pos (show x < n + 1 ∧ v = g from ⟨by omega, h2.2⟩)]
        split <;> omega
      · rw [if_neg h2, if_neg (show ¬ (x < n + 1 ∧ v = g) from fun q => h2 ⟨by omega, q.2⟩)]
        split <;> omega
theorem sTot_cg {g : Int32} (e : ∀ i, i < 5 → M' (0 + 19 + i) 2 = M (0 + 19 + i) 2) : ∀ n, n ≤ 5 → sTot M' g n = sTot M g n := by
  intro n
  induction n with
  | zero => intro _; rfl
  | succ n ih => intro hn; rw [sTot, sTot, ih (by omega), e n (by omega)]
theorem sOth_cg {g : Int32} {x : Nat} (e : ∀ i, i < 5 → M' (0 + 19 + i) 2 = M (0 + 19 + i) 2) : ∀ n, n ≤ 5 → sOth M' g x n = sOth M g x n := by
  intro n
  induction n with
  | zero => intro _; rfl
  | succ n ih => intro hn; rw [sOth, sOth, ih (by omega), e n (by omega)]
/-- two at a frame at most -/
def SOK (M : yM) : Prop := ∀ f, f < 3 → sTot M (nI f) 5 ≤ 2
theorem SOK.cg (h : SOK M) (e : ∀ i, i < 5 → M' (0 + 19 + i) 2 = M (0 + 19 + i) 2) : SOK M' := fun f hf => by rw [sTot_cg e 5 (Nat.le_refl _)]; exact h f hf
theorem SOK.seat {x : Nat} {v : Int32} (h : SOK M) (hv : v = -1 ∨ ∃ f, f < 3 ∧ v = nI f ∧ sOth M (nI f) x 5 ≤ 1) : SOK (yst M (0 + 19 + x) 2 v) := by
  intro g hg
  rw [sTot_put]
  have h1 := h g hg
  have h2 := sOth_le (M := M) (g := nI g) (x := x) 5
  split
  · rename_i q
    rcases hv with e | ⟨f, hf, e, h3⟩
    · rw [e] at q; exact absurd q.2.symm (nI_ne1 (by omega))
    · have : f = g := nI_inj (by omega) (by omega) (e.symm.trans q.2)
      subst this
      omega
  · omega
/-! THE PROPERTY'S INVARIANT -/
def PI (M : yM) (B S tot cm : Nat) : Prop := Ext M 0 B S tot cm ∧ SOK M ∧ LNum M ∧ tot < 2 ^ 20
theorem PI.I (h : PI M B S tot cm) : Inv M 0 B S := h.1.1
theorem PI.L (h : PI M B S tot cm) : LInv M B S := ⟨h.1.1, trivial, h.2.2.1⟩
theorem Inv.nums (h : Inv M 0 B S) : ∀ s, s < 5 → M (0 + 19 + s) 0 = nI s := fun s hs => (h.2.2.2.2.2 s hs).1
theorem PI.ask (h : PI M B S tot cm) (k : nOut M M') (hL : LNum M') : PI M' B S tot cm := by
  have hB := h.I.hB
  refine ⟨⟨h.I.n k, fun b hb => ?_, ?_⟩, h.2.1.cg (fun i hi => by rw [k _ (by omega)]), hL, h.2.2.2⟩
  · rw [k _ (by omega)]; exact h.1.2.1 b hb
  · exact h.1.2.2.cg (fun j _ => by rw [k _ (by omega)]) (fun f hf => by rw [k _ (by omega)])
theorem okB_i {b : Nat} (h : Inv M 0 B S) (hb : b < B) : okB M (nI b) = none := by
  have hB := h.hB
  refine okB_f (fun q => ?_)
  rcases q with q | q | q
  · exact nI_pos (by omega) q
  · rw [h.o3] at q; exact nI_ge hb (by omega) q
  · exact nI_ge (show b < 15 by omega) (by decide) q
theorem okS_i {b : Nat} (h : Inv M 0 B S) (hb : b < S) : okS M (nI b) = none := by
  have hS := h.hS
  refine okS_f (fun q => ?_)
  rcases q with q | q | q
  · exact nI_pos (by omega) q
  · rw [h.o4] at q; exact nI_ge hb (by omega) q
  · exact nI_ge (show b < 5 by omega) (by decide) q
theorem okK_i {k n : Nat} (hk : k < n) (hn : n < 1000) : okK (nI k) (nI n) = none := by
  unfold okK
  rw [if_neg (nI_pos (by omega)), if_pos (nI_lt hk (by omega))]
theorem okF_i {f : Nat} (hf : f < 3) : okF (nI f) = none := by
  unfold okF
  rw [if_neg (nI_pos (by omega)), if_pos (show nI f < 3 from nI_lt (b := 3) hf (by decide))]
theorem ok_told {b k : Nat} (h : Inv M 0 B S) (hb : b < B) (hk : k < 11) : thn (okB M (nI b)) (okK (nI k) 11) = none := by
  rw [okB_i h hb]; exact okK_i (n := 11) hk (by decide)
theorem ok_frame {f k : Nat} (hf : f < 3) (hk : k < 6) : thn (okF (nI f)) (okK (nI k) 6) = none := by
  rw [okF_i hf]; exact okK_i (n := 6) hk (by decide)
theorem ok_count {k : Nat} (hk : k < 15) : okK (nI k) 15 = none := okK_i (n := 15) hk (by decide)
/-! seat -/
theorem seat_ok {x : Nat} {v : Int32} (h : PI M B S tot cm) (hx : x < S) (hv : v = -1 ∨ ∃ f, f < 3 ∧ v = nI f ∧ sOth M (nI f) x 5 ≤ 1) : seaO M (nI x) v = none := by
  have hS := h.I.hS
  unfold seaO
  rw [okS_i h.I hx]
  show (if v = -1 then none else _) = none
  rcases hv with e | ⟨f, hf, e, h1⟩
  · rw [if_pos e]
  · subst e
    rw [if_neg (nI_ne1 (by omega)), if_neg (nI_pos (by omega)), if_pos (show nI f < 3 from nI_lt (b := 3) hf (by decide)), if_pos]
    rw [sOth_e h.I.nums (by omega) 5 (Nat.le_refl _)]
    exact nI_lt (b := 2) (by omega) (by decide)
theorem PI.seat {x : Nat} {v : Int32} (h : PI M B S tot cm) (hx : x < S) (hv : v = -1 ∨ ∃ f, f < 3 ∧ v = nI f ∧ sOth M (nI f) x 5 ≤ 1) : PI (yst M (0 + 19 + x) 2 v) B S tot cm := by
  have hS := h.I.hS
  have hB := h.I.hB
  refine ⟨⟨h.I.seat hx, fun b hb => ?_, ?_⟩, h.2.1.seat hv, h.2.2.1.s (by omega), h.2.2.2⟩
  · rw [yst_row (by omega)]; exact h.1.2.1 b hb
  · exact h.1.2.2.cg (fun j _ => by rw [yst_row (by omega)]) (fun f hf => by rw [yst_row (by omega)])
/-! a book's worth -/
theorem bVal_n {f : Rw} {b : Nat} (hA : BkA f b) (hE : BkE f) : ∃ n, 1 ≤ n ∧ n ≤ 126 ∧ bVal f = nI n := by
  obtain ⟨_, ⟨s, s1, s2, es⟩, _, _, ⟨c, c1, ec⟩, _⟩ := hA
  obtain ⟨_, _, _, _, ⟨l, w, lw, w24, el, ew⟩, ⟨g, e, g1, e1, eg, ee⟩, _⟩ := hE
  have k : 4 * f 1 + 2 * f 6 + 6 * f 12 - 3 * f 10 = nI (4 * s + 2 * c + 6 * g) - nI (3 * l) := by
    rw [es, ec, eg, el, show (4 : Int32) = nI 4 from rfl, show (2 : Int32) = nI 2 from rfl, show (6 : Int32) = nI 6 from rfl, show (3 : Int32) = nI 3 from rfl, pk_mul, pk_mul, pk_mul, pk_mul, nI_add, nI_add]
  unfold bVal
  rw [k]
  by_cases q : 3 * l ≤ 4 * s + 2 * c + 6 * g
  · rw [pk_sub q]
    split
    · exact ⟨4 * s + 2 * c + 6 * g - 3 * l, by rename_i z; have := (nI_ltI (a := 1) (by decide) (by omega)).mp z; omega, by omega, rfl⟩
    · exact ⟨1, Nat.le_refl _, by decide, rfl⟩
  · have hneg := pk_sneg (a := 4 * s + 2 * c + 6 * g) (b := 3 * l) (by omega) (by omega)
    rw [if_neg (fun z => absurd (Int32.lt_trans z hneg) (by decide))]
    exact ⟨1, Nat.le_refl _, by decide, rfl⟩
/-! sell -/
theorem sell_ok {b : Nat} (h : PI M B S tot cm) (hb : b < B) (h5 : M (0 + 4 + b) 4 = 5) : selO M (nI b) = none := by
  have hB := h.I.hB
  unfold selO
  rw [okB_i h.I hb, bkI_n (by omega), if_pos h5]
  rfl
theorem PI.sell {b : Nat} (h : PI M B S tot cm) (hb : b < B) (h5 : M (0 + 4 + b) 4 = 5) : PI (selM M (0 + 4 + b)) B S tot (cm + 126) := by
  have hB := h.I.hB
  have hbk := h.I.bk hb
  have hE := (h.1.2.1 b hb).sold h5
  have hI1 : Inv (yst M (0 + 4 + b) 4 6) 0 B S := by
    rw [yst_ru]
    refine h.I.book hb ⟨hbk.1.cg rfl rfl rfl rfl rfl rfl rfl, BkB.late (t := 6) (by decide) rfl (by decide) (by omega) (by omega)⟩ ⟨fun q => absurd (show (6 : Int32) = 1 from q) (by decide), fun q => ?_⟩ (fun q => absurd (show (6 : Int32) = 1 from q) (by decide))
    exact absurd (h5.symm.trans q) (by decide)
  have h1 : Ext (yst M (0 + 4 + b) 4 6) 0 B S tot cm := by
    rw [yst_ru] at hI1 ⊢
    exact h.1.bkput hb hI1 hE
  obtain ⟨n, n1, n2, en⟩ := bVal_n (h1.1.bk hb).1 (h1.2.1 b hb)
  obtain ⟨T, W, Lo, b0, g, c, w, -, -, -, -, h6, -⟩ := id h1.2.2
  have e6 : selM M (0 + 4 + b) = yst (yst M (0 + 4 + b) 4 6) 0 6 (nI (c + n)) := by
    unfold selM yinc
    rw [en, h6.1, nI_add]
  rw [e6]
  refine ⟨⟨h1.1.sc (by decide), fun d hd => ?_, h1.2.2.coins (by omega)⟩, h.2.1.cg (fun i hi => ?_), ?_, h.2.2.2⟩
  · rw [yst_row (by omega)]; exact h1.2.1 d hd
  · rw [yst_row (by omega), yst_row (by omega)]
  · exact (h.2.2.1.s (by omega)).s (by omega)
/-! unpick -/
theorem unpick_ok {b : Nat} (h : PI M B S tot cm) (hb : b < B) (h4 : M (0 + 4 + b) 4 = 1) : unpO M (nI b) = none := by
  have hB := h.I.hB
  unfold unpO
  rw [okB_i h.I hb, bkI_n (by omega), if_pos h4]
  rfl
theorem PI.unpick {b : Nat} (h : PI M B S tot cm) (hb : b < B) (h4 : M (0 + 4 + b) 4 = 1) : PI (unpM M (0 + 4 + b)) B S tot cm := by
  have hB := h.I.hB
  obtain ⟨hI, -, ho⟩ := unpick_tie h.I hb h4
  obtain ⟨f, hf, q1, q2⟩ := h.I.2.2.2.2.1 b hb h4
  have e : unpM M (0 + 4 + b) = va_up (yst M (0 + 24 + f) 2 (-1)) (0 + 4 + b) (bUndo (M (0 + 4 + b))) := by
    unfold unpM
    rw [(h.I.bk hb).1.1, clr_tie h.I hf hb q2 h4, yst_row (by omega)]
  refine ⟨⟨hI, fun c hc => ?_, ?_⟩, h.2.1.cg (fun i hi => by rw [ho _ (by omega) (by omega)]), h.2.2.1.cg (fun j h1 h2 => ho _ (by omega) (by omega)), h.2.2.2⟩
  · rw [e]
    by_cases q : c = b
    · subst q; rw [up_s]; exact (h.1.2.1 c hc).undo h4
    · rw [up_n (by omega), yst_row (by omega)]; exact h.1.2.1 c hc
  · rw [e]; exact (h.1.2.2.fr 2 (by decide)).bk (by omega)
/-! buy -/
theorem buy_ok (h : PI M B S tot cm) (h8 : ¬ M 0 6 < 8) : buyO M 0 40 = none := by
  unfold buyO
  have e : prc 0 40 = 8 := by decide
  rw [if_neg (by decide), if_pos (by decide), if_neg (by decide), if_pos (by decide), if_pos (by rw [e]; exact Int32.not_lt.mp h8)]
theorem PI.buy (h : PI M B S tot cm) (h8 : ¬ M 0 6 < 8) (ht : tot + 40 < 2 ^ 20) (hc : cm < 2 ^ 20) : PI (wStore (buyA M 0 40) 0 0 40) B S (tot + 40) cm := by
  have hB := h.I.hB
  obtain ⟨T, W, Lo, b0, g, c, w, -, -, -, -, h6, -⟩ := id h.1.2.2
  have e : prc 0 40 = 8 := by decide
  have h9 : 8 ≤ c := by rw [h6.1] at h8; exact (nI_leI (a := 8) (by decide) (by omega)).mp (Int32.not_lt.mp h8)
  have eA : buyA M 0 40 = yst M 0 6 (nI (c - 8)) := by
    unfold buyA ydec
    rw [e, h6.1]
    congr 1
    exact pk_sub (b := 8) h9
  have h1 : Ext (buyA M 0 40) 0 B S tot cm := by
    rw [eA]
    exact h.1.oput (by decide) (h.1.2.2.coins (by omega))
  have eW : wStore (buyA M 0 40) 0 0 40 = yst (buyA M 0 40) 0 7 (buyA M 0 40 0 7 + nI 40) := by
    unfold wStore
    rw [if_pos rfl]
    rfl
  rw [eW]
  refine ⟨⟨h1.1.sc (by decide), fun d hd => ?_, h1.2.2.buy⟩, h.2.1.cg (fun i hi => ?_), ?_, ht⟩
  · rw [yst_row (by omega)]; exact h1.2.1 d hd
  · rw [yst_row (by omega), eA, yst_row (by omega)]
  · rw [eA]; exact (h.2.2.1.s (by omega)).s (by omega)
/-! pass -/
theorem PI.pass (h : PI M B S tot cm) (n : Nat) : PI (wHours M 0 n) B S tot cm := by
  have ho := wOut_hours (M := M) (o := 0) n
  exact ⟨hours_ext h.1 h.2.2.2 n, h.2.1.cg (fun i hi => by rw [ho _ (by omega) (by omega) (by omega)]), h.2.2.1.cg (fun j h1 h2 => ho _ (by omega) (by omega) (by omega)), h.2.2.2⟩
/-! order, hire, string -/
theorem order_ok {s k e : Nat} (hB : B < 15) (s1 : 1 ≤ s) (s2 : s ≤ 24) (k1 : 1 ≤ k) (k2 : k ≤ 8) (e2 : e ≤ 3) : ordO B (nI s) (nI k) (nI e) = none := by
  unfold ordO
  rw [if_neg (show ¬ nI s < 1 from nI_nlt (b := 1) s1 (by omega)), if_pos (show nI s ≤ 24 from nI_le (b := 24) s2 (by decide)), if_neg (show ¬ nI k < 1 from nI_nlt (b := 1) k1 (by omega)), if_pos (show nI k ≤ 8 from nI_le (b := 8) k2 (by decide)), if_neg (nI_pos (by omega)), if_pos (show nI e ≤ 3 from nI_le (b := 3) e2 (by decide)), if_pos hB]
theorem PI.order {s k e : Nat} (h : PI M B S tot cm) (hB : B < 15) (s1 : 1 ≤ s) (s2 : s ≤ 24) (k1 : 1 ≤ k) (k2 : k ≤ 8) (e2 : e ≤ 3) : PI (ordM M B (nI s) (nI k) (nI e)) (B + 1) S tot cm := by
  refine ⟨⟨(order_tie h.I hB s1 s2 e2 (hh := nI k) (h9 := k) rfl).1, fun b hb => ?_, ?_⟩, h.2.1.cg (fun i hi => ?_), ?_, h.2.2.2⟩
  · unfold ordM yinc
    rw [yst_row (by omega)]
    by_cases q : b = B
    · subst q; rw [up_s]; exact BkE.begin (h.I.2.2.1 b (Nat.le_refl _) hB) k1 k2 e2
    · rw [up_n (by omega)]; exact h.1.2.1 b (by omega)
  · unfold ordM yinc
    exact (h.1.2.2.bk hB).cg (fun j hj => by rw [yst_at, if_neg (by omega)]) (fun f hf => by rw [yst_row (by omega)])
  · unfold ordM yinc
    rw [yst_row (by omega), up_n (by omega)]
  · unfold ordM yinc
    exact (h.2.2.1.u (by omega)).s (by omega)
theorem hire_ok {v : Nat} (hS : S < 5) (v1 : 1 ≤ v) (v2 : v ≤ 9) : hirO S (nI v) = none := by
  unfold hirO
  rw [if_neg (show ¬ nI v < 1 from nI_nlt (b := 1) v1 (by omega)), if_pos (show nI v ≤ 9 from nI_le (b := 9) v2 (by decide)), if_pos hS]
theorem PI.hire {v : Nat} (h : PI M B S tot cm) (hS : S < 5) (v2 : v ≤ 9) : PI (hirM M S (nI v)) B (S + 1) tot cm := by
  have hB := h.I.hB
  refine ⟨⟨(hire_tie h.I hS v2).1, fun b hb => ?_, ?_⟩, h.2.1.cg (fun i hi => ?_), ?_, h.2.2.2⟩
  · unfold hirM yinc
    rw [yst_row (by omega), yst_row (by omega)]; exact h.1.2.1 b hb
  · unfold hirM yinc
    exact h.1.2.2.cg (fun j hj => by rw [yst_at, if_neg (by omega), yst_row (by omega)]) (fun f hf => by rw [yst_row (by omega), yst_row (by omega)])
  · unfold hirM yinc
    rw [yst_row (by omega)]
    by_cases q : i = S
    · subst q; rw [yst_at, if_neg (by decide)]
    · rw [yst_row (by omega)]
  · unfold hirM yinc
    exact (h.2.2.1.s (by omega)).s (by omega)
theorem string_ok {f c : Nat} (hf : f < 3) (c1 : 2 ≤ c) (c2 : c ≤ 6) (hn : M (0 + 24 + f) 2 = -1) : strO M (nI f) (nI c) = none := by
  unfold strO
  rw [okF_i hf]
  show (if nI c < 2 then _ else _) = none
  rw [if_neg (show ¬ nI c < 2 from nI_nlt (b := 2) c1 (by omega)), if_pos (show nI c ≤ 6 from nI_le (b := 6) c2 (by decide)), frI_n hf, if_pos hn]
theorem PI.string {f c : Nat} (h : PI M B S tot cm) (hf : f < 3) (c2 : c ≤ 6) : PI (yst M (0 + 24 + f) 1 (nI c)) B S tot cm := by
  have hB := h.I.hB
  refine ⟨⟨h.I.fr hf (Or.inr ⟨rfl, c, c2, rfl⟩), fun b hb => ?_, h.1.2.2.fr 1 (by decide)⟩, h.2.1.cg (fun i hi => ?_), h.2.2.1.s (by omega), h.2.2.2⟩
  · rw [yst_row (by omega)]; exact h.1.2.1 b hb
  · rw [yst_row (by omega)]
end YPr
