set_option maxRecDepth 100000 in
set_option maxHeartbeats 4000000 in
theorem whole_start {p : Program} {e : Env} {s : State} {m : MethodId} {below : List Frame} {meth : Method} {c : Code} (l : Launch) (hflags : l.flags = flags0) {b L : Nat} {xs : Nat → Int32} (hL : L ≤ 260) (C0 : lw_At p s m meth c b L xs) : W p l e room_1 s m #[Value.ref b] below meth c s.heap [] 0 0 (lw_Z below #[Value.ref b] s) (entryFrame m ([Value.ref b] : List Value).toArray 20) := by
  obtain ⟨hx, hb, hr, hml, hown, hts, hX, hbl, hlocks, hgv⟩ := id C0
  have hs := flat_of_before _ hgv
  have hlf : l.stackTraces = false := by
    unfold Launch.stackTraces
    rw [hflags]
    decide +kernel
  have hw : ∀ w ∈ wsL_law, w.before #[Value.ref b] s = true := fun w h => hts w (wsL_law_in w h)
  obtain ⟨c0, i0, k0⟩ := u_known (C := RX0) (T := TX0) (N := 13) (n := 13) hw inlX0 (hw (.instantiable RX0 13) (by decide +kernel))
  obtain ⟨c1, i1, k1⟩ := u_known (C := RX1) (T := TX1) (N := 4) (n := 4) hw inlX1 (hw (.instantiable RX1 4) (by decide +kernel))
  obtain ⟨c2, i2, k2⟩ := u_known (C := RX2) (T := TX2) (N := 3) (n := 3) hw inlX2 (hw (.instantiable RX2 3) (by decide +kernel))
  obtain ⟨c3, i3, k3⟩ := u_known (C := RX3) (T := TX3) (N := 12) (n := 12) hw inlX3 (hw (.instantiable RX3 12) (by decide +kernel))
  obtain ⟨c4, i4, k4⟩ := u_known (C := RX4) (T := TX4) (N := 2) (n := 2) hw inlX4 (hw (.instantiable RX4 2) (by decide +kernel))
  obtain ⟨D, hKc⟩ : ∃ D : va_G, ∀ (k : Nat) (z : vw_C), vwCl[k]? = some z → u_Kn s z.1 z.2.1 z.2.2 (D.1 k) (D.2 k) := by
    refine ⟨(fun k => if k = 0 then c0 else if k = 1 then c1 else if k = 2 then c2 else if k = 3 then c3 else c4, fun k => if k = 0 then i0 else if k = 1 then i1 else if k = 2 then i2 else if k = 3 then i3 else i4), ?_⟩
    intro k z hz
    match k, hz with
    | 0, hz => cases hz; exact k0
    | 1, hz => cases hz; exact k1
    | 2, hz => cases hz; exact k2
    | 3, hz => cases hz; exact k3
    | 4, hz => cases hz; exact k4
    | k + 5, hz => simp at hz
  obtain ⟨a0, b0, d0, f0, g0, h0⟩ := Cond.arrayClass_spec (hw (.arrayClass .int) (by decide +kernel))
  have o1 := hts (.arrayOver (.object "SewingFrames$Book")) (by decide +kernel)
  obtain ⟨d1, a1, b1, e1, _, g1, h1, f1⟩ := Cond.arrayOver_spec o1
  have o2 := hts (.arrayOver (.object "SewingFrames$Sewer")) (by decide +kernel)
  obtain ⟨d2, a2, b2, e2, _, g2, h2, f2⟩ := Cond.arrayOver_spec o2
  have o3 := hts (.arrayOver (.object "SewingFrames$Frame")) (by decide +kernel)
  obtain ⟨d3, a3, b3, e3, _, g3, h3, f3⟩ := Cond.arrayOver_spec o3
  obtain ⟨cy, hcy⟩ : ∃ cy : Nat → ClassId, cy = fun k => if k = 0 then a0 else if k = 1 then a1 else if k = 2 then a2 else a3 := ⟨_, rfl⟩
  have hK : va_K D vwCl (ytys cy) s := by
    subst hcy
    refine ⟨hKc, fun k z hz => ?_⟩
    match k, hz with
    | 0, hz => cases hz; exact ⟨fun n z => ⟨fun k h => (by cases h), b0, g0, d0, h0⟩, f0⟩
    | 1, hz => cases hz; exact ⟨fun n z => ⟨fun k h => (by cases h), b1, g1, d1, h1⟩, b1, d1, g1, h1, e1, f1⟩
    | 2, hz => cases hz; exact ⟨fun n z => ⟨fun k h => (by cases h), b2, g2, d2, h2⟩, b2, d2, g2, h2, e2, f2⟩
    | 3, hz => cases hz; exact ⟨fun n z => ⟨fun k h => (by cases h), b3, g3, d3, h3⟩, b3, d3, g3, h3, e3, f3⟩
    | k + 4, hz => simp at hz
  obtain ⟨cS, kS, hfS, _⟩ := Cond.instantiable_spec (hw (.instantiable RX4 2) (by decide +kernel))
  have hstr : ∀ z ∈ yStrs, Cond.stringRef RX4 z.1 z.2 ∈ lw_tbl := by decide +kernel
  have hbad : ∀ w ∈ yBad, w ∈ lw_tbl := by decide +kernel
  have hXP : yXP (fun z => s.heap.size ≤ z) s s.heap := by
    refine ⟨vx_Zqof (hts _ (by decide +kernel)) (hts _ (by decide +kernel)) (hs _ (by decide +kernel)) (fun a h => Nat.not_le.mpr h), vx_Zqof (hts _ (by decide +kernel)) (hts _ (by decide +kernel)) (hs _ (by decide +kernel)) (fun a h => Nat.not_le.mpr h), fun z hz => ?_, fun w hw9 => va_Nw.of (yBad_tabs w hw9) (hts w (hbad w hw9))⟩
    have h9 := hts _ (hstr z hz)
    obtain ⟨_, _, _, sa, _, _, _, _, _, he⟩ := Cond.stringRef_spec hfS h9
    exact ⟨sa, vk_R.of h9 he⟩
  have hl := lv_entry ([.ref b]) (n := 20) (Nat.le_of_ble_eq_true rfl)
  rw [lg_entry_eq]
  generalize (lg_sl ([.ref b]) ++ List.replicate (20 - (lg_sl ([.ref b])).length) Slot.unset).toArray = ls at hl ⊢
  have hl : lv_has ls 20 [(0, .ref b)] := hl
  exact law_all (K := (p, e, s, m, #[Value.ref b], below, meth, c, fun z => s.heap.size ≤ z)) (l := l) (D := D) (cy := cy) (Q := lw_Z below #[Value.ref b] s) (ret := ret) hlf ⟨hx, hb, hml, hown, hw, hK, fun z h => h, hr, hlocks⟩ ⟨va_AO.of o1, va_AO.of o2, va_AO.of o3⟩ hXP ⟨hX, hbl, Nat.not_le.mpr hbl⟩ (fun _ => Iff.rfl) (by omega) (fun adr M lv H locs ls hP hD hS hl => va_forget (fun z hz => hS.2.2 z hz) (lw_ret hx hb hr hlocks dL_law_765)) s.heap [] ls (fun k z h => by simp at h) ⟨fun i j y z h => by simp at h, fun k z h => by simp at h⟩ va_S.rf hl
