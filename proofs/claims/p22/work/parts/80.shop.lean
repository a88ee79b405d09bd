section YShp
/-! THE LAW'S SHOP -/
def Psh (D : va_G) (cy : Nat → ClassId) (b L B sz : Nat) (xs : Nat → Int32) : Array Value → State → Prop := va_Pc [.ref b, .int (nI B)] (fun U => U.heap.size = sz ∧ va_X b L xs U U.heap ∧ b < U.heap.size ∧ va_K D vwCl (ytys cy) U ∧ yAO U ∧ yXP (fun q => sz ≤ q) U U.heap)
theorem Psh_blind {D : va_G} {cy : Nat → ClassId} {b L B sz : Nat} {xs : Nat → Int32} : FrameBlind (Psh D cy b L B sz xs) := fun a U g mk z => by
  obtain ⟨q0, q1, q2, q3, q4, q5, q6⟩ := z
  exact ⟨q0, q1, va_X.moved (u := U) (U := U.calling g mk a) (Vm.Alike.refl U.vm) q2, q3, va_K.moved (u := U) (U := U.calling g mk a) (Vm.Alike.refl U.vm) q4, yAO.moved (u := U) (U := U.calling g mk a) (Vm.Alike.refl U.vm) q5, q6.calling g mk a⟩
def Qsh (D : va_G) (cy : Nat → ClassId) (A : Nat → Prop) (B : Nat) : Array Value → State → Outcome → State → Prop := fun _ st oc t => ∃ (adr : Nat → Nat) (M : yM), oc = .returned (some (.ref (adr 54))) ∧ PI M B 3 300 30 ∧ va_P D vwCl (ypl adr cy M) t.heap ∧ va_D A (ypl adr cy M) ∧ va_F A st t
abbrev rL_shop : Room := { frames := 8, cells := 100, slots := 1000, locals := 140 }
def Sh (l : Launch) (D : va_G) (cy : Nat → ClassId) (b L B : Nat) (xs : Nat → Int32) : Prop := ∀ sz, Met l yL_shop wsL_shop rL_shop (Psh D cy b L B sz xs) (Qsh D cy (fun q => sz ≤ q) B) 100 1000 (fun q => sz ≤ q)
def QS (K : yK) (D : va_G) (cy : Nat → ClassId) (B : Nat) : State → Prop := match K with
  | (_, _, s, _, args, below, _, _, A) => MQ below (Qsh D cy A B) args s 100 1000 A
theorem y_aretS {K : yK} {l : Launch} {R : Room} {D : va_G} {cy : Nat → ClassId} {adr : Nat → Nat} {nL B : Nat} {M : yM} {lv : List (Nat × Value)} {pc : Nat} {cc : ByteArray} {own : String} {Ts : List Cond} {nm : String} (C0 : Cx K cc own Ts nL (some (.object nm)) D cy) (hI : PI M B 3 300 30) (d : decode cc pc = .ok (.areturn, 1)) : Y K l R D cy adr nL 100 1000 (QS K D cy B) M [] lv pc [.ref (adr 54)] := by
  obtain ⟨p, e, s, m, args, below, meth, c, A⟩ := K
  obtain ⟨hx, hb, hml, hown, hts, hK, hA, hr, hlk⟩ := C0
  intro H locs ls hP hD hS hl
  show W p l e R s m args below meth c H locs 100 1000 (MQ below (Qsh D cy A B) args s 100 1000 A) _
  exact W.aret (Qc := Qsh D cy A B) hx hb hr (Or.inl ⟨_, rfl⟩) (Or.inr ⟨_, rfl⟩) (fun t ht hW => ⟨adr, M, rfl, hI, by rw [ht]; exact ypl_P hP, by rw [List.append_nil] at hD; exact hD, hS.F ht⟩) hS.2.2 d hlk
theorem sOth_s {M : yM} {g : Int32} {x n : Nat} : sOth M g x (n + 1) = sOth M g x n + (if M (0 + 19 + n) 2 = g ∧ n ≠ x then 1 else 0) := by
  rw [sOth]
  by_cases h : M (0 + 19 + n) 2 = g
  · rw [if_pos h]
    by_cases q : n = x
    · rw [if_pos q, if_neg (fun z => z.2 q)]; rfl
    · rw [if_neg q, if_pos ⟨h, q⟩]
  · rw [if_neg h, if_neg (fun z => h z.1)]; rfl
/-- the first i sit where the script says, the others nowhere -/
def Sat (M : yM) (xs : Nat → Int32) (L i : Nat) : Prop := ∀ j, j < 5 → M (0 + 19 + j) 2 = if j < i then seatV xs L j else -1
theorem sat_ok {M : yM} {xs : Nat → Int32} {L i : Nat} (h : Sat M xs L i) (hi : i < 3) : ∃ f, f < 3 ∧ seatV xs L i = nI f ∧ sOth M (nI f) i 5 ≤ 1 := by
  obtain ⟨a, b, c, ha, hb, hc, e0, e1, e2⟩ := seat_n xs L
  have up : ∀ f, f < 3 → ∀ d, i + d ≤ 5 → sOth M (nI f) i (i + d) = sOth M (nI f) i i := by
    intro f hf d
    induction d with
    | zero => intro _; rfl
    | succ d ih =>
      intro hd
      rw [← Nat.add_assoc, sOth_s, ih (by omega), h (i + d) (by omega), if_neg (show ¬ i + d < i by omega), if_neg (show ¬ ((-1 : Int32) = nI f ∧ i + d ≠ i) from fun z => nI_ne1 (by omega) z.1.symm)]
      rfl
  have len : ∀ g n, sOth M g i n ≤ n := by
    intro g n
    exact Nat.le_trans (sOth_le n) (sTot_len n)
  rcases (show i = 0 ∨ i = 1 ∨ i = 2 by omega) with rfl | rfl | rfl
  · refine ⟨a, ha, e0, ?_⟩
    have h1 := up a ha 5 (by decide)
    have h2 := len (nI a) 0
    rw [Nat.zero_add] at h1
    omega
  · refine ⟨(a + b) % 3, Nat.mod_lt _ (by decide), e1, ?_⟩
    have h1 := up ((a + b) % 3) (Nat.mod_lt _ (by decide)) 4 (by decide)
    have h2 := len (nI ((a + b) % 3)) 1
    rw [show (1 : Nat) + 4 = 5 from rfl] at h1
    omega
  · have hf : (a + 1 + c) % 3 < 3 := Nat.mod_lt _ (by decide)
    refine ⟨(a + 1 + c) % 3, hf, e2, ?_⟩
    have h1 := up ((a + 1 + c) % 3) hf 3 (by decide)
    have h2 : sOth M (nI ((a + 1 + c) % 3)) 2 1 = 0 := by
      rw [sOth_s, h 0 (by decide), if_pos (show 0 < 2 by decide), e0, if_neg (show ¬ (nI a = nI ((a + 1 + c) % 3) ∧ 0 ≠ 2) from fun z => by
        have := nI_inj (by omega) (by omega) z.1
        omega)]
      rfl
    have h3 : sOth M (nI ((a + 1 + c) % 3)) 2 2 = sOth M (nI ((a + 1 + c) % 3)) 2 1 + (if M (0 + 19 + 1) 2 = nI ((a + 1 + c) % 3) ∧ 1 ≠ 2 then 1 else 0) := sOth_s
    have h4 : (if M (0 + 19 + 1) 2 = nI ((a + 1 + c) % 3) ∧ 1 ≠ 2 then 1 else 0) ≤ 1 := by split <;> omega
    rw [h2] at h3
    rw [show (2 : Nat) + 3 = 5 from rfl] at h1
    omega
section
variable {K : yK} {l : Launch} {D : va_G} {cy : Nat → ClassId} {adr : Nat → Nat} {b L B : Nat} {xs : Nat → Int32}
set_option maxRecDepth 100000 in
set_option maxHeartbeats 4000000 in
/-- the books are ordered -/
theorem shop_c (hlf : l.stackTraces = false) (C0 : Cx K cL_shop RL wsL_shop 4 (some (.object "SewingFrames")) D cy) (hX : CX K) (hB : CB K b L xs) (hL : L ≤ 2048) (hB7 : B ≤ 7) : ∀ (n i : Nat) (M : yM), B - i = n → i ≤ B → PI M i 3 300 30 → Y K l rL_shop D cy adr 4 (70 + i) (606 + 6 * i) (QS K D cy B) M [] [(3, .int (nI i)), (2, .ref (adr 54)), (0, .ref b), (1, .int (nI B))] 68 [] := by
  intro n
  induction n using Nat.strongRecOn with
  | _ n ih =>
    intro i M hn hi h
    refine y_iload_n C0 0 dL_shop_68 rfl rfl ?_
    refine y_iload_n C0 3 dL_shop_69 rfl rfl ?_
    refine y_icmp_ge C0 99 dL_shop_70 (by decide) (fun c => ?_) (fun c => ?_)
    · have he := ct_end (N := B) (by omega) hi c
      subst he
      refine y_aload_n C0 1 dL_shop_99 rfl rfl ?_
      refine y_widen (k := 100) (n := 1000) (by omega) (by omega) ?_
      exact y_aretS C0 h dL_shop_100
    · have hlt := ct_lt (N := B) (by omega) hi c
      obtain ⟨v1, a1, a2, e1⟩ := sign_n xs L i
      obtain ⟨v2, b1, b2, e2⟩ := sheet_n xs L i
      obtain ⟨v3, c2, e3⟩ := edge_n xs L i
      refine y_aload_n C0 1 dL_shop_73 rfl rfl ?_
      refine y_aload_n C0 2 dL_shop_74 rfl rfl ?_
      refine y_iload_n C0 0 dL_shop_75 rfl rfl ?_
      refine y_callH (As := [_, _]) (rest := _) (n := 2) C0 hB (mL_signaturesOf l D cy b L xs i (by omega) hL) gL_shop_L_signaturesOf rfl rfl rfl (by decide +kernel) ⟨by decide, by decide⟩ rfl rfl (Nat.le_of_ble_eq_true rfl) dL_shop_76 ⟨show 70 + i ≤ 100 by omega, show 606 + 6 * i ≤ 1000 by omega⟩ ?_
      refine y_top e1 ?_
      refine y_aload_n C0 2 dL_shop_79 rfl rfl ?_
      refine y_iload_n C0 0 dL_shop_80 rfl rfl ?_
      refine y_callH (As := [_, _]) (rest := _) (n := 2) C0 hB (mL_sheetsOf l D cy b L xs i (by omega) hL) gL_shop_L_sheetsOf rfl rfl rfl (by decide +kernel) ⟨by decide, by decide⟩ rfl rfl (Nat.le_of_ble_eq_true rfl) dL_shop_81 ⟨show 70 + i ≤ 100 by omega, show 606 + 6 * i ≤ 1000 by omega⟩ ?_
      refine y_top e2 ?_
      refine y_aload_n C0 2 dL_shop_84 rfl rfl ?_
      refine y_iload_n C0 0 dL_shop_85 rfl rfl ?_
      refine y_callH (As := [_, _]) (rest := _) (n := 2) C0 hB (mL_edgesOf l D cy b L xs i (by omega) hL) gL_shop_L_edgesOf rfl rfl rfl (by decide +kernel) ⟨by decide, by decide⟩ rfl rfl (Nat.le_of_ble_eq_true rfl) dL_shop_86 ⟨show 70 + i ≤ 100 by omega, show 606 + 6 * i ≤ 1000 by omega⟩ ?_
      refine y_top e3 ?_
      have ho := order_ok (B := i) (by omega) a1 a2 b1 b2 c2
      refine y_callK (As := [_, _, _]) (rest := _) (n := 3) C0 hX (mX4_order l hlf D cy adr M (nI v1) (nI v2) (nI v3) i (by omega) h.I.o3) ho 4 rfl (by decide) ykd_54 gL_shop_X4_order rfl rfl rfl (by decide +kernel) ⟨by decide, by decide⟩ rfl rfl (Nat.le_of_ble_eq_true rfl) dL_shop_89 ⟨show 70 + i + 1 ≤ 100 by omega, show 606 + 6 * i + 6 ≤ 1000 by omega⟩ ?_
      refine y_mem (mo_none ho) ?_
      refine y_pop C0 dL_shop_92 rfl ?_
      refine y_iinc (v := nI (i + 1)) C0 0 [(3, _), (2, _), (0, _), (1, _)] dL_shop_93 rfl (yinc_ok rfl rfl) (by decide) rfl ?_
      refine y_goto C0 68 dL_shop_96 (by decide) ?_
      refine y_widen (k := 70 + (i + 1)) (n := 606 + 6 * (i + 1)) (by omega) (by omega) ?_
      exact ih (B - (i + 1)) (by omega) (i + 1) _ rfl hlt (h.order (by omega) a1 a2 b1 b2 c2)
set_option maxRecDepth 100000 in
set_option maxHeartbeats 4000000 in
/-- the sewers are hired, and sit -/
theorem shop_b (hlf : l.stackTraces = false) (C0 : Cx K cL_shop RL wsL_shop 4 (some (.object "SewingFrames")) D cy) (hX : CX K) (hB : CB K b L xs) (hL : L ≤ 2048) (hB7 : B ≤ 7) : ∀ (n i : Nat) (M : yM), 3 - i = n → i ≤ 3 → PI M 0 i 300 30 → Sat M xs L i → Y K l rL_shop D cy adr 4 (61 + 3 * i) (552 + 18 * i) (QS K D cy B) M [] [(3, .int (nI i)), (2, .ref (adr 54)), (0, .ref b), (1, .int (nI B))] 34 [] := by
  intro n
  induction n using Nat.strongRecOn with
  | _ n ih =>
    intro i M hn hi h hs
    refine y_iload_n C0 0 dL_shop_34 rfl rfl ?_
    refine y_iconst (v := nI 3) C0 dL_shop_35 (by decide) ?_
    refine y_icmp_ge C0 66 dL_shop_36 (by decide) (fun c => ?_) (fun c => ?_)
    · have he := ct_end (N := 3) (by decide) hi c
      subst he
      refine y_iconst (v := nI 0) C0 dL_shop_66 (by decide) ?_
      refine y_istore_n C0 [(3, _), (2, _), (0, _), (1, _)] dL_shop_67 rfl (by decide) rfl ?_
      exact shop_c hlf C0 hX hB hL hB7 _ 0 _ rfl (Nat.zero_le _) h
    · have hlt := ct_lt (N := 3) (by decide) hi c
      obtain ⟨v1, a1, a2, e1⟩ := speed_n xs L i
      refine y_aload_n C0 1 dL_shop_39 rfl rfl ?_
      refine y_aload_n C0 2 dL_shop_40 rfl rfl ?_
      refine y_iload_n C0 0 dL_shop_41 rfl rfl ?_
      refine y_callH (As := [_, _]) (rest := _) (n := 2) C0 hB (mL_speedOf l D cy b L xs i (by omega) hL) gL_shop_L_speedOf rfl rfl rfl (by decide +kernel) ⟨by decide, by decide⟩ rfl rfl (Nat.le_of_ble_eq_true rfl) dL_shop_42 ⟨show 61 + 3 * i ≤ 100 by omega, show 552 + 18 * i ≤ 1000 by omega⟩ ?_
      refine y_top e1 ?_
      have ho := hire_ok (S := i) (by omega) a1 a2
      refine y_callK (As := [_]) (rest := _) (n := 1) C0 hX (mX4_hire l hlf D cy adr M (nI v1) i (by omega) h.I.o4) ho 4 rfl (by decide) ykd_54 gL_shop_X4_hire rfl rfl rfl (by decide +kernel) ⟨by decide, by decide⟩ rfl rfl (Nat.le_of_ble_eq_true rfl) dL_shop_45 ⟨show 61 + 3 * i + 1 ≤ 100 by omega, show 552 + 18 * i + 6 ≤ 1000 by omega⟩ ?_
      refine y_mem (mo_none ho) ?_
      refine y_pop C0 dL_shop_48 rfl ?_
      have h1 := h.hire (by omega) a2
      have hs1 : Sat (hirM M i (nI v1)) xs L i := by
        intro j hj
        rw [← hs j hj]
        unfold hirM yinc
        rw [yst_row (by omega)]
        by_cases q : j = i
        · subst q; rw [yst_at, if_neg (by decide)]
        · rw [yst_row (by omega)]
      obtain ⟨M1, eM1⟩ : ∃ z, z = hirM M i (nI v1) := ⟨_, rfl⟩
      rw [← eM1] at h1 hs1 ⊢
      obtain ⟨f, hf, ef, h9⟩ := sat_ok hs1 hlt
      have hv : nI f = -1 ∨ ∃ f', f' < 3 ∧ nI f = nI f' ∧ sOth M1 (nI f') i 5 ≤ 1 := Or.inr ⟨f, hf, rfl, h9⟩
      refine y_aload_n C0 1 dL_shop_49 rfl rfl ?_
      refine y_iload_n C0 0 dL_shop_50 rfl rfl ?_
      refine y_aload_n C0 2 dL_shop_51 rfl rfl ?_
      refine y_iload_n C0 0 dL_shop_52 rfl rfl ?_
      refine y_callH (As := [_, _]) (rest := _) (n := 2) C0 hB (mL_seatOf l D cy b L xs i (by omega) hL) gL_shop_L_seatOf rfl rfl rfl (by decide +kernel) ⟨by decide, by decide⟩ rfl rfl (Nat.le_of_ble_eq_true rfl) dL_shop_53 ⟨show 61 + 3 * i + 1 ≤ 100 by omega, show 552 + 18 * i + 6 ≤ 1000 by omega⟩ ?_
      refine y_top ef ?_
      have ho2 := seat_ok h1 (x := i) (by omega) hv
      refine y_callK (As := [_, _]) (rest := _) (n := 2) C0 hX (mX4_seat l hlf D cy adr M1 (nI i) (nI f)) ho2 4 rfl (by decide) ykd_54 gL_shop_X4_seat rfl rfl rfl (by decide +kernel) ⟨by decide, by decide⟩ rfl rfl (Nat.le_of_ble_eq_true rfl) dL_shop_56 ⟨show 61 + 3 * i + 1 + 2 ≤ 100 by omega, show 552 + 18 * i + 6 + 12 ≤ 1000 by omega⟩ ?_
      refine y_mem (M' := yst M1 (0 + 19 + i) 2 (nI f)) (by rw [mo_none ho2, swI_n (by omega)]) ?_
      refine y_pop C0 dL_shop_59 rfl ?_
      refine y_iinc (v := nI (i + 1)) C0 0 [(3, _), (2, _), (0, _), (1, _)] dL_shop_60 rfl (yinc_ok rfl rfl) (by decide) rfl ?_
      refine y_goto C0 34 dL_shop_63 (by decide) ?_
      refine y_widen (k := 61 + 3 * (i + 1)) (n := 552 + 18 * (i + 1)) (by omega) (by omega) ?_
      refine ih (3 - (i + 1)) (by omega) (i + 1) _ rfl hlt (h1.seat (by omega) hv) (fun j hj => ?_)
      by_cases q : j = i
      · subst q; rw [yst_same, if_pos (by omega), ef]
      · rw [yst_row (by omega), hs1 j hj]
        by_cases q2 : j < i
        · rw [if_pos q2, if_pos (by omega)]
        · rw [if_neg q2, if_neg (by omega)]
set_option maxRecDepth 100000 in
set_option maxHeartbeats 4000000 in
/-- the frames are strung -/
theorem shop_a (hlf : l.stackTraces = false) (C0 : Cx K cL_shop RL wsL_shop 4 (some (.object "SewingFrames")) D cy) (hX : CX K) (hB : CB K b L xs) (hL : L ≤ 2048) (hB7 : B ≤ 7) : ∀ (n i : Nat) (M : yM), 3 - i = n → i ≤ 3 → PI M 0 0 300 30 → Sat M xs L 0 → (∀ f, f < 3 → M (0 + 24 + f) 2 = -1) → Y K l rL_shop D cy adr 4 (55 + 2 * i) (516 + 12 * i) (QS K D cy B) M [] [(3, .int (nI i)), (2, .ref (adr 54)), (0, .ref b), (1, .int (nI B))] 10 [] := by
  intro n
  induction n using Nat.strongRecOn with
  | _ n ih =>
    intro i M hn hi h hs hb
    refine y_iload_n C0 0 dL_shop_10 rfl rfl ?_
    refine y_iconst (v := nI 3) C0 dL_shop_11 (by decide) ?_
    refine y_icmp_ge C0 32 dL_shop_12 (by decide) (fun c => ?_) (fun c => ?_)
    · have he := ct_end (N := 3) (by decide) hi c
      subst he
      refine y_iconst (v := nI 0) C0 dL_shop_32 (by decide) ?_
      refine y_istore_n C0 [(3, _), (2, _), (0, _), (1, _)] dL_shop_33 rfl (by decide) rfl ?_
      exact shop_b hlf C0 hX hB hL hB7 _ 0 _ rfl (Nat.zero_le _) h hs
    · have hlt := ct_lt (N := 3) (by decide) hi c
      obtain ⟨v1, a1, a2, e1⟩ := cord_n xs L i
      refine y_aload_n C0 1 dL_shop_15 rfl rfl ?_
      refine y_iload_n C0 0 dL_shop_16 rfl rfl ?_
      refine y_aload_n C0 2 dL_shop_17 rfl rfl ?_
      refine y_iload_n C0 0 dL_shop_18 rfl rfl ?_
      refine y_callH (As := [_, _]) (rest := _) (n := 2) C0 hB (mL_cordsOf l D cy b L xs i (by omega) hL) gL_shop_L_cordsOf rfl rfl rfl (by decide +kernel) ⟨by decide, by decide⟩ rfl rfl (Nat.le_of_ble_eq_true rfl) dL_shop_19 ⟨show 55 + 2 * i ≤ 100 by omega, show 516 + 12 * i ≤ 1000 by omega⟩ ?_
      refine y_top e1 ?_
      have ho := string_ok (M := M) hlt a1 a2 (hb i hlt)
      refine y_callK (As := [_, _]) (rest := _) (n := 2) C0 hX (mX4_string l hlf D cy adr M (nI i) (nI v1)) ho 4 rfl (by decide) ykd_54 gL_shop_X4_string rfl rfl rfl (by decide +kernel) ⟨by decide, by decide⟩ rfl rfl (Nat.le_of_ble_eq_true rfl) dL_shop_22 ⟨show 55 + 2 * i + 2 ≤ 100 by omega, show 516 + 12 * i + 12 ≤ 1000 by omega⟩ ?_
      refine y_mem (M' := yst M (0 + 24 + i) 1 (nI v1)) (by rw [mo_none ho, frI_n hlt]) ?_
      refine y_pop C0 dL_shop_25 rfl ?_
      refine y_iinc (v := nI (i + 1)) C0 0 [(3, _), (2, _), (0, _), (1, _)] dL_shop_26 rfl (yinc_ok rfl rfl) (by decide) rfl ?_
      refine y_goto C0 10 dL_shop_29 (by decide) ?_
      refine y_widen (k := 55 + 2 * (i + 1)) (n := 516 + 12 * (i + 1)) (by omega) (by omega) ?_
      refine ih (3 - (i + 1)) (by omega) (i + 1) _ rfl hlt (h.string hlt a2) (fun j hj => by rw [yst_row (by omega)]; exact hs j hj) (fun f hf => ?_)
      by_cases q : f = i
      · subst q; rw [yst_at, if_neg (by decide)]; exact hb f hf
      · rw [yst_row (by omega)]; exact hb f hf
end
set_option maxRecDepth 100000 in
set_option maxHeartbeats 4000000 in
theorem shop_walk {K : yK} {l : Launch} {D : va_G} {cy : Nat → ClassId} {b L B : Nat} {xs : Nat → Int32} (hlf : l.stackTraces = false) (C0 : Cx K cL_shop RL wsL_shop 4 (some (.object "SewingFrames")) D cy) (hO : CO K) (hX : CX K) (hB : CB K b L xs) (hL : L ≤ 2048) (hB7 : B ≤ 7) : Z K l rL_shop D 4 0 0 (QS K D cy B) [] [(0, .ref b), (1, .int (nI B))] 0 [] := by
  have hin4 : ∀ w ∈ u_ws RX4 TX4 2, w ∈ wsL_shop := by decide +kernel
  refine z_new C0 4 rfl hin4 tyX4 tyX4_ok (by decide +kernel) (by decide +kernel) (by decide +kernel) [.null, .null] (fun j hj => by rcases (show j = 0 ∨ j = 1 by omega) with rfl | rfl <;> rfl) (by decide) (by decide) dL_shop_0 (fun x => ?_)
  refine z_dup C0 dL_shop_3 rfl ?_
  refine z_callI (W0 := []) C0 hO (As := []) (n := 0) (mX4_init l D cy x) gL_shop_X4_init rfl rfl rfl (by decide +kernel) (by decide +kernel) (by decide +kernel) rfl (by decide +kernel) ⟨by decide, by decide⟩ rfl rfl (Nat.le_of_ble_eq_true rfl) dL_shop_4 ⟨by decide, by decide⟩ (fun w1 hw1 => ?_)
  obtain ⟨a, b9, rfl⟩ := hw1
  refine z_world (ws' := WW a b9 x cy) rfl ?_
  refine z_astore_n C0 [(2, _), (0, _), (1, _)] dL_shop_7 rfl (by decide) rfl ?_
  refine z_toY (a := a) (b := b9) (x := x) ?_
  refine y_iconst (v := nI 0) C0 dL_shop_8 (by decide) ?_
  refine y_istore_n C0 [(3, .int (nI 0)), (2, .ref (adrs a b9 x 54)), (0, .ref b), (1, .int (nI B))] dL_shop_9 rfl (by decide) rfl ?_
  exact shop_a hlf C0 hX hB hL hB7 _ 0 _ rfl (Nat.zero_le _) M0_PI (fun j hj => by rw [if_neg (Nat.not_lt_zero _)]; exact M0_off j hj) M0_bk1
theorem mL_shop (l : Launch) (hlf : l.stackTraces = false) (D : va_G) (cy : Nat → ClassId) (b L B : Nat) (xs : Nat → Int32) (hL : L ≤ 2048) (hB7 : B ≤ 7) : Sh l D cy b L B xs := by
  intro sz
  refine Met.ofW (cc := cL_shop) (maxL := 4) (ret := some (.object "SewingFrames")) (by decide) rfl ?_
  intro p e s m args below meth c s₁ B0 hml hv
  obtain ⟨rfl, hsz, hX, hbs, hK, hO, hXP⟩ := hv
  have hts := atoms_spec (ws := wsL_shop) B0.pre
  have hown : s.vm.findClass RL = some m.cls := findClass_of_methodNamed B0.named
  have hl := lv_entry [.ref b, .int (nI B)] (n := 4) (Nat.le_of_ble_eq_true rfl)
  rw [lg_entry_eq]
  subst hsz
  exact shop_walk (K := (p, e, s, m, [Value.ref b, .int (nI B)].toArray, below, meth, c, fun q => s.heap.size ≤ q)) hlf ⟨B0.exec, B0.bytes, hml, hown, hts, hK, fun q h => h, B0.returns, B0.notSynchronized⟩ hO hXP ⟨hX, hbs, Nat.not_le.mpr hbs⟩ hL hB7 s.heap [] _ (fun k z h => by simp at h) ⟨fun i j y z h => by simp at h, fun k z h => by simp at h⟩ va_S.rf hl
end YShp
