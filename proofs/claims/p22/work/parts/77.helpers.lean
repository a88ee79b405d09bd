section YHw
def bel (v n : Int32) : Int32 := (v &&& 2147483647) - (v &&& 2147483647) / n * n
def celV (xs : Nat → Int32) (L j : Nat) : Int32 := if j < L then xs j else 461243603 * (nI j + 3)
theorem bel_n (v : Int32) {k : Nat} (hk : 0 < k) (hk2 : k < 1000) : ∃ j, j < k ∧ bel v (nI k) = nI j := by
  have e : v &&& 2147483647 = nI (v.toBitVec.toNat % 2 ^ 31) := pk_and v 31 (by decide)
  have h1 := Nat.mod_lt v.toBitVec.toNat (show 0 < 2 ^ 31 by decide)
  unfold bel
  rw [e, pk_rem h1 hk (by omega)]
  exact ⟨_, Nat.mod_lt _ hk, rfl⟩
def cordV (xs : Nat → Int32) (L i : Nat) : Int32 := 2 + bel (celV xs L 0 >>> ((4 * nI i) &&& 31)) 5
def speedV (xs : Nat → Int32) (L i : Nat) : Int32 := 1 + bel (celV xs L 1 >>> ((4 * nI i) &&& 31)) 9
def seatA (xs : Nat → Int32) (L i : Nat) : Int32 := bel (celV xs L 1 >>> ((12 : Int32) &&& 31)) 3 + (if nI i = 2 then 1 + bel (celV xs L 1 >>> ((14 : Int32) &&& 31)) 2 else nI i * bel (celV xs L 1 >>> ((16 : Int32) &&& 31)) 2)
def seatV (xs : Nat → Int32) (L i : Nat) : Int32 := seatA xs L i - seatA xs L i / 3 * 3
def signV (xs : Nat → Int32) (L i : Nat) : Int32 := 1 + bel (celV xs L (2 + i)) (if bel (celV xs L 1 >>> ((18 : Int32) &&& 31)) 2 = 0 then 6 else 24)
def sheetV (xs : Nat → Int32) (L i : Nat) : Int32 := 1 + bel (celV xs L (2 + i) >>> ((4 : Int32) &&& 31)) 8
def edgeV (xs : Nat → Int32) (L i : Nat) : Int32 := bel (celV xs L (2 + i) >>> ((8 : Int32) &&& 31)) 4
theorem cord_n (xs : Nat → Int32) (L i : Nat) : ∃ c, 2 ≤ c ∧ c ≤ 6 ∧ cordV xs L i = nI c := by
  obtain ⟨j, hj, e⟩ := bel_n (celV xs L 0 >>> ((4 * nI i) &&& 31)) (k := 5) (by decide) (by decide)
  exact ⟨2 + j, by omega, by omega, by unfold cordV; rw [show (5 : Int32) = nI 5 from rfl, e]; exact nI_add 2 j⟩
theorem speed_n (xs : Nat → Int32) (L i : Nat) : ∃ c, 1 ≤ c ∧ c ≤ 9 ∧ speedV xs L i = nI c := by
  obtain ⟨j, hj, e⟩ := bel_n (celV xs L 1 >>> ((4 * nI i) &&& 31)) (k := 9) (by decide) (by decide)
  exact ⟨1 + j, by omega, by omega, by unfold speedV; rw [show (9 : Int32) = nI 9 from rfl, e]; exact nI_add 1 j⟩
theorem sign_n (xs : Nat → Int32) (L i : Nat) : ∃ c, 1 ≤ c ∧ c ≤ 24 ∧ signV xs L i = nI c := by
  unfold signV
  split
  · obtain ⟨j, hj, e⟩ := bel_n (celV xs L (2 + i)) (k := 6) (by decide) (by decide)
    exact ⟨1 + j, by omega, by omega, by rw [show (6 : Int32) = nI 6 from rfl, e]; exact nI_add 1 j⟩
  · obtain ⟨j, hj, e⟩ := bel_n (celV xs L (2 + i)) (k := 24) (by decide) (by decide)
    exact ⟨1 + j, by omega, by omega, by rw [show (24 : Int32) = nI 24 from rfl, e]; exact nI_add 1 j⟩
theorem sheet_n (xs : Nat → Int32) (L i : Nat) : ∃ c, 1 ≤ c ∧ c ≤ 8 ∧ sheetV xs L i = nI c := by
  obtain ⟨j, hj, e⟩ := bel_n (celV xs L (2 + i) >>> ((4 : Int32) &&& 31)) (k := 8) (by decide) (by decide)
  exact ⟨1 + j, by omega, by omega, by unfold sheetV; rw [show (8 : Int32) = nI 8 from rfl, e]; exact nI_add 1 j⟩
theorem edge_n (xs : Nat → Int32) (L i : Nat) : ∃ c, c ≤ 3 ∧ edgeV xs L i = nI c := by
  obtain ⟨j, hj, e⟩ := bel_n (celV xs L (2 + i) >>> ((8 : Int32) &&& 31)) (k := 4) (by decide) (by decide)
  exact ⟨j, by omega, by unfold edgeV; rw [show (4 : Int32) = nI 4 from rfl, e]⟩
/-- where the three sit: no frame has all of them -/
theorem seat_n (xs : Nat → Int32) (L : Nat) : ∃ a b c, a < 3 ∧ b < 2 ∧ c < 2 ∧ seatV xs L 0 = nI a ∧ seatV xs L 1 = nI ((a + b) % 3) ∧ seatV xs L 2 = nI ((a + 1 + c) % 3) := by
  obtain ⟨a, ha, ea⟩ := bel_n (celV xs L 1 >>> ((12 : Int32) &&& 31)) (k := 3) (by decide) (by decide)
  obtain ⟨b, hb, eb⟩ := bel_n (celV xs L 1 >>> ((16 : Int32) &&& 31)) (k := 2) (by decide) (by decide)
  obtain ⟨c, hc, ec⟩ := bel_n (celV xs L 1 >>> ((14 : Int32) &&& 31)) (k := 2) (by decide) (by decide)
  have r : ∀ n, n < 100 → nI n - nI n / 3 * 3 = nI (n % 3) := fun n hn => pk_rem (a := n) (d := 3) (by omega) (by decide) (by decide)
  have ea : bel (celV xs L 1 >>> ((12 : Int32) &&& 31)) 3 = nI a := ea
  have eb : bel (celV xs L 1 >>> ((16 : Int32) &&& 31)) 2 = nI b := eb
  have ec : bel (celV xs L 1 >>> ((14 : Int32) &&& 31)) 2 = nI c := ec
  refine ⟨a, b, c, ha, hb, hc, ?_, ?_, ?_⟩
  · have e : seatA xs L 0 = nI a := by
      unfold seatA
      rw [if_neg (by decide), ea, eb, pk_mul, nI_add, Nat.zero_mul, Nat.add_zero]
    unfold seatV
    rw [e, r a (by omega), Nat.mod_eq_of_lt ha]
  · have e : seatA xs L 1 = nI (a + b) := by
      unfold seatA
      rw [if_neg (by decide), ea, eb, pk_mul, nI_add, Nat.one_mul]
    unfold seatV
    rw [e, r (a + b) (by omega)]
  · have e : seatA xs L 2 = nI (a + 1 + c) := by
      unfold seatA
      rw [if_pos (by decide), ea, ec, show (1 : Int32) = nI 1 from rfl, nI_add, nI_add, Nat.add_assoc]
    unfold seatV
    rw [e, r (a + 1 + c) (by omega)]
abbrev rL_below : Room := { frames := 0, cells := 0, slots := 0, locals := 0 }
set_option maxRecDepth 100000 in
set_option maxHeartbeats 4000000 in
theorem mL_below (l : Launch) (D : va_G) (cy : Nat → ClassId) (b L : Nat) (xs : Nat → Int32) (v n : Int32) (hn : ¬ n = 0) : Ch l yL_below wsL_below rL_below D cy b L xs [.int v, .int n] (bel v n) := by
  refine Ch.mk cL_below 2 RL (by decide) rfl rfl (Nat.le_of_ble_eq_true rfl) ?_
  intro K C0 hB
  refine n_eq (show ([(0, .int v), (1, .int n)] : List (Nat × Value)) = lv_args 0 [.int v, .int n] from rfl) ?_
  refine n_iload_n C0 0 dL_below_0 rfl rfl ?_
  refine n_ldc (v := 2147483647) C0 (by decide +kernel) dL_below_1 ?_
  refine n_iand C0 dL_below_3 ?_
  refine n_iload_n C0 1 dL_below_4 rfl rfl ?_
  refine n_irem C0 dL_below_5 hn rfl ?_
  exact n_iret C0 dL_below_6 rfl
abbrev rL_cell : Room := { frames := 0, cells := 0, slots := 0, locals := 0 }
set_option maxRecDepth 100000 in
set_option maxHeartbeats 4000000 in
theorem mL_cell (l : Launch) (D : va_G) (cy : Nat → ClassId) (b L : Nat) (xs : Nat → Int32) (j : Nat) (hj : j < 1000) (hL : L ≤ 2048) : Ch l yL_cell wsL_cell rL_cell D cy b L xs [.ref b, .int (nI j)] (celV xs L j) := by
  refine Ch.mk cL_cell 2 RL (by decide) rfl rfl (Nat.le_of_ble_eq_true rfl) ?_
  intro K C0 hB
  refine n_eq (show ([(0, .ref b), (1, .int (nI j))] : List (Nat × Value)) = lv_args 0 [.ref b, .int (nI j)] from rfl) ?_
  refine n_iload_n C0 1 dL_cell_0 rfl rfl ?_
  refine n_aload_n C0 0 dL_cell_1 rfl rfl ?_
  refine n_slen C0 hB dL_cell_2 ?_
  refine n_icmp_ge C0 12 dL_cell_3 (by decide) (fun c_3 => ?_) (fun c_3 => ?_)
  · have h9 : ¬ j < L := Nat.not_lt.mpr ((nI_leI (by omega) (by omega)).mp c_3)
    refine n_ldc (v := 461243603) C0 (by decide +kernel) dL_cell_12 ?_
    refine n_iload_n C0 1 dL_cell_14 rfl rfl ?_
    refine n_iconst (v := 3) C0 dL_cell_15 (by decide) ?_
    refine n_iadd C0 dL_cell_16 ?_
    refine n_imul C0 dL_cell_17 ?_
    exact n_iret C0 dL_cell_18 (by unfold celV; rw [if_neg h9])
  · have h9 : j < L := by
      rcases Nat.lt_or_ge j L with q | q
      · exact q
      · exact absurd (nI_le q (by omega)) c_3
    refine n_aload_n C0 0 dL_cell_6 rfl rfl ?_
    refine n_iload_n C0 1 dL_cell_7 rfl rfl ?_
    refine n_sld C0 hB h9 hL dL_cell_8 ?_
    refine n_goto C0 18 dL_cell_9 (by decide) ?_
    exact n_iret C0 dL_cell_18 (by unfold celV; rw [if_pos h9])
abbrev rL_cordsOf : Room := { frames := 1, cells := 0, slots := 0, locals := 21 }
set_option maxRecDepth 100000 in
set_option maxHeartbeats 4000000 in
theorem mL_cordsOf (l : Launch) (D : va_G) (cy : Nat → ClassId) (b L : Nat) (xs : Nat → Int32) (i : Nat) (hi : i < 100) (hL : L ≤ 2048) : Ch l yL_cordsOf wsL_cordsOf rL_cordsOf D cy b L xs [.ref b, .int (nI i)] (cordV xs L i) := by
  refine Ch.mk cL_cordsOf 2 RL (by decide) rfl rfl (Nat.le_of_ble_eq_true rfl) ?_
  intro K C0 hB
  refine n_eq (show ([(0, .ref b), (1, .int (nI i))] : List (Nat × Value)) = lv_args 0 [.ref b, .int (nI i)] from rfl) ?_
  refine n_iconst (v := 2) C0 dL_cordsOf_0 (by decide) ?_
  refine n_aload_n C0 0 dL_cordsOf_1 rfl rfl ?_
  refine n_iconst (v := nI 0) C0 dL_cordsOf_2 (by decide) ?_
  refine n_callS (As := [_, _]) (rest := _) (n := 2) C0 hB (mL_cell l D cy b L xs 0 (by decide) hL) gL_cordsOf_L_cell rfl rfl rfl (by decide +kernel) ⟨by decide, by decide⟩ rfl rfl (Nat.le_of_ble_eq_true rfl) dL_cordsOf_3 ⟨by decide, by decide⟩ ?_
  refine n_iconst (v := 4) C0 dL_cordsOf_6 (by decide) ?_
  refine n_iload_n C0 1 dL_cordsOf_7 rfl rfl ?_
  refine n_imul C0 dL_cordsOf_8 ?_
  refine n_ishr C0 dL_cordsOf_9 ?_
  refine n_iconst (v := 5) C0 dL_cordsOf_10 (by decide) ?_
  refine n_callS (As := [_, _]) (rest := _) (n := 2) C0 hB (mL_below l D cy b L xs _ _ (by decide)) gL_cordsOf_L_below rfl rfl rfl (by decide +kernel) ⟨by decide, by decide⟩ rfl rfl (Nat.le_of_ble_eq_true rfl) dL_cordsOf_11 ⟨by decide, by decide⟩ ?_
  refine n_iadd C0 dL_cordsOf_14 ?_
  exact n_iret C0 dL_cordsOf_15 rfl
abbrev rL_speedOf : Room := { frames := 1, cells := 0, slots := 0, locals := 21 }
set_option maxRecDepth 100000 in
set_option maxHeartbeats 4000000 in
theorem mL_speedOf (l : Launch) (D : va_G) (cy : Nat → ClassId) (b L : Nat) (xs : Nat → Int32) (i : Nat) (hi : i < 100) (hL : L ≤ 2048) : Ch l yL_speedOf wsL_speedOf rL_speedOf D cy b L xs [.ref b, .int (nI i)] (speedV xs L i) := by
  refine Ch.mk cL_speedOf 2 RL (by decide) rfl rfl (Nat.le_of_ble_eq_true rfl) ?_
  intro K C0 hB
  refine n_eq (show ([(0, .ref b), (1, .int (nI i))] : List (Nat × Value)) = lv_args 0 [.ref b, .int (nI i)] from rfl) ?_
  refine n_iconst (v := 1) C0 dL_speedOf_0 (by decide) ?_
  refine n_aload_n C0 0 dL_speedOf_1 rfl rfl ?_
  refine n_iconst (v := nI 1) C0 dL_speedOf_2 (by decide) ?_
  refine n_callS (As := [_, _]) (rest := _) (n := 2) C0 hB (mL_cell l D cy b L xs 1 (by decide) hL) gL_speedOf_L_cell rfl rfl rfl (by decide +kernel) ⟨by decide, by decide⟩ rfl rfl (Nat.le_of_ble_eq_true rfl) dL_speedOf_3 ⟨by decide, by decide⟩ ?_
  refine n_iconst (v := 4) C0 dL_speedOf_6 (by decide) ?_
  refine n_iload_n C0 1 dL_speedOf_7 rfl rfl ?_
  refine n_imul C0 dL_speedOf_8 ?_
  refine n_ishr C0 dL_speedOf_9 ?_
  refine n_bipush (v := 9) C0 dL_speedOf_10 (by decide) ?_
  refine n_callS (As := [_, _]) (rest := _) (n := 2) C0 hB (mL_below l D cy b L xs _ _ (by decide)) gL_speedOf_L_below rfl rfl rfl (by decide +kernel) ⟨by decide, by decide⟩ rfl rfl (Nat.le_of_ble_eq_true rfl) dL_speedOf_12 ⟨by decide, by decide⟩ ?_
  refine n_iadd C0 dL_speedOf_15 ?_
  exact n_iret C0 dL_speedOf_16 rfl
abbrev rL_sheetsOf : Room := { frames := 1, cells := 0, slots := 0, locals := 21 }
set_option maxRecDepth 100000 in
set_option maxHeartbeats 4000000 in
theorem mL_sheetsOf (l : Launch) (D : va_G) (cy : Nat → ClassId) (b L : Nat) (xs : Nat → Int32) (i : Nat) (hi : i < 100) (hL : L ≤ 2048) : Ch l yL_sheetsOf wsL_sheetsOf rL_sheetsOf D cy b L xs [.ref b, .int (nI i)] (sheetV xs L i) := by
  refine Ch.mk cL_sheetsOf 2 RL (by decide) rfl rfl (Nat.le_of_ble_eq_true rfl) ?_
  intro K C0 hB
  refine n_eq (show ([(0, .ref b), (1, .int (nI i))] : List (Nat × Value)) = lv_args 0 [.ref b, .int (nI i)] from rfl) ?_
  refine n_iconst (v := 1) C0 dL_sheetsOf_0 (by decide) ?_
  refine n_aload_n C0 0 dL_sheetsOf_1 rfl rfl ?_
  refine n_iconst (v := nI 2) C0 dL_sheetsOf_2 (by decide) ?_
  refine n_iload_n C0 1 dL_sheetsOf_3 rfl rfl ?_
  refine n_iadd C0 dL_sheetsOf_4 ?_
  refine n_top (nI_add 2 i) ?_
  refine n_callS (As := [_, _]) (rest := _) (n := 2) C0 hB (mL_cell l D cy b L xs (2 + i) (by omega) hL) gL_sheetsOf_L_cell rfl rfl rfl (by decide +kernel) ⟨by decide, by decide⟩ rfl rfl (Nat.le_of_ble_eq_true rfl) dL_sheetsOf_5 ⟨by decide, by decide⟩ ?_
  refine n_iconst (v := 4) C0 dL_sheetsOf_8 (by decide) ?_
  refine n_ishr C0 dL_sheetsOf_9 ?_
  refine n_bipush (v := 8) C0 dL_sheetsOf_10 (by decide) ?_
  refine n_callS (As := [_, _]) (rest := _) (n := 2) C0 hB (mL_below l D cy b L xs _ _ (by decide)) gL_sheetsOf_L_below rfl rfl rfl (by decide +kernel) ⟨by decide, by decide⟩ rfl rfl (Nat.le_of_ble_eq_true rfl) dL_sheetsOf_12 ⟨by decide, by decide⟩ ?_
  refine n_iadd C0 dL_sheetsOf_15 ?_
  exact n_iret C0 dL_sheetsOf_16 rfl
abbrev rL_edgesOf : Room := { frames := 1, cells := 0, slots := 0, locals := 21 }
set_option maxRecDepth 100000 in
set_option maxHeartbeats 4000000 in
theorem mL_edgesOf (l : Launch) (D : va_G) (cy : Nat → ClassId) (b L : Nat) (xs : Nat → Int32) (i : Nat) (hi : i < 100) (hL : L ≤ 2048) : Ch l yL_edgesOf wsL_edgesOf rL_edgesOf D cy b L xs [.ref b, .int (nI i)] (edgeV xs L i) := by
  refine Ch.mk cL_edgesOf 2 RL (by decide) rfl rfl (Nat.le_of_ble_eq_true rfl) ?_
  intro K C0 hB
  refine n_eq (show ([(0, .ref b), (1, .int (nI i))] : List (Nat × Value)) = lv_args 0 [.ref b, .int (nI i)] from rfl) ?_
  refine n_aload_n C0 0 dL_edgesOf_0 rfl rfl ?_
  refine n_iconst (v := nI 2) C0 dL_edgesOf_1 (by decide) ?_
  refine n_iload_n C0 1 dL_edgesOf_2 rfl rfl ?_
  refine n_iadd C0 dL_edgesOf_3 ?_
  refine n_top (nI_add 2 i) ?_
  refine n_callS (As := [_, _]) (rest := _) (n := 2) C0 hB (mL_cell l D cy b L xs (2 + i) (by omega) hL) gL_edgesOf_L_cell rfl rfl rfl (by decide +kernel) ⟨by decide, by decide⟩ rfl rfl (Nat.le_of_ble_eq_true rfl) dL_edgesOf_4 ⟨by decide, by decide⟩ ?_
  refine n_bipush (v := 8) C0 dL_edgesOf_7 (by decide) ?_
  refine n_ishr C0 dL_edgesOf_9 ?_
  refine n_iconst (v := 4) C0 dL_edgesOf_10 (by decide) ?_
  refine n_callS (As := [_, _]) (rest := _) (n := 2) C0 hB (mL_below l D cy b L xs _ _ (by decide)) gL_edgesOf_L_below rfl rfl rfl (by decide +kernel) ⟨by decide, by decide⟩ rfl rfl (Nat.le_of_ble_eq_true rfl) dL_edgesOf_11 ⟨by decide, by decide⟩ ?_
  exact n_iret C0 dL_edgesOf_14 rfl
abbrev rL_seatOf : Room := { frames := 1, cells := 0, slots := 0, locals := 21 }
set_option maxRecDepth 100000 in
set_option maxHeartbeats 4000000 in
theorem mL_seatOf (l : Launch) (D : va_G) (cy : Nat → ClassId) (b L : Nat) (xs : Nat → Int32) (i : Nat) (hi : i < 100) (hL : L ≤ 2048) : Ch l yL_seatOf wsL_seatOf rL_seatOf D cy b L xs [.ref b, .int (nI i)] (seatV xs L i) := by
  refine Ch.mk cL_seatOf 2 RL (by decide) rfl rfl (Nat.le_of_ble_eq_true rfl) ?_
  intro K C0 hB
  refine n_eq (show ([(0, .ref b), (1, .int (nI i))] : List (Nat × Value)) = lv_args 0 [.ref b, .int (nI i)] from rfl) ?_
  refine n_aload_n C0 0 dL_seatOf_0 rfl rfl ?_
  refine n_iconst (v := nI 1) C0 dL_seatOf_1 (by decide) ?_
  refine n_callS (As := [_, _]) (rest := _) (n := 2) C0 hB (mL_cell l D cy b L xs 1 (by decide) hL) gL_seatOf_L_cell rfl rfl rfl (by decide +kernel) ⟨by decide, by decide⟩ rfl rfl (Nat.le_of_ble_eq_true rfl) dL_seatOf_2 ⟨by decide, by decide⟩ ?_
  refine n_bipush (v := 12) C0 dL_seatOf_5 (by decide) ?_
  refine n_ishr C0 dL_seatOf_7 ?_
  refine n_iconst (v := 3) C0 dL_seatOf_8 (by decide) ?_
  refine n_callS (As := [_, _]) (rest := _) (n := 2) C0 hB (mL_below l D cy b L xs _ _ (by decide)) gL_seatOf_L_below rfl rfl rfl (by decide +kernel) ⟨by decide, by decide⟩ rfl rfl (Nat.le_of_ble_eq_true rfl) dL_seatOf_9 ⟨by decide, by decide⟩ ?_
  refine n_iload_n C0 1 dL_seatOf_12 rfl rfl ?_
  refine n_iconst (v := 2) C0 dL_seatOf_13 (by decide) ?_
  refine n_icmp_ne C0 34 dL_seatOf_14 (by decide) (fun c_14 => ?_) (fun c_14 => ?_)
  · have h9 : bel (celV xs L 1 >>> ((12 : Int32) &&& 31)) 3 + nI i * bel (celV xs L 1 >>> ((16 : Int32) &&& 31)) 2 = seatA xs L i := by unfold seatA; rw [if_neg c_14]
    refine n_iload_n C0 1 dL_seatOf_34 rfl rfl ?_
    refine n_aload_n C0 0 dL_seatOf_35 rfl rfl ?_
    refine n_iconst (v := nI 1) C0 dL_seatOf_36 (by decide) ?_
    refine n_callS (As := [_, _]) (rest := _) (n := 2) C0 hB (mL_cell l D cy b L xs 1 (by decide) hL) gL_seatOf_L_cell rfl rfl rfl (by decide +kernel) ⟨by decide, by decide⟩ rfl rfl (Nat.le_of_ble_eq_true rfl) dL_seatOf_37 ⟨by decide, by decide⟩ ?_
    refine n_bipush (v := 16) C0 dL_seatOf_40 (by decide) ?_
    refine n_ishr C0 dL_seatOf_42 ?_
    refine n_iconst (v := 2) C0 dL_seatOf_43 (by decide) ?_
    refine n_callS (As := [_, _]) (rest := _) (n := 2) C0 hB (mL_below l D cy b L xs _ _ (by decide)) gL_seatOf_L_below rfl rfl rfl (by decide +kernel) ⟨by decide, by decide⟩ rfl rfl (Nat.le_of_ble_eq_true rfl) dL_seatOf_44 ⟨by decide, by decide⟩ ?_
    refine n_imul C0 dL_seatOf_47 ?_
    refine n_iadd C0 dL_seatOf_48 ?_
    refine n_top (h9) ?_
    refine n_iconst (v := 3) C0 dL_seatOf_49 (by decide) ?_
    refine n_irem C0 dL_seatOf_50 (by decide) rfl ?_
    exact n_iret C0 dL_seatOf_51 rfl
  · have h9 : bel (celV xs L 1 >>> ((12 : Int32) &&& 31)) 3 + (1 + bel (celV xs L 1 >>> ((14 : Int32) &&& 31)) 2) = seatA xs L i := by unfold seatA; rw [if_pos c_14]
    refine n_iconst (v := 1) C0 dL_seatOf_17 (by decide) ?_
    refine n_aload_n C0 0 dL_seatOf_18 rfl rfl ?_
    refine n_iconst (v := nI 1) C0 dL_seatOf_19 (by decide) ?_
    refine n_callS (As := [_, _]) (rest := _) (n := 2) C0 hB (mL_cell l D cy b L xs 1 (by decide) hL) gL_seatOf_L_cell rfl rfl rfl (by decide +kernel) ⟨by decide, by decide⟩ rfl rfl (Nat.le_of_ble_eq_true rfl) dL_seatOf_20 ⟨by decide, by decide⟩ ?_
    refine n_bipush (v := 14) C0 dL_seatOf_23 (by decide) ?_
    refine n_ishr C0 dL_seatOf_25 ?_
    refine n_iconst (v := 2) C0 dL_seatOf_26 (by decide) ?_
    refine n_callS (As := [_, _]) (rest := _) (n := 2) C0 hB (mL_below l D cy b L xs _ _ (by decide)) gL_seatOf_L_below rfl rfl rfl (by decide +kernel) ⟨by decide, by decide⟩ rfl rfl (Nat.le_of_ble_eq_true rfl) dL_seatOf_27 ⟨by decide, by decide⟩ ?_
    refine n_iadd C0 dL_seatOf_30 ?_
    refine n_goto C0 48 dL_seatOf_31 (by decide) ?_
    refine n_iadd C0 dL_seatOf_48 ?_
    refine n_top (h9) ?_
    refine n_iconst (v := 3) C0 dL_seatOf_49 (by decide) ?_
    refine n_irem C0 dL_seatOf_50 (by decide) rfl ?_
    exact n_iret C0 dL_seatOf_51 rfl
abbrev rL_signaturesOf : Room := { frames := 1, cells := 0, slots := 0, locals := 21 }
set_option maxRecDepth 100000 in
set_option maxHeartbeats 4000000 in
theorem mL_signaturesOf (l : Launch) (D : va_G) (cy : Nat → ClassId) (b L : Nat) (xs : Nat → Int32) (i : Nat) (hi : i < 100) (hL : L ≤ 2048) : Ch l yL_signaturesOf wsL_signaturesOf rL_signaturesOf D cy b L xs [.ref b, .int (nI i)] (signV xs L i) := by
  refine Ch.mk cL_signaturesOf 2 RL (by decide) rfl rfl (Nat.le_of_ble_eq_true rfl) ?_
  intro K C0 hB
  refine n_eq (show ([(0, .ref b), (1, .int (nI i))] : List (Nat × Value)) = lv_args 0 [.ref b, .int (nI i)] from rfl) ?_
  refine n_iconst (v := 1) C0 dL_signaturesOf_0 (by decide) ?_
  refine n_aload_n C0 0 dL_signaturesOf_1 rfl rfl ?_
  refine n_iconst (v := nI 2) C0 dL_signaturesOf_2 (by decide) ?_
  refine n_iload_n C0 1 dL_signaturesOf_3 rfl rfl ?_
  refine n_iadd C0 dL_signaturesOf_4 ?_
  refine n_top (nI_add 2 i) ?_
  refine n_callS (As := [_, _]) (rest := _) (n := 2) C0 hB (mL_cell l D cy b L xs (2 + i) (by omega) hL) gL_signaturesOf_L_cell rfl rfl rfl (by decide +kernel) ⟨by decide, by decide⟩ rfl rfl (Nat.le_of_ble_eq_true rfl) dL_signaturesOf_5 ⟨by decide, by decide⟩ ?_
  refine n_aload_n C0 0 dL_signaturesOf_8 rfl rfl ?_
  refine n_iconst (v := nI 1) C0 dL_signaturesOf_9 (by decide) ?_
  refine n_callS (As := [_, _]) (rest := _) (n := 2) C0 hB (mL_cell l D cy b L xs 1 (by decide) hL) gL_signaturesOf_L_cell rfl rfl rfl (by decide +kernel) ⟨by decide, by decide⟩ rfl rfl (Nat.le_of_ble_eq_true rfl) dL_signaturesOf_10 ⟨by decide, by decide⟩ ?_
  refine n_bipush (v := 18) C0 dL_signaturesOf_13 (by decide) ?_
  refine n_ishr C0 dL_signaturesOf_15 ?_
  refine n_iconst (v := 2) C0 dL_signaturesOf_16 (by decide) ?_
  refine n_callS (As := [_, _]) (rest := _) (n := 2) C0 hB (mL_below l D cy b L xs _ _ (by decide)) gL_signaturesOf_L_below rfl rfl rfl (by decide +kernel) ⟨by decide, by decide⟩ rfl rfl (Nat.le_of_ble_eq_true rfl) dL_signaturesOf_17 ⟨by decide, by decide⟩ ?_
  refine n_if_ne C0 28 dL_signaturesOf_20 (by decide) (fun c_20 => ?_) (fun c_20 => ?_)
  · refine n_bipush (v := 24) C0 dL_signaturesOf_28 (by decide) ?_
    refine n_callS (As := [_, _]) (rest := _) (n := 2) C0 hB (mL_below l D cy b L xs _ _ (by decide)) gL_signaturesOf_L_below rfl rfl rfl (by decide +kernel) ⟨by decide, by decide⟩ rfl rfl (Nat.le_of_ble_eq_true rfl) dL_signaturesOf_30 ⟨by decide, by decide⟩ ?_
    refine n_iadd C0 dL_signaturesOf_33 ?_
    exact n_iret C0 dL_signaturesOf_34 (by unfold signV; rw [if_neg c_20])
  · refine n_bipush (v := 6) C0 dL_signaturesOf_23 (by decide) ?_
    refine n_goto C0 30 dL_signaturesOf_25 (by decide) ?_
    refine n_callS (As := [_, _]) (rest := _) (n := 2) C0 hB (mL_below l D cy b L xs _ _ (by decide)) gL_signaturesOf_L_below rfl rfl rfl (by decide +kernel) ⟨by decide, by decide⟩ rfl rfl (Nat.le_of_ble_eq_true rfl) dL_signaturesOf_30 ⟨by decide, by decide⟩ ?_
    refine n_iadd C0 dL_signaturesOf_33 ?_
    exact n_iret C0 dL_signaturesOf_34 (by unfold signV; rw [if_pos c_20])
end YHw
