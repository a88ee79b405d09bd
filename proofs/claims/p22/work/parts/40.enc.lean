section YE
/-! THE TIE: the model's row, read off the class's workshop at o -/
def fm (k : Nat) : Nat := if k = 0 then 1 else if k = 1 then 2 else if k = 2 then 3 else if k = 3 then 4 else if k = 4 then 5 else if k = 5 then 8 else if k = 6 then 9 else if k = 7 then 10 else if k = 8 then 11 else if k = 9 then 12 else 6
def enc (M : yM) (o B S : Nat) : Rw := fun i =>
  if i < 165 then (if i / 11 < B then M (o + 4 + i / 11) (fm (i % 11)) else 0)
  else if i < 174 then M (o + 24 + (i - 165) / 3) ((i - 165) % 3 + 1)
  else if i < 184 then (if (i - 174) / 2 < S then M (o + 19 + (i - 174) / 2) ((i - 174) % 2 + 1) else 0)
  else if i = 184 then M o 7 else if i = 185 then M o 8 else if i = 186 then M o 9 else if i = 187 then M o 6 else if i = 188 then M o 5 else if i = 189 then M o 3 else if i = 190 then M o 4 else if i = 191 then M o 10 else if i = 192 then M o 11 else 0
section
variable {M : yM} {o B S : Nat}
theorem enc_bk {b k : Nat} (hb : b < B) (hB : B ≤ 15) (hk : k < 11) : enc M o B S (11 * b + k) = M (o + 4 + b) (fm k) := by
  unfold enc
  have h1 : (11 * b + k) / 11 = b := by omega
  have h2 : (11 * b + k) % 11 = k := by omega
  rw [if_pos (by omega), h1, h2, if_pos hb]
theorem enc_b0 {b : Nat} (hb : b < B) (hB : B ≤ 15) : enc M o B S (11 * b) = M (o + 4 + b) 1 := enc_bk (k := 0) hb hB (by decide)
theorem enc_b1 {b : Nat} (hb : b < B) (hB : B ≤ 15) : enc M o B S (11 * b + 1) = M (o + 4 + b) 2 := enc_bk hb hB (by decide)
theorem enc_b2 {b : Nat} (hb : b < B) (hB : B ≤ 15) : enc M o B S (11 * b + 2) = M (o + 4 + b) 3 := enc_bk hb hB (by decide)
theorem enc_b3 {b : Nat} (hb : b < B) (hB : B ≤ 15) : enc M o B S (11 * b + 3) = M (o + 4 + b) 4 := enc_bk hb hB (by decide)
theorem enc_b4 {b : Nat} (hb : b < B) (hB : B ≤ 15) : enc M o B S (11 * b + 4) = M (o + 4 + b) 5 := enc_bk hb hB (by decide)
theorem enc_b5 {b : Nat} (hb : b < B) (hB : B ≤ 15) : enc M o B S (11 * b + 5) = M (o + 4 + b) 8 := enc_bk hb hB (by decide)
theorem enc_b6 {b : Nat} (hb : b < B) (hB : B ≤ 15) : enc M o B S (11 * b + 6) = M (o + 4 + b) 9 := enc_bk hb hB (by decide)
theorem enc_b7 {b : Nat} (hb : b < B) (hB : B ≤ 15) : enc M o B S (11 * b + 7) = M (o + 4 + b) 10 := enc_bk hb hB (by decide)
theorem enc_b8 {b : Nat} (hb : b < B) (hB : B ≤ 15) : enc M o B S (11 * b + 8) = M (o + 4 + b) 11 := enc_bk hb hB (by decide)
theorem enc_b9 {b : Nat} (hb : b < B) (hB : B ≤ 15) : enc M o B S (11 * b + 9) = M (o + 4 + b) 12 := enc_bk hb hB (by decide)
theorem enc_b10 {b : Nat} (hb : b < B) (hB : B ≤ 15) : enc M o B S (11 * b + 10) = M (o + 4 + b) 6 := enc_bk hb hB (by decide)
theorem enc_fr {f k : Nat} (hf : f < 3) (hk : k < 3) : enc M o B S (165 + 3 * f + k) = M (o + 24 + f) (k + 1) := by
  unfold enc
  have h1 : (165 + 3 * f + k - 165) / 3 = f := by omega
  have h2 : (165 + 3 * f + k - 165) % 3 = k := by omega
  rw [if_neg (by omega), if_pos (by omega), h1, h2]
theorem enc_f0 {f : Nat} (hf : f < 3) : enc M o B S (165 + 3 * f) = M (o + 24 + f) 1 := enc_fr (k := 0) hf (by decide)
theorem enc_f1 {f : Nat} (hf : f < 3) : enc M o B S (165 + 3 * f + 1) = M (o + 24 + f) 2 := enc_fr hf (by decide)
theorem enc_f2 {f : Nat} (hf : f < 3) : enc M o B S (165 + 3 * f + 2) = M (o + 24 + f) 3 := enc_fr hf (by decide)
theorem enc_sw {s k : Nat} (hs : s < S) (hS : S ≤ 5) (hk : k < 2) : enc M o B S (174 + 2 * s + k) = M (o + 19 + s) (k + 1) := by
  unfold enc
  have h1 : (174 + 2 * s + k - 174) / 2 = s := by omega
  have h2 : (174 + 2 * s + k - 174) % 2 = k := by omega
  rw [if_neg (by omega), if_neg (by omega), if_pos (by omega), h1, h2, if_pos hs]
theorem enc_s0 {s : Nat} (hs : s < S) (hS : S ≤ 5) : enc M o B S (174 + 2 * s) = M (o + 19 + s) 1 := enc_sw (k := 0) hs hS (by decide)
theorem enc_s1 {s : Nat} (hs : s < S) (hS : S ≤ 5) : enc M o B S (174 + 2 * s + 1) = M (o + 19 + s) 2 := enc_sw hs hS (by decide)
theorem enc_184 : enc M o B S 184 = M o 7 := rfl
theorem enc_185 : enc M o B S 185 = M o 8 := rfl
theorem enc_186 : enc M o B S 186 = M o 9 := rfl
theorem enc_187 : enc M o B S 187 = M o 6 := rfl
theorem enc_188 : enc M o B S 188 = M o 5 := rfl
theorem enc_189 : enc M o B S 189 = M o 3 := rfl
theorem enc_190 : enc M o B S 190 = M o 4 := rfl
theorem enc_191 : enc M o B S 191 = M o 10 := rfl
theorem enc_192 : enc M o B S 192 = M o 11 := rfl
/-- the same books, frames, sewers and numbers: the same row -/
theorem enc_eq {M' : yM} {o' : Nat} (hb : ∀ b, b < B → ∀ k, k < 11 → M' (o' + 4 + b) (fm k) = M (o + 4 + b) (fm k)) (hf : ∀ f, f < 3 → ∀ k, k < 3 → M' (o' + 24 + f) (k + 1) = M (o + 24 + f) (k + 1)) (hs : ∀ s, s < S → ∀ k, k < 2 → M' (o' + 19 + s) (k + 1) = M (o + 19 + s) (k + 1)) (hw : ∀ k, 3 ≤ k → k ≤ 11 → M' o' k = M o k) : enc M' o' B S = enc M o B S := by
  funext i
  unfold enc
  by_cases h1 : i < 165
  · rw [if_pos h1, if_pos h1]
    by_cases h2 : i / 11 < B
    · rw [if_pos h2, if_pos h2, hb _ h2 _ (by omega)]
    · rw [if_neg h2, if_neg h2]
  · rw [if_neg h1, if_neg h1]
    by_cases h2 : i < 174
    · rw [if_pos h2, if_pos h2, hf _ (by omega) _ (by omega)]
    · rw [if_neg h2, if_neg h2]
      by_cases h3 : i < 184
      · rw [if_pos h3, if_pos h3]
        by_cases h4 : (i - 174) / 2 < S
        · rw [if_pos h4, if_pos h4, hs _ h4 _ (by omega)]
        · rw [if_neg h4, if_neg h4]
      · rw [if_neg h3, if_neg h3, hw 7 (by decide) (by decide), hw 8 (by decide) (by decide), hw 9 (by decide) (by decide), hw 6 (by decide) (by decide), hw 5 (by decide) (by decide), hw 3 (by decide) (by decide), hw 4 (by decide) (by decide), hw 10 (by decide) (by decide), hw 11 (by decide) (by decide)]
/-- two rows that agree where the tie looks -/
theorem row_eq {r r' : Rw} (hb : ∀ b, b < 15 → ∀ k, k < 11 → r (11 * b + k) = r' (11 * b + k)) (hf : ∀ f, f < 3 → ∀ k, k < 3 → r (165 + 3 * f + k) = r' (165 + 3 * f + k)) (hs : ∀ s, s < 5 → ∀ k, k < 2 → r (174 + 2 * s + k) = r' (174 + 2 * s + k)) (hw : ∀ i, 184 ≤ i → r i = r' i) : r = r' := by
  funext i
  by_cases h1 : i < 165
  · have := hb (i / 11) (by omega) (i % 11) (by omega)
    rwa [show 11 * (i / 11) + i % 11 = i by omega] at this
  · by_cases h2 : i < 174
    · have := hf ((i - 165) / 3) (by omega) ((i - 165) % 3) (by omega)
      rwa [show 165 + 3 * ((i - 165) / 3) + (i - 165) % 3 = i by omega] at this
    · by_cases h3 : i < 184
      · have := hs ((i - 174) / 2) (by omega) ((i - 174) % 2) (by omega)
        rwa [show 174 + 2 * ((i - 174) / 2) + (i - 174) % 2 = i by omega] at this
      · exact hw i (by omega)
/-! what a write does to the row -/
theorem fm_ne7 {k : Nat} : fm k ≠ 7 ∧ fm k ≠ 0 := by
  unfold fm
  repeat' split
  all_goals exact ⟨by omega, by omega⟩
theorem fm_inj {a b : Nat} (ha : a < 11) (hb : b < 11) (h : fm a = fm b) : a = b := by
  have : ∀ a : Fin 11, ∀ b : Fin 11, fm a.val = fm b.val → a.val = b.val := by decide +kernel
  exact this ⟨a, ha⟩ ⟨b, hb⟩ h
theorem enc_ub {f : Rw} {b k : Nat} {v : Int32} (hb : b < B) (hB : B ≤ 15) (hk : k < 11) : enc (va_up M (o + 4 + b) (ru f (fm k) v)) o B S = ru (enc (va_up M (o + 4 + b) f) o B S) (11 * b + k) v := by
  funext i
  by_cases hi : i = 11 * b + k
  · subst hi
    rw [ru_s, enc_bk hb hB hk, up_s, ru_s]
  · rw [ru_n hi]
    unfold enc
    by_cases h1 : i < 165
    · rw [if_pos h1, if_pos h1]
      by_cases h2 : i / 11 < B
      · rw [if_pos h2, if_pos h2]
        by_cases h3 : i / 11 = b
        · rw [h3, up_s, up_s, ru_n]
          intro q
          exact hi (by have := fm_inj (by omega) hk q; omega)
        · rw [up_n (by omega), up_n (by omega)]
      · rw [if_neg h2, if_neg h2]
    · rw [if_neg h1, if_neg h1]
      by_cases h2 : i < 174
      · rw [if_pos h2, if_pos h2, up_n (by omega), up_n (by omega)]
      · rw [if_neg h2, if_neg h2]
        by_cases h3 : i < 184
        · rw [if_pos h3, if_pos h3, up_n (by omega), up_n (by omega)]
        · rw [if_neg h3, if_neg h3, up_n (by omega), up_n (by omega)]
theorem enc_u7 {f : Rw} {b k : Nat} {v : Int32} (hb : b < B) (hB : B ≤ 15) (hk : k = 7 ∨ k = 0) : enc (va_up M (o + 4 + b) (ru f k v)) o B S = enc (va_up M (o + 4 + b) f) o B S := by
  refine enc_eq (fun a ha j hj => ?_) (fun a ha j hj => ?_) (fun a ha j hj => ?_) (fun j _ _ => ?_)
  · by_cases h3 : a = b
    · subst h3
      rw [up_s, up_s, ru_n]
      have := fm_ne7 (k := j)
      omega
    · rw [up_n (by omega), up_n (by omega)]
  · rw [up_n (by omega), up_n (by omega)]
  · by_cases h3 : a < 15
    · rw [up_n (by omega), up_n (by omega)]
    · rw [up_n (by omega), up_n (by omega)]
  · rw [up_n (by omega), up_n (by omega)]
theorem enc_u1 {f : Rw} {b : Nat} {v : Int32} (hb : b < B) (hB : B ≤ 15) : enc (va_up M (o + 4 + b) (ru f 1 v)) o B S = ru (enc (va_up M (o + 4 + b) f) o B S) (11 * b) v := enc_ub (k := 0) hb hB (by decide)
theorem enc_u4 {f : Rw} {b : Nat} {v : Int32} (hb : b < B) (hB : B ≤ 15) : enc (va_up M (o + 4 + b) (ru f 4 v)) o B S = ru (enc (va_up M (o + 4 + b) f) o B S) (11 * b + 3) v := enc_ub (k := 3) hb hB (by decide)
theorem enc_u5 {f : Rw} {b : Nat} {v : Int32} (hb : b < B) (hB : B ≤ 15) : enc (va_up M (o + 4 + b) (ru f 5 v)) o B S = ru (enc (va_up M (o + 4 + b) f) o B S) (11 * b + 4) v := enc_ub (k := 4) hb hB (by decide)
theorem enc_u8 {f : Rw} {b : Nat} {v : Int32} (hb : b < B) (hB : B ≤ 15) : enc (va_up M (o + 4 + b) (ru f 8 v)) o B S = ru (enc (va_up M (o + 4 + b) f) o B S) (11 * b + 5) v := enc_ub (k := 5) hb hB (by decide)
theorem enc_u9 {f : Rw} {b : Nat} {v : Int32} (hb : b < B) (hB : B ≤ 15) : enc (va_up M (o + 4 + b) (ru f 9 v)) o B S = ru (enc (va_up M (o + 4 + b) f) o B S) (11 * b + 6) v := enc_ub (k := 6) hb hB (by decide)
theorem enc_u10 {f : Rw} {b : Nat} {v : Int32} (hb : b < B) (hB : B ≤ 15) : enc (va_up M (o + 4 + b) (ru f 10 v)) o B S = ru (enc (va_up M (o + 4 + b) f) o B S) (11 * b + 7) v := enc_ub (k := 7) hb hB (by decide)
theorem enc_u11 {f : Rw} {b : Nat} {v : Int32} (hb : b < B) (hB : B ≤ 15) : enc (va_up M (o + 4 + b) (ru f 11 v)) o B S = ru (enc (va_up M (o + 4 + b) f) o B S) (11 * b + 8) v := enc_ub (k := 8) hb hB (by decide)
theorem enc_u12 {f : Rw} {b : Nat} {v : Int32} (hb : b < B) (hB : B ≤ 15) : enc (va_up M (o + 4 + b) (ru f 12 v)) o B S = ru (enc (va_up M (o + 4 + b) f) o B S) (11 * b + 9) v := enc_ub (k := 9) hb hB (by decide)
theorem enc_u6 {f : Rw} {b : Nat} {v : Int32} (hb : b < B) (hB : B ≤ 15) : enc (va_up M (o + 4 + b) (ru f 6 v)) o B S = ru (enc (va_up M (o + 4 + b) f) o B S) (11 * b + 10) v := enc_ub (k := 10) hb hB (by decide)
theorem enc_id {j : Nat} : enc (va_up M j (M j)) o B S = enc M o B S := by rw [up_id]
theorem enc_yb {b k : Nat} {v : Int32} (hb : b < B) (hB : B ≤ 15) (hk : k < 11) : enc (yst M (o + 4 + b) (fm k) v) o B S = ru (enc M o B S) (11 * b + k) v := by
  rw [yst_ru, enc_ub hb hB hk, enc_id]
theorem enc_rb {b k : Nat} (hb : b < 15) (hk : k < 11) : enc M o B S (11 * b + k) = if b < B then M (o + 4 + b) (fm k) else 0 := by
  unfold enc
  have h1 : (11 * b + k) / 11 = b := by omega
  have h2 : (11 * b + k) % 11 = k := by omega
  rw [if_pos (by omega), h1, h2]
theorem enc_rs {s k : Nat} (hs : s < 5) (hk : k < 2) : enc M o B S (174 + 2 * s + k) = if s < S then M (o + 19 + s) (k + 1) else 0 := by
  unfold enc
  have h1 : (174 + 2 * s + k - 174) / 2 = s := by omega
  have h2 : (174 + 2 * s + k - 174) % 2 = k := by omega
  rw [if_neg (by omega), if_neg (by omega), if_pos (by omega), h1, h2]
def encW (f : Rw) (i : Nat) : Int32 := if i = 184 then f 7 else if i = 185 then f 8 else if i = 186 then f 9 else if i = 187 then f 6 else if i = 188 then f 5 else if i = 189 then f 3 else if i = 190 then f 4 else if i = 191 then f 10 else if i = 192 then f 11 else 0
theorem enc_rw {i : Nat} (hi : 184 ≤ i) : enc M o B S i = encW (M o) i := by
  unfold enc
  rw [if_neg (by omega), if_neg (by omega), if_neg (by omega)]
  rfl
theorem enc_yf {f k : Nat} {v : Int32} (hf : f < 3) (hk : k < 3) : enc (yst M (o + 24 + f) (k + 1) v) o B S = ru (enc M o B S) (165 + 3 * f + k) v := by
  refine row_eq (fun a ha j hj => ?_) (fun a ha j hj => ?_) (fun a ha j hj => ?_) (fun j hj => ?_)
  · rw [ru_n (by omega), enc_rb ha hj, enc_rb ha hj, yst_row (by omega)]
  · rw [enc_fr ha hj]
    by_cases h1 : 165 + 3 * a + j = 165 + 3 * f + k
    · obtain rfl : a = f := by omega
      obtain rfl : j = k := by omega
      rw [ru_s, yst_same]
    · rw [ru_n h1, enc_fr ha hj]
      by_cases h2 : a = f
      · subst h2; rw [yst_at, if_neg (by omega)]
      · rw [yst_row (by omega)]
  · rw [ru_n (by omega), enc_rs ha hj, enc_rs ha hj, yst_row (by omega)]
  · rw [ru_n (by omega), enc_rw hj, enc_rw hj, yst_row (by omega)]
theorem enc_ys {s k : Nat} {v : Int32} (hS : S ≤ 5) (hs : s < S) (hk : k < 2) : enc (yst M (o + 19 + s) (k + 1) v) o B S = ru (enc M o B S) (174 + 2 * s + k) v := by
  refine row_eq (fun a ha j hj => ?_) (fun a ha j hj => ?_) (fun a ha j hj => ?_) (fun j hj => ?_)
  · rw [ru_n (by omega), enc_rb ha hj, enc_rb ha hj, yst_row (by omega)]
  · rw [ru_n (by omega), enc_fr ha hj, enc_fr ha hj, yst_row (by omega)]
  · rw [enc_rs ha hj]
    by_cases h1 : 174 + 2 * a + j = 174 + 2 * s + k
    · obtain rfl : a = s := by omega
      obtain rfl : j = k := by omega
      rw [ru_s, yst_same, if_pos hs]
    · rw [ru_n h1, enc_rs ha hj]
      by_cases h2 : a = s
      · subst h2; rw [yst_at, if_neg (show ¬ j + 1 = k + 1 by omega)]
      · rw [yst_row (by omega)]
  · rw [ru_n (by omega), enc_rw hj, enc_rw hj, yst_row (by omega)]
/-- the numbers of the workshop -/
def sc (k : Nat) : Nat := if k = 3 then 189 else if k = 4 then 190 else if k = 5 then 188 else if k = 6 then 187 else if k = 7 then 184 else if k = 8 then 185 else if k = 9 then 186 else if k = 10 then 191 else 192
theorem sc_le {k : Nat} : 184 ≤ sc k := by
  unfold sc
  repeat' split
  all_goals omega
theorem encW_ru {f : Rw} {k i : Nat} {v : Int32} (h3 : 3 ≤ k) (h11 : k ≤ 11) : encW (ru f k v) i = ru (encW f) (sc k) v i := by
  by_cases hi : 184 ≤ i ∧ i ≤ 192
  · rcases (show i = 184 ∨ i = 185 ∨ i = 186 ∨ i = 187 ∨ i = 188 ∨ i = 189 ∨ i = 190 ∨ i = 191 ∨ i = 192 by omega) with rfl | rfl | rfl | rfl | rfl | rfl | rfl | rfl | rfl <;>
    rcases (show k = 3 ∨ k = 4 ∨ k = 5 ∨ k = 6 ∨ k = 7 ∨ k = 8 ∨ k = 9 ∨ k = 10 ∨ k = 11 by omega) with rfl | rfl | rfl | rfl | rfl | rfl | rfl | rfl | rfl <;> rfl
  · have hs : sc k ≤ 192 := by
      unfold sc
      repeat' split
      all_goals omega
    have hs2 := sc_le (k := k)
    rw [ru_n (by omega)]
    unfold encW
    rw [if_neg (by omega), if_neg (by omega), if_neg (by omega), if_neg (by omega), if_neg (by omega), if_neg (by omega), if_neg (by omega), if_neg (by omega), if_neg (by omega)]
    rw [if_neg (by omega), if_neg (by omega), if_neg (by omega), if_neg (by omega), if_neg (by omega), if_neg (by omega), if_neg (by omega), if_neg (by omega), if_neg (by omega)]
theorem enc_yo {k : Nat} {v : Int32} (h3 : 3 ≤ k) (h11 : k ≤ 11) : enc (yst M o k v) o B S = ru (enc M o B S) (sc k) v := by
  have hs := sc_le (k := k)
  refine row_eq (fun a ha j hj => ?_) (fun a ha j hj => ?_) (fun a ha j hj => ?_) (fun j hj => ?_)
  · rw [ru_n (by omega), enc_rb ha hj, enc_rb ha hj, yst_row (by omega)]
  · rw [ru_n (by omega), enc_fr ha hj, enc_fr ha hj, yst_row (by omega)]
  · rw [ru_n (by omega), enc_rs ha hj, enc_rs ha hj, yst_row (by omega)]
  · rw [enc_rw hj, yst_ru, up_s, encW_ru h3 h11]
    unfold ru
    split
    · rfl
    · rw [enc_rw hj]
end
end YE
