section YMF
theorem rSew_go {r : Rw} {f b n : Nat} (h1 : ¬ rSew r f n (165 + 3 * f + 1) < 0) (h2 : ¬ rSew r f n 184 ≤ 0) (eb : rSew r f n (165 + 3 * f + 1) = nI b) (hb : b < 15) : rSew r f (n + 1) = rStitch (rSew r f n) f b (n + 1) := by
  rw [rSew, if_neg h1, if_neg h2, eb, cN_n (by omega)]
theorem rStitch_a {r : Rw} {f b k : Nat} (h : rS1 r f b (11 * b + 6) < rSt (rS1 r f b) (11 * b) (rS1 r f b (11 * b + 5))) : rStitch r f b k = rS1 r f b := by rw [rStitch, if_pos h]
theorem rStitch_b {r : Rw} {f b k : Nat} (h : ¬ rS1 r f b (11 * b + 6) < rSt (rS1 r f b) (11 * b) (rS1 r f b (11 * b + 5))) (h2 : nI k < 10) : rStitch r f b k = rS5 (rS2 (rS1 r f b) b) f b := by rw [rStitch, if_neg h, if_pos h2]
theorem rStitch_c {r : Rw} {f b k : Nat} (h : ¬ rS1 r f b (11 * b + 6) < rSt (rS1 r f b) (11 * b) (rS1 r f b (11 * b + 5))) (h2 : ¬ nI k < 10) : rStitch r f b k = rS5 (rS3 (rS2 (rS1 r f b) b) b) f b := by rw [rStitch, if_neg h, if_neg h2]
theorem rS5_a {r : Rw} {f b : Nat} (h : r (11 * b + 5) < r (11 * b)) : rS5 r f b = r := by rw [rS5, if_pos h]
theorem rS5_b {r : Rw} {f b : Nat} (h : ¬ r (11 * b + 5) < r (11 * b)) : rS5 r f b = rS4 r f b := by rw [rS5, if_neg h]
/-! what a public method answers: its code, its answer -/
/-! arrays of a method's own -/
theorem arrV_eq {cA : ClassId} {n : Nat} {f g : Nat → Value} (h : ∀ j, j < n → f j = g j) : arrV cA n f = arrV cA n g := by
  unfold arrV
  congr 1
  apply Array.ext
  · simp
  · intro i h1 h2
    simp at h1
    simp [h i h1]
section
variable {K : yK} {l : Launch} {Ro : Room} {D : va_G} {cy : Nat → ClassId} {adr : Nat → Nat} {nL cells slots : Nat} {Q : State → Prop} {M : yM} {R : Rw} {E : va_W} {lv : List (Nat × Value)} {pc : Nat} {st : List Value} {cc : ByteArray} {own : String} {Ts : List Cond} {ret : Option FieldType} {q : Nat} {f : Nat → Int32}
end
end YMF
