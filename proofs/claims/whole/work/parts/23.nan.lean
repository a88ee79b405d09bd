section YN
theorem fk_t : FP.Core.b64.tails = 4503599627370496 := by decide +kernel
theorem fk_e : FP.Core.b64.exps = 2048 := by decide +kernel
theorem fk_q : FP.Core.b64.qmin = -1074 := by decide +kernel
theorem fk_Q : FP.Core.b64.qmax = 971 := by decide +kernel
theorem fk_p : 2 ^ FP.Core.b64.p = 9007199254740992 := by decide +kernel
/-- a datum that is a number or an infinity, and fits -/
def fk_d (d : FP.Core.Datum) : Prop := match d with | .nan => False | .inf _ => True | .fin _ c q => c < 9007199254740992 ∧ q ≤ 971
theorem fk_bound {s : Bool} {c : Nat} {q : Int} (h : c < 9007199254740992) : fk_d (FP.Core.bound FP.Core.b64 s c q) := by
  unfold FP.Core.bound
  rw [fk_Q]
  split
  · exact ⟨h, by assumption⟩
  · trivial
theorem fk_ratio {s : Bool} {a b : Nat} {e : Int} : fk_d (FP.Core.roundRatio FP.Core.b64 s a b e) := by
  unfold FP.Core.roundRatio
  split
  · rw [fk_q]; exact ⟨by omega, by omega⟩
  · unfold FP.Core.roundAt FP.Core.settle
    rw [fk_p, fk_t]
    split
    · exact fk_bound (by assumption)
    · exact fk_bound (by omega)
theorem fk_enc {d : FP.Core.Datum} (h : fk_d d) : FP.Core.encode FP.Core.b64 d % 9223372036854775808 ≤ 9218868437227405312 ∧ FP.Core.encode FP.Core.b64 d < 18446744073709551616 := by
  cases d with
  | nan => exact h.elim
  | inf s =>
    cases s
    · decide +kernel
    · decide +kernel
  | fin s c q =>
    obtain ⟨h1, h2⟩ := h
    have hs : s.toNat ≤ 1 := by cases s <;> decide
    unfold FP.Core.encode FP.Core.assemble
    rw [fk_t, fk_e, fk_q]
    dsimp only
    split
    · omega
    · have h3 : (q - -1074).toNat + 1 ≤ 2046 := by omega
      generalize (q - -1074).toNat + 1 = k at h3 ⊢
      omega
theorem fk_dec {n : Nat} (h : n % 9223372036854775808 ≤ 9218868437227405312) : FP.Core.decode FP.Core.b64 n ≠ .nan := by
  unfold FP.Core.decode FP.Core.fieldE FP.Core.fieldT
  rw [fk_t, fk_e]
  split
  · split
    · intro h; cases h
    · omega
  · split
    · intro h; cases h
    · intro h; cases h
theorem fk_i2d (a : Int32) : FP.Core.decode FP.Core.b64 (FP.i2d a).toNat ≠ .nan := by
  have h := fk_enc (fk_ratio (s := decide (a.toInt < 0)) (a := a.toInt.natAbs) (b := 1) (e := 0))
  have e : (FP.i2d a).toNat = FP.Core.encode FP.Core.b64 (FP.Core.roundRatio FP.Core.b64 (decide (a.toInt < 0)) a.toInt.natAbs 1 0) := by
    show (UInt64.ofNat (FP.Core.encode FP.Core.b64 (FP.Core.roundRatio FP.Core.b64 (decide (a.toInt < 0)) a.toInt.natAbs 1 0))).toNat = _
    exact UInt64.toNat_ofNat_of_lt' h.2
  rw [e]
  exact fk_dec h.1
def fk_f (d : FP.Core.Datum) : Bool := match d with | .fin _ c _ => decide (c ≠ 0) | _ => false
theorem fk_small : ∀ n : Fin 16, n.val ≠ 0 → fk_f (FP.Core.decode FP.Core.b64 (FP.i2d (nI n.val)).toNat) = true := by decide +kernel
theorem fk_quo {X Y : FP.Core.Datum} (hX : X ≠ .nan) (hY : fk_f Y = true) : fk_d (FP.Core.quotient FP.Core.b64 X Y) := by
  cases Y with
  | nan => cases hY
  | inf s => cases hY
  | fin t d r =>
    have hd : d ≠ 0 := of_decide_eq_true hY
    cases X with
    | nan => exact absurd rfl hX
    | inf s => trivial
    | fin s c q =>
      show fk_d (if d = 0 then _ else _)
      rw [if_neg hd]
      exact fk_ratio
theorem meD_ok {a : Int32} {n : Nat} (hn : n ≤ 15) (h : ¬ nI n = 0) : vf_n64 (FP.ddiv (FP.i2d a) (FP.i2d (nI n))) := by
  have hn0 : n ≠ 0 := fun q => h (by rw [q]; rfl)
  have h1 := fk_enc (fk_quo (fk_i2d a) (fk_small ⟨n, by omega⟩ hn0))
  have e : (FP.ddiv (FP.i2d a) (FP.i2d (nI n))).toNat = FP.Core.encode FP.Core.b64 (FP.Core.quotient FP.Core.b64 (FP.Core.decode FP.Core.b64 (FP.i2d a).toNat) (FP.Core.decode FP.Core.b64 (FP.i2d (nI n)).toNat)) := by
    show (UInt64.ofNat (FP.Core.encode FP.Core.b64 (FP.Core.quotient FP.Core.b64 (FP.Core.decode FP.Core.b64 (FP.i2d a).toNat) (FP.Core.decode FP.Core.b64 (FP.i2d (nI n)).toNat)))).toNat = _
    exact UInt64.toNat_ofNat_of_lt' h1.2
  unfold vf_n64
  rw [UInt64.le_iff_toNat_le, UInt64.toNat_and, show (0x7fffffffffffffff : UInt64).toNat = 2 ^ 63 - 1 from rfl, Nat.and_two_pow_sub_one_eq_mod, e]
  exact h1.1
end YN
