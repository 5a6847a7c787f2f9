/-! ===== shares and means are numbers ===== -/
theorem fq_enc64 {s : Bool} {c : Nat} {q : Int} (h1 : c < 2 ^ 53) (h2 : q ≤ 971) : FP.Core.encode FP.Core.b64 (.fin s c q) % 2 ^ 63 ≤ 2047 * 2 ^ 52 := by
  show (if c < 2 ^ 52 then (s.toNat * 2048 + 0) * 2 ^ 52 + c else (s.toNat * 2048 + ((q - (-1074)).toNat + 1)) * 2 ^ 52 + (c - 2 ^ 52)) % 2 ^ 63 ≤ 2047 * 2 ^ 52
  have hs : s.toNat = 0 ∨ s.toNat = 1 := by cases s <;> simp
  split
  · rcases hs with e | e <;> rw [e] <;> omega
  · rcases hs with e | e <;> rw [e] <;> omega
theorem fq_inf64 {s : Bool} : FP.Core.encode FP.Core.b64 (.inf s) % 2 ^ 63 ≤ 2047 * 2 ^ 52 := by
  show ((s.toNat * 2048 + (2048 - 1)) * 2 ^ 52 + 0) % 2 ^ 63 ≤ 2047 * 2 ^ 52
  have hs : s.toNat = 0 ∨ s.toNat = 1 := by cases s <;> simp
  rcases hs with e | e <;> rw [e] <;> omega
theorem fq_bound64 {s : Bool} {c : Nat} {q : Int} (h1 : c < 2 ^ 53) : FP.Core.encode FP.Core.b64 (FP.Core.bound FP.Core.b64 s c q) % 2 ^ 63 ≤ 2047 * 2 ^ 52 := by
  unfold FP.Core.bound
  split
  · rename_i h
    exact fq_enc64 h1 h
  · exact fq_inf64
theorem fq_ratio64 {s : Bool} {a b : Nat} {e : Int} : FP.Core.encode FP.Core.b64 (FP.Core.roundRatio FP.Core.b64 s a b e) % 2 ^ 63 ≤ 2047 * 2 ^ 52 := by
  unfold FP.Core.roundRatio
  split
  · exact fq_enc64 (by decide) (by decide)
  · unfold FP.Core.roundAt FP.Core.settle
    split
    · rename_i h
      exact fq_bound64 h
    · exact fq_bound64 (by decide)
/-- a number's code isn't that of none -/
theorem fq_dec64 {n : Nat} (h : n % 2 ^ 63 ≤ 2047 * 2 ^ 52) : FP.Core.decode FP.Core.b64 n ≠ .nan := by
  show (if n / 2 ^ 52 % 2048 = 2048 - 1 then (if n % 2 ^ 52 = 0 then FP.Core.Datum.inf _ else .nan) else if n / 2 ^ 52 % 2048 = 0 then FP.Core.Datum.fin _ _ _ else FP.Core.Datum.fin _ _ _) ≠ .nan
  split
  · rw [if_pos (by omega)]
    exact fun z => FP.Core.Datum.noConfusion z
  · split
    · exact fun z => FP.Core.Datum.noConfusion z
    · exact fun z => FP.Core.Datum.noConfusion z
theorem fq_vf64 {n : Nat} (h : n % 2 ^ 63 ≤ 2047 * 2 ^ 52) : vf_n64 (UInt64.ofNat n) := by
  unfold vf_n64
  rw [UInt64.le_iff_toNat_le, UInt64.toNat_and, show (0x7fffffffffffffff : UInt64).toNat = 2 ^ 63 - 1 from rfl, Nat.and_two_pow_sub_one_eq_mod, UInt64.toNat_ofNat']
  show n % 2 ^ 64 % 2 ^ 63 ≤ 2047 * 2 ^ 52
  omega
/-- a number that isn't 0 -/
def fq_finb (d : FP.Core.Datum) : Bool := match d with
  | .fin _ c _ => decide (c ≠ 0)
  | _ => false
abbrev fq_fin (d : FP.Core.Datum) : Prop := fq_finb d = true
theorem fq_div64 {x y : UInt64} (hx : FP.Core.decode FP.Core.b64 x.toNat ≠ .nan) (hy : fq_fin (FP.Core.decode FP.Core.b64 y.toNat)) : vf_n64 (FP.ddiv x y) := by
  show vf_n64 (UInt64.ofNat (FP.Core.encode FP.Core.b64 (FP.Core.quotient FP.Core.b64 (FP.Core.decode FP.Core.b64 x.toNat) (FP.Core.decode FP.Core.b64 y.toNat))))
  refine fq_vf64 ?_
  cases h2 : FP.Core.decode FP.Core.b64 y.toNat with
  | nan => rw [h2] at hy; exact absurd hy (by decide)
  | inf t => rw [h2] at hy; exact absurd hy (by cases t <;> decide)
  | fin t d r =>
    rw [h2] at hy
    have hd : d ≠ 0 := of_decide_eq_true hy
    cases h1 : FP.Core.decode FP.Core.b64 x.toNat with
    | nan => exact absurd h1 hx
    | inf s => exact fq_inf64
    | fin s c q =>
      show FP.Core.encode FP.Core.b64 (if d = 0 then (if c = 0 then .nan else .inf (s != t)) else FP.Core.roundRatio FP.Core.b64 (s != t) c d (q - r)) % 2 ^ 63 ≤ 2047 * 2 ^ 52
      rw [if_neg hd]
      exact fq_ratio64
theorem fq_i2d {a : Int32} : FP.Core.decode FP.Core.b64 (FP.i2d a).toNat ≠ .nan := by
  show FP.Core.decode FP.Core.b64 (UInt64.ofNat (FP.Core.encode FP.Core.b64 (FP.Core.roundRatio FP.Core.b64 _ _ 1 0))).toNat ≠ .nan
  refine fq_dec64 ?_
  rw [UInt64.toNat_ofNat']
  have h := @fq_ratio64 (decide (a.toInt < 0)) a.toInt.natAbs 1 0
  show _ % 2 ^ 64 % 2 ^ 63 ≤ 2047 * 2 ^ 52
  omega
theorem fq_den64n : ∀ n : Nat, n < 60 → fq_fin (FP.Core.decode FP.Core.b64 (FP.i2d (nI (n + 1))).toNat) := by
  decide
theorem fq_mean {a b : Int} (hb : 1 ≤ b ∧ b ≤ 60) : vf_n64 (FP.ddiv (FP.i2d (iI a)) (FP.i2d (iI b))) := by
  refine fq_div64 fq_i2d ?_
  have := fq_den64n (b - 1).toNat (by omega)
  rw [show (b - 1).toNat + 1 = b.toNat by omega] at this
  rw [iI_nn (by omega)]
  exact this
theorem fq_share_n : ∀ a : Nat, a < 7 → ∀ b : Nat, b < 6 → FP.fdiv (FP.i2f (nI a)) (FP.i2f (nI (b + 1))) &&& 0x7fffffff ≤ 0x7f800000 := by decide
theorem fq_share {a b : Int} (ha : 0 ≤ a ∧ a ≤ 6) (hb : 1 ≤ b ∧ b ≤ 6) : vf_n32 (FP.fdiv (FP.i2f (iI a)) (FP.i2f (iI b))) := by
  have := fq_share_n a.toNat (by omega) (b - 1).toNat (by omega)
  rw [show (b - 1).toNat + 1 = b.toNat by omega] at this
  rw [iI_nn (by omega), iI_nn (by omega)]
  exact this
