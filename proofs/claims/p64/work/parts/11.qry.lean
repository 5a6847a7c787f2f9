/-! ===== the reference: queries without loops, small changes ===== -/
theorem iI_even {a : Int} (h : 0 ≤ a ∧ a < 2147483648) : iI a &&& iI (-2) = iI (a - a % 2) := by
  rw [iI_nn h.1, iI_nn (by omega : 0 ≤ a - a % 2)]
  apply Int32.toBitVec_inj.1
  show (nI a.toNat).toBitVec &&& (4294967294#32) = (nI (a - a % 2).toNat).toBitVec
  apply BitVec.eq_of_toNat_eq
  rw [BitVec.toNat_and, pk_tn (by omega), pk_tn (by omega)]
  show a.toNat &&& 4294967294 = _
  apply Nat.eq_of_testBit_eq
  intro i
  rw [Nat.testBit_and]
  have e1 : (a - a % 2).toNat = 2 * (a.toNat / 2) := by omega
  rw [e1]
  by_cases hi : i < 32
  · cases i with
    | zero => simp [Nat.testBit_zero]
    | succ i =>
      rw [Nat.testBit_succ, Nat.testBit_succ, Nat.testBit_succ, Nat.mul_div_cancel_left _ (by decide)]
      have : (4294967294 / 2 : Nat) = 2 ^ 31 - 1 := by decide
      rw [this, Nat.testBit_two_pow_sub_one]
      simp
      intro _
      omega
  · rw [Nat.testBit_lt_two_pow (x := a.toNat) (Nat.lt_of_lt_of_le (by omega : a.toNat < 2 ^ 32) (Nat.pow_le_pow_right (by decide) (by omega))), Nat.testBit_lt_two_pow (x := 2 * (a.toNat / 2)) (Nat.lt_of_lt_of_le (by omega : 2 * (a.toNat / 2) < 2 ^ 32) (Nat.pow_le_pow_right (by decide) (by omega)))]
    rfl
section M11
variable {G : p_G} {Y : Nat → Nat} {h0 : p_H} {d : Nat} {V : Nat → Int} {C : Nat → Int → Int} {J : Int → Int}
theorem wOK.pos {w : Int → Int} (h : wOK w) {s : Int} (hs : s = 0 ∨ s = 1) : 0 ≤ w (476 * s + 0) ∧ w (476 * s + 0) ≤ 24 := (h.1 s hs).1
theorem wOK.sts {w : Int → Int} (h : wOK w) {s : Int} (hs : s = 0 ∨ s = 1) : 1 ≤ w (476 * s + 5) ∧ w (476 * s + 5) ≤ 60 := (h.1 s hs).2.2.2.1
theorem wOK.msk {w : Int → Int} (h : wOK w) {s : Int} (hs : s = 0 ∨ s = 1) (k : Int) (h0 : 0 ≤ k) (h1 : k < 116) : 0 ≤ w (476 * s + k) ∧ w (476 * s + k) < 33554432 := (h.1 s hs).2.2.1 k h0 h1
theorem wOK.str {w : Int → Int} (h : wOK w) {s : Int} (hs : s = 0 ∨ s = 1) (p : Int) (h0 : 1 ≤ p) (h1 : p ≤ 24) : 0 ≤ w (476 * s + (31 + p)) ∧ w (476 * s + (31 + p)) ≤ 6 := (h.1 s hs).2.2.2.2.1 p h0 h1
theorem wOK.nxt {w : Int → Int} (h : wOK w) {s : Int} (hs : s = 0 ∨ s = 1) {t c : Int} (h0 : 0 ≤ t) (h1 : t < w (476 * s + 5)) (h2 : 0 ≤ c) (h3 : c < 6) : 0 ≤ w (476 * s + (116 + 6 * t + c)) ∧ w (476 * s + (116 + 6 * t + c)) < w (476 * s + 5) := (h.1 s hs).2.2.2.2.2 t c h0 h1 h2 h3
theorem wOK.wk {w : Int → Int} (h : wOK w) {k : Int} (h0 : 0 ≤ k) (h1 : k < w 952) : (w (953 + 3 * k + 0) = 0 ∨ w (953 + 3 * k + 0) = 1) ∧ 0 ≤ w (953 + 3 * k + 1) ∧ w (953 + 3 * k + 1) < w (476 * w (953 + 3 * k + 0) + 5) := h.2.2.1 k h0 h1
theorem wOK.gate {w : Int → Int} (h : wOK w) {c b : Int} (h0 : 0 ≤ c) (h1 : c < 6) (hb : b = 0 ∨ b = 1) : w (971 + 2 * c + b) = 0 ∨ w (971 + 2 * c + b) = 1 := h.2.2.2.1 c b h0 h1 hb
theorem wOK.nght {w : Int → Int} (h : wOK w) : w 983 = 0 ∨ w 983 = 1 := h.2.2.2.2
end M11
