/-! ===== bits counted in parallel ===== -/
theorem zb_split {a b c d k : Nat} (ha : a < 2 ^ k) (hc : c < 2 ^ k) : (a + 2 ^ k * b) &&& (c + 2 ^ k * d) = (a &&& c) + 2 ^ k * (b &&& d) := by
  apply Nat.eq_of_testBit_eq
  intro i
  rw [Nat.testBit_and, Nat.add_comm a, Nat.add_comm c, Nat.add_comm (a &&& c), Nat.testBit_two_pow_mul_add _ ha, Nat.testBit_two_pow_mul_add _ hc, Nat.testBit_two_pow_mul_add _ (Nat.lt_of_le_of_lt Nat.and_le_left ha)]
  split
  · rw [Nat.testBit_and]
  · rw [Nat.testBit_and]
def pb1 (M x : Nat) : Nat := x - ((x / 2) &&& M)
def pb2 (M x : Nat) : Nat := (x &&& M) + ((x / 4) &&& M)
def pb3 (M x : Nat) : Nat := (x + x / 16) &&& M
theorem pb_a1 : ∀ a, a < 256 → ∀ t, t < 2 → (a / 2 + 128 * t) &&& 85 = (a / 2) &&& 85 := by decide +kernel
theorem pb_a2 : ∀ a, a < 256 → ∀ t, t < 4 → (a / 4 + 64 * t) &&& 51 = (a / 4) &&& 51 := by decide +kernel
theorem pb_1 {a y M : Nat} (ha : a < 256) : pb1 (85 + 256 * M) (a + 256 * y) = pb1 85 a + 256 * pb1 M y := by
  unfold pb1
  have e : (a + 256 * y) / 2 = (a / 2 + 128 * (y % 2)) + 2 ^ 8 * (y / 2) := by omega
  rw [e, show 85 + 256 * M = 85 + 2 ^ 8 * M from rfl, zb_split (by omega) (by decide), pb_a1 a ha (y % 2) (by omega)]
  have h1 : (a / 2) &&& 85 ≤ a / 2 := Nat.and_le_left
  have h2 : (y / 2) &&& M ≤ y / 2 := Nat.and_le_left
  omega
theorem pb_2 {a y M : Nat} (ha : a < 256) : pb2 (51 + 256 * M) (a + 256 * y) = pb2 51 a + 256 * pb2 M y := by
  unfold pb2
  have e : (a + 256 * y) / 4 = (a / 4 + 64 * (y % 4)) + 2 ^ 8 * (y / 4) := by omega
  rw [e, show 51 + 256 * M = 51 + 2 ^ 8 * M from rfl, show a + 256 * y = a + 2 ^ 8 * y from rfl, zb_split (by omega) (by decide), zb_split (by omega) (by decide), pb_a2 a ha (y % 4) (by omega)]
  omega
theorem pb_3 {a y M : Nat} (ha : a % 16 ≤ 4 ∧ a / 16 ≤ 4) (hy : y % 16 ≤ 4) : pb3 (15 + 256 * M) (a + 256 * y) = pb3 15 a + 256 * pb3 M y := by
  unfold pb3
  have e : a + 256 * y + (a + 256 * y) / 16 = (a + a / 16 + 16 * (y % 16)) + 2 ^ 8 * (y + y / 16) := by omega
  have m : ∀ z : Nat, z &&& 15 = z % 16 := fun z => Nat.and_two_pow_sub_one_eq_mod z 4
  rw [e, show 15 + 256 * M = 15 + 2 ^ 8 * M from rfl, zb_split (by omega) (by decide), m, m]
  omega
theorem pb_b : ∀ a, a < 256 → pb1 85 a < 256 ∧ (pb2 51 (pb1 85 a) % 16 ≤ 4 ∧ pb2 51 (pb1 85 a) / 16 ≤ 4) ∧ ((pb3 15 (pb2 51 (pb1 85 a)) : Nat) : Int) = zpc 8 a ∧ pb3 15 (pb2 51 (pb1 85 a)) ≤ 8 := by decide +kernel
theorem zpc_a : ∀ (a b x : Nat), zpc (a + b) x = zpc a (x % 2 ^ a) + zpc b (x / 2 ^ a)
  | 0, b, x => by
    rw [Nat.zero_add, Nat.pow_zero, Nat.div_one]
    show zpc b x = 0 + zpc b x
    omega
  | a + 1, b, x => by
    rw [show a + 1 + b = (a + b) + 1 by omega]
    show ((x % 2 : Nat) : Int) + zpc (a + b) (x / 2) = ((x % 2 ^ (a + 1) % 2 : Nat) : Int) + zpc a (x % 2 ^ (a + 1) / 2) + zpc b (x / 2 ^ (a + 1))
    rw [zpc_a a b (x / 2), Nat.pow_succ, Nat.mul_comm, Nat.div_div_eq_div_mul, Nat.mod_mul_right_mod, Nat.mod_mul_right_div_self]
    omega
theorem zpc_7 : ∀ x, x < 128 → zpc 7 x = zpc 8 x := by decide +kernel
/-- the bits of a number, as the machine counts them -/
theorem pb_all {x : Nat} (hx : x < 2147483648) : (((pb3 252645135 (pb2 858993459 (pb1 1431655765 x)) + pb3 252645135 (pb2 858993459 (pb1 1431655765 x)) / 256) + (pb3 252645135 (pb2 858993459 (pb1 1431655765 x)) + pb3 252645135 (pb2 858993459 (pb1 1431655765 x)) / 256) / 65536) % 64 : Nat) = zpc 31 x := by
  obtain ⟨a, b, c, e, ha, hb, hc, he, rfl⟩ : ∃ a b c e, a < 256 ∧ b < 256 ∧ c < 256 ∧ e < 128 ∧ x = a + 256 * (b + 256 * (c + 256 * e)) := ⟨x % 256, x / 256 % 256, x / 65536 % 256, x / 16777216, by omega, by omega, by omega, by omega, by omega⟩
  obtain ⟨a1, a2, a3, a4⟩ := pb_b a ha
  obtain ⟨b1, b2, b3, b4⟩ := pb_b b hb
  obtain ⟨c1, c2, c3, c4⟩ := pb_b c hc
  obtain ⟨e1, e2, e3, e4⟩ := pb_b e (by omega)
  rw [show (1431655765 : Nat) = 85 + 256 * (85 + 256 * (85 + 256 * 85)) from rfl, pb_1 ha, pb_1 hb, pb_1 hc, show (858993459 : Nat) = 51 + 256 * (51 + 256 * (51 + 256 * 51)) from rfl, pb_2 a1, pb_2 b1, pb_2 c1, show (252645135 : Nat) = 15 + 256 * (15 + 256 * (15 + 256 * 15)) from rfl, pb_3 a2 (by omega), pb_3 b2 (by omega), pb_3 c2 (by omega)]
  have hz : zpc 31 (a + 256 * (b + 256 * (c + 256 * e))) = zpc 8 a + (zpc 8 b + (zpc 8 c + zpc 8 e)) := by
    rw [show 31 = 8 + (8 + (8 + 7)) from rfl, zpc_a 8, zpc_a 8, zpc_a 8, show (a + 256 * (b + 256 * (c + 256 * e))) % 2 ^ 8 = a by omega, show (a + 256 * (b + 256 * (c + 256 * e))) / 2 ^ 8 = b + 256 * (c + 256 * e) by omega, show (b + 256 * (c + 256 * e)) % 2 ^ 8 = b by omega, show (b + 256 * (c + 256 * e)) / 2 ^ 8 = c + 256 * e by omega, show (c + 256 * e) % 2 ^ 8 = c by omega, show (c + 256 * e) / 2 ^ 8 = e by omega, zpc_7 e he]
  rw [hz, ← a3, ← b3, ← c3, ← e3]
  generalize pb3 15 (pb2 51 (pb1 85 a)) = A at *
  generalize pb3 15 (pb2 51 (pb1 85 b)) = B at *
  generalize pb3 15 (pb2 51 (pb1 85 c)) = CC at *
  generalize pb3 15 (pb2 51 (pb1 85 e)) = EE at *
  have q1 : (A + 256 * (B + 256 * (CC + 256 * EE))) / 256 = B + 256 * (CC + 256 * EE) := by omega
  rw [q1]
  have q2 : (A + 256 * (B + 256 * (CC + 256 * EE)) + (B + 256 * (CC + 256 * EE))) / 65536 = CC + EE + 256 * EE := by omega
  rw [q2]
  have q3 : (A + 256 * (B + 256 * (CC + 256 * EE)) + (B + 256 * (CC + 256 * EE)) + (CC + EE + 256 * EE)) % 64 = A + B + CC + EE := by omega
  rw [q3]
  omega
theorem iI_shu {n k : Nat} (hn : n < 2147483648) (hk : k = 1 ∨ k = 2 ∨ k = 4 ∨ k = 8 ∨ k = 16) : ((iI (n : Int)).toUInt32 >>> ((iI (k : Int)).toUInt32 &&& Int32.toUInt32 31)).toInt32 = iI ((n / 2 ^ k : Nat) : Int) := by
  have e : (iI (n : Int)).toBitVec.toNat = n := by
    rw [iI_nat]
    show n % 2 ^ 32 = n
    omega
  rw [iI_nat (n / 2 ^ k)]
  apply Int32.toBitVec_inj.1
  apply BitVec.eq_of_toNat_eq
  rcases hk with rfl | rfl | rfl | rfl | rfl
  · show ((iI (n : Int)).toBitVec >>> (1 : Nat)).toNat = (n / 2 ^ 1) % 2 ^ 32
    rw [BitVec.toNat_ushiftRight, Nat.shiftRight_eq_div_pow, e]
    omega
  · show ((iI (n : Int)).toBitVec >>> (2 : Nat)).toNat = (n / 2 ^ 2) % 2 ^ 32
    rw [BitVec.toNat_ushiftRight, Nat.shiftRight_eq_div_pow, e]
    omega
  · show ((iI (n : Int)).toBitVec >>> (4 : Nat)).toNat = (n / 2 ^ 4) % 2 ^ 32
    rw [BitVec.toNat_ushiftRight, Nat.shiftRight_eq_div_pow, e]
    omega
  · show ((iI (n : Int)).toBitVec >>> (8 : Nat)).toNat = (n / 2 ^ 8) % 2 ^ 32
    rw [BitVec.toNat_ushiftRight, Nat.shiftRight_eq_div_pow, e]
    omega
  · show ((iI (n : Int)).toBitVec >>> (16 : Nat)).toNat = (n / 2 ^ 16) % 2 ^ 32
    rw [BitVec.toNat_ushiftRight, Nat.shiftRight_eq_div_pow, e]
    omega
theorem i_ldcw {σ : Type} {G : p_G} {M : p_M} {I : σ → p_H → Prop} {P : (Option Value) ⊕ String → σ → Prop} {d k n pc idx : Nat} {L : p_LL} {st : List Value} {X : σ} {v : Int} (hc : Cond.constant M.1.cls idx (iI v) ∈ p_ws) (hd : decode M.2.1 pc = .ok (.ldc_w idx, 3)) (kk : RW G M I P d k n (pc + 3) L (.int (iI v) :: st) X) : RW G M I P d k n pc L st X := by
  intro h hI p e R s m args below meth c H locs cells slots ls CC B hS hR hL
  exact lv_ldcw CC.1 CC.2.1 CC.2.2.2.2.2.1 (CC.2.2.2.2.2.2.2.2.word hc args) hd (kk h hI p e R s m args below meth c H locs cells slots ls CC B hS hR hL)
