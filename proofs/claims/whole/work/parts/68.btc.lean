/-! ===== bits counted in parallel ===== -/
theorem zb_split {a b c d k : Nat} (ha : a < 2 ^ k) (hc : c < 2 ^ k) : (a + 2 ^ k * b) &&& (c + 2 ^ k * d) = (a &&& c) + 2 ^ k * (b &&& d) := by
  apply Nat.eq_of_testBit_eq
  intro i
  rw [Nat.testBit_and, Nat.add_comm a, Nat.add_comm c, Nat.add_comm (a &&& c), Nat.testBit_two_pow_mul_add _ ha, Nat.testBit_two_pow_mul_add _ hc, Nat.testBit_two_pow_mul_add _ (Nat.lt_of_le_of_lt Nat.and_le_left ha)]
  split
  · rw [Nat.testBit_and]
  · rw [Nat.testBit_and]
def pb1 (M x : Nat) : Nat := x - ((x / 2) &&& M)
def pb2 (M x : Nat) : Nat := (x &&& M) + ((x / 4) &&& M)
def pb3 (M x : Nat) : Nat := (x + x / 16) &&& M
theorem pb_a1 : ∀ a, a < 256 → ∀ t, t < 2 → (a / 2 + 128 * t) &&& 85 = (a / 2) &&& 85 := by decide +kernel
theorem pb_a2 : ∀ a, a < 256 → ∀ t, t < 4 → (a / 4 + 64 * t) &&& 51 = (a / 4) &&& 51 := by decide +kernel
theorem pb_1 {a y M : Nat} (ha : a < 256) : pb1 (85 + 256 * M) (a + 256 * y) = pb1 85 a + 256 * pb1 M y := by
  unfold pb1
  have e : (a + 256 * y) / 2 = (a / 2 + 128 * (y % 2)) + 2 ^ 8 * (y / 2) := by omega
  rw [e, show 85 + 256 * M = 85 + 2 ^ 8 * M from rfl, zb_split (by omega) (by decide), pb_a1 a ha (y % 2) (by omega)]
  have h1 : (a / 2) &&& 85 ≤ a / 2 := Nat.and_le_left
  have h2 : (y / 2) &&& M ≤ y / 2 := Nat.and_le_left
  omega
theorem pb_2 {a y M : Nat} (ha : a < 256) : pb2 (51 + 256 * M) (a + 256 * y) = pb2 51 a + 256 * pb2 M y := by
  unfold pb2
  have e : (a + 256 * y) / 4 = (a / 4 + 64 * (y % 4)) + 2 ^ 8 * (y / 4) := by omega
  rw [e, show 51 + 256 * M = 51 + 2 ^ 8 * M from rfl, show a + 256 * y = a + 2 ^ 8 * y from rfl, zb_split (by omega) (by decide), zb_split (by omega) (by decide), pb_a2 a ha (y % 4) (by omega)]
  omega
theorem pb_3 {a y M : Nat} (ha : a % 16 ≤ 4 ∧ a / 16 ≤ 4) (hy : y % 16 ≤ 4) : pb3 (15 + 256 * M) (a + 256 * y) = pb3 15 a + 256 * pb3 M y := by
  unfold pb3
  have e : a + 256 * y + (a + 256 * y) / 16 = (a + a / 16 + 16 * (y % 16)) + 2 ^ 8 * (y + y / 16) := by omega
  have m : ∀ z : Nat, z &&& 15 = z % 16 := fun z => Nat.and_two_pow_sub_one_eq_mod z 4
  rw [e, show 15 + 256 * M = 15 + 2 ^ 8 * M from rfl, zb_split (by omega) (by decide), m, m]
  omega
theorem pb_b : ∀ a, a < 256 → pb1 85 a < 256 ∧ (pb2 51 (pb1 85 a) % 16 ≤ 4 ∧ pb2 51 (pb1 85 a) / 16 ≤ 4) ∧ ((pb3 15 (pb2 51 (pb1 85 a)) : Nat) : Int) = zpc 8 a ∧ pb3 15 (pb2 51 (pb1 85 a)) ≤ 8 := by decide +kernel
theorem zpc_a : ∀ (a b x : Nat), zpc (a + b) x = zpc a (x % 2 ^ a) + zpc b (x / 2 ^ a)
  | 0, b, x => by
    rw [Nat.zero_add, Nat.pow_zero, Nat.div_one]
    show zpc b x = 0 + zpc b x
    omega
  | a + 1, b, x => by
    rw [show a + 1 + b = (a + b) + 1 by omega]
    show ((x % 2 : Nat) : Int) + zpc (a + b) (x / 2) = ((x % 2 ^ (a + 1) % 2 : Nat) : Int) + zpc a (x % 2 ^ (a + 1) / 2) + zpc b (x / 2 ^ (a + 1))
    rw [zpc_a a b (x / 2), Nat.pow_succ, Nat.mul_comm, Nat.div_div_eq_div_mul, Nat.mod_mul_right_mod, Nat.mod_mul_right_div_self]
    omega
theorem zpc_7 : ∀ x, x < 128 → zpc 7 x = zpc 8 x := by decide +kernel
/-- the bits of a number, as the machine counts them -/
theorem pb_all {x : Nat} (hx : x < 2147483648) : (((pb3 252645135 (pb2 858993459 (pb1 1431655765 x)) + pb3 252645135 (pb2 858993459 (pb1 1431655765 x)) / 256) + (pb3 252645135 (pb2 858993459 (pb1 1431655765 x)) + pb3 252645135 (pb2 858993459 (pb1 1431655765 x)) / 256) / 65536) % 64 : Nat) = zpc 31 x := by
  obtain ⟨a, b, c, e, ha, hb, hc, he, rfl⟩ : ∃ a b c e, a < 256 ∧ b < 256 ∧ c < 256 ∧ e < 128 ∧ x = a + 256 * (b + 256 * (c + 256 * e)) := ⟨x % 256, x / 256 % 256, x / 65536 % 256, x / 16777216, by omega, by omega, by omega, by omega, by omega⟩
  obtain ⟨a1, a2, a3, a4⟩ := pb_b a ha
  obtain ⟨b1, b2, b3, b4⟩ := pb_b b hb
  obtain ⟨c1, c2, c3, c4⟩ := pb_b c hc
  obtain ⟨e1, e2, e3, e4⟩ := pb_b e (by omega)
  rw [show (1431655765 : Nat) = 85 + 256 * (85 + 256 * (85 + 256 * 85)) from rfl, pb_1 ha, pb_1 hb, pb_1 hc, show (858993459 : Nat) = 51 + 256 * (51 + 256 * (51 + 256 * 51)) from rfl, pb_2 a1, pb_2 b1, pb_2 c1, show (252645135 : Nat) = 15 + 256 * (15 + 256 * (15 + 256 * 15)) from rfl, pb_3 a2 (by omega), pb_3 b2 (by omega), pb_3 c2 (by omega)]
  have hz : zpc 31 (a + 256 * (b + 256 * (c + 256 * e))) = zpc 8 a + (zpc 8 b + (zpc 8 c + zpc 8 e)) := by
    rw [show 31 = 8 + (8 + (8 + 7)) from rfl, zpc_a 8, zpc_a 8, zpc_a 8, show (a + 256 * (b + 256 * (c + 256 * e))) % 2 ^ 8 = a by omega, show (a + 256 * (b + 256 * (c + 256 * e))) / 2 ^ 8 = b + 256 * (c + 256 * e) by omega, show (b + 256 * (c + 256 * e)) % 2 ^ 8 = b by omega, show (b + 256 * (c + 256 * e)) / 2 ^ 8 = c + 256 * e by omega, show (c + 256 * e) % 2 ^ 8 = c by omega, show (c + 256 * e) / 2 ^ 8 = e by omega, zpc_7 e he]
  rw [hz, ← a3, ← b3, ← c3, ← e3]
  generalize pb3 15 (pb2 51 (pb1 85 a)) = A at *
  generalize pb3 15 (pb2 51 (pb1 85 b)) = B at *
  generalize pb3 15 (pb2 51 (pb1 85 c)) = CC at *
  generalize pb3 15 (pb2 51 (pb1 85 e)) = EE at *
  have q1 : (A + 256 * (B + 256 * (CC + 256 * EE))) / 256 = B + 256 * (CC + 256 * EE) := by omega
  rw [q1]
  have q2 : (A + 256 * (B + 256 * (CC + 256 * EE)) + (B + 256 * (CC + 256 * EE))) / 65536 = CC + EE + 256 * EE := by omega
  rw [q2]
  have q3 : (A + 256 * (B + 256 * (CC + 256 * EE)) + (B + 256 * (CC + 256 * EE)) + (CC + EE + 256 * EE)) % 64 = A + B + CC + EE := by omega
  rw [q3]
  omega
theorem iI_shu {n k : Nat} (hn : n < 2147483648) (hk : k = 1 ∨ k = 2 ∨ k = 4 ∨ k = 8 ∨ k = 16) : ((iI (n : Int)).toUInt32 >>> ((iI (k : Int)).toUInt32 &&& Int32.toUInt32 31)).toInt32 = iI ((n / 2 ^ k : Nat) : Int) := by
  have e : (iI (n : Int)).toBitVec.toNat = n := by
    rw [iI_nat]
    show n % 2 ^ 32 = n
    omega
  rw [iI_nat (n / 2 ^ k)]
  apply Int32.toBitVec_inj.1
  apply BitVec.eq_of_toNat_eq
  rcases hk with rfl | rfl | rfl | rfl | rfl
  · show ((iI (n : Int)).toBitVec >>> (1 : Nat)).toNat = (n / 2 ^ 1) % 2 ^ 32
    rw [BitVec.toNat_ushiftRight, Nat.shiftRight_eq_div_pow, e]
    omega
  · show ((iI (n : Int)).toBitVec >>> (2 : Nat)).toNat = (n / 2 ^ 2) % 2 ^ 32
    rw [BitVec.toNat_ushiftRight, Nat.shiftRight_eq_div_pow, e]
    omega
  · show ((iI (n : Int)).toBitVec >>> (4 : Nat)).toNat = (n / 2 ^ 4) % 2 ^ 32
    rw [BitVec.toNat_ushiftRight, Nat.shiftRight_eq_div_pow, e]
    omega
  · show ((iI (n : Int)).toBitVec >>> (8 : Nat)).toNat = (n / 2 ^ 8) % 2 ^ 32
    rw [BitVec.toNat_ushiftRight, Nat.shiftRight_eq_div_pow, e]
    omega
  · show ((iI (n : Int)).toBitVec >>> (16 : Nat)).toNat = (n / 2 ^ 16) % 2 ^ 32
    rw [BitVec.toNat_ushiftRight, Nat.shiftRight_eq_div_pow, e]
    omega
theorem i_ldcw {σ : Type} {G : p_G} {M : p_M} {I : σ → p_H → Prop} {P : (Option Value) ⊕ String → σ → Prop} {d k n pc idx : Nat} {L : p_LL} {st : List Value} {X : σ} {v : Int} (hc : Cond.constant M.1.cls idx (iI v) ∈ p_ws) (hd : decode M.2.1 pc = .ok (.ldc_w idx, 3)) (kk : RW G M I P d k n (pc + 3) L (.int (iI v) :: st) X) : RW G M I P d k n pc L st X := by
  intro h hI p e R s m args below meth c H locs cells slots ls CC B hS hR hL
  exact lv_ldcw CC.1 CC.2.1 CC.2.2.2.2.2.1 (CC.2.2.2.2.2.2.2.2.word hc args) hd (kk h hI p e R s m args below meth c H locs cells slots ls CC B hS hR hL)
section C68
variable {σ : Type} {I : σ → p_H → Prop} {G : p_G} {P : (Option Value) ⊕ String → σ → Prop} {d : Nat} {X : σ}
theorem q_bitCount {x : Int} (hx : 0 ≤ x ∧ x < 2147483648) (hp : P (.inl (some (.int (iI (zpc 31 x.toNat))))) X) : RM G mJ6_bitCount_0f7a4 I [.int (iI x)] d 0 0 P X := by
  obtain ⟨n, rfl⟩ : ∃ n : Nat, x = (n : Int) := ⟨x.toNat, by omega⟩
  have hn : n < 2147483648 := by omega
  have k265 : Cond.constant mJ6_bitCount_0f7a4.1.cls 265 (iI 1431655765) ∈ p_ws := p_in (p_t3 (List.mem_of_getElem? (i := 77) (by decide +kernel))) rfl
  have k266 : Cond.constant mJ6_bitCount_0f7a4.1.cls 266 (iI 858993459) ∈ p_ws := p_in (p_t3 (List.mem_of_getElem? (i := 78) (by decide +kernel))) rfl
  have k267 : Cond.constant mJ6_bitCount_0f7a4.1.cls 267 (iI 252645135) ∈ p_ws := p_in (p_t3 (List.mem_of_getElem? (i := 79) (by decide +kernel))) rfl
  refine RM.of (L := [some (.int (iI (n : Int)))]) cfJ6_bitCount_0f7a4 rfl (Nat.le_of_ble_eq_true rfl) ?_
  refine i_iload_n dJ6_bitCount_0f7a4_0 rfl ?_
  refine i_iload_n dJ6_bitCount_0f7a4_1 rfl ?_
  refine i_const dJ6_bitCount_0f7a4_2 ?_
  refine i_iushr dJ6_bitCount_0f7a4_3 (iI_shu (k := 1) hn (by omega)) ?_
  refine i_ldcw k265 dJ6_bitCount_0f7a4_4 ?_
  refine i_and dJ6_bitCount_0f7a4_7 (by omega) (by decide) ?_
  refine i_sub dJ6_bitCount_0f7a4_8 ?_
  have e1 : (n : Int) - za ((n / 2 ^ 1 : Nat) : Int) 1431655765 = ((pb1 1431655765 n : Nat) : Int) := by
    have h1 : (n / 2) &&& 1431655765 ≤ n / 2 := Nat.and_le_left
    show (n : Int) - (((n / 2) &&& 1431655765 : Nat) : Int) = ((n - ((n / 2) &&& 1431655765) : Nat) : Int)
    omega
  rw [e1]
  have l1 : pb1 1431655765 n ≤ n := Nat.sub_le _ _
  obtain ⟨v, hv⟩ : ∃ v, v = pb1 1431655765 n := ⟨_, rfl⟩
  rw [← hv] at l1 ⊢
  refine i_istore_n dJ6_bitCount_0f7a4_9 (L' := [some _]) (by decide) rfl ?_
  refine i_iload_n dJ6_bitCount_0f7a4_10 rfl ?_
  refine i_ldcw k266 dJ6_bitCount_0f7a4_11 ?_
  refine i_and dJ6_bitCount_0f7a4_14 (by omega) (by decide) ?_
  refine i_iload_n dJ6_bitCount_0f7a4_15 rfl ?_
  refine i_const dJ6_bitCount_0f7a4_16 ?_
  refine i_iushr dJ6_bitCount_0f7a4_17 (iI_shu (k := 2) (by omega) (by omega)) ?_
  refine i_ldcw k266 dJ6_bitCount_0f7a4_18 ?_
  refine i_and dJ6_bitCount_0f7a4_21 (by omega) (by decide) ?_
  refine i_add dJ6_bitCount_0f7a4_22 ?_
  have e2 : za (v : Int) 858993459 + za ((v / 2 ^ 2 : Nat) : Int) 858993459 = ((pb2 858993459 v : Nat) : Int) := by
    show (((v &&& 858993459 : Nat) : Int) + (((v / 4) &&& 858993459 : Nat) : Int)) = (((v &&& 858993459) + ((v / 4) &&& 858993459) : Nat) : Int)
    omega
  rw [e2]
  have l2 : pb2 858993459 v ≤ 1717986918 := by
    have h1 : v &&& 858993459 ≤ 858993459 := Nat.and_le_right
    have h2 : (v / 4) &&& 858993459 ≤ 858993459 := Nat.and_le_right
    unfold pb2
    omega
  obtain ⟨u, hu⟩ : ∃ u, u = pb2 858993459 v := ⟨_, rfl⟩
  rw [← hu] at l2 ⊢
  refine i_istore_n dJ6_bitCount_0f7a4_23 (L' := [some _]) (by decide) rfl ?_
  refine i_iload_n dJ6_bitCount_0f7a4_24 rfl ?_
  refine i_iload_n dJ6_bitCount_0f7a4_25 rfl ?_
  refine i_const dJ6_bitCount_0f7a4_26 ?_
  refine i_iushr dJ6_bitCount_0f7a4_27 (iI_shu (k := 4) (by omega) (by omega)) ?_
  refine i_add dJ6_bitCount_0f7a4_28 ?_
  refine i_ldcw k267 dJ6_bitCount_0f7a4_29 ?_
  refine i_and dJ6_bitCount_0f7a4_32 (by omega) (by decide) ?_
  have e3 : za ((u : Int) + ((u / 2 ^ 4 : Nat) : Int)) 252645135 = ((pb3 252645135 u : Nat) : Int) := by
    unfold za pb3
    rw [show ((u : Int) + ((u / 2 ^ 4 : Nat) : Int)).toNat = u + u / 16 by omega]
    rfl
  rw [e3]
  have l3 : pb3 252645135 u ≤ 252645135 := Nat.and_le_right
  obtain ⟨t, ht⟩ : ∃ t, t = pb3 252645135 u := ⟨_, rfl⟩
  rw [← ht] at l3 ⊢
  refine i_istore_n dJ6_bitCount_0f7a4_33 (L' := [some _]) (by decide) rfl ?_
  refine i_iload_n dJ6_bitCount_0f7a4_34 rfl ?_
  refine i_iload_n dJ6_bitCount_0f7a4_35 rfl ?_
  refine i_bipush dJ6_bitCount_0f7a4_36 (by decide) ?_
  refine i_iushr dJ6_bitCount_0f7a4_38 (iI_shu (k := 8) (by omega) (by omega)) ?_
  refine i_add dJ6_bitCount_0f7a4_39 ?_
  rw [show (t : Int) + ((t / 2 ^ 8 : Nat) : Int) = ((t + t / 256 : Nat) : Int) by omega]
  refine i_istore_n dJ6_bitCount_0f7a4_40 (L' := [some _]) (by decide) rfl ?_
  refine i_iload_n dJ6_bitCount_0f7a4_41 rfl ?_
  refine i_iload_n dJ6_bitCount_0f7a4_42 rfl ?_
  refine i_bipush dJ6_bitCount_0f7a4_43 (by decide) ?_
  refine i_iushr dJ6_bitCount_0f7a4_45 (iI_shu (k := 16) (by omega) (by omega)) ?_
  refine i_add dJ6_bitCount_0f7a4_46 ?_
  rw [show ((t + t / 256 : Nat) : Int) + (((t + t / 256) / 2 ^ 16 : Nat) : Int) = (((t + t / 256) + (t + t / 256) / 65536 : Nat) : Int) by omega]
  refine i_istore_n dJ6_bitCount_0f7a4_47 (L' := [some _]) (by decide) rfl ?_
  refine i_iload_n dJ6_bitCount_0f7a4_48 rfl ?_
  refine i_bipush dJ6_bitCount_0f7a4_49 (by decide) ?_
  refine i_and dJ6_bitCount_0f7a4_51 (by omega) (by decide) ?_
  have e4 : za ((t + t / 256 + (t + t / 256) / 65536 : Nat) : Int) 63 = ((((t + t / 256) + (t + t / 256) / 65536) % 64 : Nat) : Int) := by
    show (((t + t / 256 + (t + t / 256) / 65536) &&& (2 ^ 6 - 1) : Nat) : Int) = _
    rw [Nat.and_two_pow_sub_one_eq_mod]
  rw [e4]
  refine i_ireturn dJ6_bitCount_0f7a4_52 rfl rfl ?_
  have hq := pb_all hn
  rw [← hv, ← hu, ← ht] at hq
  rw [hq]
  exact hp
end C68
