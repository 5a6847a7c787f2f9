/-! ===== the class: states alive ===== -/
theorem lI_bv (n : Nat) : (lI (n : Int)).toBitVec = BitVec.ofNat 64 n := BitVec.ofInt_natCast 64 n
theorem lJ_c : ∀ k, k < 64 → ((nI k).toInt64 &&& 63).toBitVec = BitVec.ofNat 64 k := by decide +kernel
theorem lJ_sm : ∀ k, k < 64 → (BitVec.ofNat 64 k).smod 64 = BitVec.ofNat 64 k := by decide +kernel
theorem lJ_nat {x : Int} (h : 0 ≤ x) : ∃ n : Nat, x = (n : Int) := ⟨x.toNat, by omega⟩
theorem lJ_shr {m t : Int} (hm : 0 ≤ m ∧ m < 9223372036854775808) (ht : 0 ≤ t ∧ t < 64) : lI m >>> ((iI t).toInt64 &&& 63) = lI (zs m t) := by
  obtain ⟨n, rfl⟩ := lJ_nat hm.1
  obtain ⟨k, rfl⟩ := lJ_nat ht.1
  unfold zs
  apply Int64.toBitVec_inj.1
  rw [Int64.toBitVec_shiftRight, iI_nat, lJ_c k (by omega), lJ_sm k (by omega), lI_bv, lI_bv]
  apply BitVec.eq_of_toNat_eq
  rw [BitVec.sshiftRight_eq', BitVec.sshiftRight_eq_of_msb_false (BitVec.msb_eq_false_iff_two_mul_lt.mpr (by rw [BitVec.toNat_ofNat]; omega)), BitVec.toNat_ushiftRight, BitVec.toNat_ofNat, BitVec.toNat_ofNat, BitVec.toNat_ofNat, Nat.mod_eq_of_lt (show n < 2 ^ 64 by omega), Nat.mod_eq_of_lt (show k < 2 ^ 64 by omega), Int.toNat_natCast, Int.toNat_natCast]
  exact (Nat.mod_eq_of_lt (Nat.lt_of_le_of_lt (by rw [Nat.shiftRight_eq_div_pow]; exact Nat.div_le_self _ _) (show n < 2 ^ 64 by omega))).symm
theorem lJ_shl1 {t : Int} (ht : 0 ≤ t ∧ t < 62) : lI 1 <<< ((iI t).toInt64 &&& 63) = lI (zp t) := by
  obtain ⟨k, rfl⟩ := lJ_nat ht.1
  unfold zp
  apply Int64.toBitVec_inj.1
  have hp : 2 ^ k < 2 ^ 64 := Nat.pow_lt_pow_right (by decide) (by omega)
  rw [Int64.toBitVec_shiftLeft, iI_nat, lJ_c k (by omega), lJ_sm k (by omega), lI_bv, show lI 1 = lI ((1 : Nat) : Int) from rfl, lI_bv]
  apply BitVec.eq_of_toNat_eq
  rw [BitVec.shiftLeft_eq', BitVec.toNat_shiftLeft, BitVec.toNat_ofNat, BitVec.toNat_ofNat, BitVec.toNat_ofNat, Nat.mod_eq_of_lt (show k < 2 ^ 64 by omega), Nat.shiftLeft_eq, Int.toNat_natCast, Nat.mod_eq_of_lt (show 1 < 2 ^ 64 by decide), Nat.one_mul]
theorem lJ_and1 {m p : Int} : lI (zs m p) &&& lI 1 = lI (zb (zt m p)) := by
  have e : lI (zs m p) &&& lI 1 = lI (za (zs m p) 1) := by
    unfold zs za
    rw [Int.toNat_natCast, show lI 1 = lI ((1 : Nat) : Int) from rfl, show (1 : Int).toNat = 1 from rfl]
    apply Int64.toBitVec_inj.1
    rw [Int64.toBitVec_and, lI_bv, lI_bv, lI_bv, BitVec.ofNat_and]
  rw [e, zs_1]
theorem lJ_or {a b : Int} (ha : 0 ≤ a) (hb : 0 ≤ b) : lI a ||| lI b = lI (zo a b) := by
  obtain ⟨n, rfl⟩ := lJ_nat ha
  obtain ⟨k, rfl⟩ := lJ_nat hb
  unfold zo
  apply Int64.toBitVec_inj.1
  rw [Int64.toBitVec_or, lI_bv, lI_bv, lI_bv, Int.toNat_natCast, Int.toNat_natCast, BitVec.ofNat_or]
theorem lc_eq {a b : Int} (h : lcz a b = 0) : a = b := by
  unfold lcz at h
  split at h
  · omega
  · split at h
    · assumption
    · omega
theorem lc_ne {a b : Int} (h : ¬ lcz a b = 0) : a ≠ b := fun z => h (by unfold lcz; rw [z, if_neg (by omega), if_pos rfl])
theorem zb_nz {p : Prop} [Decidable p] (h : zb p ≠ 0) : p := Decidable.of_not_not (fun y => h (zb_f y))
/-- the positions of a state -/
abbrev wPo (w : Int → Int) (s t : Int) : Int := w (476 * s + (56 + t)) - w (476 * s + (56 + t)) % 2
theorem zp60 {t : Int} (h : 0 ≤ t ∧ t < 60) : 0 ≤ zp t ∧ zp t < 1152921504606846976 := by
  obtain ⟨k, rfl⟩ := lJ_nat h.1
  have : 2 ^ k < 2 ^ 60 := Nat.pow_lt_pow_right (by decide) (by omega)
  unfold zp
  rw [Int.toNat_natCast]
  generalize 2 ^ k = z at *
  omega
theorem zo60 {a b : Int} (ha : a < 1152921504606846976) (hb : b < 1152921504606846976) : 0 ≤ zo a b ∧ zo a b < 1152921504606846976 := ⟨zo_nn, by
  have := @zo_lt a b 60 (by simpa using ha) (by simpa using hb)
  simpa using this⟩
