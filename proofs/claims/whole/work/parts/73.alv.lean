/-! ===== the class: states alive ===== -/
theorem lI_bv (n : Nat) : (lI (n : Int)).toBitVec = BitVec.ofNat 64 n := BitVec.ofInt_natCast 64 n
theorem lJ_c : ∀ k, k < 64 → ((nI k).toInt64 &&& 63).toBitVec = BitVec.ofNat 64 k := by decide +kernel
theorem lJ_sm : ∀ k, k < 64 → (BitVec.ofNat 64 k).smod 64 = BitVec.ofNat 64 k := by decide +kernel
theorem lJ_nat {x : Int} (h : 0 ≤ x) : ∃ n : Nat, x = (n : Int) := ⟨x.toNat, by omega⟩
theorem lJ_shr {m t : Int} (hm : 0 ≤ m ∧ m < 9223372036854775808) (ht : 0 ≤ t ∧ t < 64) : lI m >>> ((iI t).toInt64 &&& 63) = lI (zs m t) := by
  obtain ⟨n, rfl⟩ := lJ_nat hm.1
  obtain ⟨k, rfl⟩ := lJ_nat ht.1
  unfold zs
  apply Int64.toBitVec_inj.1
  rw [Int64.toBitVec_shiftRight, iI_nat, lJ_c k (by omega), lJ_sm k (by omega), lI_bv, lI_bv]
  apply BitVec.eq_of_toNat_eq
  rw [BitVec.sshiftRight_eq', BitVec.sshiftRight_eq_of_msb_false (BitVec.msb_eq_false_iff_two_mul_lt.mpr (by rw [BitVec.toNat_ofNat]; omega)), BitVec.toNat_ushiftRight, BitVec.toNat_ofNat, BitVec.toNat_ofNat, BitVec.toNat_ofNat, Nat.mod_eq_of_lt (show n < 2 ^ 64 by omega), Nat.mod_eq_of_lt (show k < 2 ^ 64 by omega), Int.toNat_natCast, Int.toNat_natCast]
  exact (Nat.mod_eq_of_lt (Nat.lt_of_le_of_lt (by rw [Nat.shiftRight_eq_div_pow]; exact Nat.div_le_self _ _) (show n < 2 ^ 64 by omega))).symm
theorem lJ_shl1 {t : Int} (ht : 0 ≤ t ∧ t < 62) : lI 1 <<< ((iI t).toInt64 &&& 63) = lI (zp t) := by
  obtain ⟨k, rfl⟩ := lJ_nat ht.1
  unfold zp
  apply Int64.toBitVec_inj.1
  have hp : 2 ^ k < 2 ^ 64 := Nat.pow_lt_pow_right (by decide) (by omega)
  rw [Int64.toBitVec_shiftLeft, iI_nat, lJ_c k (by omega), lJ_sm k (by omega), lI_bv, show lI 1 = lI ((1 : Nat) : Int) from rfl, lI_bv]
  apply BitVec.eq_of_toNat_eq
  rw [BitVec.shiftLeft_eq', BitVec.toNat_shiftLeft, BitVec.toNat_ofNat, BitVec.toNat_ofNat, BitVec.toNat_ofNat, Nat.mod_eq_of_lt (show k < 2 ^ 64 by omega), Nat.shiftLeft_eq, Int.toNat_natCast, Nat.mod_eq_of_lt (show 1 < 2 ^ 64 by decide), Nat.one_mul]
theorem lJ_and1 {m p : Int} : lI (zs m p) &&& lI 1 = lI (zb (zt m p)) := by
  have e : lI (zs m p) &&& lI 1 = lI (za (zs m p) 1) := by
    unfold zs za
    rw [Int.toNat_natCast, show lI 1 = lI ((1 : Nat) : Int) from rfl, show (1 : Int).toNat = 1 from rfl]
    apply Int64.toBitVec_inj.1
    rw [Int64.toBitVec_and, lI_bv, lI_bv, lI_bv, BitVec.ofNat_and]
  rw [e, zs_1]
theorem lJ_or {a b : Int} (ha : 0 ≤ a) (hb : 0 ≤ b) : lI a ||| lI b = lI (zo a b) := by
  obtain ⟨n, rfl⟩ := lJ_nat ha
  obtain ⟨k, rfl⟩ := lJ_nat hb
  unfold zo
  apply Int64.toBitVec_inj.1
  rw [Int64.toBitVec_or, lI_bv, lI_bv, lI_bv, Int.toNat_natCast, Int.toNat_natCast, BitVec.ofNat_or]
theorem lc_eq {a b : Int} (h : lcz a b = 0) : a = b := by
  unfold lcz at h
  split at h
  · omega
  · split at h
    · assumption
    · omega
theorem lc_ne {a b : Int} (h : ¬ lcz a b = 0) : a ≠ b := fun z => h (by unfold lcz; rw [z, if_neg (by omega), if_pos rfl])
theorem zb_nz {p : Prop} [Decidable p] (h : zb p ≠ 0) : p := Decidable.of_not_not (fun y => h (zb_f y))
/-- the positions of a state -/
abbrev wPo (w : Int → Int) (s t : Int) : Int := w (476 * s + (56 + t)) - w (476 * s + (56 + t)) % 2
theorem zp60 {t : Int} (h : 0 ≤ t ∧ t < 60) : 0 ≤ zp t ∧ zp t < 1152921504606846976 := by
  obtain ⟨k, rfl⟩ := lJ_nat h.1
  have : 2 ^ k < 2 ^ 60 := Nat.pow_lt_pow_right (by decide) (by omega)
  unfold zp
  rw [Int.toNat_natCast]
  generalize 2 ^ k = z at *
  omega
theorem zo60 {a b : Int} (ha : a < 1152921504606846976) (hb : b < 1152921504606846976) : 0 ≤ zo a b ∧ zo a b < 1152921504606846976 := ⟨zo_nn, by
  have := @zo_lt a b 60 (by simpa using ha) (by simpa using hb)
  simpa using this⟩
section C73
variable {G : p_G} {Y : Nat → Nat} {h0 : p_H} {P : (Option Value) ⊕ String → c_X → Prop} {d : Nat} {V : Nat → Int} {C : Nat → Int → Int} {J : c_J}
variable {a : Nat} {p : c_P} {w : Int → Int} {s : Int}
theorem q_aas_l {t : Int} (hp : J.2.2 a = some p) (hr : cPt p w s) (hO : wP w s) (hX : wX w s) (ht : 0 ≤ t ∧ t < w (476 * s + 5)) (hq : ∀ m, (0 ≤ m ∧ m < 1152921504606846976) → (∀ q, 0 ≤ q → (zt m q ↔ ∃ c, 0 ≤ c ∧ c < 6 ∧ q = w (476 * s + (116 + 6 * t + c)) ∧ wPo w s q ≠ 0)) → P (.inl (some (.long (lI m)))) (V, C, J))  : ∀ (zz : Nat) (c : Int) (m : Int), zz = (6 - c).toNat → (0 ≤ c ∧ c ≤ 6) → ((0 ≤ m ∧ m < 1152921504606846976)) → (∀ q, 0 ≤ q → (zt m q ↔ ∃ c', 0 ≤ c' ∧ c' < c ∧ q = w (476 * s + (116 + 6 * t + c')) ∧ wPo w s q ≠ 0)) → RW G mX5_aliveAfterState (c_I Y h0) P (d + 2) 0 0 5 [some (.ref a), some (.int (iI t)), some (.long (lI m)), none, some (.int (iI c)), none] [] (V, C, J) := by
  intro zz
  induction zz using Nat.strongRecOn with
  | _ zz ih =>
    intro c m hzz h1 hm hI
    have o5 := hO.2.2.2.1
    refine i_iload dX5_aliveAfterState_5 rfl ?_
    refine i_bipush dX5_aliveAfterState_7 (by decide) ?_
    refine i_icmp_ge (tgt := 43) dX5_aliveAfterState_9 (by decide) (by omega) (by omega) (fun c9 => ?_) (fun c9 => ?_)
    · -- jumps
      refine i_lload_n dX5_aliveAfterState_43 rfl ?_
      refine i_lreturn dX5_aliveAfterState_44 rfl ?_
      obtain rfl : c = 6 := by omega
      exact hq m hm hI
    · -- on
      refine i_aload_n dX5_aliveAfterState_12 rfl ?_
      refine i_iload_n dX5_aliveAfterState_13 rfl ?_
      refine i_iload dX5_aliveAfterState_14 rfl ?_
      refine u_callP (mc := 0) (ms := 0) (As := [_, _]) hp dX5_aliveAfterState_16 cfX5_after imX5_after seX5_after lX5_95 rfl rfl rfl rfl (Nat.le_of_ble_eq_true rfl) (Nat.zero_add _).symm (Nat.zero_add _).symm ?_
      refine q_after hp hr hO (by omega) (by omega) (fun q9 => RK.v ?_) (fun q9 => absurd ⟨⟨by omega, by omega⟩, by omega, by omega⟩ q9)
      have x1 := hO.2.2.2.2.2 t c (by omega) (by omega) (by omega) (by omega)
      have x2 := hO.2.2.1 (56 + w (476 * s + (116 + 6 * t + c))) (by omega) (by omega)
      refine i_istore dX5_aliveAfterState_19 (L' := [some _, some _, some _, none, some _, some _]) (by decide) rfl ?_
      refine i_aload_n dX5_aliveAfterState_21 rfl ?_
      refine i_iload dX5_aliveAfterState_22 rfl ?_
      refine u_callP (mc := 0) (ms := 0) (As := [_]) hp dX5_aliveAfterState_24 cfX5_positionsIn imX5_positionsIn seX5_positionsIn lX5_75 rfl rfl rfl rfl (Nat.le_of_ble_eq_true rfl) (Nat.zero_add _).symm (Nat.zero_add _).symm ?_
      refine q_positionsIn hp hr hO (by omega) (fun q9 => RK.v ?_) (fun q9 => absurd ⟨by omega, by omega⟩ q9)
      refine i_if_eq (tgt := 37) dX5_aliveAfterState_27 (by decide) (by omega) (fun c27 => ?_) (fun c27 => ?_)
      · -- jumps
        refine i_iinc dX5_aliveAfterState_37 rfl (L' := [some _, some _, some _, none, some _, some _]) (by decide) rfl ?_
        refine i_goto (tgt := 5) dX5_aliveAfterState_40 (by decide) ?_
        refine RW.wk (L' := [some _, some _, some _, none, some _, none]) (p_subL.at (by repeat (first | exact subL_nil | refine subL_s ?_ | refine subL_n ?_))) ?_
        refine ih _ ?_ (c + 1) m rfl (by omega) hm (fun q q0 => (hI q q0).trans ?_)
        · omega
        constructor
        · rintro ⟨c', c0, c1, h⟩; exact ⟨c', c0, by omega, h⟩
        · rintro ⟨c', c0, c1, e, h⟩; by_cases z : c' = c; · exact absurd (by rw [z] at e; rw [e]; assumption) (show ¬ wPo w s q = 0 from h)
          · exact ⟨c', c0, by omega, e, h⟩
      · -- on
        have z0 := @zp_nn (w (476 * s + (116 + 6 * t + c)))
        refine i_lload_n dX5_aliveAfterState_30 rfl ?_
        refine i_lconst dX5_aliveAfterState_31 (z := 1) (by decide) ?_
        refine i_iload dX5_aliveAfterState_32 rfl ?_
        refine i_lshl dX5_aliveAfterState_34 (lJ_shl1 (by omega)) ?_
        refine i_lor dX5_aliveAfterState_35 (lJ_or (by omega) (by omega)) ?_
        refine i_lstore_n dX5_aliveAfterState_36 (L' := [some _, some _, some _, none, some _, some _]) (by decide) rfl ?_
        refine i_iinc dX5_aliveAfterState_37 rfl (L' := [some _, some _, some _, none, some _, some _]) (by decide) rfl ?_
        refine i_goto (tgt := 5) dX5_aliveAfterState_40 (by decide) ?_
        refine RW.wk (L' := [some _, some _, some _, none, some _, none]) (p_subL.at (by repeat (first | exact subL_nil | refine subL_s ?_ | refine subL_n ?_))) ?_
        have z1 := zp60 (t := w (476 * s + (116 + 6 * t + c))) (by omega)
        refine ih _ ?_ (c + 1) _ rfl (by omega) (zo60 hm.2 z1.2) (fun q q0 => ?_)
        · omega
        rw [zt_zo, zt_zp x1.1 q0, hI q q0]
        constructor
        · rintro (⟨c', c0, c1, h⟩ | h); · exact ⟨c', c0, by omega, h⟩
          · exact ⟨c, by omega, by omega, h, by rw [h]; omega⟩
        · rintro ⟨c', c0, c1, e, h⟩; by_cases z : c' = c; · exact Or.inr (by rw [← z]; exact e)
          · exact Or.inl ⟨c', c0, by omega, e, h⟩
theorem q_aliveAfterState {t : Int} (hp : J.2.2 a = some p) (hr : cPt p w s) (hO : wP w s) (hX : wX w s) (ht : 0 ≤ t ∧ t < w (476 * s + 5)) (hq : ∀ m, (0 ≤ m ∧ m < 1152921504606846976) → (∀ q, 0 ≤ q → (zt m q ↔ ∃ c, 0 ≤ c ∧ c < 6 ∧ q = w (476 * s + (116 + 6 * t + c)) ∧ wPo w s q ≠ 0)) → P (.inl (some (.long (lI m)))) (V, C, J)) : RM G mX5_aliveAfterState (c_I Y h0) [.ref a, .int (iI t)] (d + 2) 0 0 P (V, C, J) := by
  refine RM.of (L := [some (.ref a), some (.int (iI t)), none, none, none, none]) cfX5_aliveAfterState rfl (Nat.le_of_ble_eq_true rfl) ?_
  refine i_lconst dX5_aliveAfterState_0 (z := 0) (by decide) ?_
  refine i_lstore_n dX5_aliveAfterState_1 (L' := [some _, some _, some _, none, none, none]) (by decide) rfl ?_
  refine i_const dX5_aliveAfterState_2 ?_
  refine i_istore dX5_aliveAfterState_3 (L' := [some _, some _, some _, none, some _, none]) (by decide) rfl ?_
  exact q_aas_l hp hr hO hX ht hq _ 0 0 rfl (by decide) (by decide) (fun q q0 => ⟨fun z => absurd z zt_0, fun ⟨c', c0, c1, _⟩ => by omega⟩)
theorem q_aa_l {M : Int} (hp : J.2.2 a = some p) (hr : cPt p w s) (hO : wP w s) (hX : wX w s) (hM : (0 ≤ M ∧ M < 1152921504606846976)) (hq : ∀ m, (0 ≤ m ∧ m < 1152921504606846976) → (∀ q, 0 ≤ q → (zt m q ↔ ∃ t, (0 ≤ t ∧ t < w (476 * s + 5)) ∧ zt M t ∧ ∃ c, 0 ≤ c ∧ c < 6 ∧ q = w (476 * s + (116 + 6 * t + c)) ∧ wPo w s q ≠ 0)) → P (.inl (some (.long (lI m)))) (V, C, J))  : ∀ (zz : Nat) (t : Int) (m : Int), zz = (w (476 * s + 5) - t).toNat → (0 ≤ t ∧ t ≤ w (476 * s + 5)) → ((0 ≤ m ∧ m < 1152921504606846976)) → (∀ q, 0 ≤ q → (zt m q ↔ ∃ t', (0 ≤ t' ∧ t' < t) ∧ zt M t' ∧ ∃ c, 0 ≤ c ∧ c < 6 ∧ q = w (476 * s + (116 + 6 * t' + c)) ∧ wPo w s q ≠ 0)) → RW G mX5_aliveAfter (c_I Y h0) P (d + 3) 0 0 5 [some (.ref a), some (.long (lI M)), none, some (.long (lI m)), none, some (.int (iI t))] [] (V, C, J) := by
  intro zz
  induction zz using Nat.strongRecOn with
  | _ zz ih =>
    intro t m hzz h1 hm hI
    have o5 := hO.2.2.2.1
    have r5 := hr.1.2.2.2.2.2
    refine i_iload dX5_aliveAfter_5 rfl ?_
    refine i_aload_n dX5_aliveAfter_7 rfl ?_
    refine u_getP (vv := .int (iI (p.1 5))) hp dX5_aliveAfter_8 fX5_44.o rfl ?_
    refine i_icmp_ge (tgt := 40) dX5_aliveAfter_11 (by decide) (by omega) (by omega) (fun c11 => ?_) (fun c11 => ?_)
    · -- jumps
      refine i_lload_n dX5_aliveAfter_40 rfl ?_
      refine i_lreturn dX5_aliveAfter_41 rfl ?_
      obtain rfl : t = w (476 * s + 5) := by omega
      exact hq m hm hI
    · -- on
      refine i_lload_n dX5_aliveAfter_14 rfl ?_
      refine i_iload dX5_aliveAfter_15 rfl ?_
      refine i_lshr dX5_aliveAfter_17 (lJ_shr (by omega) (by omega)) ?_
      refine i_lconst dX5_aliveAfter_18 (z := 1) (by decide) ?_
      refine i_land dX5_aliveAfter_19 lJ_and1 ?_
      refine i_lconst dX5_aliveAfter_20 (z := 0) (by decide) ?_
      refine i_lcmp dX5_aliveAfter_21 (lI_cmp (by have := @zb_01 (zt M t) _; omega) (by omega)) ?_
      refine i_if_eq (tgt := 34) dX5_aliveAfter_22 (by decide) lc_rg (fun c22 => ?_) (fun c22 => ?_)
      · -- jumps
        have c22 := lc_eq c22
        have c22 := zb_0.mp c22
        refine i_iinc dX5_aliveAfter_34 rfl (L' := [some _, some _, none, some _, none, some _]) (by decide) rfl ?_
        refine i_goto (tgt := 5) dX5_aliveAfter_37 (by decide) ?_
        refine ih _ ?_ (t + 1) m rfl (by omega) hm (fun q q0 => (hI q q0).trans ?_)
        · omega
        constructor
        · rintro ⟨t', t0, h⟩; exact ⟨t', by omega, h⟩
        · rintro ⟨t', t0, h⟩; by_cases z : t' = t; · rw [z] at h; exact absurd h.1 (by assumption)
          · exact ⟨t', by omega, h⟩
      · -- on
        have c22 := lc_ne c22
        have c22 := zb_nz c22
        refine i_lload_n dX5_aliveAfter_25 rfl ?_
        refine i_aload_n dX5_aliveAfter_26 rfl ?_
        refine i_iload dX5_aliveAfter_27 rfl ?_
        refine u_callP (mc := 0) (ms := 0) (As := [_]) hp dX5_aliveAfter_29 cfX5_aliveAfterState imX5_aliveAfterState seX5_aliveAfterState lX5_91 rfl rfl rfl rfl (Nat.le_of_ble_eq_true rfl) (Nat.zero_add _).symm (Nat.zero_add _).symm ?_
        refine q_aliveAfterState hp hr hO hX (by omega) (fun m1 hm1 hz1 => RK.v ?_)
        refine i_lor dX5_aliveAfter_32 (lJ_or (by omega) (by omega)) ?_
        refine i_lstore_n dX5_aliveAfter_33 (L' := [some _, some _, none, some _, none, some _]) (by decide) rfl ?_
        refine i_iinc dX5_aliveAfter_34 rfl (L' := [some _, some _, none, some _, none, some _]) (by decide) rfl ?_
        refine i_goto (tgt := 5) dX5_aliveAfter_37 (by decide) ?_
        refine ih _ ?_ (t + 1) _ rfl (by omega) (zo60 hm.2 hm1.2) (fun q q0 => ?_)
        · omega
        rw [zt_zo, hI q q0, hz1 q q0]
        constructor
        · rintro (⟨t', t0, h⟩ | h); · exact ⟨t', by omega, h⟩
          · exact ⟨t, by omega, by assumption, h⟩
        · rintro ⟨t', t0, h⟩; by_cases z : t' = t; · rw [z] at h; exact Or.inr h.2
          · exact Or.inl ⟨t', by omega, h⟩
theorem q_aliveAfter {M : Int} (hp : J.2.2 a = some p) (hr : cPt p w s) (hO : wP w s) (hX : wX w s) (hM : (0 ≤ M ∧ M < 1152921504606846976)) (hq : ∀ m, (0 ≤ m ∧ m < 1152921504606846976) → (∀ q, 0 ≤ q → (zt m q ↔ ∃ t, (0 ≤ t ∧ t < w (476 * s + 5)) ∧ zt M t ∧ ∃ c, 0 ≤ c ∧ c < 6 ∧ q = w (476 * s + (116 + 6 * t + c)) ∧ wPo w s q ≠ 0)) → P (.inl (some (.long (lI m)))) (V, C, J)) : RM G mX5_aliveAfter (c_I Y h0) [.ref a, .long (lI M)] (d + 3) 0 0 P (V, C, J) := by
  refine RM.of (L := [some (.ref a), some (.long (lI M)), none, none, none, none]) cfX5_aliveAfter rfl (Nat.le_of_ble_eq_true rfl) ?_
  refine i_lconst dX5_aliveAfter_0 (z := 0) (by decide) ?_
  refine i_lstore_n dX5_aliveAfter_1 (L' := [some _, some _, none, some _, none, none]) (by decide) rfl ?_
  refine i_const dX5_aliveAfter_2 ?_
  refine i_istore dX5_aliveAfter_3 (L' := [some _, some _, none, some _, none, some _]) (by decide) rfl ?_
  exact q_aa_l hp hr hO hX hM hq _ 0 0 rfl (by have := hO.2.2.2.1; omega) (by decide) (fun q q0 => ⟨fun z => absurd z zt_0, fun ⟨t', t0, _⟩ => by omega⟩)
theorem q_any_l {M : Int} (hp : J.2.2 a = some p) (hr : cPt p w s) (hO : wP w s) (hX : wX w s) (hM : (0 ≤ M ∧ M < 1152921504606846976)) (hq : P (.inl (some (.int (iI (zc (∃ t, (0 ≤ t ∧ t < w (476 * s + 5)) ∧ zt M t ∧ wAcc w s t)))))) (V, C, J))  : ∀ (zz : Nat) (t : Int), zz = (w (476 * s + 5) - t).toNat → (0 ≤ t ∧ t ≤ w (476 * s + 5)) → (∀ t', 0 ≤ t' → t' < t → ¬ (zt M t' ∧ wAcc w s t')) → RW G mX5_anyAccepts (c_I Y h0) P (d + 2) 0 0 2 [some (.ref a), some (.long (lI M)), none, some (.int (iI t))] [] (V, C, J) := by
  intro zz
  induction zz using Nat.strongRecOn with
  | _ zz ih =>
    intro t hzz h1 hI
    have o5 := hO.2.2.2.1
    have r5 := hr.1.2.2.2.2.2
    refine i_iload_n dX5_anyAccepts_2 rfl ?_
    refine i_aload_n dX5_anyAccepts_3 rfl ?_
    refine u_getP (vv := .int (iI (p.1 5))) hp dX5_anyAccepts_4 fX5_44.o rfl ?_
    refine i_icmp_ge (tgt := 36) dX5_anyAccepts_7 (by decide) (by omega) (by omega) (fun c7 => ?_) (fun c7 => ?_)
    · -- jumps
      refine i_const dX5_anyAccepts_36 ?_
      refine i_ireturn dX5_anyAccepts_37 rfl rfl ?_
      rw [zc_f (fun ⟨t', t0, z9⟩ => hI t' t0.1 (by omega) z9)] at hq; exact hq
    · -- on
      refine i_lload_n dX5_anyAccepts_10 rfl ?_
      refine i_iload_n dX5_anyAccepts_11 rfl ?_
      refine i_lshr dX5_anyAccepts_12 (lJ_shr (by omega) (by omega)) ?_
      refine i_lconst dX5_anyAccepts_13 (z := 1) (by decide) ?_
      refine i_land dX5_anyAccepts_14 lJ_and1 ?_
      refine i_lconst dX5_anyAccepts_15 (z := 0) (by decide) ?_
      refine i_lcmp dX5_anyAccepts_16 (lI_cmp (by have := @zb_01 (zt M t) _; omega) (by omega)) ?_
      refine i_if_eq (tgt := 30) dX5_anyAccepts_17 (by decide) lc_rg (fun c17 => ?_) (fun c17 => ?_)
      · -- jumps
        have c17 := lc_eq c17
        have c17 := zb_0.mp c17
        refine i_iinc dX5_anyAccepts_30 rfl (L' := [some _, some _, none, some _]) (by decide) rfl ?_
        refine i_goto (tgt := 2) dX5_anyAccepts_33 (by decide) ?_
        refine ih _ ?_ (t + 1) rfl (by omega) (fun t' t0 t1 z9 => ?_)
        · omega
        by_cases z : t' = t
        · rw [z] at z9; first | exact absurd z9.1 (by assumption) | exact absurd z9.2 (by assumption)
        · exact hI t' t0 (by omega) z9
      · -- on
        have c17 := lc_ne c17
        have c17 := zb_nz c17
        refine i_aload_n dX5_anyAccepts_20 rfl ?_
        refine i_iload_n dX5_anyAccepts_21 rfl ?_
        refine u_callP (mc := 0) (ms := 0) (As := [_]) hp dX5_anyAccepts_22 cfX5_accepts imX5_accepts seX5_accepts lX5_87 rfl rfl rfl rfl (Nat.le_of_ble_eq_true rfl) (Nat.zero_add _).symm (Nat.zero_add _).symm ?_
        refine q_accepts hp hr hO hX (by omega) (fun _ => RK.v ?_) (fun q9 => absurd ⟨by omega, by omega⟩ q9)
        refine i_ifeq_b (tgt := 30) dX5_anyAccepts_25 (by decide) (fun c25 => ?_) (fun c25 => ?_)
        · -- jumps
          refine i_iinc dX5_anyAccepts_30 rfl (L' := [some _, some _, none, some _]) (by decide) rfl ?_
          refine i_goto (tgt := 2) dX5_anyAccepts_33 (by decide) ?_
          refine ih _ ?_ (t + 1) rfl (by omega) (fun t' t0 t1 z9 => ?_)
          · omega
          by_cases z : t' = t
          · rw [z] at z9; first | exact absurd z9.1 (by assumption) | exact absurd z9.2 (by assumption)
          · exact hI t' t0 (by omega) z9
        · -- on
          refine i_const dX5_anyAccepts_28 ?_
          refine i_ireturn dX5_anyAccepts_29 rfl rfl ?_
          rw [zc_t ⟨t, by omega, by assumption, by assumption⟩] at hq; exact hq
theorem q_anyAccepts {M : Int} (hp : J.2.2 a = some p) (hr : cPt p w s) (hO : wP w s) (hX : wX w s) (hM : (0 ≤ M ∧ M < 1152921504606846976)) (hq : P (.inl (some (.int (iI (zc (∃ t, (0 ≤ t ∧ t < w (476 * s + 5)) ∧ zt M t ∧ wAcc w s t)))))) (V, C, J)) : RM G mX5_anyAccepts (c_I Y h0) [.ref a, .long (lI M)] (d + 2) 0 0 P (V, C, J) := by
  refine RM.of (L := [some (.ref a), some (.long (lI M)), none, none]) cfX5_anyAccepts rfl (Nat.le_of_ble_eq_true rfl) ?_
  refine i_const dX5_anyAccepts_0 ?_
  refine i_istore_n dX5_anyAccepts_1 (L' := [some _, some _, none, some _]) (by decide) rfl ?_
  exact q_any_l hp hr hO hX hM hq _ 0 rfl (by have := hO.2.2.2.1; omega) (fun t' t0 t1 => by omega)
end C73
