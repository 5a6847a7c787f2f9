/-! ===== the reference: queries without loops, small changes ===== -/
theorem iI_even {a : Int} (h : 0 ≤ a ∧ a < 2147483648) : iI a &&& iI (-2) = iI (a - a % 2) := by
  rw [iI_nn h.1, iI_nn (by omega : 0 ≤ a - a % 2)]
  apply Int32.toBitVec_inj.1
  show (nI a.toNat).toBitVec &&& (4294967294#32) = (nI (a - a % 2).toNat).toBitVec
  apply BitVec.eq_of_toNat_eq
  rw [BitVec.toNat_and, pk_tn (by omega), pk_tn (by omega)]
  show a.toNat &&& 4294967294 = _
  apply Nat.eq_of_testBit_eq
  intro i
  rw [Nat.testBit_and]
  have e1 : (a - a % 2).toNat = 2 * (a.toNat / 2) := by omega
  rw [e1]
  by_cases hi : i < 32
  · cases i with
    | zero => simp [Nat.testBit_zero]
    | succ i =>
      rw [Nat.testBit_succ, Nat.testBit_succ, Nat.testBit_succ, Nat.mul_div_cancel_left _ (by decide)]
      have : (4294967294 / 2 : Nat) = 2 ^ 31 - 1 := by decide
      rw [this, Nat.testBit_two_pow_sub_one]
      simp
      intro _
      omega
  · rw [Nat.testBit_lt_two_pow (x := a.toNat) (Nat.lt_of_lt_of_le (by omega : a.toNat < 2 ^ 32) (Nat.pow_le_pow_right (by decide) (by omega))), Nat.testBit_lt_two_pow (x := 2 * (a.toNat / 2)) (Nat.lt_of_lt_of_le (by omega : 2 * (a.toNat / 2) < 2 ^ 32) (Nat.pow_le_pow_right (by decide) (by omega)))]
    rfl
section M11
variable {G : p_G} {Y : Nat → Nat} {h0 : p_H} {P : (Option Value) ⊕ String → m_X → Prop} {d : Nat} {V : Nat → Int} {C : Nat → Int → Int} {J : Int → Int}
theorem k_told {s x : Int} (hO : wOK (C 0)) (h_s : -2147483648 ≤ s ∧ s < 2147483648) (hx : 0 ≤ x ∧ x < 476) (hp1 : ¬ (s = 0 ∨ s = 1) → P (.inl (some (.int (iI 0)))) (vu V 12 1, C, J)) (hp0 : (s = 0 ∨ s = 1) → P (.inl (some (.int (iI (C 0 (476 * s + x)))))) (vu V 12 0, C, J)) : RM G mX11_told (m_I Y h0) [.ref (Y 38), .int (iI s), .int (iI x)] (d + 1) 0 0 P (V, C, J) := by
  refine RM.of (L := [some (.ref (Y 38)), some (.int (iI s)), some (.int (iI x))]) cfX11_told rfl (Nat.le_of_ble_eq_true rfl) ?_
  refine i_aload_n dX11_told_0 rfl ?_
  refine i_iload_n dX11_told_1 rfl ?_
  refine t_callS (As := [_]) dX11_told_2 cfX11_isSlot stX11_isSlot lX11_112 rfl rfl (Nat.le_of_ble_eq_true rfl) ?_
  refine k_isSlot (by omega) (RK.v ?_)
  refine i_ifne_b (tgt := 12) dX11_told_5 (by decide) (fun c5 => ?_) (fun c5 => ?_)
  · -- jumps
    refine i_const dX11_told_12 ?_
    refine t_callV (As := [_]) dX11_told_13 cfX11_throwsOne imX11_throwsOne seX11_throwsOne lX11_209 rfl rfl rfl (Nat.le_of_ble_eq_true rfl) ?_
    refine k_throwsOne (by first | exact zb_or | omega) (RK.v ?_)
    refine i_if_eq (tgt := 23) dX11_told_16 (by decide) (by decide) (fun c16 => ?_) (fun c16 => by omega)
    refine i_aload_n dX11_told_23 rfl ?_
    refine i_iload_n dX11_told_24 rfl ?_
    refine i_iload_n dX11_told_25 rfl ?_
    refine t_callV (As := [_, _]) dX11_told_26 cfX11_of imX11_of seX11_of lX11_115 rfl rfl rfl (Nat.le_of_ble_eq_true rfl) ?_
    refine k_of (w := C 0) rfl (by omega) (RK.v ?_)
    refine i_ireturn dX11_told_29 rfl rfl ?_
    exact hp0 (by omega)
  · -- on
    refine i_const dX11_told_8 ?_
    refine i_goto (tgt := 13) dX11_told_9 (by decide) ?_
    refine t_callV (As := [_]) dX11_told_13 cfX11_throwsOne imX11_throwsOne seX11_throwsOne lX11_209 rfl rfl rfl (Nat.le_of_ble_eq_true rfl) ?_
    refine k_throwsOne (by first | exact zb_or | omega) (RK.v ?_)
    refine i_if_eq (tgt := 23) dX11_told_16 (by decide) (by decide) (fun c16 => by omega) (fun c16 => ?_)
    refine i_const dX11_told_19 ?_
    refine i_goto (tgt := 29) dX11_told_20 (by decide) ?_
    refine i_ireturn dX11_told_29 rfl rfl ?_
    exact hp1 (by omega)
theorem k_positionCount {s : Int} (hO : wOK (C 0)) (h_s : -2147483648 ≤ s ∧ s < 2147483648)  (hp1 : ¬ (s = 0 ∨ s = 1) → P (.inl (some (.int (iI 0)))) (vu V 12 1, C, J)) (hp0 : (s = 0 ∨ s = 1) → P (.inl (some (.int (iI (C 0 (476 * s + 0)))))) (vu V 12 0, C, J)) : RM G mX11_positionCount (m_I Y h0) [.ref (Y 38), .int (iI s)] (d + 2) 0 0 P (V, C, J) := by
  refine RM.of (L := [some (.ref (Y 38)), some (.int (iI s))]) cfX11_positionCount rfl (Nat.le_of_ble_eq_true rfl) ?_
  refine i_aload_n dX11_positionCount_0 rfl ?_
  refine i_iload_n dX11_positionCount_1 rfl ?_
  refine i_const dX11_positionCount_2 ?_
  refine t_callV (As := [_, _]) dX11_positionCount_3 cfX11_told imX11_told seX11_told lX11_247 rfl rfl rfl (Nat.le_of_ble_eq_true rfl) ?_
  refine k_told hO (by omega) (by omega) (fun g0 => RK.v ?_) (fun g0 => RK.v ?_)
  · -- case
    refine i_ireturn dX11_positionCount_6 rfl rfl ?_
    exact hp1 (by omega)
  · -- case
    refine i_ireturn dX11_positionCount_6 rfl rfl ?_
    exact hp0 (by omega)
theorem k_firstPositions {s : Int} (hO : wOK (C 0)) (h_s : -2147483648 ≤ s ∧ s < 2147483648)  (hp1 : ¬ (s = 0 ∨ s = 1) → P (.inl (some (.int (iI 0)))) (vu V 12 1, C, J)) (hp0 : (s = 0 ∨ s = 1) → P (.inl (some (.int (iI (C 0 (476 * s + 2)))))) (vu V 12 0, C, J)) : RM G mX11_firstPositions (m_I Y h0) [.ref (Y 38), .int (iI s)] (d + 2) 0 0 P (V, C, J) := by
  refine RM.of (L := [some (.ref (Y 38)), some (.int (iI s))]) cfX11_firstPositions rfl (Nat.le_of_ble_eq_true rfl) ?_
  refine i_aload_n dX11_firstPositions_0 rfl ?_
  refine i_iload_n dX11_firstPositions_1 rfl ?_
  refine i_const dX11_firstPositions_2 ?_
  refine t_callV (As := [_, _]) dX11_firstPositions_3 cfX11_told imX11_told seX11_told lX11_247 rfl rfl rfl (Nat.le_of_ble_eq_true rfl) ?_
  refine k_told hO (by omega) (by omega) (fun g0 => RK.v ?_) (fun g0 => RK.v ?_)
  · -- case
    refine i_ireturn dX11_firstPositions_6 rfl rfl ?_
    exact hp1 (by omega)
  · -- case
    refine i_ireturn dX11_firstPositions_6 rfl rfl ?_
    exact hp0 (by omega)
theorem k_lastPositions {s : Int} (hO : wOK (C 0)) (h_s : -2147483648 ≤ s ∧ s < 2147483648)  (hp1 : ¬ (s = 0 ∨ s = 1) → P (.inl (some (.int (iI 0)))) (vu V 12 1, C, J)) (hp0 : (s = 0 ∨ s = 1) → P (.inl (some (.int (iI (C 0 (476 * s + 3)))))) (vu V 12 0, C, J)) : RM G mX11_lastPositions (m_I Y h0) [.ref (Y 38), .int (iI s)] (d + 2) 0 0 P (V, C, J) := by
  refine RM.of (L := [some (.ref (Y 38)), some (.int (iI s))]) cfX11_lastPositions rfl (Nat.le_of_ble_eq_true rfl) ?_
  refine i_aload_n dX11_lastPositions_0 rfl ?_
  refine i_iload_n dX11_lastPositions_1 rfl ?_
  refine i_const dX11_lastPositions_2 ?_
  refine t_callV (As := [_, _]) dX11_lastPositions_3 cfX11_told imX11_told seX11_told lX11_247 rfl rfl rfl (Nat.le_of_ble_eq_true rfl) ?_
  refine k_told hO (by omega) (by omega) (fun g0 => RK.v ?_) (fun g0 => RK.v ?_)
  · -- case
    refine i_ireturn dX11_lastPositions_6 rfl rfl ?_
    exact hp1 (by omega)
  · -- case
    refine i_ireturn dX11_lastPositions_6 rfl rfl ?_
    exact hp0 (by omega)
theorem k_loopCount {s : Int} (hO : wOK (C 0)) (h_s : -2147483648 ≤ s ∧ s < 2147483648)  (hp1 : ¬ (s = 0 ∨ s = 1) → P (.inl (some (.int (iI 0)))) (vu V 12 1, C, J)) (hp0 : (s = 0 ∨ s = 1) → P (.inl (some (.int (iI (C 0 (476 * s + 4)))))) (vu V 12 0, C, J)) : RM G mX11_loopCount (m_I Y h0) [.ref (Y 38), .int (iI s)] (d + 2) 0 0 P (V, C, J) := by
  refine RM.of (L := [some (.ref (Y 38)), some (.int (iI s))]) cfX11_loopCount rfl (Nat.le_of_ble_eq_true rfl) ?_
  refine i_aload_n dX11_loopCount_0 rfl ?_
  refine i_iload_n dX11_loopCount_1 rfl ?_
  refine i_const dX11_loopCount_2 ?_
  refine t_callV (As := [_, _]) dX11_loopCount_3 cfX11_told imX11_told seX11_told lX11_247 rfl rfl rfl (Nat.le_of_ble_eq_true rfl) ?_
  refine k_told hO (by omega) (by omega) (fun g0 => RK.v ?_) (fun g0 => RK.v ?_)
  · -- case
    refine i_ireturn dX11_loopCount_6 rfl rfl ?_
    exact hp1 (by omega)
  · -- case
    refine i_ireturn dX11_loopCount_6 rfl rfl ?_
    exact hp0 (by omega)
theorem k_stateCount {s : Int} (hO : wOK (C 0)) (h_s : -2147483648 ≤ s ∧ s < 2147483648)  (hp1 : ¬ (s = 0 ∨ s = 1) → P (.inl (some (.int (iI 0)))) (vu V 12 1, C, J)) (hp0 : (s = 0 ∨ s = 1) → P (.inl (some (.int (iI (C 0 (476 * s + 5)))))) (vu V 12 0, C, J)) : RM G mX11_stateCount (m_I Y h0) [.ref (Y 38), .int (iI s)] (d + 2) 0 0 P (V, C, J) := by
  refine RM.of (L := [some (.ref (Y 38)), some (.int (iI s))]) cfX11_stateCount rfl (Nat.le_of_ble_eq_true rfl) ?_
  refine i_aload_n dX11_stateCount_0 rfl ?_
  refine i_iload_n dX11_stateCount_1 rfl ?_
  refine i_const dX11_stateCount_2 ?_
  refine t_callV (As := [_, _]) dX11_stateCount_3 cfX11_told imX11_told seX11_told lX11_247 rfl rfl rfl (Nat.le_of_ble_eq_true rfl) ?_
  refine k_told hO (by omega) (by omega) (fun g0 => RK.v ?_) (fun g0 => RK.v ?_)
  · -- case
    refine i_ireturn dX11_stateCount_6 rfl rfl ?_
    exact hp1 (by omega)
  · -- case
    refine i_ireturn dX11_stateCount_6 rfl rfl ?_
    exact hp0 (by omega)
theorem k_acceptsEmptyWord {s : Int} (hO : wOK (C 0)) (h_s : -2147483648 ≤ s ∧ s < 2147483648)  (hp1 : ¬ (s = 0 ∨ s = 1) → P (.inl (some (.int (iI 0)))) (vu V 12 1, C, J)) (hp0 : (s = 0 ∨ s = 1) → P (.inl (some (.int (iI (zb (C 0 (476 * s + 1) = 1)))))) (vu V 12 0, C, J)) : RM G mX11_acceptsEmptyWord (m_I Y h0) [.ref (Y 38), .int (iI s)] (d + 2) 0 0 P (V, C, J) := by
  refine RM.of (L := [some (.ref (Y 38)), some (.int (iI s))]) cfX11_acceptsEmptyWord rfl (Nat.le_of_ble_eq_true rfl) ?_
  refine i_aload_n dX11_acceptsEmptyWord_0 rfl ?_
  refine i_iload_n dX11_acceptsEmptyWord_1 rfl ?_
  refine i_const dX11_acceptsEmptyWord_2 ?_
  refine t_callV (As := [_, _]) dX11_acceptsEmptyWord_3 cfX11_told imX11_told seX11_told lX11_247 rfl rfl rfl (Nat.le_of_ble_eq_true rfl) ?_
  refine k_told hO (by omega) (by omega) (fun g0 => RK.v ?_) (fun g0 => RK.v ?_)
  · -- case
    refine i_const dX11_acceptsEmptyWord_6 ?_
    refine i_icmp_ne (tgt := 14) dX11_acceptsEmptyWord_7 (by decide) (by decide) (by decide) (fun c7 => ?_) (fun c7 => by omega)
    refine i_const dX11_acceptsEmptyWord_14 ?_
    refine i_ireturn dX11_acceptsEmptyWord_15 rfl rfl ?_
    exact hp1 (by omega)
  · -- case
    refine i_const dX11_acceptsEmptyWord_6 ?_
    have b1 := (hO.1 s (by omega)).2.1
    refine i_icmp_ne (tgt := 14) dX11_acceptsEmptyWord_7 (by decide) (by omega) (by omega) (fun c7 => ?_) (fun c7 => ?_)
    · -- jumps
      refine i_const dX11_acceptsEmptyWord_14 ?_
      refine i_ireturn dX11_acceptsEmptyWord_15 rfl rfl ?_
      have hp := hp0 (by omega)
      first | (rw [zb_t (by omega)] at hp; exact hp) | (rw [zb_f (by omega)] at hp; exact hp)
    · -- on
      refine i_const dX11_acceptsEmptyWord_10 ?_
      refine i_goto (tgt := 15) dX11_acceptsEmptyWord_11 (by decide) ?_
      refine i_ireturn dX11_acceptsEmptyWord_15 rfl rfl ?_
      have hp := hp0 (by omega)
      first | (rw [zb_t (by omega)] at hp; exact hp) | (rw [zb_f (by omega)] at hp; exact hp)
theorem wOK.pos {w : Int → Int} (h : wOK w) {s : Int} (hs : s = 0 ∨ s = 1) : 0 ≤ w (476 * s + 0) ∧ w (476 * s + 0) ≤ 24 := (h.1 s hs).1
theorem wOK.sts {w : Int → Int} (h : wOK w) {s : Int} (hs : s = 0 ∨ s = 1) : 1 ≤ w (476 * s + 5) ∧ w (476 * s + 5) ≤ 60 := (h.1 s hs).2.2.2.1
theorem wOK.msk {w : Int → Int} (h : wOK w) {s : Int} (hs : s = 0 ∨ s = 1) (k : Int) (h0 : 0 ≤ k) (h1 : k < 116) : 0 ≤ w (476 * s + k) ∧ w (476 * s + k) < 33554432 := (h.1 s hs).2.2.1 k h0 h1
theorem wOK.str {w : Int → Int} (h : wOK w) {s : Int} (hs : s = 0 ∨ s = 1) (p : Int) (h0 : 1 ≤ p) (h1 : p ≤ 24) : 0 ≤ w (476 * s + (31 + p)) ∧ w (476 * s + (31 + p)) ≤ 6 := (h.1 s hs).2.2.2.2.1 p h0 h1
theorem wOK.nxt {w : Int → Int} (h : wOK w) {s : Int} (hs : s = 0 ∨ s = 1) {t c : Int} (h0 : 0 ≤ t) (h1 : t < w (476 * s + 5)) (h2 : 0 ≤ c) (h3 : c < 6) : 0 ≤ w (476 * s + (116 + 6 * t + c)) ∧ w (476 * s + (116 + 6 * t + c)) < w (476 * s + 5) := (h.1 s hs).2.2.2.2.2 t c h0 h1 h2 h3
theorem wOK.wk {w : Int → Int} (h : wOK w) {k : Int} (h0 : 0 ≤ k) (h1 : k < w 952) : (w (953 + 3 * k + 0) = 0 ∨ w (953 + 3 * k + 0) = 1) ∧ 0 ≤ w (953 + 3 * k + 1) ∧ w (953 + 3 * k + 1) < w (476 * w (953 + 3 * k + 0) + 5) := h.2.2.1 k h0 h1
theorem wOK.gate {w : Int → Int} (h : wOK w) {c b : Int} (h0 : 0 ≤ c) (h1 : c < 6) (hb : b = 0 ∨ b = 1) : w (971 + 2 * c + b) = 0 ∨ w (971 + 2 * c + b) = 1 := h.2.2.2.1 c b h0 h1 hb
theorem wOK.nght {w : Int → Int} (h : wOK w) : w 983 = 0 ∨ w 983 = 1 := h.2.2.2.2
theorem k_streetAt {s p : Int} (hO : wOK (C 0)) (h_s : -2147483648 ≤ s ∧ s < 2147483648) (h_p : -2147483648 ≤ p ∧ p < 2147483648)  (hp1 : ¬ ((s = 0 ∨ s = 1) ∧ 1 ≤ p ∧ p ≤ C 0 (476 * s + 0)) → P (.inl (some (.int (iI 0)))) (vu V 12 1, C, J)) (hp0 : ((s = 0 ∨ s = 1) ∧ 1 ≤ p ∧ p ≤ C 0 (476 * s + 0)) → P (.inl (some (.int (iI (if C 0 (476 * s + (31 + p)) = 6 then -1 else C 0 (476 * s + (31 + p))))))) (vu V 12 0, C, J)) : RM G mX11_streetAt (m_I Y h0) [.ref (Y 38), .int (iI s), .int (iI p)] (d + 2) 0 0 P (V, C, J) := by
  refine RM.of (L := [some (.ref (Y 38)), some (.int (iI s)), some (.int (iI p)), none]) cfX11_streetAt rfl (Nat.le_of_ble_eq_true rfl) ?_
  refine i_aload_n dX11_streetAt_0 rfl ?_
  refine i_aload_n dX11_streetAt_1 rfl ?_
  refine i_iload_n dX11_streetAt_2 rfl ?_
  refine i_iload_n dX11_streetAt_3 rfl ?_
  refine t_callV (As := [_, _]) dX11_streetAt_4 cfX11_isPosition imX11_isPosition seX11_isPosition lX11_250 rfl rfl rfl (Nat.le_of_ble_eq_true rfl) ?_
  refine k_isPosition (w := C 0) rfl (by omega) (by omega) hO (RK.v ?_)
  refine i_ifne_b (tgt := 14) dX11_streetAt_7 (by decide) (fun c7 => ?_) (fun c7 => ?_)
  · -- jumps
    refine i_const dX11_streetAt_14 ?_
    refine t_callV (As := [_]) dX11_streetAt_15 cfX11_throwsOne imX11_throwsOne seX11_throwsOne lX11_209 rfl rfl rfl (Nat.le_of_ble_eq_true rfl) ?_
    refine k_throwsOne (by first | exact zb_or | omega) (RK.v ?_)
    refine i_if_eq (tgt := 23) dX11_streetAt_18 (by decide) (by decide) (fun c18 => ?_) (fun c18 => by omega)
    refine i_aload_n dX11_streetAt_23 rfl ?_
    refine i_iload_n dX11_streetAt_24 rfl ?_
    refine i_bipush dX11_streetAt_25 (by decide) ?_
    refine i_iload_n dX11_streetAt_27 rfl ?_
    refine i_add dX11_streetAt_28 ?_
    refine t_callV (As := [_, _]) dX11_streetAt_29 cfX11_of imX11_of seX11_of lX11_115 rfl rfl rfl (Nat.le_of_ble_eq_true rfl) ?_
    have b2 := hO.pos (s := s) (by omega)
    have b1 := hO.str (s := s) (by omega) p (by omega) (by omega)
    refine k_of (w := C 0) rfl (by omega) (RK.v ?_)
    refine i_istore_n dX11_streetAt_32 (L' := [some _, some _, some _, some _]) (by decide) rfl ?_
    refine i_iload_n dX11_streetAt_33 rfl ?_
    refine i_bipush dX11_streetAt_34 (by decide) ?_
    refine i_icmp_ne (tgt := 43) dX11_streetAt_36 (by decide) (by omega) (by omega) (fun c36 => ?_) (fun c36 => ?_)
    · -- jumps
      refine i_iload_n dX11_streetAt_43 rfl ?_
      refine i_ireturn dX11_streetAt_44 rfl rfl ?_
      have hp := hp0 (by omega)
      first | (rw [if_pos (by omega)] at hp; exact hp) | (rw [if_neg (by omega)] at hp; exact hp)
    · -- on
      refine i_const dX11_streetAt_39 ?_
      refine i_goto (tgt := 44) dX11_streetAt_40 (by decide) ?_
      refine i_ireturn dX11_streetAt_44 rfl rfl ?_
      have hp := hp0 (by omega)
      first | (rw [if_pos (by omega)] at hp; exact hp) | (rw [if_neg (by omega)] at hp; exact hp)
  · -- on
    refine i_const dX11_streetAt_10 ?_
    refine i_goto (tgt := 15) dX11_streetAt_11 (by decide) ?_
    refine t_callV (As := [_]) dX11_streetAt_15 cfX11_throwsOne imX11_throwsOne seX11_throwsOne lX11_209 rfl rfl rfl (Nat.le_of_ble_eq_true rfl) ?_
    refine k_throwsOne (by first | exact zb_or | omega) (RK.v ?_)
    refine i_if_eq (tgt := 23) dX11_streetAt_18 (by decide) (by decide) (fun c18 => by omega) (fun c18 => ?_)
    refine i_const dX11_streetAt_21 ?_
    refine i_ireturn dX11_streetAt_22 rfl rfl ?_
    exact hp1 (by omega)
theorem k_followPositions {s p : Int} (hO : wOK (C 0)) (h_s : -2147483648 ≤ s ∧ s < 2147483648) (h_p : -2147483648 ≤ p ∧ p < 2147483648)  (hp1 : ¬ ((s = 0 ∨ s = 1) ∧ 1 ≤ p ∧ p ≤ C 0 (476 * s + 0)) → P (.inl (some (.int (iI 0)))) (vu V 12 1, C, J)) (hp0 : ((s = 0 ∨ s = 1) ∧ 1 ≤ p ∧ p ≤ C 0 (476 * s + 0)) → P (.inl (some (.int (iI (C 0 (476 * s + (6 + p))))))) (vu V 12 0, C, J)) : RM G mX11_followPositions (m_I Y h0) [.ref (Y 38), .int (iI s), .int (iI p)] (d + 2) 0 0 P (V, C, J) := by
  refine RM.of (L := [some (.ref (Y 38)), some (.int (iI s)), some (.int (iI p))]) cfX11_followPositions rfl (Nat.le_of_ble_eq_true rfl) ?_
  refine i_aload_n dX11_followPositions_0 rfl ?_
  refine i_aload_n dX11_followPositions_1 rfl ?_
  refine i_iload_n dX11_followPositions_2 rfl ?_
  refine i_iload_n dX11_followPositions_3 rfl ?_
  refine t_callV (As := [_, _]) dX11_followPositions_4 cfX11_isPosition imX11_isPosition seX11_isPosition lX11_250 rfl rfl rfl (Nat.le_of_ble_eq_true rfl) ?_
  refine k_isPosition (w := C 0) rfl (by omega) (by omega) hO (RK.v ?_)
  refine i_ifne_b (tgt := 14) dX11_followPositions_7 (by decide) (fun c7 => ?_) (fun c7 => ?_)
  · -- jumps
    refine i_const dX11_followPositions_14 ?_
    refine t_callV (As := [_]) dX11_followPositions_15 cfX11_throwsOne imX11_throwsOne seX11_throwsOne lX11_209 rfl rfl rfl (Nat.le_of_ble_eq_true rfl) ?_
    refine k_throwsOne (by first | exact zb_or | omega) (RK.v ?_)
    refine i_if_eq (tgt := 25) dX11_followPositions_18 (by decide) (by decide) (fun c18 => ?_) (fun c18 => by omega)
    refine i_aload_n dX11_followPositions_25 rfl ?_
    refine i_iload_n dX11_followPositions_26 rfl ?_
    refine i_bipush dX11_followPositions_27 (by decide) ?_
    refine i_iload_n dX11_followPositions_29 rfl ?_
    refine i_add dX11_followPositions_30 ?_
    refine t_callV (As := [_, _]) dX11_followPositions_31 cfX11_of imX11_of seX11_of lX11_115 rfl rfl rfl (Nat.le_of_ble_eq_true rfl) ?_
    have b2 := hO.pos (s := s) (by omega)
    refine k_of (w := C 0) rfl (by omega) (RK.v ?_)
    refine i_ireturn dX11_followPositions_34 rfl rfl ?_
    exact hp0 (by omega)
  · -- on
    refine i_const dX11_followPositions_10 ?_
    refine i_goto (tgt := 15) dX11_followPositions_11 (by decide) ?_
    refine t_callV (As := [_]) dX11_followPositions_15 cfX11_throwsOne imX11_throwsOne seX11_throwsOne lX11_209 rfl rfl rfl (Nat.le_of_ble_eq_true rfl) ?_
    refine k_throwsOne (by first | exact zb_or | omega) (RK.v ?_)
    refine i_if_eq (tgt := 25) dX11_followPositions_18 (by decide) (by decide) (fun c18 => by omega) (fun c18 => ?_)
    refine i_const dX11_followPositions_21 ?_
    refine i_goto (tgt := 34) dX11_followPositions_22 (by decide) ?_
    refine i_ireturn dX11_followPositions_34 rfl rfl ?_
    exact hp1 (by omega)
theorem k_transition {s t c : Int} (hO : wOK (C 0)) (h_s : -2147483648 ≤ s ∧ s < 2147483648) (h_t : -2147483648 ≤ t ∧ t < 2147483648) (h_c : -2147483648 ≤ c ∧ c < 2147483648)  (hp1 : ¬ (((s = 0 ∨ s = 1) ∧ 0 ≤ t ∧ t < C 0 (476 * s + 5)) ∧ 0 ≤ c ∧ c ≤ 5) → P (.inl (some (.int (iI 0)))) (vu V 12 1, C, J)) (hp0 : (((s = 0 ∨ s = 1) ∧ 0 ≤ t ∧ t < C 0 (476 * s + 5)) ∧ 0 ≤ c ∧ c ≤ 5) → P (.inl (some (.int (iI (C 0 (476 * s + (116 + 6 * t + c))))))) (vu V 12 0, C, J)) : RM G mX11_transition (m_I Y h0) [.ref (Y 38), .int (iI s), .int (iI t), .int (iI c)] (d + 2) 0 0 P (V, C, J) := by
  refine RM.of (L := [some (.ref (Y 38)), some (.int (iI s)), some (.int (iI t)), some (.int (iI c))]) cfX11_transition rfl (Nat.le_of_ble_eq_true rfl) ?_
  refine i_aload_n dX11_transition_0 rfl ?_
  refine i_aload_n dX11_transition_1 rfl ?_
  refine i_iload_n dX11_transition_2 rfl ?_
  refine i_iload_n dX11_transition_3 rfl ?_
  refine t_callV (As := [_, _]) dX11_transition_4 cfX11_isState imX11_isState seX11_isState lX11_254 rfl rfl rfl (Nat.le_of_ble_eq_true rfl) ?_
  refine k_isState (w := C 0) rfl (by omega) (by omega) hO (RK.v ?_)
  refine i_ifeq_b (tgt := 17) dX11_transition_7 (by decide) (fun c7 => ?_) (fun c7 => ?_)
  · -- jumps
    refine i_const dX11_transition_17 ?_
    refine i_goto (tgt := 22) dX11_transition_18 (by decide) ?_
    refine t_callV (As := [_]) dX11_transition_22 cfX11_throwsOne imX11_throwsOne seX11_throwsOne lX11_209 rfl rfl rfl (Nat.le_of_ble_eq_true rfl) ?_
    refine k_throwsOne (by first | exact zb_or | omega) (RK.v ?_)
    refine i_if_eq (tgt := 32) dX11_transition_25 (by decide) (by decide) (fun c25 => by omega) (fun c25 => ?_)
    refine i_const dX11_transition_28 ?_
    refine i_goto (tgt := 39) dX11_transition_29 (by decide) ?_
    refine i_ireturn dX11_transition_39 rfl rfl ?_
    exact hp1 (by omega)
  · -- on
    refine i_iload_n dX11_transition_10 rfl ?_
    refine t_callS (As := [_]) dX11_transition_11 cfX11_isStreet stX11_isStreet lX11_234 rfl rfl (Nat.le_of_ble_eq_true rfl) ?_
    refine k_isStreet (by omega) (RK.v ?_)
    refine i_ifne_b (tgt := 21) dX11_transition_14 (by decide) (fun c14 => ?_) (fun c14 => ?_)
    · -- jumps
      refine i_const dX11_transition_21 ?_
      refine t_callV (As := [_]) dX11_transition_22 cfX11_throwsOne imX11_throwsOne seX11_throwsOne lX11_209 rfl rfl rfl (Nat.le_of_ble_eq_true rfl) ?_
      refine k_throwsOne (by first | exact zb_or | omega) (RK.v ?_)
      refine i_if_eq (tgt := 32) dX11_transition_25 (by decide) (by decide) (fun c25 => ?_) (fun c25 => by omega)
      refine i_aload_n dX11_transition_32 rfl ?_
      refine i_iload_n dX11_transition_33 rfl ?_
      refine i_iload_n dX11_transition_34 rfl ?_
      refine i_iload_n dX11_transition_35 rfl ?_
      refine t_callV (As := [_, _, _]) dX11_transition_36 cfX11_goes imX11_goes seX11_goes lX11_231 rfl rfl rfl (Nat.le_of_ble_eq_true rfl) ?_
      have b1 := hO.sts (s := s) (by omega)
      refine k_goes (w := C 0) rfl (by omega) (by omega) (by omega) (RK.v ?_)
      refine i_ireturn dX11_transition_39 rfl rfl ?_
      exact hp0 (by omega)
    · -- on
      refine i_const dX11_transition_17 ?_
      refine i_goto (tgt := 22) dX11_transition_18 (by decide) ?_
      refine t_callV (As := [_]) dX11_transition_22 cfX11_throwsOne imX11_throwsOne seX11_throwsOne lX11_209 rfl rfl rfl (Nat.le_of_ble_eq_true rfl) ?_
      refine k_throwsOne (by first | exact zb_or | omega) (RK.v ?_)
      refine i_if_eq (tgt := 32) dX11_transition_25 (by decide) (by decide) (fun c25 => by omega) (fun c25 => ?_)
      refine i_const dX11_transition_28 ?_
      refine i_goto (tgt := 39) dX11_transition_29 (by decide) ?_
      refine i_ireturn dX11_transition_39 rfl rfl ?_
      exact hp1 (by omega)
theorem k_isAccepting {s t : Int} (hO : wOK (C 0)) (h_s : -2147483648 ≤ s ∧ s < 2147483648) (h_t : -2147483648 ≤ t ∧ t < 2147483648)  (hp1 : ¬ ((s = 0 ∨ s = 1) ∧ 0 ≤ t ∧ t < C 0 (476 * s + 5)) → P (.inl (some (.int (iI 0)))) (vu V 12 1, C, J)) (hp0 : ((s = 0 ∨ s = 1) ∧ 0 ≤ t ∧ t < C 0 (476 * s + 5)) → P (.inl (some (.int (iI (zb (wAcc (C 0) s t)))))) (vu V 12 0, C, J)) : RM G mX11_isAccepting (m_I Y h0) [.ref (Y 38), .int (iI s), .int (iI t)] (d + 2) 0 0 P (V, C, J) := by
  refine RM.of (L := [some (.ref (Y 38)), some (.int (iI s)), some (.int (iI t))]) cfX11_isAccepting rfl (Nat.le_of_ble_eq_true rfl) ?_
  refine i_aload_n dX11_isAccepting_0 rfl ?_
  refine i_aload_n dX11_isAccepting_1 rfl ?_
  refine i_iload_n dX11_isAccepting_2 rfl ?_
  refine i_iload_n dX11_isAccepting_3 rfl ?_
  refine t_callV (As := [_, _]) dX11_isAccepting_4 cfX11_isState imX11_isState seX11_isState lX11_254 rfl rfl rfl (Nat.le_of_ble_eq_true rfl) ?_
  refine k_isState (w := C 0) rfl (by omega) (by omega) hO (RK.v ?_)
  refine i_ifne_b (tgt := 14) dX11_isAccepting_7 (by decide) (fun c7 => ?_) (fun c7 => ?_)
  · -- jumps
    refine i_const dX11_isAccepting_14 ?_
    refine t_callV (As := [_]) dX11_isAccepting_15 cfX11_throwsOne imX11_throwsOne seX11_throwsOne lX11_209 rfl rfl rfl (Nat.le_of_ble_eq_true rfl) ?_
    refine k_throwsOne (by first | exact zb_or | omega) (RK.v ?_)
    refine i_if_ne (tgt := 34) dX11_isAccepting_18 (by decide) (by decide) (fun c18 => by omega) (fun c18 => ?_)
    refine i_aload_n dX11_isAccepting_21 rfl ?_
    refine i_iload_n dX11_isAccepting_22 rfl ?_
    refine i_iload_n dX11_isAccepting_23 rfl ?_
    refine t_callV (As := [_, _]) dX11_isAccepting_24 cfX11_accepts imX11_accepts seX11_accepts lX11_257 rfl rfl rfl (Nat.le_of_ble_eq_true rfl) ?_
    have b1 := hO.sts (s := s) (by omega)
    refine k_accepts (w := C 0) rfl (by omega) (by omega) (hO.1 _ (by omega)) (RK.v ?_)
    refine i_ifeq_b (tgt := 34) dX11_isAccepting_27 (by decide) (fun c27 => ?_) (fun c27 => ?_)
    · -- jumps
      refine i_const dX11_isAccepting_34 ?_
      refine i_ireturn dX11_isAccepting_35 rfl rfl ?_
      have hp := hp0 (by omega)
      first | (rw [zb_t (by assumption)] at hp; exact hp) | (rw [zb_f (by assumption)] at hp; exact hp)
    · -- on
      refine i_const dX11_isAccepting_30 ?_
      refine i_goto (tgt := 35) dX11_isAccepting_31 (by decide) ?_
      refine i_ireturn dX11_isAccepting_35 rfl rfl ?_
      have hp := hp0 (by omega)
      first | (rw [zb_t (by assumption)] at hp; exact hp) | (rw [zb_f (by assumption)] at hp; exact hp)
  · -- on
    refine i_const dX11_isAccepting_10 ?_
    refine i_goto (tgt := 15) dX11_isAccepting_11 (by decide) ?_
    refine t_callV (As := [_]) dX11_isAccepting_15 cfX11_throwsOne imX11_throwsOne seX11_throwsOne lX11_209 rfl rfl rfl (Nat.le_of_ble_eq_true rfl) ?_
    refine k_throwsOne (by first | exact zb_or | omega) (RK.v ?_)
    refine i_if_ne (tgt := 34) dX11_isAccepting_18 (by decide) (by decide) (fun c18 => ?_) (fun c18 => by omega)
    refine i_const dX11_isAccepting_34 ?_
    refine i_ireturn dX11_isAccepting_35 rfl rfl ?_
    exact hp1 (by omega)
theorem k_statePositions {s t : Int} (hO : wOK (C 0)) (h_s : -2147483648 ≤ s ∧ s < 2147483648) (h_t : -2147483648 ≤ t ∧ t < 2147483648)  (hp1 : ¬ ((s = 0 ∨ s = 1) ∧ 0 ≤ t ∧ t < C 0 (476 * s + 5)) → P (.inl (some (.int (iI 0)))) (vu V 12 1, C, J)) (hp0 : ((s = 0 ∨ s = 1) ∧ 0 ≤ t ∧ t < C 0 (476 * s + 5)) → P (.inl (some (.int (iI (C 0 (476 * s + (56 + t)) - C 0 (476 * s + (56 + t)) % 2))))) (vu V 12 0, C, J)) : RM G mX11_statePositions (m_I Y h0) [.ref (Y 38), .int (iI s), .int (iI t)] (d + 2) 0 0 P (V, C, J) := by
  refine RM.of (L := [some (.ref (Y 38)), some (.int (iI s)), some (.int (iI t))]) cfX11_statePositions rfl (Nat.le_of_ble_eq_true rfl) ?_
  refine i_aload_n dX11_statePositions_0 rfl ?_
  refine i_aload_n dX11_statePositions_1 rfl ?_
  refine i_iload_n dX11_statePositions_2 rfl ?_
  refine i_iload_n dX11_statePositions_3 rfl ?_
  refine t_callV (As := [_, _]) dX11_statePositions_4 cfX11_isState imX11_isState seX11_isState lX11_254 rfl rfl rfl (Nat.le_of_ble_eq_true rfl) ?_
  refine k_isState (w := C 0) rfl (by omega) (by omega) hO (RK.v ?_)
  refine i_ifne_b (tgt := 14) dX11_statePositions_7 (by decide) (fun c7 => ?_) (fun c7 => ?_)
  · -- jumps
    refine i_const dX11_statePositions_14 ?_
    refine t_callV (As := [_]) dX11_statePositions_15 cfX11_throwsOne imX11_throwsOne seX11_throwsOne lX11_209 rfl rfl rfl (Nat.le_of_ble_eq_true rfl) ?_
    refine k_throwsOne (by first | exact zb_or | omega) (RK.v ?_)
    refine i_if_eq (tgt := 25) dX11_statePositions_18 (by decide) (by decide) (fun c18 => ?_) (fun c18 => by omega)
    refine i_aload_n dX11_statePositions_25 rfl ?_
    refine i_iload_n dX11_statePositions_26 rfl ?_
    refine i_bipush dX11_statePositions_27 (by decide) ?_
    refine i_iload_n dX11_statePositions_29 rfl ?_
    refine i_add dX11_statePositions_30 ?_
    refine t_callV (As := [_, _]) dX11_statePositions_31 cfX11_of imX11_of seX11_of lX11_115 rfl rfl rfl (Nat.le_of_ble_eq_true rfl) ?_
    have b2 := hO.sts (s := s) (by omega)
    have b1 := hO.msk (s := s) (by omega) (56 + t) (by omega) (by omega)
    refine k_of (w := C 0) rfl (by omega) (RK.v ?_)
    refine i_bipush dX11_statePositions_34 (by decide) ?_
    refine i_andE dX11_statePositions_36 (iI_even (by omega)) ?_
    refine i_ireturn dX11_statePositions_37 rfl rfl ?_
    exact hp0 (by omega)
  · -- on
    refine i_const dX11_statePositions_10 ?_
    refine i_goto (tgt := 15) dX11_statePositions_11 (by decide) ?_
    refine t_callV (As := [_]) dX11_statePositions_15 cfX11_throwsOne imX11_throwsOne seX11_throwsOne lX11_209 rfl rfl rfl (Nat.le_of_ble_eq_true rfl) ?_
    refine k_throwsOne (by first | exact zb_or | omega) (RK.v ?_)
    refine i_if_eq (tgt := 25) dX11_statePositions_18 (by decide) (by decide) (fun c18 => by omega) (fun c18 => ?_)
    refine i_const dX11_statePositions_21 ?_
    refine i_goto (tgt := 37) dX11_statePositions_22 (by decide) ?_
    refine i_ireturn dX11_statePositions_37 rfl rfl ?_
    exact hp1 (by omega)
theorem k_isPassable {c : Int} (hO : wOK (C 0)) (h_c : -2147483648 ≤ c ∧ c < 2147483648)  (hp1 : ¬ (0 ≤ c ∧ c ≤ 5) → P (.inl (some (.int (iI 0)))) (vu V 12 1, C, J)) (hp0 : (0 ≤ c ∧ c ≤ 5) → P (.inl (some (.int (iI (zb (C 0 (971 + 2 * c + C 0 983) = 1)))))) (vu V 12 0, C, J)) : RM G mX11_isPassable (m_I Y h0) [.ref (Y 38), .int (iI c)] (d + 2) 0 0 P (V, C, J) := by
  refine RM.of (L := [some (.ref (Y 38)), some (.int (iI c))]) cfX11_isPassable rfl (Nat.le_of_ble_eq_true rfl) ?_
  refine i_aload_n dX11_isPassable_0 rfl ?_
  refine i_iload_n dX11_isPassable_1 rfl ?_
  refine t_callS (As := [_]) dX11_isPassable_2 cfX11_isStreet stX11_isStreet lX11_234 rfl rfl (Nat.le_of_ble_eq_true rfl) ?_
  refine k_isStreet (by omega) (RK.v ?_)
  refine i_ifne_b (tgt := 12) dX11_isPassable_5 (by decide) (fun c5 => ?_) (fun c5 => ?_)
  · -- jumps
    refine i_const dX11_isPassable_12 ?_
    refine t_callV (As := [_]) dX11_isPassable_13 cfX11_throwsOne imX11_throwsOne seX11_throwsOne lX11_209 rfl rfl rfl (Nat.le_of_ble_eq_true rfl) ?_
    refine k_throwsOne (by first | exact zb_or | omega) (RK.v ?_)
    refine i_if_ne (tgt := 31) dX11_isPassable_16 (by decide) (by decide) (fun c16 => by omega) (fun c16 => ?_)
    refine i_aload_n dX11_isPassable_19 rfl ?_
    refine i_iload_n dX11_isPassable_20 rfl ?_
    refine t_callV (As := [_]) dX11_isPassable_21 cfX11_passes imX11_passes seX11_passes lX11_237 rfl rfl rfl (Nat.le_of_ble_eq_true rfl) ?_
    refine k_passes (w := C 0) rfl (by omega) hO (RK.v ?_)
    refine i_ifeq_b (tgt := 31) dX11_isPassable_24 (by decide) (fun c24 => ?_) (fun c24 => ?_)
    · -- jumps
      refine i_const dX11_isPassable_31 ?_
      refine i_ireturn dX11_isPassable_32 rfl rfl ?_
      have hp := hp0 (by omega)
      first | (rw [zb_t (by assumption)] at hp; exact hp) | (rw [zb_f (by assumption)] at hp; exact hp)
    · -- on
      refine i_const dX11_isPassable_27 ?_
      refine i_goto (tgt := 32) dX11_isPassable_28 (by decide) ?_
      refine i_ireturn dX11_isPassable_32 rfl rfl ?_
      have hp := hp0 (by omega)
      first | (rw [zb_t (by assumption)] at hp; exact hp) | (rw [zb_f (by assumption)] at hp; exact hp)
  · -- on
    refine i_const dX11_isPassable_8 ?_
    refine i_goto (tgt := 13) dX11_isPassable_9 (by decide) ?_
    refine t_callV (As := [_]) dX11_isPassable_13 cfX11_throwsOne imX11_throwsOne seX11_throwsOne lX11_209 rfl rfl rfl (Nat.le_of_ble_eq_true rfl) ?_
    refine k_throwsOne (by first | exact zb_or | omega) (RK.v ?_)
    refine i_if_ne (tgt := 31) dX11_isPassable_16 (by decide) (by decide) (fun c16 => ?_) (fun c16 => by omega)
    refine i_const dX11_isPassable_31 ?_
    refine i_ireturn dX11_isPassable_32 rfl rfl ?_
    exact hp1 (by omega)
theorem k_isNight  (hO : wOK (C 0))  (hp0 : P (.inl (some (.int (iI (zb (C 0 983 = 1)))))) (vu V 12 0, C, J)) : RM G mX11_isNight (m_I Y h0) [.ref (Y 38)] (d) 0 0 P (V, C, J) := by
  refine RM.of (L := [some (.ref (Y 38))]) cfX11_isNight rfl (Nat.le_of_ble_eq_true rfl) ?_
  have b1 := hO.nght
  refine i_aload_n dX11_isNight_0 rfl ?_
  refine i_const dX11_isNight_1 ?_
  refine t_put dX11_isNight_2 fX11_95 (by decide) rfl rfl ?_
  refine i_aload_n dX11_isNight_5 rfl ?_
  refine t_getA dX11_isNight_6 fX11_7.o rfl ?_
  refine i_sipush dX11_isNight_9 (by decide) ?_
  refine t_iald (N := 985) (v := C 0 983) dX11_isNight_12 (by decide) (by decide) rfl (by omega) rfl ?_
  refine i_const dX11_isNight_13 ?_
  refine i_icmp_ne (tgt := 21) dX11_isNight_14 (by decide) (by omega) (by omega) (fun c14 => ?_) (fun c14 => ?_)
  · -- jumps
    refine i_const dX11_isNight_21 ?_
    refine i_ireturn dX11_isNight_22 rfl rfl ?_
    first | (rw [zb_t (by assumption)] at hp0; exact hp0) | (rw [zb_f (by omega)] at hp0; exact hp0)
  · -- on
    refine i_const dX11_isNight_17 ?_
    refine i_goto (tgt := 22) dX11_isNight_18 (by decide) ?_
    refine i_ireturn dX11_isNight_22 rfl rfl ?_
    first | (rw [zb_t (by assumption)] at hp0; exact hp0) | (rw [zb_f (by omega)] at hp0; exact hp0)
theorem k_walkerCount  (hO : wOK (C 0))  (hp0 : P (.inl (some (.int (iI (C 0 952))))) (vu V 12 0, C, J)) : RM G mX11_walkerCount (m_I Y h0) [.ref (Y 38)] (d) 0 0 P (V, C, J) := by
  refine RM.of (L := [some (.ref (Y 38))]) cfX11_walkerCount rfl (Nat.le_of_ble_eq_true rfl) ?_
  refine i_aload_n dX11_walkerCount_0 rfl ?_
  refine i_const dX11_walkerCount_1 ?_
  refine t_put dX11_walkerCount_2 fX11_95 (by decide) rfl rfl ?_
  refine i_aload_n dX11_walkerCount_5 rfl ?_
  refine t_getA dX11_walkerCount_6 fX11_7.o rfl ?_
  refine i_sipush dX11_walkerCount_9 (by decide) ?_
  refine t_iald (N := 985) (v := C 0 952) dX11_walkerCount_12 (by decide) (by decide) rfl (by omega) rfl ?_
  refine i_ireturn dX11_walkerCount_13 rfl rfl ?_
  exact hp0
theorem k_totalSteps  (hO : wOK (C 0))  (hp0 : P (.inl (some (.int (iI (C 0 984))))) (vu V 12 0, C, J)) : RM G mX11_totalSteps (m_I Y h0) [.ref (Y 38)] (d) 0 0 P (V, C, J) := by
  refine RM.of (L := [some (.ref (Y 38))]) cfX11_totalSteps rfl (Nat.le_of_ble_eq_true rfl) ?_
  refine i_aload_n dX11_totalSteps_0 rfl ?_
  refine i_const dX11_totalSteps_1 ?_
  refine t_put dX11_totalSteps_2 fX11_95 (by decide) rfl rfl ?_
  refine i_aload_n dX11_totalSteps_5 rfl ?_
  refine t_getA dX11_totalSteps_6 fX11_7.o rfl ?_
  refine i_sipush dX11_totalSteps_9 (by decide) ?_
  refine t_iald (N := 985) (v := C 0 984) dX11_totalSteps_12 (by decide) (by decide) rfl (by omega) rfl ?_
  refine i_ireturn dX11_totalSteps_13 rfl rfl ?_
  exact hp0
theorem k_walkerTold {p x : Int} (hO : wOK (C 0)) (h_p : -2147483648 ≤ p ∧ p < 2147483648) (hx : 0 ≤ x ∧ x < 3) (hp1 : ¬ (0 ≤ p ∧ p < C 0 952) → P (.inl (some (.int (iI 0)))) (vu V 12 1, C, J)) (hp0 : (0 ≤ p ∧ p < C 0 952) → P (.inl (some (.int (iI (C 0 (953 + 3 * p + x)))))) (vu V 12 0, C, J)) : RM G mX11_walkerTold (m_I Y h0) [.ref (Y 38), .int (iI p), .int (iI x)] (d + 2) 0 0 P (V, C, J) := by
  refine RM.of (L := [some (.ref (Y 38)), some (.int (iI p)), some (.int (iI x))]) cfX11_walkerTold rfl (Nat.le_of_ble_eq_true rfl) ?_
  have b1 := hO.2.1
  refine i_aload_n dX11_walkerTold_0 rfl ?_
  refine i_aload_n dX11_walkerTold_1 rfl ?_
  refine i_iload_n dX11_walkerTold_2 rfl ?_
  refine t_callV (As := [_]) dX11_walkerTold_3 cfX11_isWalker imX11_isWalker seX11_isWalker lX11_228 rfl rfl rfl (Nat.le_of_ble_eq_true rfl) ?_
  refine k_isWalker (w := C 0) rfl (by omega) hO (RK.v ?_)
  refine i_ifne_b (tgt := 13) dX11_walkerTold_6 (by decide) (fun c6 => ?_) (fun c6 => ?_)
  · -- jumps
    refine i_const dX11_walkerTold_13 ?_
    refine t_callV (As := [_]) dX11_walkerTold_14 cfX11_throwsOne imX11_throwsOne seX11_throwsOne lX11_209 rfl rfl rfl (Nat.le_of_ble_eq_true rfl) ?_
    refine k_throwsOne (by first | exact zb_or | omega) (RK.v ?_)
    refine i_if_eq (tgt := 24) dX11_walkerTold_17 (by decide) (by decide) (fun c17 => ?_) (fun c17 => by omega)
    refine i_aload_n dX11_walkerTold_24 rfl ?_
    refine i_iload_n dX11_walkerTold_25 rfl ?_
    refine i_iload_n dX11_walkerTold_26 rfl ?_
    refine t_callV (As := [_, _]) dX11_walkerTold_27 cfX11_walkerOf imX11_walkerOf seX11_walkerOf lX11_190 rfl rfl rfl (Nat.le_of_ble_eq_true rfl) ?_
    refine k_walkerOf (w := C 0) rfl (by omega) (by omega) (RK.v ?_)
    refine i_ireturn dX11_walkerTold_30 rfl rfl ?_
    exact hp0 (by omega)
  · -- on
    refine i_const dX11_walkerTold_9 ?_
    refine i_goto (tgt := 14) dX11_walkerTold_10 (by decide) ?_
    refine t_callV (As := [_]) dX11_walkerTold_14 cfX11_throwsOne imX11_throwsOne seX11_throwsOne lX11_209 rfl rfl rfl (Nat.le_of_ble_eq_true rfl) ?_
    refine k_throwsOne (by first | exact zb_or | omega) (RK.v ?_)
    refine i_if_eq (tgt := 24) dX11_walkerTold_17 (by decide) (by decide) (fun c17 => by omega) (fun c17 => ?_)
    refine i_const dX11_walkerTold_20 ?_
    refine i_goto (tgt := 30) dX11_walkerTold_21 (by decide) ?_
    refine i_ireturn dX11_walkerTold_30 rfl rfl ?_
    exact hp1 (by omega)
theorem k_walkerSlot {p : Int} (hO : wOK (C 0)) (h_p : -2147483648 ≤ p ∧ p < 2147483648)  (hp1 : ¬ (0 ≤ p ∧ p < C 0 952) → P (.inl (some (.int (iI 0)))) (vu V 12 1, C, J)) (hp0 : (0 ≤ p ∧ p < C 0 952) → P (.inl (some (.int (iI (C 0 (953 + 3 * p + 0)))))) (vu V 12 0, C, J)) : RM G mX11_walkerSlot (m_I Y h0) [.ref (Y 38), .int (iI p)] (d + 3) 0 0 P (V, C, J) := by
  refine RM.of (L := [some (.ref (Y 38)), some (.int (iI p))]) cfX11_walkerSlot rfl (Nat.le_of_ble_eq_true rfl) ?_
  refine i_aload_n dX11_walkerSlot_0 rfl ?_
  refine i_iload_n dX11_walkerSlot_1 rfl ?_
  refine i_const dX11_walkerSlot_2 ?_
  refine t_callV (As := [_, _]) dX11_walkerSlot_3 cfX11_walkerTold imX11_walkerTold seX11_walkerTold lX11_285 rfl rfl rfl (Nat.le_of_ble_eq_true rfl) ?_
  refine k_walkerTold hO (by omega) (by omega) (fun g0 => RK.v ?_) (fun g0 => RK.v ?_)
  · -- case
    refine i_ireturn dX11_walkerSlot_6 rfl rfl ?_
    exact hp1 (by omega)
  · -- case
    refine i_ireturn dX11_walkerSlot_6 rfl rfl ?_
    exact hp0 (by omega)
theorem k_walkerState {p : Int} (hO : wOK (C 0)) (h_p : -2147483648 ≤ p ∧ p < 2147483648)  (hp1 : ¬ (0 ≤ p ∧ p < C 0 952) → P (.inl (some (.int (iI 0)))) (vu V 12 1, C, J)) (hp0 : (0 ≤ p ∧ p < C 0 952) → P (.inl (some (.int (iI (C 0 (953 + 3 * p + 1)))))) (vu V 12 0, C, J)) : RM G mX11_walkerState (m_I Y h0) [.ref (Y 38), .int (iI p)] (d + 3) 0 0 P (V, C, J) := by
  refine RM.of (L := [some (.ref (Y 38)), some (.int (iI p))]) cfX11_walkerState rfl (Nat.le_of_ble_eq_true rfl) ?_
  refine i_aload_n dX11_walkerState_0 rfl ?_
  refine i_iload_n dX11_walkerState_1 rfl ?_
  refine i_const dX11_walkerState_2 ?_
  refine t_callV (As := [_, _]) dX11_walkerState_3 cfX11_walkerTold imX11_walkerTold seX11_walkerTold lX11_285 rfl rfl rfl (Nat.le_of_ble_eq_true rfl) ?_
  refine k_walkerTold hO (by omega) (by omega) (fun g0 => RK.v ?_) (fun g0 => RK.v ?_)
  · -- case
    refine i_ireturn dX11_walkerState_6 rfl rfl ?_
    exact hp1 (by omega)
  · -- case
    refine i_ireturn dX11_walkerState_6 rfl rfl ?_
    exact hp0 (by omega)
theorem k_walkerSteps {p : Int} (hO : wOK (C 0)) (h_p : -2147483648 ≤ p ∧ p < 2147483648)  (hp1 : ¬ (0 ≤ p ∧ p < C 0 952) → P (.inl (some (.int (iI 0)))) (vu V 12 1, C, J)) (hp0 : (0 ≤ p ∧ p < C 0 952) → P (.inl (some (.int (iI (C 0 (953 + 3 * p + 2)))))) (vu V 12 0, C, J)) : RM G mX11_walkerSteps (m_I Y h0) [.ref (Y 38), .int (iI p)] (d + 3) 0 0 P (V, C, J) := by
  refine RM.of (L := [some (.ref (Y 38)), some (.int (iI p))]) cfX11_walkerSteps rfl (Nat.le_of_ble_eq_true rfl) ?_
  refine i_aload_n dX11_walkerSteps_0 rfl ?_
  refine i_iload_n dX11_walkerSteps_1 rfl ?_
  refine i_const dX11_walkerSteps_2 ?_
  refine t_callV (As := [_, _]) dX11_walkerSteps_3 cfX11_walkerTold imX11_walkerTold seX11_walkerTold lX11_285 rfl rfl rfl (Nat.le_of_ble_eq_true rfl) ?_
  refine k_walkerTold hO (by omega) (by omega) (fun g0 => RK.v ?_) (fun g0 => RK.v ?_)
  · -- case
    refine i_ireturn dX11_walkerSteps_6 rfl rfl ?_
    exact hp1 (by omega)
  · -- case
    refine i_ireturn dX11_walkerSteps_6 rfl rfl ?_
    exact hp0 (by omega)
theorem k_inputLength  (hO : wOK (C 0))  (hp0 : P (.inl (some (.int (iI (V 7))))) (vu V 12 0, C, J)) : RM G mX11_inputLength (m_I Y h0) [.ref (Y 38)] (d) 0 0 P (V, C, J) := by
  refine RM.of (L := [some (.ref (Y 38))]) cfX11_inputLength rfl (Nat.le_of_ble_eq_true rfl) ?_
  refine i_aload_n dX11_inputLength_0 rfl ?_
  refine i_const dX11_inputLength_1 ?_
  refine t_put dX11_inputLength_2 fX11_95 (by decide) rfl rfl ?_
  refine i_aload_n dX11_inputLength_5 rfl ?_
  refine t_getI (v := V 7) dX11_inputLength_6 fX11_89 (by decide) rfl ?_
  refine i_ireturn dX11_inputLength_9 rfl rfl ?_
  exact hp0
theorem k_undoCount  (hO : wOK (C 0))  (hp0 : P (.inl (some (.int (iI (V 4))))) (vu V 12 0, C, J)) : RM G mX11_undoCount (m_I Y h0) [.ref (Y 38)] (d) 0 0 P (V, C, J) := by
  refine RM.of (L := [some (.ref (Y 38))]) cfX11_undoCount rfl (Nat.le_of_ble_eq_true rfl) ?_
  refine i_aload_n dX11_undoCount_0 rfl ?_
  refine i_const dX11_undoCount_1 ?_
  refine t_put dX11_undoCount_2 fX11_95 (by decide) rfl rfl ?_
  refine i_aload_n dX11_undoCount_5 rfl ?_
  refine t_getI (v := V 4) dX11_undoCount_6 fX11_213 (by decide) rfl ?_
  refine i_ireturn dX11_undoCount_9 rfl rfl ?_
  exact hp0
theorem k_patternErrorKind  (hO : wOK (C 0))  (hp0 : P (.inl (some (.int (iI (V 8))))) (vu V 12 0, C, J)) : RM G mX11_patternErrorKind (m_I Y h0) [.ref (Y 38)] (d) 0 0 P (V, C, J) := by
  refine RM.of (L := [some (.ref (Y 38))]) cfX11_patternErrorKind rfl (Nat.le_of_ble_eq_true rfl) ?_
  refine i_aload_n dX11_patternErrorKind_0 rfl ?_
  refine i_const dX11_patternErrorKind_1 ?_
  refine t_put dX11_patternErrorKind_2 fX11_95 (by decide) rfl rfl ?_
  refine i_aload_n dX11_patternErrorKind_5 rfl ?_
  refine t_getI (v := V 8) dX11_patternErrorKind_6 fX11_92 (by decide) rfl ?_
  refine i_ireturn dX11_patternErrorKind_9 rfl rfl ?_
  exact hp0
theorem k_patternErrorOffset  (hO : wOK (C 0))  (hp0 : P (.inl (some (.int (iI (V 9))))) (vu V 12 0, C, J)) : RM G mX11_patternErrorOffset (m_I Y h0) [.ref (Y 38)] (d) 0 0 P (V, C, J) := by
  refine RM.of (L := [some (.ref (Y 38))]) cfX11_patternErrorOffset rfl (Nat.le_of_ble_eq_true rfl) ?_
  refine i_aload_n dX11_patternErrorOffset_0 rfl ?_
  refine i_const dX11_patternErrorOffset_1 ?_
  refine t_put dX11_patternErrorOffset_2 fX11_95 (by decide) rfl rfl ?_
  refine i_aload_n dX11_patternErrorOffset_5 rfl ?_
  refine t_getI (v := V 9) dX11_patternErrorOffset_6 fX11_25 (by decide) rfl ?_
  refine i_ireturn dX11_patternErrorOffset_9 rfl rfl ?_
  exact hp0
theorem k_reportByte {i : Int} (hO : wOK (C 0)) (h_i : -2147483648 ≤ i ∧ i < 2147483648) (hr : 0 ≤ V 11 ∧ V 11 ≤ 3600) (hp0 : P (.inl (some (.int (iI (if 0 ≤ i ∧ i < V 11 then C 10 i else -1))))) (vu V 12 0, C, J)) : RM G mX11_reportByte (m_I Y h0) [.ref (Y 38), .int (iI i)] (d + 1) 0 0 P (V, C, J) := by
  refine RM.of (L := [some (.ref (Y 38)), some (.int (iI i))]) cfX11_reportByte rfl (Nat.le_of_ble_eq_true rfl) ?_
  refine i_aload_n dX11_reportByte_0 rfl ?_
  refine i_const dX11_reportByte_1 ?_
  refine t_put dX11_reportByte_2 fX11_95 (by decide) rfl rfl ?_
  refine i_iload_n dX11_reportByte_5 rfl ?_
  refine i_const dX11_reportByte_6 ?_
  refine i_aload_n dX11_reportByte_7 rfl ?_
  refine t_getI (v := V 11) dX11_reportByte_8 fX11_295 (by decide) rfl ?_
  refine i_const dX11_reportByte_11 ?_
  refine i_sub dX11_reportByte_12 ?_
  refine t_callS (As := [_, _, _]) dX11_reportByte_13 cfX11_in stX11_in lX11_108 rfl rfl (Nat.le_of_ble_eq_true rfl) ?_
  refine k_in (by omega) (by omega) (by omega) (RK.v ?_)
  refine i_ifeq_b (tgt := 28) dX11_reportByte_16 (by decide) (fun c16 => ?_) (fun c16 => ?_)
  · -- jumps
    refine i_const dX11_reportByte_28 ?_
    refine i_ireturn dX11_reportByte_29 rfl rfl ?_
    first | (rw [if_pos (by omega)] at hp0; exact hp0) | (rw [if_neg (by omega)] at hp0; exact hp0)
  · -- on
    refine i_aload_n dX11_reportByte_19 rfl ?_
    refine t_getA dX11_reportByte_20 fX11_29.o rfl ?_
    refine i_iload_n dX11_reportByte_23 rfl ?_
    refine t_cald dX11_reportByte_24 (by omega) rfl ?_
    refine i_goto (tgt := 29) dX11_reportByte_25 (by decide) ?_
    refine i_ireturn dX11_reportByte_29 rfl rfl ?_
    first | (rw [if_pos (by omega)] at hp0; exact hp0) | (rw [if_neg (by omega)] at hp0; exact hp0)
theorem k_truncateInput {i : Int} (h_i : -2147483648 ≤ i ∧ i < 2147483648) (hr : 0 ≤ V 7 ∧ V 7 ≤ 200) (hp1 : ¬ (0 ≤ i ∧ i ≤ V 7) → P (.inl (some (.int (iI 0)))) (vu V 12 1, C, J)) (hp0 : 0 ≤ i ∧ i ≤ V 7 → P (.inl (some (.int (iI i)))) (vu (vu V 12 0) 7 i, C, J)) : RM G mX11_truncateInput (m_I Y h0) [.ref (Y 38), .int (iI i)] (d + 1) 0 0 P (V, C, J) := by
  refine RM.of (L := [some (.ref (Y 38)), some (.int (iI i))]) cfX11_truncateInput rfl (Nat.le_of_ble_eq_true rfl) ?_
  refine i_aload_n dX11_truncateInput_0 rfl ?_
  refine i_iload_n dX11_truncateInput_1 rfl ?_
  refine i_const dX11_truncateInput_2 ?_
  refine i_aload_n dX11_truncateInput_3 rfl ?_
  refine t_getI dX11_truncateInput_4 fX11_89 (by decide) rfl ?_
  refine t_callS (As := [_, _, _]) dX11_truncateInput_7 cfX11_in stX11_in lX11_108 rfl rfl (Nat.le_of_ble_eq_true rfl) ?_
  refine k_in (by omega) (by omega) (by omega) (RK.v ?_)
  refine i_ifne_b (tgt := 17) dX11_truncateInput_10 (by decide) (fun c10 => ?_) (fun c10 => ?_)
  · -- jumps
    refine i_const dX11_truncateInput_17 ?_
    refine t_callV (As := [_]) dX11_truncateInput_18 cfX11_throwsOne imX11_throwsOne seX11_throwsOne lX11_209 rfl rfl rfl (Nat.le_of_ble_eq_true rfl) ?_
    refine k_throwsOne (by first | exact zb_or | omega) (RK.v ?_)
    refine i_if_eq (tgt := 26) dX11_truncateInput_21 (by decide) (by decide) (fun c21 => ?_) (fun c21 => by omega)
    refine i_aload_n dX11_truncateInput_26 rfl ?_
    refine i_iload_n dX11_truncateInput_27 rfl ?_
    refine t_put dX11_truncateInput_28 fX11_89 (by decide) rfl rfl ?_
    refine i_iload_n dX11_truncateInput_31 rfl ?_
    refine i_ireturn dX11_truncateInput_32 rfl rfl ?_
    exact hp0 (by omega)
  · -- on
    refine i_const dX11_truncateInput_13 ?_
    refine i_goto (tgt := 18) dX11_truncateInput_14 (by decide) ?_
    refine t_callV (As := [_]) dX11_truncateInput_18 cfX11_throwsOne imX11_throwsOne seX11_throwsOne lX11_209 rfl rfl rfl (Nat.le_of_ble_eq_true rfl) ?_
    refine k_throwsOne (by first | exact zb_or | omega) (RK.v ?_)
    refine i_if_eq (tgt := 26) dX11_truncateInput_21 (by decide) (by decide) (fun c21 => by omega) (fun c21 => ?_)
    refine i_const dX11_truncateInput_24 ?_
    refine i_ireturn dX11_truncateInput_25 rfl rfl ?_
    exact hp1 (by omega)
end M11
