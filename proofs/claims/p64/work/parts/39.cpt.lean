/-! ===== the class: its patterns and the reference's numbers ===== -/
/-- a pattern p is that of slot s -/
def cPt (p : c_P) (w : Int → Int) (s : Int) : Prop :=
  (p.1 0 = w (476 * s + 0) ∧ p.1 1 = w (476 * s + 4) ∧ p.1 2 = w (476 * s + 1) ∧ p.1 3 = w (476 * s + 2) ∧ p.1 4 = w (476 * s + 3) ∧ p.1 5 = w (476 * s + 5)) ∧
  (∀ q, 1 ≤ q → q ≤ w (476 * s + 0) → p.2.1 0 q = (if w (476 * s + (31 + q)) = 6 then -1 else w (476 * s + (31 + q))) ∧ p.2.1 1 q = w (476 * s + (6 + q))) ∧
  (∀ c, 0 ≤ c → c < 6 → (0 ≤ p.2.1 2 c ∧ p.2.1 2 c < 33554432) ∧ ∀ q, 0 ≤ q → (zt (p.2.1 2 c) q ↔ (1 ≤ q ∧ q ≤ w (476 * s + 0)) ∧ (w (476 * s + (31 + q)) = 6 ∨ w (476 * s + (31 + q)) = c))) ∧
  (∀ t, 0 ≤ t → t < w (476 * s + 5) → p.2.1 3 t = w (476 * s + (56 + t))) ∧
  ∀ t c, 0 ≤ t → t < w (476 * s + 5) → 0 ≤ c → c < 6 → p.2.1 4 (t * 6 + c) = w (476 * s + (116 + 6 * t + c))
/-- the start set stands first, and it alone holds the start; masks hold positions -/
def wX (w : Int → Int) (s : Int) : Prop := w (476 * s + (56 + 0)) = 1 ∧ (∀ t, 1 ≤ t → t < w (476 * s + 5) → w (476 * s + (56 + t)) % 2 = 0) ∧ w (476 * s + 3) % 2 = 0 ∧ (∀ q, 1 ≤ q → q ≤ w (476 * s + 0) → ∀ r, 0 ≤ r → zt (w (476 * s + (6 + q))) r → 1 ≤ r ∧ r ≤ w (476 * s + 0))
section C39
variable {G : p_G} {Y : Nat → Nat} {h0 : p_H} {P : (Option Value) ⊕ String → c_X → Prop} {d : Nat} {V : Nat → Int} {C : Nat → Int → Int} {J : c_J}
variable {a : Nat} {p : c_P} {w : Int → Int} {s : Int}
theorem q_isIndex {σ : Type} {I : σ → p_H → Prop} {P : (Option Value) ⊕ String → σ → Prop} {X : σ} {i n : Int} (hi : -2147483648 ≤ i ∧ i < 2147483648) (hn : -2147483648 ≤ n ∧ n < 2147483648) (hp : P (.inl (some (.int (iI (zb (0 ≤ i ∧ i < n)))))) X) : RM G mX10_isIndex I [.int (iI i), .int (iI n)] d 0 0 P X := by
  refine RM.of (L := [some (.int (iI i)), some (.int (iI n))]) cfX10_isIndex rfl (Nat.le_of_ble_eq_true rfl) ?_
  refine i_iload_n dX10_isIndex_0 rfl ?_
  refine i_if_lt (tgt := 13) dX10_isIndex_1 (by decide) (by omega) (fun c1 => ?_) (fun c1 => ?_)
  · -- jumps
    refine i_const dX10_isIndex_13 ?_
    refine i_ireturn dX10_isIndex_14 rfl rfl ?_
    first | (rw [zb_t (by omega)] at hp; exact hp) | (rw [zb_f (by omega)] at hp; exact hp)
  · -- on
    refine i_iload_n dX10_isIndex_4 rfl ?_
    refine i_iload_n dX10_isIndex_5 rfl ?_
    refine i_icmp_ge (tgt := 13) dX10_isIndex_6 (by decide) (by omega) (by omega) (fun c6 => ?_) (fun c6 => ?_)
    · -- jumps
      refine i_const dX10_isIndex_13 ?_
      refine i_ireturn dX10_isIndex_14 rfl rfl ?_
      first | (rw [zb_t (by omega)] at hp; exact hp) | (rw [zb_f (by omega)] at hp; exact hp)
    · -- on
      refine i_const dX10_isIndex_9 ?_
      refine i_goto (tgt := 14) dX10_isIndex_10 (by decide) ?_
      refine i_ireturn dX10_isIndex_14 rfl rfl ?_
      first | (rw [zb_t (by omega)] at hp; exact hp) | (rw [zb_f (by omega)] at hp; exact hp)
theorem q_after {t c : Int} (hp : J.2.2 a = some p) (hr : cPt p w s) (hO : wP w s) (ht : -2147483648 ≤ t ∧ t < 2147483648) (hc : -2147483648 ≤ c ∧ c < 2147483648) (hp0 : (0 ≤ t ∧ t < w (476 * s + 5)) ∧ 0 ≤ c ∧ c < 6 → P (.inl (some (.int (iI (w (476 * s + (116 + 6 * t + c))))))) (V, C, J)) (hp1 : ¬ ((0 ≤ t ∧ t < w (476 * s + 5)) ∧ 0 ≤ c ∧ c < 6) → P (.inl (some (.int (iI (-1))))) (V, C, J)) : RM G mX5_after (c_I Y h0) [.ref a, .int (iI t), .int (iI c)] (d + 1) 0 0 P (V, C, J) := by
  refine RM.of (L := [some (.ref a), some (.int (iI t)), some (.int (iI c)), none]) cfX5_after rfl (Nat.le_of_ble_eq_true rfl) ?_
  have r := hr.1
  have o5 := hO.2.2.2.1
  have o0 := hO.1
  refine i_iload_n dX5_after_0 rfl ?_
  refine i_aload_n dX5_after_1 rfl ?_
  refine u_getP (vv := .int (iI (p.1 5))) hp dX5_after_2 fX5_44.o rfl ?_
  refine i_callSN (mc := 0) (ms := 0) (As := [_, _]) dX5_after_5 cfX10_isIndex stX10_isIndex lX5_71 rfl rfl (Nat.le_of_ble_eq_true rfl) (Nat.zero_add _).symm (Nat.zero_add _).symm ?_
  refine q_isIndex (by omega) (by omega) (RKN.v ?_)
  refine i_ifeq_b (tgt := 20) dX5_after_8 (by decide) (fun c8 => ?_) (fun c8 => ?_)
  · -- jumps
    refine i_const dX5_after_20 ?_
    refine i_ireturn dX5_after_21 rfl rfl ?_
    exact hp1 (by omega)
  · -- on
    refine i_iload_n dX5_after_11 rfl ?_
    refine i_bipush dX5_after_12 (by decide) ?_
    refine i_callSN (mc := 0) (ms := 0) (As := [_, _]) dX5_after_14 cfX10_isIndex stX10_isIndex lX5_71 rfl rfl (Nat.le_of_ble_eq_true rfl) (Nat.zero_add _).symm (Nat.zero_add _).symm ?_
    refine q_isIndex (by omega) (by omega) (RKN.v ?_)
    refine i_ifne_b (tgt := 22) dX5_after_17 (by decide) (fun c17 => ?_) (fun c17 => ?_)
    · -- jumps
      refine i_iload_n dX5_after_22 rfl ?_
      refine i_bipush dX5_after_23 (by decide) ?_
      refine i_mul dX5_after_25 ?_
      refine i_iload_n dX5_after_26 rfl ?_
      refine i_add dX5_after_27 ?_
      refine i_istore_n dX5_after_28 (L' := [some _, some _, some _, some _]) (by decide) rfl ?_
      refine i_iload_n dX5_after_29 rfl ?_
      refine i_aload_n dX5_after_30 rfl ?_
      refine u_getP (vv := .ref (p.2.2 4)) hp dX5_after_31 fX5_70.o rfl ?_
      refine u_alenP (N := 360) hp dX5_after_34 (by decide) rfl ?_
      refine i_callSN (mc := 0) (ms := 0) (As := [_, _]) dX5_after_35 cfX10_isIndex stX10_isIndex lX5_71 rfl rfl (Nat.le_of_ble_eq_true rfl) (Nat.zero_add _).symm (Nat.zero_add _).symm ?_
      refine q_isIndex (by omega) (by omega) (RKN.v ?_)
      refine i_ifeq_b (tgt := 50) dX5_after_38 (by decide) (fun c38 => ?_) (fun c38 => ?_)
      · -- jumps
        refine i_const dX5_after_50 ?_
        refine i_ireturn dX5_after_51 rfl rfl ?_
        exact hp1 (by omega)
      · -- on
        refine i_aload_n dX5_after_41 rfl ?_
        refine u_getP (vv := .ref (p.2.2 4)) hp dX5_after_42 fX5_70.o rfl ?_
        refine i_iload_n dX5_after_45 rfl ?_
        refine u_ialdP (N := 360) hp dX5_after_46 (by decide) rfl (by omega) rfl ?_
        refine i_goto (tgt := 51) dX5_after_47 (by decide) ?_
        refine i_ireturn dX5_after_51 rfl rfl ?_
        rw [hr.2.2.2.2 t c (by omega) (by omega) (by omega) (by omega)]
        exact hp0 (by omega)
    · -- on
      refine i_const dX5_after_20 ?_
      refine i_ireturn dX5_after_21 rfl rfl ?_
      exact hp1 (by omega)
theorem q_positionsIn {t : Int} (hp : J.2.2 a = some p) (hr : cPt p w s) (hO : wP w s) (ht : -2147483648 ≤ t ∧ t < 2147483648) (hp0 : (0 ≤ t ∧ t < w (476 * s + 5)) → P (.inl (some (.int (iI (w (476 * s + (56 + t)) - w (476 * s + (56 + t)) % 2))))) (V, C, J)) (hp1 : ¬ (0 ≤ t ∧ t < w (476 * s + 5)) → P (.inl (some (.int (iI 0)))) (V, C, J)) : RM G mX5_positionsIn (c_I Y h0) [.ref a, .int (iI t)] (d) 0 0 P (V, C, J) := by
  refine RM.of (L := [some (.ref a), some (.int (iI t))]) cfX5_positionsIn rfl (Nat.le_of_ble_eq_true rfl) ?_
  have r := hr.1
  have o5 := hO.2.2.2.1
  have o0 := hO.1
  refine i_iload_n dX5_positionsIn_0 rfl ?_
  refine i_if_lt (tgt := 33) dX5_positionsIn_1 (by decide) (by omega) (fun c1 => ?_) (fun c1 => ?_)
  · -- jumps
    refine i_const dX5_positionsIn_33 ?_
    refine i_ireturn dX5_positionsIn_34 rfl rfl ?_
    exact hp1 (by omega)
  · -- on
    refine i_iload_n dX5_positionsIn_4 rfl ?_
    refine i_aload_n dX5_positionsIn_5 rfl ?_
    refine u_getP (vv := .int (iI (p.1 5))) hp dX5_positionsIn_6 fX5_44.o rfl ?_
    refine i_icmp_ge (tgt := 33) dX5_positionsIn_9 (by decide) (by omega) (by omega) (fun c9 => ?_) (fun c9 => ?_)
    · -- jumps
      refine i_const dX5_positionsIn_33 ?_
      refine i_ireturn dX5_positionsIn_34 rfl rfl ?_
      exact hp1 (by omega)
    · -- on
      refine i_iload_n dX5_positionsIn_12 rfl ?_
      refine i_aload_n dX5_positionsIn_13 rfl ?_
      refine u_getP (vv := .ref (p.2.2 3)) hp dX5_positionsIn_14 fX5_66.o rfl ?_
      refine u_alenP (N := 60) hp dX5_positionsIn_17 (by decide) rfl ?_
      refine i_icmp_ge (tgt := 33) dX5_positionsIn_18 (by decide) (by omega) (by omega) (fun c18 => ?_) (fun c18 => ?_)
      · -- jumps
        refine i_const dX5_positionsIn_33 ?_
        refine i_ireturn dX5_positionsIn_34 rfl rfl ?_
        exact hp1 (by omega)
      · -- on
        have e3 := hr.2.2.2.1 t (by omega) (by omega)
        have m3 := hO.2.2.1 (56 + t) (by omega) (by omega)
        refine i_aload_n dX5_positionsIn_21 rfl ?_
        refine u_getP (vv := .ref (p.2.2 3)) hp dX5_positionsIn_22 fX5_66.o rfl ?_
        refine i_iload_n dX5_positionsIn_25 rfl ?_
        refine u_ialdP (N := 60) hp dX5_positionsIn_26 (by decide) rfl (by omega) rfl ?_
        refine i_bipush dX5_positionsIn_27 (by decide) ?_
        refine i_andE dX5_positionsIn_29 (iI_even (by omega)) ?_
        refine i_goto (tgt := 34) dX5_positionsIn_30 (by decide) ?_
        refine i_ireturn dX5_positionsIn_34 rfl rfl ?_
        rw [e3]
        exact hp0 (by omega)
theorem za_c {a b : Int} : za a b = za b a := by unfold za; rw [Nat.and_comm]
theorem q_accepts {t : Int} (hp : J.2.2 a = some p) (hr : cPt p w s) (hO : wP w s) (hX : wX w s) (ht : -2147483648 ≤ t ∧ t < 2147483648) (hp0 : (0 ≤ t ∧ t < w (476 * s + 5)) → P (.inl (some (.int (iI (zb (wAcc w s t)))))) (V, C, J)) (hp1 : ¬ (0 ≤ t ∧ t < w (476 * s + 5)) → P (.inl (some (.int (iI 0)))) (V, C, J)) : RM G mX5_accepts (c_I Y h0) [.ref a, .int (iI t)] (d + 1) 0 0 P (V, C, J) := by
  refine RM.of (L := [some (.ref a), some (.int (iI t))]) cfX5_accepts rfl (Nat.le_of_ble_eq_true rfl) ?_
  have r := hr.1
  have o5 := hO.2.2.2.1
  have o0 := hO.1
  have m4 := hO.2.2.1 3 (by decide) (by decide)
  have o2 := hO.2.1
  refine i_iload_n dX5_accepts_0 rfl ?_
  refine i_if_ne (tgt := 11) dX5_accepts_1 (by decide) (by omega) (fun c1 => ?_) (fun c1 => ?_)
  · -- jumps
    refine i_aload_n dX5_accepts_11 rfl ?_
    refine i_iload_n dX5_accepts_12 rfl ?_
    refine u_callP (mc := 0) (ms := 0) (As := [_]) hp dX5_accepts_13 cfX5_positionsIn imX5_positionsIn seX5_positionsIn lX5_75 rfl rfl rfl rfl (Nat.le_of_ble_eq_true rfl) (Nat.zero_add _).symm (Nat.zero_add _).symm ?_
    refine q_positionsIn hp hr hO (by omega) (fun q9 => RK.v ?_) (fun q9 => RK.v ?_)
    · -- case
      have m3 := hO.2.2.1 (56 + t) (by omega) (by omega)
      have x2 := hX.2.1 t (by omega) (by omega)
      refine i_aload_n dX5_accepts_16 rfl ?_
      refine u_getP (vv := .int (iI (p.1 4))) hp dX5_accepts_17 fX5_40.o rfl ?_
      refine i_and dX5_accepts_20 (by omega) (by omega) ?_
      have b3 := @za_nn (w (476 * s + (56 + t)) - w (476 * s + (56 + t)) % 2) (p.1 4)
      have b4 := @za_le (w (476 * s + (56 + t)) - w (476 * s + (56 + t)) % 2) (p.1 4) (by omega)
      refine i_if_eq (tgt := 28) dX5_accepts_21 (by decide) (by omega) (fun c21 => ?_) (fun c21 => ?_)
      · -- jumps
        refine i_const dX5_accepts_28 ?_
        refine i_ireturn dX5_accepts_29 rfl rfl ?_
        have hq := hp0 (by omega)
        rw [zb_f (fun z => z.elim (fun z => z (by rw [r.2.2.2.2.1] at c21; rw [x2, Int.sub_zero] at c21; exact c21)) (fun z => by omega))] at hq
        exact hq
      · -- on
        refine i_const dX5_accepts_24 ?_
        refine i_goto (tgt := 29) dX5_accepts_25 (by decide) ?_
        refine i_ireturn dX5_accepts_29 rfl rfl ?_
        have hq := hp0 (by omega)
        rw [zb_t (Or.inl (by rw [r.2.2.2.2.1] at c21; rw [x2, Int.sub_zero] at c21; exact c21))] at hq
        exact hq
    · -- case
      refine i_aload_n dX5_accepts_16 rfl ?_
      refine u_getP (vv := .int (iI (p.1 4))) hp dX5_accepts_17 fX5_40.o rfl ?_
      refine i_and dX5_accepts_20 (by omega) (by omega) ?_
      have b3 := @za_nn 0 (p.1 4)
      have b4 := @za_le 0 (p.1 4) (by omega)
      refine i_if_eq (tgt := 28) dX5_accepts_21 (by decide) (by omega) (fun c21 => ?_) (fun c21 => ?_)
      · -- jumps
        refine i_const dX5_accepts_28 ?_
        refine i_ireturn dX5_accepts_29 rfl rfl ?_
        exact hp1 (by omega)
      · -- on
        refine i_const dX5_accepts_24 ?_
        refine i_goto (tgt := 29) dX5_accepts_25 (by decide) ?_
        refine i_ireturn dX5_accepts_29 rfl rfl ?_
        exfalso; omega
  · -- on
    refine i_aload_n dX5_accepts_4 rfl ?_
    refine u_getP (vv := .int (iI (p.1 2))) hp dX5_accepts_5 fX5_32.o rfl ?_
    refine i_goto (tgt := 29) dX5_accepts_8 (by decide) ?_
    refine i_ireturn dX5_accepts_29 rfl (zb_nar (by first | exact zb_or | omega)) ?_
    obtain rfl : t = 0 := by omega
    have hq := hp0 (by omega)
    have x3 := hX.2.2.1
    have e1 : za (w (476 * s + (56 + 0))) (w (476 * s + 3)) = 0 := by rw [hX.1, za_c, za_1 (by omega)]; omega
    rcases hO.2.1 with q | q
    · rw [zb_f (fun z => z.elim (fun z => z e1) (fun z => by omega))] at hq; rw [r.2.2.1, q]; exact hq
    · rw [zb_t (Or.inr ⟨by rw [hX.1]; rfl, q⟩)] at hq; rw [r.2.2.1, q]; exact hq
theorem q_streetOf {i : Int} (hp : J.2.2 a = some p) (hr : cPt p w s) (hO : wP w s) (hi : (1 ≤ i ∧ i ≤ w (476 * s + 0))) (hp0 : P (.inl (some (.int (iI (if w (476 * s + (31 + i)) = 6 then -1 else w (476 * s + (31 + i))))))) (V, C, J)) : RM G mX5_streetOf (c_I Y h0) [.ref a, .int (iI i)] (d + 1) 0 0 P (V, C, J) := by
  refine RM.of (L := [some (.ref a), some (.int (iI i))]) cfX5_streetOf rfl (Nat.le_of_ble_eq_true rfl) ?_
  have r := hr.1
  have o5 := hO.2.2.2.1
  have o0 := hO.1
  refine i_iload_n dX5_streetOf_0 rfl ?_
  refine i_aload_n dX5_streetOf_1 rfl ?_
  refine u_getP (vv := .ref (p.2.2 0)) hp dX5_streetOf_2 fX5_54.o rfl ?_
  refine u_alenP (N := 25) hp dX5_streetOf_5 (by decide) rfl ?_
  refine i_callSN (mc := 0) (ms := 0) (As := [_, _]) dX5_streetOf_6 cfX10_isIndex stX10_isIndex lX5_71 rfl rfl (Nat.le_of_ble_eq_true rfl) (Nat.zero_add _).symm (Nat.zero_add _).symm ?_
  refine q_isIndex (by omega) (by omega) (RKN.v ?_)
  refine i_ifeq_b (tgt := 21) dX5_streetOf_9 (by decide) (fun c9 => ?_) (fun c9 => ?_)
  · -- jumps
    refine i_const dX5_streetOf_21 ?_
    refine i_ireturn dX5_streetOf_22 rfl rfl ?_
    exfalso; omega
  · -- on
    refine i_aload_n dX5_streetOf_12 rfl ?_
    refine u_getP (vv := .ref (p.2.2 0)) hp dX5_streetOf_13 fX5_54.o rfl ?_
    refine i_iload_n dX5_streetOf_16 rfl ?_
    refine u_ialdP (N := 25) hp dX5_streetOf_17 (by decide) rfl (by omega) rfl ?_
    refine i_goto (tgt := 22) dX5_streetOf_18 (by decide) ?_
    refine i_ireturn dX5_streetOf_22 rfl rfl ?_
    rw [(hr.2.1 i (by omega) (by omega)).1]
    exact hp0
theorem q_followOf {i : Int} (hp : J.2.2 a = some p) (hr : cPt p w s) (hO : wP w s) (hi : (1 ≤ i ∧ i ≤ w (476 * s + 0))) (hp0 : P (.inl (some (.int (iI (w (476 * s + (6 + i))))))) (V, C, J)) : RM G mX5_followOf (c_I Y h0) [.ref a, .int (iI i)] (d + 1) 0 0 P (V, C, J) := by
  refine RM.of (L := [some (.ref a), some (.int (iI i))]) cfX5_followOf rfl (Nat.le_of_ble_eq_true rfl) ?_
  have r := hr.1
  have o5 := hO.2.2.2.1
  have o0 := hO.1
  refine i_iload_n dX5_followOf_0 rfl ?_
  refine i_aload_n dX5_followOf_1 rfl ?_
  refine u_getP (vv := .ref (p.2.2 1)) hp dX5_followOf_2 fX5_58.o rfl ?_
  refine u_alenP (N := 25) hp dX5_followOf_5 (by decide) rfl ?_
  refine i_callSN (mc := 0) (ms := 0) (As := [_, _]) dX5_followOf_6 cfX10_isIndex stX10_isIndex lX5_71 rfl rfl (Nat.le_of_ble_eq_true rfl) (Nat.zero_add _).symm (Nat.zero_add _).symm ?_
  refine q_isIndex (by omega) (by omega) (RKN.v ?_)
  refine i_ifeq_b (tgt := 21) dX5_followOf_9 (by decide) (fun c9 => ?_) (fun c9 => ?_)
  · -- jumps
    refine i_const dX5_followOf_21 ?_
    refine i_ireturn dX5_followOf_22 rfl rfl ?_
    exfalso; omega
  · -- on
    refine i_aload_n dX5_followOf_12 rfl ?_
    refine u_getP (vv := .ref (p.2.2 1)) hp dX5_followOf_13 fX5_58.o rfl ?_
    refine i_iload_n dX5_followOf_16 rfl ?_
    refine u_ialdP (N := 25) hp dX5_followOf_17 (by decide) rfl (by omega) rfl ?_
    refine i_goto (tgt := 22) dX5_followOf_18 (by decide) ?_
    refine i_ireturn dX5_followOf_22 rfl rfl ?_
    rw [(hr.2.1 i (by omega) (by omega)).2]
    exact hp0
end C39
