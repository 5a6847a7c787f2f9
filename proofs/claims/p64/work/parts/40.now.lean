/-! ===== the class: the world that is now ===== -/
/-- a world: night, walkers, steps, gates, rows, patterns, are the reference's numbers -/
def cWd (nt wk al dg ng : Int) (sl sa sp : Int → Int) (r0 r1 : Nat) (PT : Nat → Option c_P) (w : Int → Int) : Prop :=
  (nt = w 983 ∧ wk = w 952 ∧ al = w 984) ∧ (∀ k, 0 ≤ k → k < w 952 → sl k = w (953 + 3 * k + 0) ∧ sa k = w (953 + 3 * k + 1) ∧ sp k = w (953 + 3 * k + 2)) ∧
  (((0 ≤ dg ∧ dg < 64) ∧ (0 ≤ ng ∧ ng < 64)) ∧ (∀ c, 0 ≤ c → c < 6 → (zt dg c ↔ w (971 + 2 * c + 0) = 1)) ∧ ∀ c, 0 ≤ c → c < 6 → (zt ng c ↔ w (971 + 2 * c + 1) = 1)) ∧
  (∃ p, PT r0 = some p ∧ cPt p w 0) ∧ ∃ p, PT r1 = some p ∧ cPt p w 1
def cNow (V : Nat → Int) (C : Nat → Int → Int) (J : c_J) (w : Int → Int) : Prop := cWd (V 20) (V 21) (V 22) (V 23) (V 24) (C 31) (C 32) (C 33) (J.2.1 0) (J.2.1 1) J.2.2 w
section C40a
variable {V : Nat → Int} {C : Nat → Int → Int} {J : c_J} {w : Int → Int}
theorem cNow.n (h : cNow V C J w) : V 20 = w 983 ∧ V 21 = w 952 ∧ V 22 = w 984 := h.1
theorem cNow.k (h : cNow V C J w) {k : Int} (h0 : 0 ≤ k) (h1 : k < w 952) : C 31 k = w (953 + 3 * k + 0) ∧ C 32 k = w (953 + 3 * k + 1) ∧ C 33 k = w (953 + 3 * k + 2) := h.2.1 k h0 h1
theorem cNow.p (h : cNow V C J w) {s : Int} (hs : s = 0 ∨ s = 1) : ∃ p, J.2.2 (J.2.1 (if s = 0 then 0 else 1)) = some p ∧ cPt p w s := by
  rcases hs with rfl | rfl
  · exact h.2.2.2.1
  · exact h.2.2.2.2
end C40a
section C40
variable {G : p_G} {Y : Nat → Nat} {h0 : p_H} {P : (Option Value) ⊕ String → c_X → Prop} {d : Nat} {V : Nat → Int} {C : Nat → Int → Int} {J : c_J}
variable {w : Int → Int}
theorem q_slotOf {k : Int} (hN : cNow V C J w) (hO : wOK w) (hk : 0 ≤ k ∧ k < w 952) (hp0 : P (.inl (some (.int (iI (w (953 + 3 * k + 0)))))) (V, C, J)) : RM G mX9_slotOf (c_I Y h0) [.ref (Y 30), .int (iI k)] (d + 1) 0 0 P (V, C, J) := by
  refine RM.of (L := [some (.ref (Y 30)), some (.int (iI k))]) cfX9_slotOf rfl (Nat.le_of_ble_eq_true rfl) ?_
  have n1 := hN.n
  have b0 := hO.2.1
  refine i_iload_n dX9_slotOf_0 rfl ?_
  refine i_aload_n dX9_slotOf_1 rfl ?_
  refine u_get (i := 30) (vv := .ref (Y (31))) dX9_slotOf_2 fX9_18.o (by decide) rfl rfl ?_
  refine u_alen (N := 6) dX9_slotOf_5 (by decide) rfl (by decide) rfl ?_
  refine i_callSN (mc := 0) (ms := 0) (As := [_, _]) dX9_slotOf_6 cfX10_isIndex stX10_isIndex lX9_57 rfl rfl (Nat.le_of_ble_eq_true rfl) (Nat.zero_add _).symm (Nat.zero_add _).symm ?_
  refine q_isIndex (by omega) (by omega) (RKN.v ?_)
  refine i_ifeq_b (tgt := 21) dX9_slotOf_9 (by decide) (fun c9 => ?_) (fun c9 => ?_)
  · -- jumps
    refine i_const dX9_slotOf_21 ?_
    refine i_ireturn dX9_slotOf_22 rfl rfl ?_
    exfalso; omega
  · -- on
    refine i_aload_n dX9_slotOf_12 rfl ?_
    refine u_get (i := 30) (vv := .ref (Y (31))) dX9_slotOf_13 fX9_18.o (by decide) rfl rfl ?_
    refine i_iload_n dX9_slotOf_16 rfl ?_
    refine u_iald (i := 31) (N := 6) (v := C 31 k) dX9_slotOf_17 (by decide) rfl (by decide) (by omega) rfl ?_
    refine i_goto (tgt := 22) dX9_slotOf_18 (by decide) ?_
    refine i_ireturn dX9_slotOf_22 rfl rfl ?_
    rw [(hN.k (by omega) (by omega)).1]
    exact hp0
theorem q_stateOf {k : Int} (hN : cNow V C J w) (hO : wOK w) (hk : 0 ≤ k ∧ k < w 952) (hp0 : P (.inl (some (.int (iI (w (953 + 3 * k + 1)))))) (V, C, J)) : RM G mX9_stateOf (c_I Y h0) [.ref (Y 30), .int (iI k)] (d + 1) 0 0 P (V, C, J) := by
  refine RM.of (L := [some (.ref (Y 30)), some (.int (iI k))]) cfX9_stateOf rfl (Nat.le_of_ble_eq_true rfl) ?_
  have n1 := hN.n
  have b0 := hO.2.1
  refine i_iload_n dX9_stateOf_0 rfl ?_
  refine i_aload_n dX9_stateOf_1 rfl ?_
  refine u_get (i := 30) (vv := .ref (Y (32))) dX9_stateOf_2 fX9_22.o (by decide) rfl rfl ?_
  refine u_alen (N := 6) dX9_stateOf_5 (by decide) rfl (by decide) rfl ?_
  refine i_callSN (mc := 0) (ms := 0) (As := [_, _]) dX9_stateOf_6 cfX10_isIndex stX10_isIndex lX9_57 rfl rfl (Nat.le_of_ble_eq_true rfl) (Nat.zero_add _).symm (Nat.zero_add _).symm ?_
  refine q_isIndex (by omega) (by omega) (RKN.v ?_)
  refine i_ifeq_b (tgt := 21) dX9_stateOf_9 (by decide) (fun c9 => ?_) (fun c9 => ?_)
  · -- jumps
    refine i_const dX9_stateOf_21 ?_
    refine i_ireturn dX9_stateOf_22 rfl rfl ?_
    exfalso; omega
  · -- on
    refine i_aload_n dX9_stateOf_12 rfl ?_
    refine u_get (i := 30) (vv := .ref (Y (32))) dX9_stateOf_13 fX9_22.o (by decide) rfl rfl ?_
    refine i_iload_n dX9_stateOf_16 rfl ?_
    refine u_iald (i := 32) (N := 6) (v := C 32 k) dX9_stateOf_17 (by decide) rfl (by decide) (by omega) rfl ?_
    refine i_goto (tgt := 22) dX9_stateOf_18 (by decide) ?_
    refine i_ireturn dX9_stateOf_22 rfl rfl ?_
    rw [(hN.k (by omega) (by omega)).2.1]
    exact hp0
theorem q_stepsOf {k : Int} (hN : cNow V C J w) (hO : wOK w) (hk : 0 ≤ k ∧ k < w 952) (hp0 : P (.inl (some (.int (iI (w (953 + 3 * k + 2)))))) (V, C, J)) : RM G mX9_stepsOf (c_I Y h0) [.ref (Y 30), .int (iI k)] (d + 1) 0 0 P (V, C, J) := by
  refine RM.of (L := [some (.ref (Y 30)), some (.int (iI k))]) cfX9_stepsOf rfl (Nat.le_of_ble_eq_true rfl) ?_
  have n1 := hN.n
  have b0 := hO.2.1
  refine i_iload_n dX9_stepsOf_0 rfl ?_
  refine i_aload_n dX9_stepsOf_1 rfl ?_
  refine u_get (i := 30) (vv := .ref (Y (33))) dX9_stepsOf_2 fX9_25.o (by decide) rfl rfl ?_
  refine u_alen (N := 6) dX9_stepsOf_5 (by decide) rfl (by decide) rfl ?_
  refine i_callSN (mc := 0) (ms := 0) (As := [_, _]) dX9_stepsOf_6 cfX10_isIndex stX10_isIndex lX9_57 rfl rfl (Nat.le_of_ble_eq_true rfl) (Nat.zero_add _).symm (Nat.zero_add _).symm ?_
  refine q_isIndex (by omega) (by omega) (RKN.v ?_)
  refine i_ifeq_b (tgt := 21) dX9_stepsOf_9 (by decide) (fun c9 => ?_) (fun c9 => ?_)
  · -- jumps
    refine i_const dX9_stepsOf_21 ?_
    refine i_ireturn dX9_stepsOf_22 rfl rfl ?_
    exfalso; omega
  · -- on
    refine i_aload_n dX9_stepsOf_12 rfl ?_
    refine u_get (i := 30) (vv := .ref (Y (33))) dX9_stepsOf_13 fX9_25.o (by decide) rfl rfl ?_
    refine i_iload_n dX9_stepsOf_16 rfl ?_
    refine u_iald (i := 33) (N := 6) (v := C 33 k) dX9_stepsOf_17 (by decide) rfl (by decide) (by omega) rfl ?_
    refine i_goto (tgt := 22) dX9_stepsOf_18 (by decide) ?_
    refine i_ireturn dX9_stepsOf_22 rfl rfl ?_
    rw [(hN.k (by omega) (by omega)).2.2]
    exact hp0
theorem q_pattern {s : Int} (hN : cNow V C J w) (hs : s = 0 ∨ s = 1) (hp : ∀ a p, a = J.2.1 (if s = 0 then 0 else 1) → J.2.2 a = some p → cPt p w s → P (.inl (some (.ref a))) (V, C, J)) : RM G mX9_pattern (c_I Y h0) [.ref (Y 30), .int (iI s)] (d) 0 0 P (V, C, J) := by
  refine RM.of (L := [some (.ref (Y 30)), some (.int (iI s))]) cfX9_pattern rfl (Nat.le_of_ble_eq_true rfl) ?_
  refine i_iload_n dX9_pattern_0 rfl ?_
  refine i_if_ne (tgt := 11) dX9_pattern_1 (by decide) (by omega) (fun c1 => ?_) (fun c1 => ?_)
  · -- jumps
    refine i_aload_n dX9_pattern_11 rfl ?_
    refine u_get (i := 30) (vv := .ref (J.2.1 1)) dX9_pattern_12 fX9_32 (by decide) rfl rfl ?_
    refine i_areturn dX9_pattern_15 rfl ?_
    obtain ⟨p, q1, q2⟩ := hN.p hs
    first | (rw [if_pos (by omega)] at hp q1; exact hp _ p rfl q1 q2) | (rw [if_neg (by omega)] at hp q1; exact hp _ p rfl q1 q2)
  · -- on
    refine i_aload_n dX9_pattern_4 rfl ?_
    refine u_get (i := 30) (vv := .ref (J.2.1 0)) dX9_pattern_5 fX9_28 (by decide) rfl rfl ?_
    refine i_goto (tgt := 15) dX9_pattern_8 (by decide) ?_
    refine i_areturn dX9_pattern_15 rfl ?_
    obtain ⟨p, q1, q2⟩ := hN.p hs
    first | (rw [if_pos (by omega)] at hp q1; exact hp _ p rfl q1 q2) | (rw [if_neg (by omega)] at hp q1; exact hp _ p rfl q1 q2)
theorem q_patternOfWalker {k : Int} (hN : cNow V C J w) (hO : wOK w) (hk : 0 ≤ k ∧ k < w 952) (hp : ∀ a p, J.2.2 a = some p → cPt p w (w (953 + 3 * k + 0)) → P (.inl (some (.ref a))) (V, C, J)) : RM G mX9_patternOfWalker (c_I Y h0) [.ref (Y 30), .int (iI k)] (d + 2) 0 0 P (V, C, J) := by
  refine RM.of (L := [some (.ref (Y 30)), some (.int (iI k))]) cfX9_patternOfWalker rfl (Nat.le_of_ble_eq_true rfl) ?_
  have b1 := hO.wk hk.1 hk.2
  refine i_aload_n dX9_patternOfWalker_0 rfl ?_
  refine i_aload_n dX9_patternOfWalker_1 rfl ?_
  refine i_iload_n dX9_patternOfWalker_2 rfl ?_
  refine u_callV (i := 30) (mc := 0) (ms := 0) (As := [_]) dX9_patternOfWalker_3 cfX9_slotOf imX9_slotOf seX9_slotOf lX9_45 (by decide) rfl rfl rfl rfl rfl (Nat.le_of_ble_eq_true rfl) (Nat.zero_add _).symm (Nat.zero_add _).symm ?_
  refine q_slotOf hN hO (by omega) (RK.v ?_)
  refine u_callV (i := 30) (mc := 0) (ms := 0) (As := [_]) dX9_patternOfWalker_6 cfX9_pattern imX9_pattern seX9_pattern lX9_49 (by decide) rfl rfl rfl rfl rfl (Nat.le_of_ble_eq_true rfl) (Nat.zero_add _).symm (Nat.zero_add _).symm ?_
  refine q_pattern hN (by omega) (fun a1 p1 ha1 hp1 hr1 => RK.v ?_)
  refine i_areturn dX9_patternOfWalker_9 rfl ?_
  exact hp _ _ hp1 hr1
theorem q_openStreets  (hN : cNow V C J w) (hO : wOK w) (hp : ∀ m, (0 ≤ m ∧ m < 64) → (∀ c, 0 ≤ c → c < 6 → (zt m c ↔ w (971 + 2 * c + w 983) = 1)) → P (.inl (some (.int (iI m)))) (V, C, J)) : RM G mX9_openStreets (c_I Y h0) [.ref (Y 30)] (d) 0 0 P (V, C, J) := by
  refine RM.of (L := [some (.ref (Y 30))]) cfX9_openStreets rfl (Nat.le_of_ble_eq_true rfl) ?_
  have n1 := hN.n
  have q0 := hO.nght
  refine i_aload_n dX9_openStreets_0 rfl ?_
  refine u_get (i := 30) (vv := .int (iI (V 20))) dX9_openStreets_1 fX9_35 (by decide) rfl rfl ?_
  refine i_if_eq (tgt := 14) dX9_openStreets_4 (by decide) (by omega) (fun c4 => ?_) (fun c4 => ?_)
  · -- jumps
    refine i_aload_n dX9_openStreets_14 rfl ?_
    refine u_get (i := 30) (vv := .int (iI (V 23))) dX9_openStreets_15 fX9_9 (by decide) rfl rfl ?_
    refine i_ireturn dX9_openStreets_18 rfl rfl ?_
    rcases hO.nght with q | q
    · first | (exfalso; omega; done) | (refine hp _ (by have := hN.2.2.1.1; omega) (fun c c0 c1 => ?_); rw [q]; first | exact hN.2.2.1.2.1 c c0 c1 | exact hN.2.2.1.2.2 c c0 c1)
    · first | (exfalso; omega; done) | (refine hp _ (by have := hN.2.2.1.1; omega) (fun c c0 c1 => ?_); rw [q]; first | exact hN.2.2.1.2.2 c c0 c1 | exact hN.2.2.1.2.1 c c0 c1)
  · -- on
    refine i_aload_n dX9_openStreets_7 rfl ?_
    refine u_get (i := 30) (vv := .int (iI (V 24))) dX9_openStreets_8 fX9_15 (by decide) rfl rfl ?_
    refine i_goto (tgt := 18) dX9_openStreets_11 (by decide) ?_
    refine i_ireturn dX9_openStreets_18 rfl rfl ?_
    rcases hO.nght with q | q
    · first | (exfalso; omega; done) | (refine hp _ (by have := hN.2.2.1.1; omega) (fun c c0 c1 => ?_); rw [q]; first | exact hN.2.2.1.2.1 c c0 c1 | exact hN.2.2.1.2.2 c c0 c1)
    · first | (exfalso; omega; done) | (refine hp _ (by have := hN.2.2.1.1; omega) (fun c c0 c1 => ?_); rw [q]; first | exact hN.2.2.1.2.2 c c0 c1 | exact hN.2.2.1.2.1 c c0 c1)
theorem q_isOpen {c : Int} (hN : cNow V C J w) (hO : wOK w) (hc : -2147483648 ≤ c ∧ c < 2147483648) (hp : P (.inl (some (.int (iI (zb (0 ≤ c ∧ c < 6 ∧ w (971 + 2 * c + w 983) = 1)))))) (V, C, J)) : RM G mX9_isOpen (c_I Y h0) [.ref (Y 30), .int (iI c)] (d + 1) 0 0 P (V, C, J) := by
  refine RM.of (L := [some (.ref (Y 30)), some (.int (iI c))]) cfX9_isOpen rfl (Nat.le_of_ble_eq_true rfl) ?_
  refine i_iload_n dX9_isOpen_0 rfl ?_
  refine i_bipush dX9_isOpen_1 (by decide) ?_
  refine i_callSN (mc := 0) (ms := 0) (As := [_, _]) dX9_isOpen_3 cfX10_isIndex stX10_isIndex lX9_57 rfl rfl (Nat.le_of_ble_eq_true rfl) (Nat.zero_add _).symm (Nat.zero_add _).symm ?_
  refine q_isIndex (by omega) (by omega) (RKN.v ?_)
  refine i_ifeq_b (tgt := 24) dX9_isOpen_6 (by decide) (fun c6 => ?_) (fun c6 => ?_)
  · -- jumps
    refine i_const dX9_isOpen_24 ?_
    refine i_ireturn dX9_isOpen_25 rfl rfl ?_
    have hq := hp
    rw [zb_f (fun z => by omega)] at hq
    exact hq
  · -- on
    refine i_aload_n dX9_isOpen_9 rfl ?_
    refine u_callV (i := 30) (mc := 0) (ms := 0) (As := []) dX9_isOpen_10 cfX9_openStreets imX9_openStreets seX9_openStreets lX9_61 (by decide) rfl rfl rfl rfl rfl (Nat.le_of_ble_eq_true rfl) (Nat.zero_add _).symm (Nat.zero_add _).symm ?_
    refine q_openStreets hN hO (fun m1 hm1 hg1 => RK.v ?_)
    refine i_iload_n dX9_isOpen_13 rfl ?_
    refine i_shr dX9_isOpen_14 (iI_shr (by omega) (by omega)) ?_
    refine i_const dX9_isOpen_15 ?_
    refine i_and dX9_isOpen_16 (zs_nn) (by omega) ?_
    refine RW.ti zs_1 ?_
    refine i_ifeq_b (tgt := 24) dX9_isOpen_17 (by decide) (fun c17 => ?_) (fun c17 => ?_)
    · -- jumps
      refine i_const dX9_isOpen_24 ?_
      refine i_ireturn dX9_isOpen_25 rfl rfl ?_
      have hq := hp
      rw [zb_f (fun z => c17 ((hg1 c (by omega) (by omega)).mpr z.2.2))] at hq
      exact hq
    · -- on
      refine i_const dX9_isOpen_20 ?_
      refine i_goto (tgt := 25) dX9_isOpen_21 (by decide) ?_
      refine i_ireturn dX9_isOpen_25 rfl rfl ?_
      have hq := hp
      rw [zb_t ⟨by omega, by omega, (hg1 c (by omega) (by omega)).mp c17⟩] at hq
      exact hq
end C40
