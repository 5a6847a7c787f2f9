/-! ===== the class: the input, the dead state, small ones ===== -/
section C47
variable {G : p_G} {Y : Nat → Nat} {h0 : p_H} {P : (Option Value) ⊕ String → c_X → Prop} {d : Nat} {V : Nat → Int} {C : Nat → Int → Int} {J : c_J}
variable {a : Nat} {p : c_P} {w : Int → Int} {s : Int}
theorem q_size1  (hp : P (.inl (some (.int (iI (V 4))))) (V, C, J)) : RM G mX1_size (c_I Y h0) [.ref (Y 1)] (d) 0 0 P (V, C, J) := by
  refine RM.of (L := [some (.ref (Y 1))]) cfX1_size rfl (Nat.le_of_ble_eq_true rfl) ?_
  refine i_aload_n dX1_size_0 rfl ?_
  refine u_get (i := 1) (vv := .int (iI (V 4))) dX1_size_1 fX1_15 (by decide) rfl rfl ?_
  refine i_ireturn dX1_size_4 rfl rfl ?_
  first | exact hp | (exfalso; omega)
theorem q_shorten {n : Int} (hp : P (.inl none) (vu V 4 n, C, J)) : RM G mX1_shorten (c_I Y h0) [.ref (Y 1), .int (iI n)] (d) 0 0 P (V, C, J) := by
  refine RM.of (L := [some (.ref (Y 1)), some (.int (iI n))]) cfX1_shorten rfl (Nat.le_of_ble_eq_true rfl) ?_
  refine i_aload_n dX1_shorten_0 rfl ?_
  refine i_iload_n dX1_shorten_1 rfl ?_
  refine u_put (i := 1) (kV := 4) dX1_shorten_2 fX1_15 (by decide) rfl rfl rfl (Nat.le_of_ble_eq_true rfl) rfl rfl ?_
  refine i_return dX1_shorten_5 rfl ?_
  first | exact hp | (exfalso; omega)
theorem q_value {i : Int} (h4 : 0 ≤ V 4 ∧ V 4 ≤ 200) (hi : -2147483648 ≤ i ∧ i < 2147483648) (hp1 : (0 ≤ i ∧ i < V 4) → P (.inl (some (.int (iI (C 2 i))))) (V, C, J)) (hp0 : ¬ (0 ≤ i ∧ i < V 4) → P (.inl (some (.int (iI (-1))))) (V, C, J)) : RM G mX1_value (c_I Y h0) [.ref (Y 1), .int (iI i)] (d + 1) 0 0 P (V, C, J) := by
  refine RM.of (L := [some (.ref (Y 1)), some (.int (iI i))]) cfX1_value rfl (Nat.le_of_ble_eq_true rfl) ?_
  refine i_iload_n dX1_value_0 rfl ?_
  refine i_aload_n dX1_value_1 rfl ?_
  refine u_get (i := 1) (vv := .int (iI (V 4))) dX1_value_2 fX1_15 (by decide) rfl rfl ?_
  refine i_callSN (mc := 0) (ms := 0) (As := [_, _]) dX1_value_5 cfX10_isIndex stX10_isIndex lX1_32 rfl rfl (Nat.le_of_ble_eq_true rfl) (Nat.zero_add _).symm (Nat.zero_add _).symm ?_
  refine q_isIndex (by omega) (by omega) (RKN.v ?_)
  refine i_ifeq_b (tgt := 29) dX1_value_8 (by decide) (fun c8 => ?_) (fun c8 => ?_)
  · -- jumps
    refine i_const dX1_value_29 ?_
    refine i_ireturn dX1_value_30 rfl rfl ?_
    exact hp0 (by omega)
  · -- on
    refine i_iload_n dX1_value_11 rfl ?_
    refine i_aload_n dX1_value_12 rfl ?_
    refine u_get (i := 1) (vv := .ref (Y (2))) dX1_value_13 fX1_9.o (by decide) rfl rfl ?_
    refine u_alen (N := 200) dX1_value_16 (by decide) rfl (by decide) rfl ?_
    refine i_icmp_ge (tgt := 29) dX1_value_17 (by decide) (by omega) (by omega) (fun c17 => ?_) (fun c17 => ?_)
    · -- jumps
      refine i_const dX1_value_29 ?_
      refine i_ireturn dX1_value_30 rfl rfl ?_
      exact hp0 (by omega)
    · -- on
      refine i_aload_n dX1_value_20 rfl ?_
      refine u_get (i := 1) (vv := .ref (Y (2))) dX1_value_21 fX1_9.o (by decide) rfl rfl ?_
      refine i_iload_n dX1_value_24 rfl ?_
      refine u_iald (i := 2) (N := 200) (v := C 2 i) dX1_value_25 (by decide) rfl (by decide) (by omega) rfl ?_
      refine i_goto (tgt := 30) dX1_value_26 (by decide) ?_
      refine i_ireturn dX1_value_30 rfl rfl ?_
      exact hp1 (by omega)
theorem q_street {i : Int} (h4 : 0 ≤ V 4 ∧ V 4 ≤ 200) (hB : ∀ j, 0 ≤ j → j < V 4 → 0 ≤ C 2 j ∧ C 2 j < 256) (hi : 0 ≤ i ∧ i < V 4) (hp : P (.inl (some (.int (iI (if 0 ≤ C 2 i - 97 ∧ C 2 i - 97 ≤ 5 then C 2 i - 97 else -1))))) (V, C, J)) : RM G mX1_street (c_I Y h0) [.ref (Y 1), .int (iI i)] (d + 2) 0 0 P (V, C, J) := by
  refine RM.of (L := [some (.ref (Y 1)), some (.int (iI i)), none]) cfX1_street rfl (Nat.le_of_ble_eq_true rfl) ?_
  refine i_aload_n dX1_street_0 rfl ?_
  refine i_iload_n dX1_street_1 rfl ?_
  refine u_callV (i := 1) (mc := 0) (ms := 0) (As := [_]) dX1_street_2 cfX1_value imX1_value seX1_value lX1_36 (by decide) rfl rfl rfl rfl rfl (Nat.le_of_ble_eq_true rfl) (Nat.zero_add _).symm (Nat.zero_add _).symm ?_
  have hb := hB (i) (by omega) (by omega)
  refine q_value h4 (by omega) (fun _ => RK.v ?_) (fun q9 => absurd ⟨by omega, by omega⟩ q9)
  refine i_istore_n dX1_street_5 (L' := [some _, some _, some _]) (by decide) rfl ?_
  refine i_iload_n dX1_street_6 rfl ?_
  refine i_bipush dX1_street_7 (by decide) ?_
  refine i_icmp_lt (tgt := 25) dX1_street_9 (by decide) (by omega) (by omega) (fun c9 => ?_) (fun c9 => ?_)
  · -- jumps
    refine i_const dX1_street_25 ?_
    refine i_ireturn dX1_street_26 rfl rfl ?_
    rw [if_neg (fun z => absurd z (by show ¬ (_ ∧ _); omega))] at hp; exact hp
  · -- on
    refine i_iload_n dX1_street_12 rfl ?_
    refine i_bipush dX1_street_13 (by decide) ?_
    refine i_icmp_ge (tgt := 25) dX1_street_15 (by decide) (by omega) (by omega) (fun c15 => ?_) (fun c15 => ?_)
    · -- jumps
      refine i_const dX1_street_25 ?_
      refine i_ireturn dX1_street_26 rfl rfl ?_
      rw [if_neg (fun z => absurd z (by show ¬ (_ ∧ _); omega))] at hp; exact hp
    · -- on
      refine i_iload_n dX1_street_18 rfl ?_
      refine i_bipush dX1_street_19 (by decide) ?_
      refine i_sub dX1_street_21 ?_
      refine i_goto (tgt := 26) dX1_street_22 (by decide) ?_
      refine i_ireturn dX1_street_26 rfl rfl ?_
      rw [if_pos (show _ ∧ _ from by omega)] at hp; exact hp
theorem q_addByte {x : Int} (h4 : 0 ≤ V 4 ∧ V 4 < 200) (hp : P (.inl none) (vu V 4 (V 4 + 1), cu C 2 (zu (C 2) (V 4) x), J)) : RM G mX1_addByte (c_I Y h0) [.ref (Y 1), .int (iI x)] (d + 1) 0 0 P (V, C, J) := by
  refine RM.of (L := [some (.ref (Y 1)), some (.int (iI x))]) cfX1_addByte rfl (Nat.le_of_ble_eq_true rfl) ?_
  refine i_aload_n dX1_addByte_0 rfl ?_
  refine u_get (i := 1) (vv := .int (iI (V 4))) dX1_addByte_1 fX1_15 (by decide) rfl rfl ?_
  refine i_aload_n dX1_addByte_4 rfl ?_
  refine u_get (i := 1) (vv := .ref (Y (2))) dX1_addByte_5 fX1_9.o (by decide) rfl rfl ?_
  refine u_alen (N := 200) dX1_addByte_8 (by decide) rfl (by decide) rfl ?_
  refine i_callSN (mc := 0) (ms := 0) (As := [_, _]) dX1_addByte_9 cfX10_isIndex stX10_isIndex lX1_32 rfl rfl (Nat.le_of_ble_eq_true rfl) (Nat.zero_add _).symm (Nat.zero_add _).symm ?_
  refine q_isIndex (by omega) (by omega) (RKN.v ?_)
  refine i_ifeq_b (tgt := 35) dX1_addByte_12 (by decide) (fun c12 => ?_) (fun c12 => ?_)
  · -- jumps
    refine i_return dX1_addByte_35 rfl ?_
    first | exact hp | (exfalso; omega)
  · -- on
    refine i_aload_n dX1_addByte_15 rfl ?_
    refine u_get (i := 1) (vv := .ref (Y (2))) dX1_addByte_16 fX1_9.o (by decide) rfl rfl ?_
    refine i_aload_n dX1_addByte_19 rfl ?_
    refine u_get (i := 1) (vv := .int (iI (V 4))) dX1_addByte_20 fX1_15 (by decide) rfl rfl ?_
    refine i_iload_n dX1_addByte_23 rfl ?_
    refine u_iast (i := 2) (N := 200) dX1_addByte_24 (by decide) rfl (by decide) (by omega) rfl ?_
    refine i_aload_n dX1_addByte_25 rfl ?_
    refine i_dup dX1_addByte_26 rfl ?_
    refine u_get (i := 1) (vv := .int (iI (V 4))) dX1_addByte_27 fX1_15 (by decide) rfl rfl ?_
    refine i_const dX1_addByte_30 ?_
    refine i_add dX1_addByte_31 ?_
    refine u_put (i := 1) (kV := 4) dX1_addByte_32 fX1_15 (by decide) rfl rfl rfl (Nat.le_of_ble_eq_true rfl) rfl rfl ?_
    refine i_return dX1_addByte_35 rfl ?_
    first | exact hp | (exfalso; omega)
theorem q_size0  (hp : P (.inl (some (.int (iI (V 11))))) (V, C, J)) : RM G mX0_size (c_I Y h0) [.ref (Y 9)] (d) 0 0 P (V, C, J) := by
  refine RM.of (L := [some (.ref (Y 9))]) cfX0_size rfl (Nat.le_of_ble_eq_true rfl) ?_
  refine i_aload_n dX0_size_0 rfl ?_
  refine u_get (i := 9) (vv := .int (iI (V 11))) dX0_size_1 fX0_20 (by decide) rfl rfl ?_
  refine i_ireturn dX0_size_4 rfl rfl ?_
  first | exact hp | (exfalso; omega)
theorem q_errorOffset  (hp : P (.inl (some (.int (iI (V 8))))) (V, C, J)) : RM G mX6_errorOffset (c_I Y h0) [.ref (Y 3)] (d) 0 0 P (V, C, J) := by
  refine RM.of (L := [some (.ref (Y 3))]) cfX6_errorOffset rfl (Nat.le_of_ble_eq_true rfl) ?_
  refine i_aload_n dX6_errorOffset_0 rfl ?_
  refine u_get (i := 3) (vv := .int (iI (V 8))) dX6_errorOffset_1 fX6_43 (by decide) rfl rfl ?_
  refine i_ireturn dX6_errorOffset_4 rfl rfl ?_
  first | exact hp | (exfalso; omega)
theorem q_patternErrorKind  (hp : P (.inl (some (.int (iI (V 1))))) (V, C, J)) : RM G mX10_patternErrorKind (c_I Y h0) [.ref (Y 0)] (d) 0 0 P (V, C, J) := by
  refine RM.of (L := [some (.ref (Y 0))]) cfX10_patternErrorKind rfl (Nat.le_of_ble_eq_true rfl) ?_
  refine i_aload_n dX10_patternErrorKind_0 rfl ?_
  refine u_get (i := 0) (vv := .int (iI (V 1))) dX10_patternErrorKind_1 fX10_63 (by decide) rfl rfl ?_
  refine i_ireturn dX10_patternErrorKind_4 rfl rfl ?_
  first | exact hp | (exfalso; omega)
theorem q_patternErrorOffset  (hp : P (.inl (some (.int (iI (V 2))))) (V, C, J)) : RM G mX10_patternErrorOffset (c_I Y h0) [.ref (Y 0)] (d) 0 0 P (V, C, J) := by
  refine RM.of (L := [some (.ref (Y 0))]) cfX10_patternErrorOffset rfl (Nat.le_of_ble_eq_true rfl) ?_
  refine i_aload_n dX10_patternErrorOffset_0 rfl ?_
  refine u_get (i := 0) (vv := .int (iI (V 2))) dX10_patternErrorOffset_1 fX10_67 (by decide) rfl rfl ?_
  refine i_ireturn dX10_patternErrorOffset_4 rfl rfl ?_
  first | exact hp | (exfalso; omega)
theorem q_undoCount  (hp : P (.inl (some (.int (iI (V 11))))) (V, C, J)) : RM G mX10_undoCount (c_I Y h0) [.ref (Y 0)] (d + 1) 0 0 P (V, C, J) := by
  refine RM.of (L := [some (.ref (Y 0))]) cfX10_undoCount rfl (Nat.le_of_ble_eq_true rfl) ?_
  refine i_aload_n dX10_undoCount_0 rfl ?_
  refine u_get (i := 0) (vv := .ref (Y (9))) dX10_undoCount_1 fX10_56.o (by decide) rfl rfl ?_
  refine u_callV (i := 9) (mc := 0) (ms := 0) (As := []) dX10_undoCount_4 cfX0_size imX0_size seX0_size lX10_197 (by decide) rfl rfl rfl rfl rfl (Nat.le_of_ble_eq_true rfl) (Nat.zero_add _).symm (Nat.zero_add _).symm ?_
  refine q_size0 (RK.v ?_)
  refine i_ireturn dX10_undoCount_7 rfl rfl ?_
  first | exact hp | (exfalso; omega)
theorem q_isNight  (hn : V 20 = 0 ∨ V 20 = 1) (hp : P (.inl (some (.int (iI (V 20))))) (V, C, J)) : RM G mX10_isNight (c_I Y h0) [.ref (Y 0)] (d) 0 0 P (V, C, J) := by
  refine RM.of (L := [some (.ref (Y 0))]) cfX10_isNight rfl (Nat.le_of_ble_eq_true rfl) ?_
  refine i_aload_n dX10_isNight_0 rfl ?_
  refine u_get (i := 0) (vv := .ref (Y (30))) dX10_isNight_1 fX10_49.o (by decide) rfl rfl ?_
  refine u_get (i := 30) (vv := .int (iI (V 20))) dX10_isNight_4 fX10_181 (by decide) rfl rfl ?_
  refine i_ireturn dX10_isNight_7 rfl (zb_nar (by first | exact zb_or | omega)) ?_
  first | exact hp | (exfalso; omega)
theorem q_walkerCount  (hp : P (.inl (some (.int (iI (V 21))))) (V, C, J)) : RM G mX10_walkerCount (c_I Y h0) [.ref (Y 0)] (d) 0 0 P (V, C, J) := by
  refine RM.of (L := [some (.ref (Y 0))]) cfX10_walkerCount rfl (Nat.le_of_ble_eq_true rfl) ?_
  refine i_aload_n dX10_walkerCount_0 rfl ?_
  refine u_get (i := 0) (vv := .ref (Y (30))) dX10_walkerCount_1 fX10_49.o (by decide) rfl rfl ?_
  refine u_get (i := 30) (vv := .int (iI (V 21))) dX10_walkerCount_4 fX10_135 (by decide) rfl rfl ?_
  refine i_ireturn dX10_walkerCount_7 rfl rfl ?_
  first | exact hp | (exfalso; omega)
theorem q_totalSteps  (hp : P (.inl (some (.int (iI (V 22))))) (V, C, J)) : RM G mX10_totalSteps (c_I Y h0) [.ref (Y 0)] (d) 0 0 P (V, C, J) := by
  refine RM.of (L := [some (.ref (Y 0))]) cfX10_totalSteps rfl (Nat.le_of_ble_eq_true rfl) ?_
  refine i_aload_n dX10_totalSteps_0 rfl ?_
  refine u_get (i := 0) (vv := .ref (Y (30))) dX10_totalSteps_1 fX10_49.o (by decide) rfl rfl ?_
  refine u_get (i := 30) (vv := .int (iI (V 22))) dX10_totalSteps_4 fX10_311 (by decide) rfl rfl ?_
  refine i_ireturn dX10_totalSteps_7 rfl rfl ?_
  first | exact hp | (exfalso; omega)
theorem q_reportByte {i : Int} (h3 : 0 ≤ V 3 ∧ V 3 ≤ 3600) (hi : -2147483648 ≤ i ∧ i < 2147483648) (hp1 : (0 ≤ i ∧ i < V 3) → P (.inl (some (.int (iI (C 22 i))))) (V, C, J)) (hp0 : ¬ (0 ≤ i ∧ i < V 3) → P (.inl (some (.int (iI (-1))))) (V, C, J)) : RM G mX10_reportByte (c_I Y h0) [.ref (Y 0), .int (iI i)] (d + 1) 0 0 P (V, C, J) := by
  refine RM.of (L := [some (.ref (Y 0)), some (.int (iI i))]) cfX10_reportByte rfl (Nat.le_of_ble_eq_true rfl) ?_
  refine i_iload_n dX10_reportByte_0 rfl ?_
  refine i_aload_n dX10_reportByte_1 rfl ?_
  refine u_get (i := 0) (vv := .int (iI (V 3))) dX10_reportByte_2 fX10_325 (by decide) rfl rfl ?_
  refine i_callS (mc := 0) (ms := 0) (As := [_, _]) dX10_reportByte_5 cfX10_isIndex stX10_isIndex lX10_331 rfl rfl (Nat.le_of_ble_eq_true rfl) (Nat.zero_add _).symm (Nat.zero_add _).symm ?_
  refine q_isIndex (by omega) (by omega) (RK.v ?_)
  refine i_ifeq_b (tgt := 20) dX10_reportByte_8 (by decide) (fun c8 => ?_) (fun c8 => ?_)
  · -- jumps
    refine i_const dX10_reportByte_20 ?_
    refine i_ireturn dX10_reportByte_21 rfl rfl ?_
    exact hp0 (by omega)
  · -- on
    refine i_iload_n dX10_reportByte_11 rfl ?_
    refine i_aload_n dX10_reportByte_12 rfl ?_
    refine u_get (i := 0) (vv := .ref (Y (22))) dX10_reportByte_13 fX10_91.o (by decide) rfl rfl ?_
    refine u_alen (N := 3600) dX10_reportByte_16 (by decide) rfl (by decide) rfl ?_
    refine i_icmp_lt (tgt := 22) dX10_reportByte_17 (by decide) (by omega) (by omega) (fun c17 => ?_) (fun c17 => ?_)
    · -- jumps
      refine i_aload_n dX10_reportByte_22 rfl ?_
      refine u_get (i := 0) (vv := .ref (Y (22))) dX10_reportByte_23 fX10_91.o (by decide) rfl rfl ?_
      refine i_iload_n dX10_reportByte_26 rfl ?_
      refine u_iald (i := 22) (N := 3600) (v := C 22 i) dX10_reportByte_27 (by decide) rfl (by decide) (by omega) rfl ?_
      refine i_ireturn dX10_reportByte_28 rfl rfl ?_
      exact hp1 (by omega)
    · -- on
      refine i_const dX10_reportByte_20 ?_
      refine i_ireturn dX10_reportByte_21 rfl rfl ?_
      exact hp0 (by omega)
theorem q_putReportByte {i c : Int} (hi : 0 ≤ i ∧ i < 3600) (hp : P (.inl none) (V, cu C 22 (zu (C 22) i (97 + c)), J)) : RM G mX10_putReportByte (c_I Y h0) [.ref (Y 0), .int (iI i), .int (iI c)] (d + 1) 0 0 P (V, C, J) := by
  refine RM.of (L := [some (.ref (Y 0)), some (.int (iI i)), some (.int (iI c))]) cfX10_putReportByte rfl (Nat.le_of_ble_eq_true rfl) ?_
  refine i_iload_n dX10_putReportByte_0 rfl ?_
  refine i_aload_n dX10_putReportByte_1 rfl ?_
  refine u_get (i := 0) (vv := .ref (Y (22))) dX10_putReportByte_2 fX10_91.o (by decide) rfl rfl ?_
  refine u_alen (N := 3600) dX10_putReportByte_5 (by decide) rfl (by decide) rfl ?_
  refine i_callS (mc := 0) (ms := 0) (As := [_, _]) dX10_putReportByte_6 cfX10_isIndex stX10_isIndex lX10_331 rfl rfl (Nat.le_of_ble_eq_true rfl) (Nat.zero_add _).symm (Nat.zero_add _).symm ?_
  refine q_isIndex (by omega) (by omega) (RK.v ?_)
  refine i_ifeq_b (tgt := 22) dX10_putReportByte_9 (by decide) (fun c9 => ?_) (fun c9 => ?_)
  · -- jumps
    refine i_return dX10_putReportByte_22 rfl ?_
    first | exact hp | (exfalso; omega)
  · -- on
    refine i_aload_n dX10_putReportByte_12 rfl ?_
    refine u_get (i := 0) (vv := .ref (Y (22))) dX10_putReportByte_13 fX10_91.o (by decide) rfl rfl ?_
    refine i_iload_n dX10_putReportByte_16 rfl ?_
    refine i_bipush dX10_putReportByte_17 (by decide) ?_
    refine i_iload_n dX10_putReportByte_19 rfl ?_
    refine i_add dX10_putReportByte_20 ?_
    refine u_iast (i := 22) (N := 3600) dX10_putReportByte_21 (by decide) rfl (by decide) (by omega) rfl ?_
    refine i_return dX10_putReportByte_22 rfl ?_
    first | exact hp | (exfalso; omega)
end C47
