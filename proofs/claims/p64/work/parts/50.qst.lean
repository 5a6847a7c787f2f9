/-! ===== the class: its questions ===== -/
section C50
variable {G : p_G} {Y : Nat → Nat} {h0 : p_H} {P : (Option Value) ⊕ String → c_X → Prop} {d : Nat} {V : Nat → Int} {C : Nat → Int → Int} {J : c_J}
variable {w : Int → Int}
theorem q_checkedPattern {s : Int} (hZ : p_Zs G) (hN : cNow V C J w) (hO : wOK w) (hs : -2147483648 ≤ s ∧ s < 2147483648) (hp0 : s = 0 ∨ s = 1 → ∀ a p, J.2.2 a = some p → cPt p w s → P (.inl (some (.ref a))) (V, C, J)) (hp1 : ¬ (s = 0 ∨ s = 1) → P (.inr "java/lang/IndexOutOfBoundsException") (V, C, J)) : RM G mX10_checkedPattern (c_I Y h0) [.ref (Y 0), .int (iI s)] (d + 7) 1 6 P (V, C, J) := by
  refine RM.of (L := [some (.ref (Y 0)), some (.int (iI s))]) cfX10_checkedPattern rfl (Nat.le_of_ble_eq_true rfl) ?_
  refine i_iload_n dX10_checkedPattern_0 rfl ?_
  refine i_callS (mc := 1) (ms := 6) (k' := 0) (n' := 0) (As := [_]) dX10_checkedPattern_1 cfX10_checkSlot stX10_checkSlot lX10_108 rfl rfl (Nat.le_of_ble_eq_true rfl) rfl rfl ?_
  refine q_checkSlot hZ  (by omega) (fun g1 => RK.n0 ?_) (fun g1 => RK.x ?_)
  · -- case
    refine i_aload_n dX10_checkedPattern_4 rfl ?_
    refine u_get (i := 0) (vv := .ref (Y (30))) dX10_checkedPattern_5 fX10_49.o (by decide) rfl rfl ?_
    refine i_iload_n dX10_checkedPattern_8 rfl ?_
    refine u_callV (i := 30) (mc := 0) (ms := 0) (As := [_]) dX10_checkedPattern_9 cfX9_pattern imX9_pattern seX9_pattern lX10_124 (by decide) rfl rfl rfl rfl rfl (Nat.le_of_ble_eq_true rfl) (Nat.zero_add _).symm (Nat.zero_add _).symm ?_
    refine q_pattern hN (by omega) (fun a2 p2 ha2 hp2 hr2 => RK.v ?_)
    refine i_areturn dX10_checkedPattern_12 rfl ?_
    exact hp0 (by omega) _ _ hp2 hr2
  · -- case
    exact hp1 (by omega)
theorem q_positionCount {s : Int} (hZ : p_Zs G) (hN : cNow V C J w) (hO : wOK w) (hs : -2147483648 ≤ s ∧ s < 2147483648) (hp0 : s = 0 ∨ s = 1 → P (.inl (some (.int (iI (w (476 * s + 0)))))) (V, C, J)) (hp1 : ¬ (s = 0 ∨ s = 1) → P (.inr "java/lang/IndexOutOfBoundsException") (V, C, J)) : RM G mX10_positionCount (c_I Y h0) [.ref (Y 0), .int (iI s)] (d + 8) 1 6 P (V, C, J) := by
  refine RM.of (L := [some (.ref (Y 0)), some (.int (iI s))]) cfX10_positionCount rfl (Nat.le_of_ble_eq_true rfl) ?_
  refine i_aload_n dX10_positionCount_0 rfl ?_
  refine i_iload_n dX10_positionCount_1 rfl ?_
  refine u_callV (i := 0) (mc := 1) (ms := 6) (k' := 0) (n' := 0) (As := [_]) dX10_positionCount_2 cfX10_checkedPattern imX10_checkedPattern seX10_checkedPattern lX10_212 (by decide) rfl rfl rfl rfl rfl (Nat.le_of_ble_eq_true rfl) rfl rfl ?_
  refine q_checkedPattern hZ hN hO (by omega) (fun g1 a1 p1 hy1 hr1 => RK.v ?_) (fun g1 => RK.x ?_)
  · -- case
    refine u_getP (vv := .int (iI (p1.1 0))) hy1 dX10_positionCount_5 fX10_121 rfl ?_
    refine i_ireturn dX10_positionCount_8 rfl rfl ?_
    rw [hr1.1.1]
    exact hp0 (by omega)
  · -- case
    exact hp1 (by omega)
theorem q_firstPositions {s : Int} (hZ : p_Zs G) (hN : cNow V C J w) (hO : wOK w) (hs : -2147483648 ≤ s ∧ s < 2147483648) (hp0 : s = 0 ∨ s = 1 → P (.inl (some (.int (iI (w (476 * s + 2)))))) (V, C, J)) (hp1 : ¬ (s = 0 ∨ s = 1) → P (.inr "java/lang/IndexOutOfBoundsException") (V, C, J)) : RM G mX10_firstPositions (c_I Y h0) [.ref (Y 0), .int (iI s)] (d + 8) 1 6 P (V, C, J) := by
  refine RM.of (L := [some (.ref (Y 0)), some (.int (iI s))]) cfX10_firstPositions rfl (Nat.le_of_ble_eq_true rfl) ?_
  refine i_aload_n dX10_firstPositions_0 rfl ?_
  refine i_iload_n dX10_firstPositions_1 rfl ?_
  refine u_callV (i := 0) (mc := 1) (ms := 6) (k' := 0) (n' := 0) (As := [_]) dX10_firstPositions_2 cfX10_checkedPattern imX10_checkedPattern seX10_checkedPattern lX10_212 (by decide) rfl rfl rfl rfl rfl (Nat.le_of_ble_eq_true rfl) rfl rfl ?_
  refine q_checkedPattern hZ hN hO (by omega) (fun g1 a1 p1 hy1 hr1 => RK.v ?_) (fun g1 => RK.x ?_)
  · -- case
    refine u_getP (vv := .int (iI (p1.1 3))) hy1 dX10_firstPositions_5 fX10_225 rfl ?_
    refine i_ireturn dX10_firstPositions_8 rfl rfl ?_
    rw [hr1.1.2.2.2.1]
    exact hp0 (by omega)
  · -- case
    exact hp1 (by omega)
theorem q_lastPositions {s : Int} (hZ : p_Zs G) (hN : cNow V C J w) (hO : wOK w) (hs : -2147483648 ≤ s ∧ s < 2147483648) (hp0 : s = 0 ∨ s = 1 → P (.inl (some (.int (iI (w (476 * s + 3)))))) (V, C, J)) (hp1 : ¬ (s = 0 ∨ s = 1) → P (.inr "java/lang/IndexOutOfBoundsException") (V, C, J)) : RM G mX10_lastPositions (c_I Y h0) [.ref (Y 0), .int (iI s)] (d + 8) 1 6 P (V, C, J) := by
  refine RM.of (L := [some (.ref (Y 0)), some (.int (iI s))]) cfX10_lastPositions rfl (Nat.le_of_ble_eq_true rfl) ?_
  refine i_aload_n dX10_lastPositions_0 rfl ?_
  refine i_iload_n dX10_lastPositions_1 rfl ?_
  refine u_callV (i := 0) (mc := 1) (ms := 6) (k' := 0) (n' := 0) (As := [_]) dX10_lastPositions_2 cfX10_checkedPattern imX10_checkedPattern seX10_checkedPattern lX10_212 (by decide) rfl rfl rfl rfl rfl (Nat.le_of_ble_eq_true rfl) rfl rfl ?_
  refine q_checkedPattern hZ hN hO (by omega) (fun g1 a1 p1 hy1 hr1 => RK.v ?_) (fun g1 => RK.x ?_)
  · -- case
    refine u_getP (vv := .int (iI (p1.1 4))) hy1 dX10_lastPositions_5 fX10_228 rfl ?_
    refine i_ireturn dX10_lastPositions_8 rfl rfl ?_
    rw [hr1.1.2.2.2.2.1]
    exact hp0 (by omega)
  · -- case
    exact hp1 (by omega)
theorem q_stateCount {s : Int} (hZ : p_Zs G) (hN : cNow V C J w) (hO : wOK w) (hs : -2147483648 ≤ s ∧ s < 2147483648) (hp0 : s = 0 ∨ s = 1 → P (.inl (some (.int (iI (w (476 * s + 5)))))) (V, C, J)) (hp1 : ¬ (s = 0 ∨ s = 1) → P (.inr "java/lang/IndexOutOfBoundsException") (V, C, J)) : RM G mX10_stateCount (c_I Y h0) [.ref (Y 0), .int (iI s)] (d + 8) 1 6 P (V, C, J) := by
  refine RM.of (L := [some (.ref (Y 0)), some (.int (iI s))]) cfX10_stateCount rfl (Nat.le_of_ble_eq_true rfl) ?_
  refine i_aload_n dX10_stateCount_0 rfl ?_
  refine i_iload_n dX10_stateCount_1 rfl ?_
  refine u_callV (i := 0) (mc := 1) (ms := 6) (k' := 0) (n' := 0) (As := [_]) dX10_stateCount_2 cfX10_checkedPattern imX10_checkedPattern seX10_checkedPattern lX10_212 (by decide) rfl rfl rfl rfl rfl (Nat.le_of_ble_eq_true rfl) rfl rfl ?_
  refine q_checkedPattern hZ hN hO (by omega) (fun g1 a1 p1 hy1 hr1 => RK.v ?_) (fun g1 => RK.x ?_)
  · -- case
    refine u_getP (vv := .int (iI (p1.1 5))) hy1 dX10_stateCount_5 fX10_132 rfl ?_
    refine i_ireturn dX10_stateCount_8 rfl rfl ?_
    rw [hr1.1.2.2.2.2.2]
    exact hp0 (by omega)
  · -- case
    exact hp1 (by omega)
theorem q_acceptsEmptyWord {s : Int} (hZ : p_Zs G) (hN : cNow V C J w) (hO : wOK w) (hs : -2147483648 ≤ s ∧ s < 2147483648) (hp0 : s = 0 ∨ s = 1 → P (.inl (some (.int (iI (w (476 * s + 1)))))) (V, C, J)) (hp1 : ¬ (s = 0 ∨ s = 1) → P (.inr "java/lang/IndexOutOfBoundsException") (V, C, J)) : RM G mX10_acceptsEmptyWord (c_I Y h0) [.ref (Y 0), .int (iI s)] (d + 8) 1 6 P (V, C, J) := by
  refine RM.of (L := [some (.ref (Y 0)), some (.int (iI s))]) cfX10_acceptsEmptyWord rfl (Nat.le_of_ble_eq_true rfl) ?_
  refine i_aload_n dX10_acceptsEmptyWord_0 rfl ?_
  refine i_iload_n dX10_acceptsEmptyWord_1 rfl ?_
  refine u_callV (i := 0) (mc := 1) (ms := 6) (k' := 0) (n' := 0) (As := [_]) dX10_acceptsEmptyWord_2 cfX10_checkedPattern imX10_checkedPattern seX10_checkedPattern lX10_212 (by decide) rfl rfl rfl rfl rfl (Nat.le_of_ble_eq_true rfl) rfl rfl ?_
  refine q_checkedPattern hZ hN hO (by omega) (fun g1 a1 p1 hy1 hr1 => RK.v ?_) (fun g1 => RK.x ?_)
  · -- case
    have e2 := (hO.1 s (by omega)).2.1
    have e3 := hr1.1.2.2.1
    refine u_getP (vv := .int (iI (p1.1 2))) hy1 dX10_acceptsEmptyWord_5 fX10_222 rfl ?_
    refine i_ireturn dX10_acceptsEmptyWord_8 rfl (zb_nar (by first | exact zb_or | omega)) ?_
    rw [hr1.1.2.2.1]
    exact hp0 (by omega)
  · -- case
    exact hp1 (by omega)
theorem q_statePositions {s t : Int} (hZ : p_Zs G) (hN : cNow V C J w) (hO : wOK w) (hs : -2147483648 ≤ s ∧ s < 2147483648) (ht : -2147483648 ≤ t ∧ t < 2147483648) (hp0 : (s = 0 ∨ s = 1) ∧ 0 ≤ t ∧ t < w (476 * s + 5) → P (.inl (some (.int (iI (w (476 * s + (56 + t)) - w (476 * s + (56 + t)) % 2))))) (V, C, J)) (hp1 : ¬ ((s = 0 ∨ s = 1) ∧ 0 ≤ t ∧ t < w (476 * s + 5)) → P (.inr "java/lang/IndexOutOfBoundsException") (V, C, J)) : RM G mX10_statePositions (c_I Y h0) [.ref (Y 0), .int (iI s), .int (iI t)] (d + 8) 2 12 P (V, C, J) := by
  refine RM.of (L := [some (.ref (Y 0)), some (.int (iI s)), some (.int (iI t)), none]) cfX10_statePositions rfl (Nat.le_of_ble_eq_true rfl) ?_
  refine i_aload_n dX10_statePositions_0 rfl ?_
  refine i_iload_n dX10_statePositions_1 rfl ?_
  refine u_callV (i := 0) (mc := 1) (ms := 6) (k' := 1) (n' := 6) (As := [_]) dX10_statePositions_2 cfX10_checkedPattern imX10_checkedPattern seX10_checkedPattern lX10_212 (by decide) rfl rfl rfl rfl rfl (Nat.le_of_ble_eq_true rfl) rfl rfl ?_
  refine q_checkedPattern hZ hN hO (by omega) (fun g1 a1 p1 hy1 hr1 => RK.v ?_) (fun g1 => RK.x ?_)
  · -- case
    refine i_astore_n dX10_statePositions_5 (L' := [some _, some _, some _, some _]) (by decide) rfl ?_
    refine i_aload_n dX10_statePositions_6 rfl ?_
    refine i_iload_n dX10_statePositions_7 rfl ?_
    refine i_callS (mc := 1) (ms := 6) (k' := 0) (n' := 0) (As := [_, _]) dX10_statePositions_8 cfX10_checkState stX10_checkState lX10_240 rfl rfl (Nat.le_of_ble_eq_true rfl) rfl rfl ?_
    refine q_checkState hZ hy1 hr1 (hO.1 _ (by omega)) (by omega) (fun g2 => RK.n0 ?_) (fun g2 => RK.x ?_)
    · -- case
      refine i_aload_n dX10_statePositions_11 rfl ?_
      refine i_iload_n dX10_statePositions_12 rfl ?_
      refine u_callP (mc := 0) (ms := 0) (As := [_]) hy1 dX10_statePositions_13 cfX5_positionsIn imX5_positionsIn seX5_positionsIn lX10_250 rfl rfl rfl rfl (Nat.le_of_ble_eq_true rfl) (Nat.zero_add _).symm (Nat.zero_add _).symm ?_
      refine q_positionsIn hy1 hr1 (hO.1 s (by omega)) (by omega) (fun _ => RK.v ?_) (fun q9 => absurd ⟨by omega, by omega⟩ q9)
      refine i_ireturn dX10_statePositions_16 rfl rfl ?_
      exact hp0 (by omega)
    · -- case
      exact hp1 (by omega)
  · -- case
    exact hp1 (by omega)
theorem q_isAccepting {s t : Int} (hZ : p_Zs G) (hN : cNow V C J w) (hO : wOK w) (hX : ∀ s, s = 0 ∨ s = 1 → wX w s) (hs : -2147483648 ≤ s ∧ s < 2147483648) (ht : -2147483648 ≤ t ∧ t < 2147483648) (hp0 : (s = 0 ∨ s = 1) ∧ 0 ≤ t ∧ t < w (476 * s + 5) → P (.inl (some (.int (iI (zb (wAcc w s t)))))) (V, C, J)) (hp1 : ¬ ((s = 0 ∨ s = 1) ∧ 0 ≤ t ∧ t < w (476 * s + 5)) → P (.inr "java/lang/IndexOutOfBoundsException") (V, C, J)) : RM G mX10_isAccepting (c_I Y h0) [.ref (Y 0), .int (iI s), .int (iI t)] (d + 8) 2 12 P (V, C, J) := by
  refine RM.of (L := [some (.ref (Y 0)), some (.int (iI s)), some (.int (iI t)), none]) cfX10_isAccepting rfl (Nat.le_of_ble_eq_true rfl) ?_
  refine i_aload_n dX10_isAccepting_0 rfl ?_
  refine i_iload_n dX10_isAccepting_1 rfl ?_
  refine u_callV (i := 0) (mc := 1) (ms := 6) (k' := 1) (n' := 6) (As := [_]) dX10_isAccepting_2 cfX10_checkedPattern imX10_checkedPattern seX10_checkedPattern lX10_212 (by decide) rfl rfl rfl rfl rfl (Nat.le_of_ble_eq_true rfl) rfl rfl ?_
  refine q_checkedPattern hZ hN hO (by omega) (fun g1 a1 p1 hy1 hr1 => RK.v ?_) (fun g1 => RK.x ?_)
  · -- case
    refine i_astore_n dX10_isAccepting_5 (L' := [some _, some _, some _, some _]) (by decide) rfl ?_
    refine i_aload_n dX10_isAccepting_6 rfl ?_
    refine i_iload_n dX10_isAccepting_7 rfl ?_
    refine i_callS (mc := 1) (ms := 6) (k' := 0) (n' := 0) (As := [_, _]) dX10_isAccepting_8 cfX10_checkState stX10_checkState lX10_240 rfl rfl (Nat.le_of_ble_eq_true rfl) rfl rfl ?_
    refine q_checkState hZ hy1 hr1 (hO.1 _ (by omega)) (by omega) (fun g2 => RK.n0 ?_) (fun g2 => RK.x ?_)
    · -- case
      refine i_aload_n dX10_isAccepting_11 rfl ?_
      refine i_iload_n dX10_isAccepting_12 rfl ?_
      refine u_callP (mc := 0) (ms := 0) (As := [_]) hy1 dX10_isAccepting_13 cfX5_accepts imX5_accepts seX5_accepts lX10_247 rfl rfl rfl rfl (Nat.le_of_ble_eq_true rfl) (Nat.zero_add _).symm (Nat.zero_add _).symm ?_
      refine q_accepts hy1 hr1 (hO.1 s (by omega)) (hX s (by omega)) (by omega) (fun _ => RK.v ?_) (fun q9 => absurd ⟨by omega, by omega⟩ q9)
      refine i_ireturn dX10_isAccepting_16 rfl (zb_nar (by first | exact zb_or | omega)) ?_
      exact hp0 (by omega)
    · -- case
      exact hp1 (by omega)
  · -- case
    exact hp1 (by omega)
theorem q_transition {s t c : Int} (hZ : p_Zs G) (hN : cNow V C J w) (hO : wOK w) (hs : -2147483648 ≤ s ∧ s < 2147483648) (ht : -2147483648 ≤ t ∧ t < 2147483648) (hc : -2147483648 ≤ c ∧ c < 2147483648) (hp0 : ((s = 0 ∨ s = 1) ∧ 0 ≤ t ∧ t < w (476 * s + 5)) ∧ 0 ≤ c ∧ c ≤ 5 → P (.inl (some (.int (iI (w (476 * s + (116 + 6 * t + c))))))) (V, C, J)) (hp1 : ¬ (((s = 0 ∨ s = 1) ∧ 0 ≤ t ∧ t < w (476 * s + 5)) ∧ 0 ≤ c ∧ c ≤ 5) → P (.inr "java/lang/IndexOutOfBoundsException") (V, C, J)) : RM G mX10_transition (c_I Y h0) [.ref (Y 0), .int (iI s), .int (iI t), .int (iI c)] (d + 8) 3 18 P (V, C, J) := by
  refine RM.of (L := [some (.ref (Y 0)), some (.int (iI s)), some (.int (iI t)), some (.int (iI c)), none]) cfX10_transition rfl (Nat.le_of_ble_eq_true rfl) ?_
  refine i_aload_n dX10_transition_0 rfl ?_
  refine i_iload_n dX10_transition_1 rfl ?_
  refine u_callV (i := 0) (mc := 1) (ms := 6) (k' := 2) (n' := 12) (As := [_]) dX10_transition_2 cfX10_checkedPattern imX10_checkedPattern seX10_checkedPattern lX10_212 (by decide) rfl rfl rfl rfl rfl (Nat.le_of_ble_eq_true rfl) rfl rfl ?_
  refine q_checkedPattern hZ hN hO (by omega) (fun g1 a1 p1 hy1 hr1 => RK.v ?_) (fun g1 => RK.x ?_)
  · -- case
    refine i_astore dX10_transition_5 (L' := [some _, some _, some _, some _, some _]) (by decide) rfl ?_
    refine i_aload dX10_transition_7 rfl ?_
    refine i_iload_n dX10_transition_9 rfl ?_
    refine i_callS (mc := 1) (ms := 6) (k' := 1) (n' := 6) (As := [_, _]) dX10_transition_10 cfX10_checkState stX10_checkState lX10_240 rfl rfl (Nat.le_of_ble_eq_true rfl) rfl rfl ?_
    refine q_checkState hZ hy1 hr1 (hO.1 _ (by omega)) (by omega) (fun g2 => RK.n0 ?_) (fun g2 => RK.x ?_)
    · -- case
      refine i_iload_n dX10_transition_13 rfl ?_
      refine i_callS (mc := 1) (ms := 6) (k' := 0) (n' := 0) (As := [_]) dX10_transition_14 cfX10_checkStreet stX10_checkStreet lX10_155 rfl rfl (Nat.le_of_ble_eq_true rfl) rfl rfl ?_
      refine q_checkStreet hZ  (by omega) (fun g3 => RK.n0 ?_) (fun g3 => RK.x ?_)
      · -- case
        refine i_aload dX10_transition_17 rfl ?_
        refine i_iload_n dX10_transition_19 rfl ?_
        refine i_iload_n dX10_transition_20 rfl ?_
        refine u_callP (mc := 0) (ms := 0) (As := [_, _]) hy1 dX10_transition_21 cfX5_after imX5_after seX5_after lX10_243 rfl rfl rfl rfl (Nat.le_of_ble_eq_true rfl) (Nat.zero_add _).symm (Nat.zero_add _).symm ?_
        refine q_after hy1 hr1 (hO.1 s (by omega)) (by omega) (by omega) (fun _ => RK.v ?_) (fun q9 => absurd ⟨⟨by omega, by omega⟩, by omega, by omega⟩ q9)
        refine i_ireturn dX10_transition_24 rfl rfl ?_
        exact hp0 (by omega)
      · -- case
        exact hp1 (by omega)
    · -- case
      exact hp1 (by omega)
  · -- case
    exact hp1 (by omega)
theorem q_streetAt {s t : Int} (hZ : p_Zs G) (hN : cNow V C J w) (hO : wOK w) (hs : -2147483648 ≤ s ∧ s < 2147483648) (ht : -2147483648 ≤ t ∧ t < 2147483648) (hp0 : (s = 0 ∨ s = 1) ∧ 1 ≤ t ∧ t ≤ w (476 * s + 0) → P (.inl (some (.int (iI (if w (476 * s + (31 + t)) = 6 then -1 else w (476 * s + (31 + t))))))) (V, C, J)) (hp1 : ¬ ((s = 0 ∨ s = 1) ∧ 1 ≤ t ∧ t ≤ w (476 * s + 0)) → P (.inr "java/lang/IndexOutOfBoundsException") (V, C, J)) : RM G mX10_streetAt (c_I Y h0) [.ref (Y 0), .int (iI s), .int (iI t)] (d + 8) 2 12 P (V, C, J) := by
  refine RM.of (L := [some (.ref (Y 0)), some (.int (iI s)), some (.int (iI t)), none]) cfX10_streetAt rfl (Nat.le_of_ble_eq_true rfl) ?_
  refine i_aload_n dX10_streetAt_0 rfl ?_
  refine i_iload_n dX10_streetAt_1 rfl ?_
  refine u_callV (i := 0) (mc := 1) (ms := 6) (k' := 1) (n' := 6) (As := [_]) dX10_streetAt_2 cfX10_checkedPattern imX10_checkedPattern seX10_checkedPattern lX10_212 (by decide) rfl rfl rfl rfl rfl (Nat.le_of_ble_eq_true rfl) rfl rfl ?_
  refine q_checkedPattern hZ hN hO (by omega) (fun g1 a1 p1 hy1 hr1 => RK.v ?_) (fun g1 => RK.x ?_)
  · -- case
    refine i_astore_n dX10_streetAt_5 (L' := [some _, some _, some _, some _]) (by decide) rfl ?_
    refine i_aload_n dX10_streetAt_6 rfl ?_
    refine i_iload_n dX10_streetAt_7 rfl ?_
    refine i_callS (mc := 1) (ms := 6) (k' := 0) (n' := 0) (As := [_, _]) dX10_streetAt_8 cfX10_checkPosition stX10_checkPosition lX10_215 rfl rfl (Nat.le_of_ble_eq_true rfl) rfl rfl ?_
    refine q_checkPosition hZ hy1 hr1 (hO.1 _ (by omega)) (by omega) (fun g2 => RK.n0 ?_) (fun g2 => RK.x ?_)
    · -- case
      refine i_aload_n dX10_streetAt_11 rfl ?_
      refine i_iload_n dX10_streetAt_12 rfl ?_
      refine u_callP (mc := 0) (ms := 0) (As := [_]) hy1 dX10_streetAt_13 cfX5_streetOf imX5_streetOf seX5_streetOf lX10_219 rfl rfl rfl rfl (Nat.le_of_ble_eq_true rfl) (Nat.zero_add _).symm (Nat.zero_add _).symm ?_
      refine q_streetOf hy1 hr1 (hO.1 s (by omega)) (by omega) (RK.v ?_)
      refine i_ireturn dX10_streetAt_16 rfl rfl ?_
      exact hp0 (by omega)
    · -- case
      exact hp1 (by omega)
  · -- case
    exact hp1 (by omega)
theorem q_followPositions {s t : Int} (hZ : p_Zs G) (hN : cNow V C J w) (hO : wOK w) (hs : -2147483648 ≤ s ∧ s < 2147483648) (ht : -2147483648 ≤ t ∧ t < 2147483648) (hp0 : (s = 0 ∨ s = 1) ∧ 1 ≤ t ∧ t ≤ w (476 * s + 0) → P (.inl (some (.int (iI (w (476 * s + (6 + t))))))) (V, C, J)) (hp1 : ¬ ((s = 0 ∨ s = 1) ∧ 1 ≤ t ∧ t ≤ w (476 * s + 0)) → P (.inr "java/lang/IndexOutOfBoundsException") (V, C, J)) : RM G mX10_followPositions (c_I Y h0) [.ref (Y 0), .int (iI s), .int (iI t)] (d + 8) 2 12 P (V, C, J) := by
  refine RM.of (L := [some (.ref (Y 0)), some (.int (iI s)), some (.int (iI t)), none]) cfX10_followPositions rfl (Nat.le_of_ble_eq_true rfl) ?_
  refine i_aload_n dX10_followPositions_0 rfl ?_
  refine i_iload_n dX10_followPositions_1 rfl ?_
  refine u_callV (i := 0) (mc := 1) (ms := 6) (k' := 1) (n' := 6) (As := [_]) dX10_followPositions_2 cfX10_checkedPattern imX10_checkedPattern seX10_checkedPattern lX10_212 (by decide) rfl rfl rfl rfl rfl (Nat.le_of_ble_eq_true rfl) rfl rfl ?_
  refine q_checkedPattern hZ hN hO (by omega) (fun g1 a1 p1 hy1 hr1 => RK.v ?_) (fun g1 => RK.x ?_)
  · -- case
    refine i_astore_n dX10_followPositions_5 (L' := [some _, some _, some _, some _]) (by decide) rfl ?_
    refine i_aload_n dX10_followPositions_6 rfl ?_
    refine i_iload_n dX10_followPositions_7 rfl ?_
    refine i_callS (mc := 1) (ms := 6) (k' := 0) (n' := 0) (As := [_, _]) dX10_followPositions_8 cfX10_checkPosition stX10_checkPosition lX10_215 rfl rfl (Nat.le_of_ble_eq_true rfl) rfl rfl ?_
    refine q_checkPosition hZ hy1 hr1 (hO.1 _ (by omega)) (by omega) (fun g2 => RK.n0 ?_) (fun g2 => RK.x ?_)
    · -- case
      refine i_aload_n dX10_followPositions_11 rfl ?_
      refine i_iload_n dX10_followPositions_12 rfl ?_
      refine u_callP (mc := 0) (ms := 0) (As := [_]) hy1 dX10_followPositions_13 cfX5_followOf imX5_followOf seX5_followOf lX10_231 rfl rfl rfl rfl (Nat.le_of_ble_eq_true rfl) (Nat.zero_add _).symm (Nat.zero_add _).symm ?_
      refine q_followOf hy1 hr1 (hO.1 s (by omega)) (by omega) (RK.v ?_)
      refine i_ireturn dX10_followPositions_16 rfl rfl ?_
      exact hp0 (by omega)
    · -- case
      exact hp1 (by omega)
  · -- case
    exact hp1 (by omega)
theorem q_walkerSlot {k : Int} (hZ : p_Zs G) (hN : cNow V C J w) (hO : wOK w) (hk : -2147483648 ≤ k ∧ k < 2147483648) (hp0 : 0 ≤ k ∧ k < w 952 → P (.inl (some (.int (iI (w (953 + 3 * k + 0)))))) (V, C, J)) (hp1 : ¬ (0 ≤ k ∧ k < w 952) → P (.inr "java/lang/IndexOutOfBoundsException") (V, C, J)) : RM G mX10_walkerSlot (c_I Y h0) [.ref (Y 0), .int (iI k)] (d + 7) 1 6 P (V, C, J) := by
  refine RM.of (L := [some (.ref (Y 0)), some (.int (iI k))]) cfX10_walkerSlot rfl (Nat.le_of_ble_eq_true rfl) ?_
  refine i_aload_n dX10_walkerSlot_0 rfl ?_
  refine i_iload_n dX10_walkerSlot_1 rfl ?_
  refine u_callV (i := 0) (mc := 1) (ms := 6) (k' := 0) (n' := 0) (As := [_]) dX10_walkerSlot_2 cfX10_checkWalker imX10_checkWalker seX10_checkWalker lX10_146 (by decide) rfl rfl rfl rfl rfl (Nat.le_of_ble_eq_true rfl) rfl rfl ?_
  refine q_checkWalker hZ hN hO (by omega) (fun g1 => RK.n0 ?_) (fun g1 => RK.x ?_)
  · -- case
    refine i_aload_n dX10_walkerSlot_5 rfl ?_
    refine u_get (i := 0) (vv := .ref (Y (30))) dX10_walkerSlot_6 fX10_49.o (by decide) rfl rfl ?_
    refine i_iload_n dX10_walkerSlot_9 rfl ?_
    refine u_callV (i := 30) (mc := 0) (ms := 0) (As := [_]) dX10_walkerSlot_10 cfX9_slotOf imX9_slotOf seX9_slotOf lX10_296 (by decide) rfl rfl rfl rfl rfl (Nat.le_of_ble_eq_true rfl) (Nat.zero_add _).symm (Nat.zero_add _).symm ?_
    refine q_slotOf hN hO (by omega) (RK.v ?_)
    refine i_ireturn dX10_walkerSlot_13 rfl rfl ?_
    exact hp0 (by omega)
  · -- case
    exact hp1 (by omega)
theorem q_walkerState {k : Int} (hZ : p_Zs G) (hN : cNow V C J w) (hO : wOK w) (hk : -2147483648 ≤ k ∧ k < 2147483648) (hp0 : 0 ≤ k ∧ k < w 952 → P (.inl (some (.int (iI (w (953 + 3 * k + 1)))))) (V, C, J)) (hp1 : ¬ (0 ≤ k ∧ k < w 952) → P (.inr "java/lang/IndexOutOfBoundsException") (V, C, J)) : RM G mX10_walkerState (c_I Y h0) [.ref (Y 0), .int (iI k)] (d + 7) 1 6 P (V, C, J) := by
  refine RM.of (L := [some (.ref (Y 0)), some (.int (iI k))]) cfX10_walkerState rfl (Nat.le_of_ble_eq_true rfl) ?_
  refine i_aload_n dX10_walkerState_0 rfl ?_
  refine i_iload_n dX10_walkerState_1 rfl ?_
  refine u_callV (i := 0) (mc := 1) (ms := 6) (k' := 0) (n' := 0) (As := [_]) dX10_walkerState_2 cfX10_checkWalker imX10_checkWalker seX10_checkWalker lX10_146 (by decide) rfl rfl rfl rfl rfl (Nat.le_of_ble_eq_true rfl) rfl rfl ?_
  refine q_checkWalker hZ hN hO (by omega) (fun g1 => RK.n0 ?_) (fun g1 => RK.x ?_)
  · -- case
    refine i_aload_n dX10_walkerState_5 rfl ?_
    refine u_get (i := 0) (vv := .ref (Y (30))) dX10_walkerState_6 fX10_49.o (by decide) rfl rfl ?_
    refine i_iload_n dX10_walkerState_9 rfl ?_
    refine u_callV (i := 30) (mc := 0) (ms := 0) (As := [_]) dX10_walkerState_10 cfX9_stateOf imX9_stateOf seX9_stateOf lX10_168 (by decide) rfl rfl rfl rfl rfl (Nat.le_of_ble_eq_true rfl) (Nat.zero_add _).symm (Nat.zero_add _).symm ?_
    refine q_stateOf hN hO (by omega) (RK.v ?_)
    refine i_ireturn dX10_walkerState_13 rfl rfl ?_
    exact hp0 (by omega)
  · -- case
    exact hp1 (by omega)
theorem q_walkerSteps {k : Int} (hZ : p_Zs G) (hN : cNow V C J w) (hO : wOK w) (hk : -2147483648 ≤ k ∧ k < 2147483648) (hp0 : 0 ≤ k ∧ k < w 952 → P (.inl (some (.int (iI (w (953 + 3 * k + 2)))))) (V, C, J)) (hp1 : ¬ (0 ≤ k ∧ k < w 952) → P (.inr "java/lang/IndexOutOfBoundsException") (V, C, J)) : RM G mX10_walkerSteps (c_I Y h0) [.ref (Y 0), .int (iI k)] (d + 7) 1 6 P (V, C, J) := by
  refine RM.of (L := [some (.ref (Y 0)), some (.int (iI k))]) cfX10_walkerSteps rfl (Nat.le_of_ble_eq_true rfl) ?_
  refine i_aload_n dX10_walkerSteps_0 rfl ?_
  refine i_iload_n dX10_walkerSteps_1 rfl ?_
  refine u_callV (i := 0) (mc := 1) (ms := 6) (k' := 0) (n' := 0) (As := [_]) dX10_walkerSteps_2 cfX10_checkWalker imX10_checkWalker seX10_checkWalker lX10_146 (by decide) rfl rfl rfl rfl rfl (Nat.le_of_ble_eq_true rfl) rfl rfl ?_
  refine q_checkWalker hZ hN hO (by omega) (fun g1 => RK.n0 ?_) (fun g1 => RK.x ?_)
  · -- case
    refine i_aload_n dX10_walkerSteps_5 rfl ?_
    refine u_get (i := 0) (vv := .ref (Y (30))) dX10_walkerSteps_6 fX10_49.o (by decide) rfl rfl ?_
    refine i_iload_n dX10_walkerSteps_9 rfl ?_
    refine u_callV (i := 30) (mc := 0) (ms := 0) (As := [_]) dX10_walkerSteps_10 cfX9_stepsOf imX9_stepsOf seX9_stepsOf lX10_149 (by decide) rfl rfl rfl rfl rfl (Nat.le_of_ble_eq_true rfl) (Nat.zero_add _).symm (Nat.zero_add _).symm ?_
    refine q_stepsOf hN hO (by omega) (RK.v ?_)
    refine i_ireturn dX10_walkerSteps_13 rfl rfl ?_
    exact hp0 (by omega)
  · -- case
    exact hp1 (by omega)
theorem q_isPassable {c : Int} (hZ : p_Zs G) (hN : cNow V C J w) (hO : wOK w) (hc : -2147483648 ≤ c ∧ c < 2147483648) (hp0 : 0 ≤ c ∧ c ≤ 5 → P (.inl (some (.int (iI (zb (0 ≤ c ∧ c < 6 ∧ w (971 + 2 * c + w 983) = 1)))))) (V, C, J)) (hp1 : ¬ (0 ≤ c ∧ c ≤ 5) → P (.inr "java/lang/IndexOutOfBoundsException") (V, C, J)) : RM G mX10_isPassable (c_I Y h0) [.ref (Y 0), .int (iI c)] (d + 7) 1 6 P (V, C, J) := by
  refine RM.of (L := [some (.ref (Y 0)), some (.int (iI c))]) cfX10_isPassable rfl (Nat.le_of_ble_eq_true rfl) ?_
  refine i_iload_n dX10_isPassable_0 rfl ?_
  refine i_callS (mc := 1) (ms := 6) (k' := 0) (n' := 0) (As := [_]) dX10_isPassable_1 cfX10_checkStreet stX10_checkStreet lX10_155 rfl rfl (Nat.le_of_ble_eq_true rfl) rfl rfl ?_
  refine q_checkStreet hZ  (by omega) (fun g1 => RK.n0 ?_) (fun g1 => RK.x ?_)
  · -- case
    refine i_aload_n dX10_isPassable_4 rfl ?_
    refine u_get (i := 0) (vv := .ref (Y (30))) dX10_isPassable_5 fX10_49.o (by decide) rfl rfl ?_
    refine i_iload_n dX10_isPassable_8 rfl ?_
    refine u_callV (i := 30) (mc := 0) (ms := 0) (As := [_]) dX10_isPassable_9 cfX9_isOpen imX9_isOpen seX9_isOpen lX10_158 (by decide) rfl rfl rfl rfl rfl (Nat.le_of_ble_eq_true rfl) (Nat.zero_add _).symm (Nat.zero_add _).symm ?_
    refine q_isOpen hN hO (by omega) (RK.v ?_)
    refine i_ireturn dX10_isPassable_12 rfl (zb_nar (by first | exact zb_or | omega)) ?_
    exact hp0 (by omega)
  · -- case
    exact hp1 (by omega)
end C50
