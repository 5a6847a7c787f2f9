/-! ===== the class: its checks ===== -/
section C49
variable {G : p_G} {Y : Nat → Nat} {h0 : p_H} {P : (Option Value) ⊕ String → c_X → Prop} {d : Nat} {V : Nat → Int} {C : Nat → Int → Int} {J : c_J}
variable {a : Nat} {p : c_P} {w : Int → Int} {s : Int}
theorem q_checkSlot {x : Int} (hZ : p_Zs G) (hx : -2147483648 ≤ x ∧ x < 2147483648) (hp0 : x = 0 ∨ x = 1 → P (.inl none) (V, C, J)) (hp1 : ¬ (x = 0 ∨ x = 1) → P (.inr "java/lang/IndexOutOfBoundsException") (V, C, J)) : RM G mX10_checkSlot (c_I Y h0) [.int (iI x)] (d + 6) 1 6 P (V, C, J) := by
  refine RM.of (L := [some (.int (iI x))]) cfX10_checkSlot rfl (Nat.le_of_ble_eq_true rfl) ?_
  refine i_iload_n dX10_checkSlot_0 rfl ?_
  refine i_const dX10_checkSlot_1 ?_
  refine i_callS (mc := 0) (ms := 0) (As := [_, _]) dX10_checkSlot_2 cfX10_isIndex stX10_isIndex lX10_331 rfl rfl (Nat.le_of_ble_eq_true rfl) (Nat.zero_add _).symm (Nat.zero_add _).symm ?_
  refine q_isIndex (by omega) (by omega) (RK.v ?_)
  refine i_ifne_b (tgt := 19) dX10_checkSlot_5 (by decide) (fun c5 => ?_) (fun c5 => ?_)
  · -- jumps
    refine i_return dX10_checkSlot_19 rfl ?_
    exact hp0 (by omega)
  · -- on
    refine i_thrB (is := 337) (text := "no such slot") rfl hZ (by decide) dX10_checkSlot_8 dX10_checkSlot_11 dX10_checkSlot_12 dX10_checkSlot_15 dX10_checkSlot_18 (Nat.le_of_ble_eq_true rfl) ?_
    exact hp1 (by omega)
theorem q_checkStreet {x : Int} (hZ : p_Zs G) (hx : -2147483648 ≤ x ∧ x < 2147483648) (hp0 : 0 ≤ x ∧ x ≤ 5 → P (.inl none) (V, C, J)) (hp1 : ¬ (0 ≤ x ∧ x ≤ 5) → P (.inr "java/lang/IndexOutOfBoundsException") (V, C, J)) : RM G mX10_checkStreet (c_I Y h0) [.int (iI x)] (d + 6) 1 6 P (V, C, J) := by
  refine RM.of (L := [some (.int (iI x))]) cfX10_checkStreet rfl (Nat.le_of_ble_eq_true rfl) ?_
  refine i_iload_n dX10_checkStreet_0 rfl ?_
  refine i_bipush dX10_checkStreet_1 (by decide) ?_
  refine i_callS (mc := 0) (ms := 0) (As := [_, _]) dX10_checkStreet_3 cfX10_isIndex stX10_isIndex lX10_331 rfl rfl (Nat.le_of_ble_eq_true rfl) (Nat.zero_add _).symm (Nat.zero_add _).symm ?_
  refine q_isIndex (by omega) (by omega) (RK.v ?_)
  refine i_ifne_b (tgt := 20) dX10_checkStreet_6 (by decide) (fun c6 => ?_) (fun c6 => ?_)
  · -- jumps
    refine i_return dX10_checkStreet_20 rfl ?_
    exact hp0 (by omega)
  · -- on
    refine i_thrB (is := 340) (text := "no such street") rfl hZ (by decide) dX10_checkStreet_9 dX10_checkStreet_12 dX10_checkStreet_13 dX10_checkStreet_16 dX10_checkStreet_19 (Nat.le_of_ble_eq_true rfl) ?_
    exact hp1 (by omega)
theorem q_checkWordLength {x : Int} (hZ : p_Zs G) (hx : -2147483648 ≤ x ∧ x < 2147483648) (hp0 : 0 ≤ x ∧ x ≤ 20 → P (.inl none) (V, C, J)) (hp1 : ¬ (0 ≤ x ∧ x ≤ 20) → P (.inr "java/lang/IllegalArgumentException") (V, C, J)) : RM G mX10_checkWordLength (c_I Y h0) [.int (iI x)] (d + 6) 1 6 P (V, C, J) := by
  refine RM.of (L := [some (.int (iI x))]) cfX10_checkWordLength rfl (Nat.le_of_ble_eq_true rfl) ?_
  refine i_iload_n dX10_checkWordLength_0 rfl ?_
  refine i_if_lt (tgt := 10) dX10_checkWordLength_1 (by decide) (by omega) (fun c1 => ?_) (fun c1 => ?_)
  · -- jumps
    refine i_thrAW (is := 346) (text := "no such length of a word") rfl hZ (by decide) dX10_checkWordLength_10 dX10_checkWordLength_13 dX10_checkWordLength_14 dX10_checkWordLength_17 dX10_checkWordLength_20 (Nat.le_of_ble_eq_true rfl) ?_
    exact hp1 (by omega)
  · -- on
    refine i_iload_n dX10_checkWordLength_4 rfl ?_
    refine i_bipush dX10_checkWordLength_5 (by decide) ?_
    refine i_icmp_le (tgt := 21) dX10_checkWordLength_7 (by decide) (by omega) (by omega) (fun c7 => ?_) (fun c7 => ?_)
    · -- jumps
      refine i_return dX10_checkWordLength_21 rfl ?_
      exact hp0 (by omega)
    · -- on
      refine i_thrAW (is := 346) (text := "no such length of a word") rfl hZ (by decide) dX10_checkWordLength_10 dX10_checkWordLength_13 dX10_checkWordLength_14 dX10_checkWordLength_17 dX10_checkWordLength_20 (Nat.le_of_ble_eq_true rfl) ?_
      exact hp1 (by omega)
theorem q_checkPosition {x : Int} (hZ : p_Zs G) (hp : J.2.2 a = some p) (hr : cPt p w s) (hO : wP w s) (hx : -2147483648 ≤ x ∧ x < 2147483648) (hp0 : 1 ≤ x ∧ x ≤ w (476 * s + 0) → P (.inl none) (V, C, J)) (hp1 : ¬ (1 ≤ x ∧ x ≤ w (476 * s + 0)) → P (.inr "java/lang/IndexOutOfBoundsException") (V, C, J)) : RM G mX10_checkPosition (c_I Y h0) [.ref a, .int (iI x)] (d + 6) 1 6 P (V, C, J) := by
  refine RM.of (L := [some (.ref a), some (.int (iI x))]) cfX10_checkPosition rfl (Nat.le_of_ble_eq_true rfl) ?_
  have r := hr.1
  have o0 := hO.1
  refine i_iload_n dX10_checkPosition_0 rfl ?_
  refine i_const dX10_checkPosition_1 ?_
  refine i_icmp_lt (tgt := 13) dX10_checkPosition_2 (by decide) (by omega) (by omega) (fun c2 => ?_) (fun c2 => ?_)
  · -- jumps
    refine i_thrB (is := 342) (text := "no such position") rfl hZ (by decide) dX10_checkPosition_13 dX10_checkPosition_16 dX10_checkPosition_17 dX10_checkPosition_20 dX10_checkPosition_23 (Nat.le_of_ble_eq_true rfl) ?_
    exact hp1 (by omega)
  · -- on
    refine i_iload_n dX10_checkPosition_5 rfl ?_
    refine i_aload_n dX10_checkPosition_6 rfl ?_
    refine u_getP (vv := .int (iI (p.1 0))) hp dX10_checkPosition_7 fX10_121 rfl ?_
    refine i_icmp_le (tgt := 24) dX10_checkPosition_10 (by decide) (by omega) (by omega) (fun c10 => ?_) (fun c10 => ?_)
    · -- jumps
      refine i_return dX10_checkPosition_24 rfl ?_
      exact hp0 (by omega)
    · -- on
      refine i_thrB (is := 342) (text := "no such position") rfl hZ (by decide) dX10_checkPosition_13 dX10_checkPosition_16 dX10_checkPosition_17 dX10_checkPosition_20 dX10_checkPosition_23 (Nat.le_of_ble_eq_true rfl) ?_
      exact hp1 (by omega)
theorem q_checkState {x : Int} (hZ : p_Zs G) (hp : J.2.2 a = some p) (hr : cPt p w s) (hO : wP w s) (hx : -2147483648 ≤ x ∧ x < 2147483648) (hp0 : 0 ≤ x ∧ x < w (476 * s + 5) → P (.inl none) (V, C, J)) (hp1 : ¬ (0 ≤ x ∧ x < w (476 * s + 5)) → P (.inr "java/lang/IndexOutOfBoundsException") (V, C, J)) : RM G mX10_checkState (c_I Y h0) [.ref a, .int (iI x)] (d + 6) 1 6 P (V, C, J) := by
  refine RM.of (L := [some (.ref a), some (.int (iI x))]) cfX10_checkState rfl (Nat.le_of_ble_eq_true rfl) ?_
  have r := hr.1
  have o5 := hO.2.2.2.1
  refine i_iload_n dX10_checkState_0 rfl ?_
  refine i_aload_n dX10_checkState_1 rfl ?_
  refine u_getP (vv := .int (iI (p.1 5))) hp dX10_checkState_2 fX10_132 rfl ?_
  refine i_callS (mc := 0) (ms := 0) (As := [_, _]) dX10_checkState_5 cfX10_isIndex stX10_isIndex lX10_331 rfl rfl (Nat.le_of_ble_eq_true rfl) (Nat.zero_add _).symm (Nat.zero_add _).symm ?_
  refine q_isIndex (by omega) (by omega) (RK.v ?_)
  refine i_ifne_b (tgt := 22) dX10_checkState_8 (by decide) (fun c8 => ?_) (fun c8 => ?_)
  · -- jumps
    refine i_return dX10_checkState_22 rfl ?_
    exact hp0 (by omega)
  · -- on
    refine i_thrB (is := 344) (text := "no such state") rfl hZ (by decide) dX10_checkState_11 dX10_checkState_14 dX10_checkState_15 dX10_checkState_18 dX10_checkState_21 (Nat.le_of_ble_eq_true rfl) ?_
    exact hp1 (by omega)
theorem q_checkWalker {x : Int} (hZ : p_Zs G) (hN : cNow V C J w) (hO : wOK w) (hx : -2147483648 ≤ x ∧ x < 2147483648) (hp0 : 0 ≤ x ∧ x < w 952 → P (.inl none) (V, C, J)) (hp1 : ¬ (0 ≤ x ∧ x < w 952) → P (.inr "java/lang/IndexOutOfBoundsException") (V, C, J)) : RM G mX10_checkWalker (c_I Y h0) [.ref (Y 0), .int (iI x)] (d + 6) 1 6 P (V, C, J) := by
  refine RM.of (L := [some (.ref (Y 0)), some (.int (iI x))]) cfX10_checkWalker rfl (Nat.le_of_ble_eq_true rfl) ?_
  have n1 := hN.n
  have b0 := hO.2.1
  refine i_iload_n dX10_checkWalker_0 rfl ?_
  refine i_aload_n dX10_checkWalker_1 rfl ?_
  refine u_get (i := 0) (vv := .ref (Y (30))) dX10_checkWalker_2 fX10_49.o (by decide) rfl rfl ?_
  refine u_get (i := 30) (vv := .int (iI (V 21))) dX10_checkWalker_5 fX10_135 (by decide) rfl rfl ?_
  refine i_callS (mc := 0) (ms := 0) (As := [_, _]) dX10_checkWalker_8 cfX10_isIndex stX10_isIndex lX10_331 rfl rfl (Nat.le_of_ble_eq_true rfl) (Nat.zero_add _).symm (Nat.zero_add _).symm ?_
  refine q_isIndex (by omega) (by omega) (RK.v ?_)
  refine i_ifne_b (tgt := 25) dX10_checkWalker_11 (by decide) (fun c11 => ?_) (fun c11 => ?_)
  · -- jumps
    refine i_return dX10_checkWalker_25 rfl ?_
    exact hp0 (by omega)
  · -- on
    refine i_thrB (is := 348) (text := "no such walker") rfl hZ (by decide) dX10_checkWalker_14 dX10_checkWalker_17 dX10_checkWalker_18 dX10_checkWalker_21 dX10_checkWalker_24 (Nat.le_of_ble_eq_true rfl) ?_
    exact hp1 (by omega)
end C49
