/-! ===== the class: truncateInput ===== -/
section C59
variable {G : p_G} {Y : Nat → Nat} {h0 : p_H} {P : (Option Value) ⊕ String → c_X → Prop} {d : Nat} {V : Nat → Int} {C : Nat → Int → Int} {J : c_J}
theorem q_truncateInput {n : Int} (hZ : p_Zs G) (h4 : 0 ≤ V 4 ∧ V 4 ≤ 200) (hn : -2147483648 ≤ n ∧ n < 2147483648) (hp0 : 0 ≤ n ∧ n ≤ V 4 → P (.inl (some (.int (iI n)))) (vu V 4 n, C, J)) (hp1 : ¬ (0 ≤ n ∧ n ≤ V 4) → P (.inr "java/lang/IllegalArgumentException") (V, C, J)) : RM G mX10_truncateInput (c_I Y h0) [.ref (Y 0), .int (iI n)] (d + 6) 1 6 P (V, C, J) := by
  refine RM.of (L := [some (.ref (Y 0)), some (.int (iI n))]) cfX10_truncateInput rfl (Nat.le_of_ble_eq_true rfl) ?_
  refine i_iload_n dX10_truncateInput_0 rfl ?_
  refine i_if_lt (tgt := 15) dX10_truncateInput_1 (by decide) (by omega) (fun c1 => ?_) (fun c1 => ?_)
  · -- jumps
    refine i_thrA (is := 104) (text := "no such length of the input buffer") rfl hZ (by decide) dX10_truncateInput_15 dX10_truncateInput_18 dX10_truncateInput_19 dX10_truncateInput_21 dX10_truncateInput_24 (Nat.le_of_ble_eq_true rfl) ?_
    exact hp1 (by omega)
  · -- on
    refine i_iload_n dX10_truncateInput_4 rfl ?_
    refine i_aload_n dX10_truncateInput_5 rfl ?_
    refine u_get (i := 0) (vv := .ref (Y (1))) dX10_truncateInput_6 fX10_36.o (by decide) rfl rfl ?_
    refine u_callV (i := 1) (mc := 0) (ms := 0) (As := []) dX10_truncateInput_9 cfX1_size imX1_size seX1_size lX10_95 (by decide) rfl rfl rfl rfl rfl (Nat.le_of_ble_eq_true rfl) (Nat.zero_add _).symm (Nat.zero_add _).symm ?_
    refine q_size1 (RK.v ?_)
    refine i_icmp_le (tgt := 25) dX10_truncateInput_12 (by decide) (by omega) (by omega) (fun c12 => ?_) (fun c12 => ?_)
    · -- jumps
      refine i_aload_n dX10_truncateInput_25 rfl ?_
      refine u_get (i := 0) (vv := .ref (Y (1))) dX10_truncateInput_26 fX10_36.o (by decide) rfl rfl ?_
      refine i_iload_n dX10_truncateInput_29 rfl ?_
      refine u_callV (i := 1) (mc := 0) (ms := 0) (As := [_]) dX10_truncateInput_30 cfX1_shorten imX1_shorten seX1_shorten lX10_32 (by decide) rfl rfl rfl rfl rfl (Nat.le_of_ble_eq_true rfl) (Nat.zero_add _).symm (Nat.zero_add _).symm ?_
      refine q_shorten (RK.n0 ?_)
      refine i_iload_n dX10_truncateInput_33 rfl ?_
      refine i_ireturn dX10_truncateInput_34 rfl rfl ?_
      exact hp0 (by omega)
    · -- on
      refine i_thrA (is := 104) (text := "no such length of the input buffer") rfl hZ (by decide) dX10_truncateInput_15 dX10_truncateInput_18 dX10_truncateInput_19 dX10_truncateInput_21 dX10_truncateInput_24 (Nat.le_of_ble_eq_true rfl) ?_
      exact hp1 (by omega)
end C59
