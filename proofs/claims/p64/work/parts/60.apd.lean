/-! ===== the class: four bytes ===== -/
def zsh (x k : Int) : Int := (((iI x).toBitVec.toNat >>> k.toNat : Nat) : Int)
theorem iI_ush {x k : Int} (hk : k = 8 ∨ k = 16 ∨ k = 24) : ((iI x).toUInt32 >>> ((iI k).toUInt32 &&& Int32.toUInt32 31)).toInt32 = iI (zsh x k) := by
  unfold zsh
  rw [iI_nat]
  apply Int32.toBitVec_inj.1
  apply BitVec.eq_of_toNat_eq
  have hb := (iI x).toBitVec.isLt
  rcases hk with rfl | rfl | rfl
  · show ((iI x).toBitVec >>> (8 : Nat)).toNat = ((iI x).toBitVec.toNat >>> 8) % 2 ^ 32
    rw [BitVec.toNat_ushiftRight, Nat.shiftRight_eq_div_pow]
    omega
  · show ((iI x).toBitVec >>> (16 : Nat)).toNat = ((iI x).toBitVec.toNat >>> 16) % 2 ^ 32
    rw [BitVec.toNat_ushiftRight, Nat.shiftRight_eq_div_pow]
    omega
  · show ((iI x).toBitVec >>> (24 : Nat)).toNat = ((iI x).toBitVec.toNat >>> 24) % 2 ^ 32
    rw [BitVec.toNat_ushiftRight, Nat.shiftRight_eq_div_pow]
    omega
theorem iI_ub {x k : Int} : iI (zsh x k) &&& iI 255 = iI (zby x k) := by
  unfold zsh zby
  rw [iI_nat, iI_nat, show iI 255 = nI 255 from rfl, ny_and, show (255 : Nat) = 2 ^ 8 - 1 from rfl, Nat.and_two_pow_sub_one_eq_mod]
theorem zsh_24 {x : Int} : zsh x 24 = zby x 24 := by
  unfold zsh zby
  have hb := (iI x).toBitVec.isLt
  show (((iI x).toBitVec.toNat >>> 24 : Nat) : Int) = ((((iI x).toBitVec.toNat >>> 24) % 256 : Nat) : Int)
  rw [Nat.shiftRight_eq_div_pow]
  omega
theorem iI_b0 {x : Int} : iI x &&& iI 255 = iI (zby x 0) := by
  have e : iI (zsh x 0) = iI x := by
    unfold zsh
    rw [iI_nat]
    apply Int32.toBitVec_inj.1
    apply BitVec.eq_of_toNat_eq
    have hb := (iI x).toBitVec.isLt
    show (iI x).toBitVec.toNat % 2 ^ 32 = _
    omega
  rw [← e, iI_ub]
section C60
variable {G : p_G} {Y : Nat → Nat} {h0 : p_H} {P : (Option Value) ⊕ String → c_X → Prop} {d : Nat} {V : Nat → Int} {C : Nat → Int → Int} {J : c_J}
theorem q_addFourBytes {x : Int} (h4 : 0 ≤ V 4 ∧ V 4 ≤ 196) (hp : ∀ V' C', V' 4 = V 4 + 4 → C' 2 = bPut (C 2) (V 4) x → sV [4] V V' → sC [2] C C' → P (.inl none) (V', C', J)) : RM G mX1_addFourBytes (c_I Y h0) [.ref (Y 1), .int (iI x)] (d + 2) 0 0 P (V, C, J) := by
  refine RM.of (L := [some (.ref (Y 1)), some (.int (iI x))]) cfX1_addFourBytes rfl (Nat.le_of_ble_eq_true rfl) ?_
  refine i_aload_n dX1_addFourBytes_0 rfl ?_
  refine i_iload_n dX1_addFourBytes_1 rfl ?_
  refine i_bipush dX1_addFourBytes_2 (by decide) ?_
  refine i_iushr dX1_addFourBytes_4 (iI_ush (by decide)) ?_
  refine RW.ti zsh_24 ?_
  refine u_callV (i := 1) (mc := 0) (ms := 0) (As := [_]) dX1_addFourBytes_5 cfX1_addByte imX1_addByte seX1_addByte lX1_28 (by decide) rfl rfl rfl rfl rfl (Nat.le_of_ble_eq_true rfl) (Nat.zero_add _).symm (Nat.zero_add _).symm ?_
  refine q_addByte (by show 0 ≤ V 4 ∧ V 4 < 200; omega) (RK.n0 ?_)
  refine i_aload_n dX1_addFourBytes_8 rfl ?_
  refine i_iload_n dX1_addFourBytes_9 rfl ?_
  refine i_bipush dX1_addFourBytes_10 (by decide) ?_
  refine i_iushr dX1_addFourBytes_12 (iI_ush (by decide)) ?_
  refine i_sipush dX1_addFourBytes_13 (by decide) ?_
  refine i_andE dX1_addFourBytes_16 iI_ub ?_
  refine u_callV (i := 1) (mc := 0) (ms := 0) (As := [_]) dX1_addFourBytes_17 cfX1_addByte imX1_addByte seX1_addByte lX1_28 (by decide) rfl rfl rfl rfl rfl (Nat.le_of_ble_eq_true rfl) (Nat.zero_add _).symm (Nat.zero_add _).symm ?_
  refine q_addByte (by show 0 ≤ V 4 + 1 ∧ V 4 + 1 < 200; omega) (RK.n0 ?_)
  refine i_aload_n dX1_addFourBytes_20 rfl ?_
  refine i_iload_n dX1_addFourBytes_21 rfl ?_
  refine i_bipush dX1_addFourBytes_22 (by decide) ?_
  refine i_iushr dX1_addFourBytes_24 (iI_ush (by decide)) ?_
  refine i_sipush dX1_addFourBytes_25 (by decide) ?_
  refine i_andE dX1_addFourBytes_28 iI_ub ?_
  refine u_callV (i := 1) (mc := 0) (ms := 0) (As := [_]) dX1_addFourBytes_29 cfX1_addByte imX1_addByte seX1_addByte lX1_28 (by decide) rfl rfl rfl rfl rfl (Nat.le_of_ble_eq_true rfl) (Nat.zero_add _).symm (Nat.zero_add _).symm ?_
  refine q_addByte (by show 0 ≤ V 4 + 1 + 1 ∧ V 4 + 1 + 1 < 200; omega) (RK.n0 ?_)
  refine i_aload_n dX1_addFourBytes_32 rfl ?_
  refine i_iload_n dX1_addFourBytes_33 rfl ?_
  refine i_sipush dX1_addFourBytes_34 (by decide) ?_
  refine i_andE dX1_addFourBytes_37 iI_b0 ?_
  refine u_callV (i := 1) (mc := 0) (ms := 0) (As := [_]) dX1_addFourBytes_38 cfX1_addByte imX1_addByte seX1_addByte lX1_28 (by decide) rfl rfl rfl rfl rfl (Nat.le_of_ble_eq_true rfl) (Nat.zero_add _).symm (Nat.zero_add _).symm ?_
  refine q_addByte (by show 0 ≤ V 4 + 1 + 1 + 1 ∧ V 4 + 1 + 1 + 1 < 200; omega) (RK.n0 ?_)
  refine i_return dX1_addFourBytes_41 rfl ?_
  have e1 : V 4 + 1 + 1 = V 4 + 2 := by omega
  have e2 : V 4 + 1 + 1 + 1 = V 4 + 3 := by omega
  refine hp _ _ ?_ ?_ ((((sV.rfl.vu (by decide)).vu (by decide)).vu (by decide)).vu (by decide)) ((((sC.rfl.cu (by decide)).cu (by decide)).cu (by decide)).cu (by decide))
  · show V 4 + 1 + 1 + 1 + 1 = V 4 + 4; omega
  · show zu (zu (zu (zu (C 2) (V 4) (zby x 24)) (V 4 + 1) (zby x 16)) (V 4 + 1 + 1) (zby x 8)) (V 4 + 1 + 1 + 1) (zby x 0) = _; rw [e2, e1]; rfl
theorem q_append {a b c e f : Int} (h4 : 0 ≤ V 4 ∧ V 4 ≤ 200) (hp1 : ¬ (V 4 + 20 ≤ 200) → P (.inl (some (.int (iI (-1))))) (V, C, J)) (hp0 : V 4 + 20 ≤ 200 → ∀ V' C', V' 4 = V 4 + 20 → C' 2 = bPut (bPut (bPut (bPut (bPut (C 2) (V 4) a) (V 4 + 4) b) (V 4 + 8) c) (V 4 + 12) e) (V 4 + 16) f → sV [4] V V' → sC [2] C C' → P (.inl (some (.int (iI (V 4 + 20))))) (V', C', J)) : RM G mX10_append (c_I Y h0) [.ref (Y 0), .int (iI a), .int (iI b), .int (iI c), .int (iI e), .int (iI f)] (d + 3) 0 0 P (V, C, J) := by
  refine RM.of (L := [some (.ref (Y 0)), some (.int (iI a)), some (.int (iI b)), some (.int (iI c)), some (.int (iI e)), some (.int (iI f))]) cfX10_append rfl (Nat.le_of_ble_eq_true rfl) ?_
  refine i_aload_n dX10_append_0 rfl ?_
  refine u_get (i := 0) (vv := .ref (Y (1))) dX10_append_1 fX10_36.o (by decide) rfl rfl ?_
  refine u_callV (i := 1) (mc := 0) (ms := 0) (As := []) dX10_append_4 cfX1_size imX1_size seX1_size lX10_95 (by decide) rfl rfl rfl rfl rfl (Nat.le_of_ble_eq_true rfl) (Nat.zero_add _).symm (Nat.zero_add _).symm ?_
  refine q_size1 (RK.v ?_)
  refine i_bipush dX10_append_7 (by decide) ?_
  refine i_add dX10_append_9 ?_
  refine i_sipush dX10_append_10 (by decide) ?_
  refine i_icmp_le (tgt := 18) dX10_append_13 (by decide) (by omega) (by omega) (fun c13 => ?_) (fun c13 => ?_)
  · -- jumps
    refine i_aload_n dX10_append_18 rfl ?_
    refine u_get (i := 0) (vv := .ref (Y (1))) dX10_append_19 fX10_36.o (by decide) rfl rfl ?_
    refine i_iload_n dX10_append_22 rfl ?_
    refine u_callV (i := 1) (mc := 0) (ms := 0) (As := [_]) dX10_append_23 cfX1_addFourBytes imX1_addFourBytes seX1_addFourBytes lX10_99 (by decide) rfl rfl rfl rfl rfl (Nat.le_of_ble_eq_true rfl) (Nat.zero_add _).symm (Nat.zero_add _).symm ?_
    refine q_addFourBytes (by omega) (fun V1 C1 e1 f1 sv1 sc1 => RK.n0 ?_)
    refine i_aload_n dX10_append_26 rfl ?_
    refine u_get (i := 0) (vv := .ref (Y (1))) dX10_append_27 fX10_36.o (by decide) rfl rfl ?_
    refine i_iload_n dX10_append_30 rfl ?_
    refine u_callV (i := 1) (mc := 0) (ms := 0) (As := [_]) dX10_append_31 cfX1_addFourBytes imX1_addFourBytes seX1_addFourBytes lX10_99 (by decide) rfl rfl rfl rfl rfl (Nat.le_of_ble_eq_true rfl) (Nat.zero_add _).symm (Nat.zero_add _).symm ?_
    refine q_addFourBytes (by omega) (fun V2 C2 e2 f2 sv2 sc2 => RK.n0 ?_)
    rw [f1, show V1 4 = V 4 + 4 by omega] at f2
    refine i_aload_n dX10_append_34 rfl ?_
    refine u_get (i := 0) (vv := .ref (Y (1))) dX10_append_35 fX10_36.o (by decide) rfl rfl ?_
    refine i_iload_n dX10_append_38 rfl ?_
    refine u_callV (i := 1) (mc := 0) (ms := 0) (As := [_]) dX10_append_39 cfX1_addFourBytes imX1_addFourBytes seX1_addFourBytes lX10_99 (by decide) rfl rfl rfl rfl rfl (Nat.le_of_ble_eq_true rfl) (Nat.zero_add _).symm (Nat.zero_add _).symm ?_
    refine q_addFourBytes (by omega) (fun V3 C3 e3 f3 sv3 sc3 => RK.n0 ?_)
    rw [f2, show V2 4 = V 4 + 8 by omega] at f3
    refine i_aload_n dX10_append_42 rfl ?_
    refine u_get (i := 0) (vv := .ref (Y (1))) dX10_append_43 fX10_36.o (by decide) rfl rfl ?_
    refine i_iload dX10_append_46 rfl ?_
    refine u_callV (i := 1) (mc := 0) (ms := 0) (As := [_]) dX10_append_48 cfX1_addFourBytes imX1_addFourBytes seX1_addFourBytes lX10_99 (by decide) rfl rfl rfl rfl rfl (Nat.le_of_ble_eq_true rfl) (Nat.zero_add _).symm (Nat.zero_add _).symm ?_
    refine q_addFourBytes (by omega) (fun V4 C4 e4 f4 sv4 sc4 => RK.n0 ?_)
    rw [f3, show V3 4 = V 4 + 12 by omega] at f4
    refine i_aload_n dX10_append_51 rfl ?_
    refine u_get (i := 0) (vv := .ref (Y (1))) dX10_append_52 fX10_36.o (by decide) rfl rfl ?_
    refine i_iload dX10_append_55 rfl ?_
    refine u_callV (i := 1) (mc := 0) (ms := 0) (As := [_]) dX10_append_57 cfX1_addFourBytes imX1_addFourBytes seX1_addFourBytes lX10_99 (by decide) rfl rfl rfl rfl rfl (Nat.le_of_ble_eq_true rfl) (Nat.zero_add _).symm (Nat.zero_add _).symm ?_
    refine q_addFourBytes (by omega) (fun V5 C5 e5 f5 sv5 sc5 => RK.n0 ?_)
    rw [f4, show V4 4 = V 4 + 16 by omega] at f5
    refine i_aload_n dX10_append_60 rfl ?_
    refine u_get (i := 0) (vv := .ref (Y (1))) dX10_append_61 fX10_36.o (by decide) rfl rfl ?_
    refine u_callV (i := 1) (mc := 0) (ms := 0) (As := []) dX10_append_64 cfX1_size imX1_size seX1_size lX10_95 (by decide) rfl rfl rfl rfl rfl (Nat.le_of_ble_eq_true rfl) (Nat.zero_add _).symm (Nat.zero_add _).symm ?_
    refine q_size1 (RK.v ?_)
    refine i_ireturn dX10_append_67 rfl rfl ?_
    rw [show V5 4 = V 4 + 20 by omega]
    exact hp0 (by omega) _ _ (by omega) f5 ((((sv1.tr sv2 (fun _ z => z)).tr sv3 (fun _ z => z)).tr sv4 (fun _ z => z)).tr sv5 (fun _ z => z)) ((((sc1.tr sc2 (fun _ z => z)).tr sc3 (fun _ z => z)).tr sc4 (fun _ z => z)).tr sc5 (fun _ z => z))
  · -- on
    refine i_const dX10_append_16 ?_
    refine i_ireturn dX10_append_17 rfl rfl ?_
    exact hp1 (by omega)
end C60
