/-! ===== the class: four bytes ===== -/
def zsh (x k : Int) : Int := (((iI x).toBitVec.toNat >>> k.toNat : Nat) : Int)
theorem iI_ush {x k : Int} (hk : k = 8 ∨ k = 16 ∨ k = 24) : ((iI x).toUInt32 >>> ((iI k).toUInt32 &&& Int32.toUInt32 31)).toInt32 = iI (zsh x k) := by
  unfold zsh
  rw [iI_nat]
  apply Int32.toBitVec_inj.1
  apply BitVec.eq_of_toNat_eq
  have hb := (iI x).toBitVec.isLt
  rcases hk with rfl | rfl | rfl
  · show ((iI x).toBitVec >>> (8 : Nat)).toNat = ((iI x).toBitVec.toNat >>> 8) % 2 ^ 32
    rw [BitVec.toNat_ushiftRight, Nat.shiftRight_eq_div_pow]
    omega
  · show ((iI x).toBitVec >>> (16 : Nat)).toNat = ((iI x).toBitVec.toNat >>> 16) % 2 ^ 32
    rw [BitVec.toNat_ushiftRight, Nat.shiftRight_eq_div_pow]
    omega
  · show ((iI x).toBitVec >>> (24 : Nat)).toNat = ((iI x).toBitVec.toNat >>> 24) % 2 ^ 32
    rw [BitVec.toNat_ushiftRight, Nat.shiftRight_eq_div_pow]
    omega
theorem iI_ub {x k : Int} : iI (zsh x k) &&& iI 255 = iI (zby x k) := by
  unfold zsh zby
  rw [iI_nat, iI_nat, show iI 255 = nI 255 from rfl, ny_and, show (255 : Nat) = 2 ^ 8 - 1 from rfl, Nat.and_two_pow_sub_one_eq_mod]
theorem zsh_24 {x : Int} : zsh x 24 = zby x 24 := by
  unfold zsh zby
  have hb := (iI x).toBitVec.isLt
  show (((iI x).toBitVec.toNat >>> 24 : Nat) : Int) = ((((iI x).toBitVec.toNat >>> 24) % 256 : Nat) : Int)
  rw [Nat.shiftRight_eq_div_pow]
  omega
theorem iI_b0 {x : Int} : iI x &&& iI 255 = iI (zby x 0) := by
  have e : iI (zsh x 0) = iI x := by
    unfold zsh
    rw [iI_nat]
    apply Int32.toBitVec_inj.1
    apply BitVec.eq_of_toNat_eq
    have hb := (iI x).toBitVec.isLt
    show (iI x).toBitVec.toNat % 2 ^ 32 = _
    omega
  rw [← e, iI_ub]
section C60
variable {G : p_G} {Y : Nat → Nat} {h0 : p_H} {P : (Option Value) ⊕ String → c_X → Prop} {d : Nat} {V : Nat → Int} {C : Nat → Int → Int} {J : c_J}
theorem q_addFourBytes {x : Int} (h4 : 0 ≤ V 4 ∧ V 4 ≤ 196) (hp : ∀ V' C', V' 4 = V 4 + 4 → C' 2 = bPut (C 2) (V 4) x → sV [4] V V' → sC [2] C C' → P (.inl none) (V', C', J)) : RM G mX1_addFourBytes (c_I Y h0) [.ref (Y 1), .int (iI x)] (d + 2) 0 0 P (V, C, J) := by
  refine RM.of (L := [some (.ref (Y 1)), some (.int (iI x))]) cfX1_addFourBytes rfl (Nat.le_of_ble_eq_true rfl) ?_
  refine i_aload_n dX1_addFourBytes_0 rfl ?_
  refine i_iload_n dX1_addFourBytes_1 rfl ?_
  refine i_bipush dX1_addFourBytes_2 (by decide) ?_
  refine i_iushr dX1_addFourBytes_4 (iI_ush (by decide)) ?_
  refine RW.ti zsh_24 ?_
  refine u_callV (i := 1) (mc := 0) (ms := 0) (As := [_]) dX1_addFourBytes_5 cfX1_addByte imX1_addByte seX1_addByte lX1_28 (by decide) rfl rfl rfl rfl rfl (Nat.le_of_ble_eq_true rfl) (Nat.zero_add _).symm (Nat.zero_add _).symm ?_
  refine q_addByte (by show 0 ≤ V 4 ∧ V 4 < 200; omega) (RK.n0 ?_)
  refine i_aload_n dX1_addFourBytes_8 rfl ?_
  refine i_iload_n dX1_addFourBytes_9 rfl ?_
  refine i_bipush dX1_addFourBytes_10 (by decide) ?_
  refine i_iushr dX1_addFourBytes_12 (iI_ush (by decide)) ?_
  refine i_sipush dX1_addFourBytes_13 (by decide) ?_
  refine i_andE dX1_addFourBytes_16 iI_ub ?_
  refine u_callV (i := 1) (mc := 0) (ms := 0) (As := [_]) dX1_addFourBytes_17 cfX1_addByte imX1_addByte seX1_addByte lX1_28 (by decide) rfl rfl rfl rfl rfl (Nat.le_of_ble_eq_true rfl) (Nat.zero_add _).symm (Nat.zero_add _).symm ?_
  refine q_addByte (by show 0 ≤ V 4 + 1 ∧ V 4 + 1 < 200; omega) (RK.n0 ?_)
  refine i_aload_n dX1_addFourBytes_20 rfl ?_
  refine i_iload_n dX1_addFourBytes_21 rfl ?_
  refine i_bipush dX1_addFourBytes_22 (by decide) ?_
  refine i_iushr dX1_addFourBytes_24 (iI_ush (by decide)) ?_
  refine i_sipush dX1_addFourBytes_25 (by decide) ?_
  refine i_andE dX1_addFourBytes_28 iI_ub ?_
  refine u_callV (i := 1) (mc := 0) (ms := 0) (As := [_]) dX1_addFourBytes_29 cfX1_addByte imX1_addByte seX1_addByte lX1_28 (by decide) rfl rfl rfl rfl rfl (Nat.le_of_ble_eq_true rfl) (Nat.zero_add _).symm (Nat.zero_add _).symm ?_
  refine q_addByte (by show 0 ≤ V 4 + 1 + 1 ∧ V 4 + 1 + 1 < 200; omega) (RK.n0 ?_)
  refine i_aload_n dX1_addFourBytes_32 rfl ?_
  refine i_iload_n dX1_addFourBytes_33 rfl ?_
  refine i_sipush dX1_addFourBytes_34 (by decide) ?_
  refine i_andE dX1_addFourBytes_37 iI_b0 ?_
  refine u_callV (i := 1) (mc := 0) (ms := 0) (As := [_]) dX1_addFourBytes_38 cfX1_addByte imX1_addByte seX1_addByte lX1_28 (by decide) rfl rfl rfl rfl rfl (Nat.le_of_ble_eq_true rfl) (Nat.zero_add _).symm (Nat.zero_add _).symm ?_
  refine q_addByte (by show 0 ≤ V 4 + 1 + 1 + 1 ∧ V 4 + 1 + 1 + 1 < 200; omega) (RK.n0 ?_)
  refine i_return dX1_addFourBytes_41 rfl ?_
  have e1 : V 4 + 1 + 1 = V 4 + 2 := by omega
  have e2 : V 4 + 1 + 1 + 1 = V 4 + 3 := by omega
  refine hp _ _ ?_ ?_ ((((sV.rfl.vu (by decide)).vu (by decide)).vu (by decide)).vu (by decide)) ((((sC.rfl.cu (by decide)).cu (by decide)).cu (by decide)).cu (by decide))
  · show V 4 + 1 + 1 + 1 + 1 = V 4 + 4; omega
  · show zu (zu (zu (zu (C 2) (V 4) (zby x 24)) (V 4 + 1) (zby x 16)) (V 4 + 1 + 1) (zby x 8)) (V 4 + 1 + 1 + 1) (zby x 0) = _; rw [e2, e1]; rfl
end C60
