/-! ===== the class: areEquivalentStates, minimalStateCount ===== -/
section C72
variable {G : p_G} {Y : Nat → Nat} {h0 : p_H} {P : (Option Value) ⊕ String → c_X → Prop} {d : Nat} {V : Nat → Int} {C : Nat → Int → Int} {J : c_J}
variable {w : Int → Int}
theorem q_areEquivalentStates {s a b : Int} (hZ : p_Zs G) (hN : cNow V C J w) (hO : wOK w) (hX : ∀ s, s = 0 ∨ s = 1 → wX w s) (h_s : -2147483648 ≤ s ∧ s < 2147483648) (h_a : -2147483648 ≤ a ∧ a < 2147483648) (h_b : -2147483648 ≤ b ∧ b < 2147483648) (hp1 : ¬ (((s = 0 ∨ s = 1) ∧ 0 ≤ a ∧ a < w (476 * s + 5)) ∧ ((s = 0 ∨ s = 1) ∧ 0 ≤ b ∧ b < w (476 * s + 5))) → P (.inr "java/lang/IndexOutOfBoundsException") (V, C, J)) (hq : ((s = 0 ∨ s = 1) ∧ 0 ≤ a ∧ a < w (476 * s + 5)) ∧ ((s = 0 ∨ s = 1) ∧ 0 ≤ b ∧ b < w (476 * s + 5)) → ∀ V' C', sV [13] V V' → sC [19, 20, 21] C C' → P (.inl (some (.int (iI (zc (wEqv w s a b)))))) (V', C', J)) : RM G mX10_areEquivalentStates (c_I Y h0) [.ref (Y 0), .int (iI s), .int (iI a), .int (iI b)] (d + 8) 3 18 P (V, C, J) := by
  refine RM.of (L := [some (.ref (Y 0)), some (.int (iI s)), some (.int (iI a)), some (.int (iI b)), none]) cfX10_areEquivalentStates rfl (Nat.le_of_ble_eq_true rfl) ?_
  refine i_aload_n dX10_areEquivalentStates_0 rfl ?_
  refine i_iload_n dX10_areEquivalentStates_1 rfl ?_
  refine u_callV (i := 0) (mc := 1) (ms := 6) (k' := 2) (n' := 12) (As := [_]) dX10_areEquivalentStates_2 cfX10_checkedPattern imX10_checkedPattern seX10_checkedPattern lX10_212 (by decide) rfl rfl rfl rfl rfl (Nat.le_of_ble_eq_true rfl) rfl rfl ?_
  refine q_checkedPattern hZ hN hO (by omega) (fun g1 a1 p1 hy1 hr1 => RK.v ?_) (fun g1 => RK.x ?_)
  · -- case
    refine i_astore dX10_areEquivalentStates_5 (L' := [some _, some _, some _, some _, some _]) (by decide) rfl ?_
    refine i_aload dX10_areEquivalentStates_7 rfl ?_
    refine i_iload_n dX10_areEquivalentStates_9 rfl ?_
    refine i_callS (mc := 1) (ms := 6) (k' := 1) (n' := 6) (As := [_, _]) dX10_areEquivalentStates_10 cfX10_checkState stX10_checkState lX10_240 rfl rfl (Nat.le_of_ble_eq_true rfl) rfl rfl ?_
    refine q_checkState hZ hy1 hr1 (hO.1 _ g1) (by omega) (fun g2 => RK.n0 ?_) (fun g2 => RK.x ?_)
    · -- case
      refine i_aload dX10_areEquivalentStates_13 rfl ?_
      refine i_iload_n dX10_areEquivalentStates_15 rfl ?_
      refine i_callS (mc := 1) (ms := 6) (k' := 0) (n' := 0) (As := [_, _]) dX10_areEquivalentStates_16 cfX10_checkState stX10_checkState lX10_240 rfl rfl (Nat.le_of_ble_eq_true rfl) rfl rfl ?_
      refine q_checkState hZ hy1 hr1 (hO.1 _ g1) (by omega) (fun g3 => RK.n0 ?_) (fun g3 => RK.x ?_)
      · -- case
        refine i_aload_n dX10_areEquivalentStates_19 rfl ?_
        refine u_get (i := 0) (vv := .ref (Y (18))) dX10_areEquivalentStates_20 fX10_87.o (by decide) rfl rfl ?_
        refine i_aload dX10_areEquivalentStates_23 rfl ?_
        refine u_callV (i := 18) (mc := 0) (ms := 0) (As := [_]) dX10_areEquivalentStates_25 cfX7_sort imX7_sort seX7_sort lX10_263 (by decide) rfl rfl rfl rfl rfl (Nat.le_of_ble_eq_true rfl) (Nat.zero_add _).symm (Nat.zero_add _).symm ?_
        refine q_sort hy1 hr1 (hO.1 _ g1) (hX _ g1) (fun V4 C4 sv4 sc4 hi4 hf4 hn4 => RK.n0 ?_)
        refine i_aload_n dX10_areEquivalentStates_28 rfl ?_
        refine u_get (i := 0) (vv := .ref (Y (18))) dX10_areEquivalentStates_29 fX10_87.o (by decide) rfl rfl ?_
        refine i_iload_n dX10_areEquivalentStates_32 rfl ?_
        refine u_callV (i := 18) (mc := 0) (ms := 0) (As := [_]) dX10_areEquivalentStates_33 cfX7_classOf imX7_classOf seX7_classOf lX10_267 (by decide) rfl rfl rfl rfl rfl (Nat.le_of_ble_eq_true rfl) (Nat.zero_add _).symm (Nat.zero_add _).symm ?_
        have fa := hf4 a (by omega) (by omega)
        have o5 := hO.sts g1
        refine q_classOf (by omega) (RK.v ?_)
        refine i_aload_n dX10_areEquivalentStates_36 rfl ?_
        refine u_get (i := 0) (vv := .ref (Y (18))) dX10_areEquivalentStates_37 fX10_87.o (by decide) rfl rfl ?_
        refine i_iload_n dX10_areEquivalentStates_40 rfl ?_
        refine u_callV (i := 18) (mc := 0) (ms := 0) (As := [_]) dX10_areEquivalentStates_41 cfX7_classOf imX7_classOf seX7_classOf lX10_267 (by decide) rfl rfl rfl rfl rfl (Nat.le_of_ble_eq_true rfl) (Nat.zero_add _).symm (Nat.zero_add _).symm ?_
        have fb := hf4 b (by omega) (by omega)
        refine q_classOf (by omega) (RK.v ?_)
        refine i_icmp_ne (tgt := 51) dX10_areEquivalentStates_44 (by decide) (by omega) (by omega) (fun c44 => ?_) (fun c44 => ?_)
        · -- jumps
          refine i_const dX10_areEquivalentStates_51 ?_
          refine i_ireturn dX10_areEquivalentStates_52 rfl rfl ?_
          have h9 := hq (by omega) V4 C4 sv4 sc4
          rw [zc_f (fun z => absurd ((hi4 a b (by omega) (by omega) (by omega) (by omega)).mpr z) (by assumption))] at h9; exact h9
        · -- on
          refine i_const dX10_areEquivalentStates_47 ?_
          refine i_goto (tgt := 52) dX10_areEquivalentStates_48 (by decide) ?_
          refine i_ireturn dX10_areEquivalentStates_52 rfl rfl ?_
          have h9 := hq (by omega) V4 C4 sv4 sc4
          rw [zc_t ((hi4 a b (by omega) (by omega) (by omega) (by omega)).mp (by assumption))] at h9; exact h9
      · -- case
        exact hp1 (by omega)
    · -- case
      exact hp1 (by omega)
  · -- case
    exact hp1 (by omega)
theorem q_minimalStateCount {s : Int} (hZ : p_Zs G) (hN : cNow V C J w) (hO : wOK w) (hX : ∀ s, s = 0 ∨ s = 1 → wX w s) (h_s : -2147483648 ≤ s ∧ s < 2147483648) (hp1 : ¬ (s = 0 ∨ s = 1) → P (.inr "java/lang/IndexOutOfBoundsException") (V, C, J)) (hq : s = 0 ∨ s = 1 → ∀ V' C', sV [13] V V' → sC [19, 20, 21] C C' → P (.inl (some (.int (iI (wMin w s))))) (V', C', J)) : RM G mX10_minimalStateCount (c_I Y h0) [.ref (Y 0), .int (iI s)] (d + 8) 1 6 P (V, C, J) := by
  refine RM.of (L := [some (.ref (Y 0)), some (.int (iI s))]) cfX10_minimalStateCount rfl (Nat.le_of_ble_eq_true rfl) ?_
  refine i_aload_n dX10_minimalStateCount_0 rfl ?_
  refine u_get (i := 0) (vv := .ref (Y (18))) dX10_minimalStateCount_1 fX10_87.o (by decide) rfl rfl ?_
  refine i_aload_n dX10_minimalStateCount_4 rfl ?_
  refine i_iload_n dX10_minimalStateCount_5 rfl ?_
  refine u_callV (i := 0) (mc := 1) (ms := 6) (k' := 0) (n' := 0) (As := [_]) dX10_minimalStateCount_6 cfX10_checkedPattern imX10_checkedPattern seX10_checkedPattern lX10_212 (by decide) rfl rfl rfl rfl rfl (Nat.le_of_ble_eq_true rfl) rfl rfl ?_
  refine q_checkedPattern hZ hN hO (by omega) (fun g1 a1 p1 hy1 hr1 => RK.v ?_) (fun g1 => RK.x ?_)
  · -- case
    refine u_callV (i := 18) (mc := 0) (ms := 0) (As := [_]) dX10_minimalStateCount_9 cfX7_sort imX7_sort seX7_sort lX10_263 (by decide) rfl rfl rfl rfl rfl (Nat.le_of_ble_eq_true rfl) (Nat.zero_add _).symm (Nat.zero_add _).symm ?_
    refine q_sort hy1 hr1 (hO.1 _ g1) (hX _ g1) (fun V2 C2 sv2 sc2 hi2 hf2 hn2 => RK.n0 ?_)
    refine i_aload_n dX10_minimalStateCount_12 rfl ?_
    refine u_get (i := 0) (vv := .ref (Y (18))) dX10_minimalStateCount_13 fX10_87.o (by decide) rfl rfl ?_
    refine u_callV (i := 18) (mc := 0) (ms := 0) (As := []) dX10_minimalStateCount_16 cfX7_size imX7_size seX7_size lX10_270 (by decide) rfl rfl rfl rfl rfl (Nat.le_of_ble_eq_true rfl) (Nat.zero_add _).symm (Nat.zero_add _).symm ?_
    refine q_size7 (RK.v ?_)
    refine i_ireturn dX10_minimalStateCount_19 rfl rfl ?_
    rw [hn2]
    exact hq (by omega) _ _ sv2 sc2
  · -- case
    exact hp1 (by omega)
end C72
