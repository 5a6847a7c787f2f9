/-! ===== the class: its changes ===== -/
/-- what a change does: the numbers become w', the old ones are remembered -/
def cChg (V V' : Nat → Int) (C C' : Nat → Int → Int) (J J' : c_J) (w w' : Int → Int) (n : Int) (H : Int → Int → Int) : Prop := cNow V' C' J' w' ∧ cHs V' C' J' ((if n = 8 then 7 else n) + 1) (hPush n H w) ∧ cFr V V' C C' J J'
section C64a
variable {V V' V1 : Nat → Int} {C C' C1 : Nat → Int → Int} {J J' J1 : c_J} {w w' : Int → Int} {n : Int} {H : Int → Int → Int}
theorem cChg.of (hh : cHs V1 C1 J1 ((if n = 8 then 7 else n) + 1) (hPush n H w)) (hf : cFr V V1 C C1 J J1) (hN : cNow V' C' J' w') (hV : ∀ i, ¬ (20 ≤ i ∧ i < 25) → V' i = V1 i) (hC : ∀ i, ¬ (31 ≤ i ∧ i < 34) → C' i = C1 i) (hR : ∀ q, 2 ≤ q → J'.2.1 q = J1.2.1 q) (h1 : J'.1 = J1.1) (hP : J'.2.2 = J1.2.2) : cChg V V' C C' J J' w w' n H :=
  ⟨hN, hh.cg (fun i hi => hV i (by omega)) (fun i i0 i1 => hC i (by omega)) (fun q q0 q1 => hR q (by omega)) (fun a p h => by rw [hP]; exact h), hf.tr ⟨fun i hi => hV i (by omega), fun i hi => hC i (by omega), fun q hq => hR q (by omega), h1, fun a p h => by rw [hP]; exact h⟩⟩
theorem wStep_at {p c : Int} : wStep w p c (953 + 3 * p + 1) = w (476 * w (953 + 3 * p + 0) + (116 + 6 * w (953 + 3 * p + 1) + c)) ∨ p < 0 ∨ 6 ≤ p := by
  by_cases z : p < 0 ∨ 6 ≤ p
  · exact Or.inr z
  · unfold wStep
    rw [zu_ne (by omega), zu_ne (by omega), zu_at]
    exact Or.inl rfl
end C64a
section C64
variable {G : p_G} {Y : Nat → Nat} {h0 : p_H} {P : (Option Value) ⊕ String → c_X → Prop} {d : Nat} {V : Nat → Int} {C : Nat → Int → Int} {J : c_J}
variable {w : Int → Int} {n : Int} {H : Int → Int → Int}
theorem q_addWalker {s : Int} (hZ : p_Zs G) (hN : cNow V C J w) (hO : wOK w) (hH : cHs V C J n H) (h_s : -2147483648 ≤ s ∧ s < 2147483648) (hp1 : ¬ (s = 0 ∨ s = 1) → P (.inr "java/lang/IndexOutOfBoundsException") (V, C, J)) (hp2 : (s = 0 ∨ s = 1) ∧ w 952 = 6 → P (.inr "java/lang/IllegalStateException") (V, C, J)) (hp0 : (s = 0 ∨ s = 1) ∧ w 952 < 6 → ∀ V' C' J', cChg V V' C C' J J' w (wAdd w s) n H → P (.inl (some (.int (iI (w 952))))) (V', C', J')) : RM G mX10_addWalker (c_I Y h0) [.ref (Y 0), .int (iI s)] (d + 7) 2 12 P (V, C, J) := by
  refine RM.of (L := [some (.ref (Y 0)), some (.int (iI s))]) cfX10_addWalker rfl (Nat.le_of_ble_eq_true rfl) ?_
  have h6 := hO.2.1
  have n1 := hN.n
  refine i_iload_n dX10_addWalker_0 rfl ?_
  refine i_callS (mc := 1) (ms := 6) (k' := 1) (n' := 6) (As := [_]) dX10_addWalker_1 cfX10_checkSlot stX10_checkSlot lX10_108 rfl rfl (Nat.le_of_ble_eq_true rfl) rfl rfl ?_
  refine q_checkSlot hZ  (by omega) (fun g1 => RK.n0 ?_) (fun g1 => RK.x ?_)
  · -- case
    refine i_aload_n dX10_addWalker_4 rfl ?_
    refine u_get (i := 0) (vv := .ref (Y (30))) dX10_addWalker_5 fX10_49.o (by decide) rfl rfl ?_
    refine u_get (i := 30) (vv := .int (iI (V 21))) dX10_addWalker_8 fX10_135 (by decide) rfl rfl ?_
    refine i_bipush dX10_addWalker_11 (by decide) ?_
    refine i_icmp_lt (tgt := 26) dX10_addWalker_13 (by decide) (by omega) (by omega) (fun c13 => ?_) (fun c13 => ?_)
    · -- jumps
      refine i_aload_n dX10_addWalker_26 rfl ?_
      refine u_get (i := 0) (vv := .ref (Y (9))) dX10_addWalker_27 fX10_56.o (by decide) rfl rfl ?_
      refine i_aload_n dX10_addWalker_30 rfl ?_
      refine u_get (i := 0) (vv := .ref (Y (30))) dX10_addWalker_31 fX10_49.o (by decide) rfl rfl ?_
      refine u_callV (i := 9) (mc := 0) (ms := 0) (As := [_]) dX10_addWalker_34 cfX0_remember imX0_remember seX0_remember lX10_113 (by decide) rfl rfl rfl rfl rfl (Nat.le_of_ble_eq_true rfl) (Nat.zero_add _).symm (Nat.zero_add _).symm ?_
      refine q_remember hN hO hH (fun V2 C2 J2 hn2 hh2 hf2 hj2 => RK.n0 ?_)
      refine i_aload_n dX10_addWalker_37 rfl ?_
      refine u_get (i := 0) (vv := .ref (Y (30))) dX10_addWalker_38 fX10_49.o (by decide) rfl rfl ?_
      refine i_iload_n dX10_addWalker_41 rfl ?_
      refine u_callV (i := 30) (mc := 0) (ms := 0) (As := [_]) dX10_addWalker_42 cfX9_bringWalker imX9_bringWalker seX9_bringWalker lX10_143 (by decide) rfl rfl rfl rfl rfl (Nat.le_of_ble_eq_true rfl) (Nat.zero_add _).symm (Nat.zero_add _).symm ?_
      refine q_bringWalker hn2 hO (by omega) (fun V3 C3 ho3 sv3 sc3 => RK.v ?_)
      refine i_ireturn dX10_addWalker_45 rfl rfl ?_
      exact hp0 (by omega) _ _ _ (cChg.of hh2 hf2 ho3 (fun i hi => sv3 i (by simp only [List.mem_cons, List.not_mem_nil, or_false]; omega)) (fun i hi => sc3 i (by simp only [List.mem_cons, List.not_mem_nil, or_false]; omega)) (fun _ _ => rfl) rfl rfl)
    · -- on
      refine i_thrS (is := 140) (text := "there are 6 walkers") rfl hZ (by decide) dX10_addWalker_16 dX10_addWalker_19 dX10_addWalker_20 dX10_addWalker_22 dX10_addWalker_25 (Nat.le_of_ble_eq_true rfl) ?_
      exact hp2 (by omega)
  · -- case
    exact hp1 (by omega)
theorem q_step {k c : Int} (hZ : p_Zs G) (hN : cNow V C J w) (hO : wOK w) (hH : cHs V C J n H) (h_k : -2147483648 ≤ k ∧ k < 2147483648) (h_c : -2147483648 ≤ c ∧ c < 2147483648) (hp1 : ¬ ((0 ≤ k ∧ k < w 952) ∧ 0 ≤ c ∧ c ≤ 5) → P (.inr "java/lang/IndexOutOfBoundsException") (V, C, J)) (hp2 : ((0 ≤ k ∧ k < w 952) ∧ 0 ≤ c ∧ c ≤ 5) ∧ ¬ w (971 + 2 * c + w 983) = 1 → P (.inr "java/lang/IllegalStateException") (V, C, J)) (hp0 : (0 ≤ k ∧ k < w 952) ∧ (0 ≤ c ∧ c ≤ 5) ∧ w (971 + 2 * c + w 983) = 1 → ∀ V' C' J', cChg V V' C C' J J' w (wStep w k c) n H → P (.inl (some (.int (iI (w (476 * w (953 + 3 * k + 0) + (116 + 6 * w (953 + 3 * k + 1) + c))))))) (V', C', J')) : RM G mX10_step (c_I Y h0) [.ref (Y 0), .int (iI k), .int (iI c)] (d + 7) 3 18 P (V, C, J) := by
  refine RM.of (L := [some (.ref (Y 0)), some (.int (iI k)), some (.int (iI c))]) cfX10_step rfl (Nat.le_of_ble_eq_true rfl) ?_
  have h6 := hO.2.1
  have n1 := hN.n
  refine i_aload_n dX10_step_0 rfl ?_
  refine i_iload_n dX10_step_1 rfl ?_
  refine u_callV (i := 0) (mc := 1) (ms := 6) (k' := 2) (n' := 12) (As := [_]) dX10_step_2 cfX10_checkWalker imX10_checkWalker seX10_checkWalker lX10_146 (by decide) rfl rfl rfl rfl rfl (Nat.le_of_ble_eq_true rfl) rfl rfl ?_
  refine q_checkWalker hZ hN hO (by omega) (fun g1 => RK.n0 ?_) (fun g1 => RK.x ?_)
  · -- case
    refine i_iload_n dX10_step_5 rfl ?_
    refine i_callS (mc := 1) (ms := 6) (k' := 1) (n' := 6) (As := [_]) dX10_step_6 cfX10_checkStreet stX10_checkStreet lX10_155 rfl rfl (Nat.le_of_ble_eq_true rfl) rfl rfl ?_
    refine q_checkStreet hZ  (by omega) (fun g2 => RK.n0 ?_) (fun g2 => RK.x ?_)
    · -- case
      refine i_aload_n dX10_step_9 rfl ?_
      refine u_get (i := 0) (vv := .ref (Y (30))) dX10_step_10 fX10_49.o (by decide) rfl rfl ?_
      refine i_iload_n dX10_step_13 rfl ?_
      refine u_callV (i := 30) (mc := 0) (ms := 0) (As := [_]) dX10_step_14 cfX9_isOpen imX9_isOpen seX9_isOpen lX10_158 (by decide) rfl rfl rfl rfl rfl (Nat.le_of_ble_eq_true rfl) (Nat.zero_add _).symm (Nat.zero_add _).symm ?_
      refine q_isOpen hN hO (by omega) (RK.v ?_)
      refine i_ifne_b (tgt := 30) dX10_step_17 (by decide) (fun c17 => ?_) (fun c17 => ?_)
      · -- jumps
        refine i_aload_n dX10_step_30 rfl ?_
        refine u_get (i := 0) (vv := .ref (Y (9))) dX10_step_31 fX10_56.o (by decide) rfl rfl ?_
        refine i_aload_n dX10_step_34 rfl ?_
        refine u_get (i := 0) (vv := .ref (Y (30))) dX10_step_35 fX10_49.o (by decide) rfl rfl ?_
        refine u_callV (i := 9) (mc := 0) (ms := 0) (As := [_]) dX10_step_38 cfX0_remember imX0_remember seX0_remember lX10_113 (by decide) rfl rfl rfl rfl rfl (Nat.le_of_ble_eq_true rfl) (Nat.zero_add _).symm (Nat.zero_add _).symm ?_
        refine q_remember hN hO hH (fun V3 C3 J3 hn3 hh3 hf3 hj3 => RK.n0 ?_)
        refine i_aload_n dX10_step_41 rfl ?_
        refine u_get (i := 0) (vv := .ref (Y (30))) dX10_step_42 fX10_49.o (by decide) rfl rfl ?_
        refine i_iload_n dX10_step_45 rfl ?_
        refine i_iload_n dX10_step_46 rfl ?_
        refine u_callV (i := 30) (mc := 0) (ms := 0) (As := [_, _]) dX10_step_47 cfX9_moveWalker imX9_moveWalker seX9_moveWalker lX10_164 (by decide) rfl rfl rfl rfl rfl (Nat.le_of_ble_eq_true rfl) (Nat.zero_add _).symm (Nat.zero_add _).symm ?_
        refine q_moveWalker hn3 hO (by omega) (by omega) (fun V4 C4 ho4 sv4 sc4 => RK.n0 ?_)
        refine i_aload_n dX10_step_50 rfl ?_
        refine u_get (i := 0) (vv := .ref (Y (30))) dX10_step_51 fX10_49.o (by decide) rfl rfl ?_
        refine i_iload_n dX10_step_54 rfl ?_
        refine u_callV (i := 30) (mc := 0) (ms := 0) (As := [_]) dX10_step_55 cfX9_stateOf imX9_stateOf seX9_stateOf lX10_168 (by decide) rfl rfl rfl rfl rfl (Nat.le_of_ble_eq_true rfl) (Nat.zero_add _).symm (Nat.zero_add _).symm ?_
        have h95 : wStep w k c 952 = w 952 := wStep_lo (by omega) (by omega)
        refine q_stateOf ho4 (wStep_ok hO (by omega) (by omega)) (by omega) (RK.v ?_)
        refine i_ireturn dX10_step_58 rfl rfl ?_
        rw [wStep_at.resolve_right (by omega)]
        exact hp0 (by omega) _ _ _ (cChg.of hh3 hf3 ho4 (fun i hi => sv4 i (by simp only [List.mem_cons, List.not_mem_nil, or_false]; omega)) (fun i hi => sc4 i (by simp only [List.mem_cons, List.not_mem_nil, or_false]; omega)) (fun _ _ => rfl) rfl rfl)
      · -- on
        refine i_thrS (is := 162) (text := "the street is not passable") rfl hZ (by decide) dX10_step_20 dX10_step_23 dX10_step_24 dX10_step_26 dX10_step_29 (Nat.le_of_ble_eq_true rfl) ?_
        exact hp2 (by omega)
    · -- case
      exact hp1 (by omega)
  · -- case
    exact hp1 (by omega)
end C64
