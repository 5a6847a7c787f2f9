/-! ===== the class: the world changes ===== -/
section C41a
variable {V V' : Nat → Int} {C C' : Nat → Int → Int} {J J' : c_J} {w w' : Int → Int} {p : c_P} {s k c x : Int}
/-- a pattern's numbers are those of its slot alone -/
theorem cPt.cg (h : cPt p w s) (hO : wP w s) (hw : ∀ j, 0 ≤ j → j < 476 → w' (476 * s + j) = w (476 * s + j)) : cPt p w' s := by
  obtain ⟨h1, h2, h3, h4, h5⟩ := h
  have o5 := hO.2.2.2.1
  have o0 := hO.1
  have e0 := hw 0 (by decide) (by decide)
  have e5 := hw 5 (by decide) (by decide)
  refine ⟨?_, fun q q0 q1 => ?_, fun c c0 c1 => ⟨(h3 c c0 c1).1, fun q q0 => ?_⟩, fun t t0 t1 => ?_, fun t c t0 t1 c0 c1 => ?_⟩
  · rw [e0, hw 4 (by decide) (by decide), hw 1 (by decide) (by decide), hw 2 (by decide) (by decide), hw 3 (by decide) (by decide), e5]
    exact h1
  · rw [hw (31 + q) (by omega) (by omega), hw (6 + q) (by omega) (by omega)]
    exact h2 q q0 (by omega)
  · rw [(h3 c c0 c1).2 q q0, e0]
    constructor
    · rintro ⟨k1, k2⟩
      exact ⟨k1, by rw [hw (31 + q) (by omega) (by omega)]; exact k2⟩
    · rintro ⟨k1, k2⟩
      rw [hw (31 + q) (by omega) (by omega)] at k2
      exact ⟨k1, k2⟩
  · rw [hw (56 + t) (by omega) (by omega)]
    exact h4 t t0 (by omega)
  · rw [hw (116 + 6 * t + c) (by omega) (by omega)]
    exact h5 t c t0 (by omega) c0 c1
/-- the patterns stay where they are -/
theorem cNow.pp (h : cNow V C J w) (hO : wOK w) (hw : ∀ j, 0 ≤ j → j < 952 → w' j = w j) : (∃ p, J.2.2 (J.2.1 0) = some p ∧ cPt p w' 0) ∧ ∃ p, J.2.2 (J.2.1 1) = some p ∧ cPt p w' 1 := by
  obtain ⟨p, q1, q2⟩ := h.2.2.2.1
  obtain ⟨p', q3, q4⟩ := h.2.2.2.2
  exact ⟨⟨p, q1, q2.cg (hO.1 0 (Or.inl rfl)) (fun j a b => hw _ (by omega) (by omega))⟩, p', q3, q4.cg (hO.1 1 (Or.inr rfl)) (fun j a b => hw _ (by omega) (by omega))⟩
theorem cNow.step (h : cNow V C J w) (hO : wOK w) (hk : 0 ≤ k ∧ k < w 952) (hx : x = w (476 * w (953 + 3 * k + 0) + (116 + 6 * w (953 + 3 * k + 1) + c))) : cNow (vu V 22 (V 22 + 1)) (cu (cu C 32 (zu (C 32) k x)) 33 (zu (C 33) k (C 33 k + 1))) J (wStep w k c) := by
  have h6 := hO.2.1
  have lo : ∀ j, j < 953 ∨ 971 ≤ j ∧ j ≤ 983 → wStep w k c j = w j := fun j hj => wStep_lo (by omega) hj
  refine ⟨⟨?_, ?_, ?_⟩, fun q q0 q1 => ?_, ⟨h.2.2.1.1, fun c c0 c1 => ?_, fun c c0 c1 => ?_⟩, h.pp hO (fun j a b => lo j (Or.inl (by omega)))⟩
  · rw [lo _ (Or.inr (by decide))]; exact h.1.1
  · rw [lo _ (Or.inl (by decide))]; exact h.1.2.1
  · show V 22 + 1 = wStep w k c 984
    unfold wStep
    rw [zu_at, h.1.2.2]
  · rw [lo _ (Or.inl (by decide))] at q1
    have hq := h.k q0 q1
    show C 31 q = _ ∧ zu (C 32) k x q = _ ∧ zu (C 33) k (C 33 k + 1) q = _
    unfold wStep
    by_cases z : q = k
    · subst z
      rw [zu_at, zu_at, hx, zu_ne (by omega), zu_ne (by omega), zu_ne (by omega), zu_ne (by omega), zu_ne (by omega), zu_at, zu_ne (by omega), zu_at, hq.2.2]
      exact ⟨hq.1, rfl, rfl⟩
    · rw [zu_ne z, zu_ne z, zu_ne (by omega), zu_ne (by omega), zu_ne (by omega), zu_ne (by omega), zu_ne (by omega), zu_ne (by omega), zu_ne (by omega), zu_ne (by omega), zu_ne (by omega)]
      exact hq
  · rw [lo _ (Or.inr (by omega))]; exact h.2.2.1.2.1 c c0 c1
  · rw [lo _ (Or.inr (by omega))]; exact h.2.2.1.2.2 c c0 c1
theorem cNow.anew (h : cNow V C J w) (hO : wOK w) (hk : 0 ≤ k ∧ k < w 952) : cNow V (cu (cu C 32 (zu (C 32) k 0)) 33 (zu (C 33) k 0)) J (zu (zu w (953 + 3 * k + 1) 0) (953 + 3 * k + 2) 0) := by
  have h6 := hO.2.1
  have lo : ∀ j, j < 953 ∨ 971 ≤ j → zu (zu w (953 + 3 * k + 1) 0) (953 + 3 * k + 2) 0 j = w j := fun j hj => by rw [zu_ne (by omega), zu_ne (by omega)]
  refine ⟨⟨?_, ?_, ?_⟩, fun q q0 q1 => ?_, ⟨h.2.2.1.1, fun c c0 c1 => ?_, fun c c0 c1 => ?_⟩, h.pp hO (fun j a b => lo j (Or.inl (by omega)))⟩
  · rw [lo _ (Or.inr (by decide))]; exact h.1.1
  · rw [lo _ (Or.inl (by decide))]; exact h.1.2.1
  · rw [lo _ (Or.inr (by decide))]; exact h.1.2.2
  · rw [lo _ (Or.inl (by decide))] at q1
    have hq := h.k q0 q1
    show C 31 q = _ ∧ zu (C 32) k 0 q = _ ∧ zu (C 33) k 0 q = _
    by_cases z : q = k
    · subst z
      rw [zu_at, zu_at, zu_ne (by omega), zu_ne (by omega), zu_ne (by omega), zu_at, zu_at]
      exact ⟨hq.1, rfl, rfl⟩
    · rw [zu_ne z, zu_ne z, zu_ne (by omega), zu_ne (by omega), zu_ne (by omega), zu_ne (by omega), zu_ne (by omega), zu_ne (by omega)]
      exact hq
  · rw [lo _ (Or.inr (by omega))]; exact h.2.2.1.2.1 c c0 c1
  · rw [lo _ (Or.inr (by omega))]; exact h.2.2.1.2.2 c c0 c1
/-- a walker comes -/
def wAdd (w : Int → Int) (s : Int) : Int → Int := zu (zu (zu (zu w (953 + 3 * w 952 + 0) s) (953 + 3 * w 952 + 1) 0) (953 + 3 * w 952 + 2) 0) 952 (w 952 + 1)
theorem cNow.add (h : cNow V C J w) (hO : wOK w) (h5 : w 952 < 6) (hV : V' = vu V 21 (w 952 + 1)) : cNow V' (cu (cu (cu C 31 (zu (C 31) (w 952) s)) 32 (zu (C 32) (w 952) 0)) 33 (zu (C 33) (w 952) 0)) J (wAdd w s) := by
  have h6 := hO.2.1
  have lo : ∀ j, j < 952 ∨ 971 ≤ j → wAdd w s j = w j := fun j hj => by unfold wAdd; rw [zu_ne (by omega), zu_ne (by omega), zu_ne (by omega), zu_ne (by omega)]
  have e2 : wAdd w s 952 = w 952 + 1 := zu_at
  subst hV
  refine ⟨⟨?_, ?_, ?_⟩, fun q q0 q1 => ?_, ⟨h.2.2.1.1, fun c c0 c1 => ?_, fun c c0 c1 => ?_⟩, h.pp hO (fun j a b => lo j (Or.inl (by omega)))⟩
  · rw [lo _ (Or.inr (by decide))]; exact h.1.1
  · rw [e2]; rfl
  · rw [lo _ (Or.inr (by decide))]; exact h.1.2.2
  · rw [e2] at q1
    show zu (C 31) (w 952) s q = _ ∧ zu (C 32) (w 952) 0 q = _ ∧ zu (C 33) (w 952) 0 q = _
    unfold wAdd
    by_cases z : q = w 952
    · rw [z, zu_at, zu_at, zu_at]
      refine ⟨?_, ?_, ?_⟩
      · rw [zu_ne (by omega), zu_ne (by omega), zu_ne (by omega), zu_at]
      · rw [zu_ne (by omega), zu_ne (by omega), zu_at]
      · rw [zu_ne (by omega), zu_at]
    · have hq := h.k q0 (by omega)
      rw [zu_ne z, zu_ne z, zu_ne z, hq.1, hq.2.1, hq.2.2]
      refine ⟨?_, ?_, ?_⟩
      all_goals rw [zu_ne (by omega), zu_ne (by omega), zu_ne (by omega), zu_ne (by omega)]
  · rw [lo _ (Or.inr (by omega))]; exact h.2.2.1.2.1 c c0 c1
  · rw [lo _ (Or.inr (by omega))]; exact h.2.2.1.2.2 c c0 c1
end C41a
section C41
variable {G : p_G} {Y : Nat → Nat} {h0 : p_H} {P : (Option Value) ⊕ String → c_X → Prop} {d : Nat} {V : Nat → Int} {C : Nat → Int → Int} {J : c_J}
variable {w : Int → Int}
theorem q_beginAnew {k : Int} (hk : 0 ≤ k ∧ k < 6) (hp : P (.inl none) (V, cu (cu C 32 (zu (C 32) k 0)) 33 (zu (C 33) k 0), J)) : RM G mX9_beginAnew (c_I Y h0) [.ref (Y 30), .int (iI k)] (d + 1) 0 0 P (V, C, J) := by
  refine RM.of (L := [some (.ref (Y 30)), some (.int (iI k))]) cfX9_beginAnew rfl (Nat.le_of_ble_eq_true rfl) ?_
  refine i_iload_n dX9_beginAnew_0 rfl ?_
  refine i_bipush dX9_beginAnew_1 (by decide) ?_
  refine i_callSN (mc := 0) (ms := 0) (As := [_, _]) dX9_beginAnew_3 cfX10_isIndex stX10_isIndex lX9_57 rfl rfl (Nat.le_of_ble_eq_true rfl) (Nat.zero_add _).symm (Nat.zero_add _).symm ?_
  refine q_isIndex (by omega) (by omega) (RKN.v ?_)
  refine i_ifeq_b (tgt := 23) dX9_beginAnew_6 (by decide) (fun c6 => ?_) (fun c6 => ?_)
  · -- jumps
    refine i_return dX9_beginAnew_23 rfl ?_
    first | exact hp | (exfalso; omega)
  · -- on
    refine i_aload_n dX9_beginAnew_9 rfl ?_
    refine u_get (i := 30) (vv := .ref (Y (32))) dX9_beginAnew_10 fX9_22.o (by decide) rfl rfl ?_
    refine i_iload_n dX9_beginAnew_13 rfl ?_
    refine i_const dX9_beginAnew_14 ?_
    refine u_iast (i := 32) (N := 6) dX9_beginAnew_15 (by decide) rfl (by decide) (by omega) rfl ?_
    refine i_aload_n dX9_beginAnew_16 rfl ?_
    refine u_get (i := 30) (vv := .ref (Y (33))) dX9_beginAnew_17 fX9_25.o (by decide) rfl rfl ?_
    refine i_iload_n dX9_beginAnew_20 rfl ?_
    refine i_const dX9_beginAnew_21 ?_
    refine u_iast (i := 33) (N := 6) dX9_beginAnew_22 (by decide) rfl (by decide) (by omega) rfl ?_
    refine i_return dX9_beginAnew_23 rfl ?_
    first | exact hp | (exfalso; omega)
theorem q_moveWalker {k c : Int} (hN : cNow V C J w) (hO : wOK w) (hk : 0 ≤ k ∧ k < w 952) (hc : 0 ≤ c ∧ c < 6) (hp : ∀ V' C', cNow V' C' J (wStep w k c) → sV [22] V V' → sC [32, 33] C C' → P (.inl none) (V', C', J)) : RM G mX9_moveWalker (c_I Y h0) [.ref (Y 30), .int (iI k), .int (iI c)] (d + 3) 0 0 P (V, C, J) := by
  refine RM.of (L := [some (.ref (Y 30)), some (.int (iI k)), some (.int (iI c))]) cfX9_moveWalker rfl (Nat.le_of_ble_eq_true rfl) ?_
  have b0 := hO.2.1
  have b1 := hO.wk hk.1 hk.2
  have b2 := hO.sts b1.1
  refine i_iload_n dX9_moveWalker_0 rfl ?_
  refine i_bipush dX9_moveWalker_1 (by decide) ?_
  refine i_callSN (mc := 0) (ms := 0) (As := [_, _]) dX9_moveWalker_3 cfX10_isIndex stX10_isIndex lX9_57 rfl rfl (Nat.le_of_ble_eq_true rfl) (Nat.zero_add _).symm (Nat.zero_add _).symm ?_
  refine q_isIndex (by omega) (by omega) (RKN.v ?_)
  refine i_ifeq_b (tgt := 50) dX9_moveWalker_6 (by decide) (fun c6 => ?_) (fun c6 => ?_)
  · -- jumps
    refine i_return dX9_moveWalker_50 rfl ?_
    exfalso; omega
  · -- on
    refine i_aload_n dX9_moveWalker_9 rfl ?_
    refine u_get (i := 30) (vv := .ref (Y (32))) dX9_moveWalker_10 fX9_22.o (by decide) rfl rfl ?_
    refine i_iload_n dX9_moveWalker_13 rfl ?_
    refine i_aload_n dX9_moveWalker_14 rfl ?_
    refine i_iload_n dX9_moveWalker_15 rfl ?_
    refine u_callV (i := 30) (mc := 0) (ms := 0) (As := [_]) dX9_moveWalker_16 cfX9_patternOfWalker imX9_patternOfWalker seX9_patternOfWalker lX9_65 (by decide) rfl rfl rfl rfl rfl (Nat.le_of_ble_eq_true rfl) (Nat.zero_add _).symm (Nat.zero_add _).symm ?_
    refine q_patternOfWalker hN hO (by omega) (fun a1 p1 hp1 hr1 => RK.v ?_)
    refine i_aload_n dX9_moveWalker_19 rfl ?_
    refine u_get (i := 30) (vv := .ref (Y (32))) dX9_moveWalker_20 fX9_22.o (by decide) rfl rfl ?_
    refine i_iload_n dX9_moveWalker_23 rfl ?_
    refine u_iald (i := 32) (N := 6) (v := C 32 k) dX9_moveWalker_24 (by decide) rfl (by decide) (by omega) rfl ?_
    refine RW.ti (hN.k hk.1 hk.2).2.1 ?_
    refine i_iload_n dX9_moveWalker_25 rfl ?_
    refine u_callP (mc := 0) (ms := 0) (As := [_, _]) hp1 dX9_moveWalker_26 cfX5_after imX5_after seX5_after lX9_68 rfl rfl rfl rfl (Nat.le_of_ble_eq_true rfl) (Nat.zero_add _).symm (Nat.zero_add _).symm ?_
    refine q_after hp1 hr1 (hO.1 _ b1.1) (by omega) (by omega) (fun q9 => RK.v ?_) (fun q9 => absurd ⟨⟨by omega, by omega⟩, by omega, by omega⟩ q9)
    refine u_iast (i := 32) (N := 6) dX9_moveWalker_29 (by decide) rfl (by decide) (by omega) rfl ?_
    refine i_aload_n dX9_moveWalker_30 rfl ?_
    refine u_get (i := 30) (vv := .ref (Y (33))) dX9_moveWalker_31 fX9_25.o (by decide) rfl rfl ?_
    refine i_iload_n dX9_moveWalker_34 rfl ?_
    refine i_dup2 dX9_moveWalker_35 rfl rfl ?_
    refine u_iald (i := 33) (N := 6) (v := C 33 k) dX9_moveWalker_36 (by decide) rfl (by decide) (by omega) rfl ?_
    refine i_const dX9_moveWalker_37 ?_
    refine i_add dX9_moveWalker_38 ?_
    refine u_iast (i := 33) (N := 6) dX9_moveWalker_39 (by decide) rfl (by decide) (by omega) rfl ?_
    refine i_aload_n dX9_moveWalker_40 rfl ?_
    refine i_dup dX9_moveWalker_41 rfl ?_
    refine u_get (i := 30) (vv := .int (iI (V 22))) dX9_moveWalker_42 fX9_42 (by decide) rfl rfl ?_
    refine i_const dX9_moveWalker_45 ?_
    refine i_add dX9_moveWalker_46 ?_
    refine u_put (i := 30) (kV := 22) dX9_moveWalker_47 fX9_42 (by decide) rfl rfl rfl (Nat.le_of_ble_eq_true rfl) rfl rfl ?_
    refine i_return dX9_moveWalker_50 rfl ?_
    exact hp _ _ (hN.step hO hk rfl) (sV.rfl.vu (by decide)) ((sC.rfl.cu (by decide)).cu (by decide))
theorem q_bringWalker {s : Int} (hN : cNow V C J w) (hO : wOK w) (h5 : w 952 < 6) (hp : ∀ V' C', cNow V' C' J (wAdd w s) → sV [21] V V' → sC [31, 32, 33] C C' → P (.inl (some (.int (iI (w 952))))) (V', C', J)) : RM G mX9_bringWalker (c_I Y h0) [.ref (Y 30), .int (iI s)] (d + 2) 0 0 P (V, C, J) := by
  refine RM.of (L := [some (.ref (Y 30)), some (.int (iI s)), none]) cfX9_bringWalker rfl (Nat.le_of_ble_eq_true rfl) ?_
  have n1 := hN.n
  have b0 := hO.2.1
  refine i_aload_n dX9_bringWalker_0 rfl ?_
  refine u_get (i := 30) (vv := .int (iI (V 21))) dX9_bringWalker_1 fX9_39 (by decide) rfl rfl ?_
  refine i_bipush dX9_bringWalker_4 (by decide) ?_
  refine i_callSN (mc := 0) (ms := 0) (As := [_, _]) dX9_bringWalker_6 cfX10_isIndex stX10_isIndex lX9_57 rfl rfl (Nat.le_of_ble_eq_true rfl) (Nat.zero_add _).symm (Nat.zero_add _).symm ?_
  refine q_isIndex (by omega) (by omega) (RKN.v ?_)
  refine i_ifne_b (tgt := 14) dX9_bringWalker_9 (by decide) (fun c9 => ?_) (fun c9 => ?_)
  · -- jumps
    refine i_aload_n dX9_bringWalker_14 rfl ?_
    refine u_get (i := 30) (vv := .int (iI (V 21))) dX9_bringWalker_15 fX9_39 (by decide) rfl rfl ?_
    refine i_istore_n dX9_bringWalker_18 (L' := [some _, some _, some _]) (by decide) rfl ?_
    refine i_aload_n dX9_bringWalker_19 rfl ?_
    refine u_get (i := 30) (vv := .ref (Y (31))) dX9_bringWalker_20 fX9_18.o (by decide) rfl rfl ?_
    refine i_iload_n dX9_bringWalker_23 rfl ?_
    refine i_iload_n dX9_bringWalker_24 rfl ?_
    refine u_iast (i := 31) (N := 6) dX9_bringWalker_25 (by decide) rfl (by decide) (by omega) rfl ?_
    refine i_aload_n dX9_bringWalker_26 rfl ?_
    refine i_dup dX9_bringWalker_27 rfl ?_
    refine u_get (i := 30) (vv := .int (iI (V 21))) dX9_bringWalker_28 fX9_39 (by decide) rfl rfl ?_
    refine i_const dX9_bringWalker_31 ?_
    refine i_add dX9_bringWalker_32 ?_
    refine u_put (i := 30) (kV := 21) dX9_bringWalker_33 fX9_39 (by decide) rfl rfl rfl (Nat.le_of_ble_eq_true rfl) rfl rfl ?_
    refine i_aload_n dX9_bringWalker_36 rfl ?_
    refine i_iload_n dX9_bringWalker_37 rfl ?_
    refine u_callV (i := 30) (mc := 0) (ms := 0) (As := [_]) dX9_bringWalker_38 cfX9_beginAnew imX9_beginAnew seX9_beginAnew lX9_53 (by decide) rfl rfl rfl rfl rfl (Nat.le_of_ble_eq_true rfl) (Nat.zero_add _).symm (Nat.zero_add _).symm ?_
    refine q_beginAnew (by omega) (RK.n0 ?_)
    refine i_iload_n dX9_bringWalker_41 rfl ?_
    refine i_ireturn dX9_bringWalker_42 rfl rfl ?_
    have e1 := n1.2.1
    rw [e1]
    exact hp _ _ (hN.add hO h5 rfl) (sV.rfl.vu (by decide)) (((sC.rfl.cu (by decide)).cu (by decide)).cu (by decide))
  · -- on
    refine i_const dX9_bringWalker_12 ?_
    refine i_ireturn dX9_bringWalker_13 rfl rfl ?_
    exfalso; omega
end C41
