/-! ===== the class: words found are written ===== -/
theorem cSr.lnle {V : Nat → Int} {C : Nat → Int → Int} {nx : Int → Int → Int} {al : Int → Prop} {s0 k c : Int} {cd : Int → Nat} (h : cSr V C nx al s0 k c cd) : ∀ (m : Nat) (i : Int), i = m → i < V 12 → (zln (cd i) : Int) ≤ i := by
  intro m
  induction m using Nat.strongRecOn with
  | _ m ih =>
    intro i e h1
    by_cases z : i = 0
    · rw [z, h.1.2.1.2, zln_0]; decide
    · have q := h.2.2.2.2 i (by omega) h1
      have l := h.ln (i := i) (by omega) h1
      have r := ih (C 14 i).toNat (by omega) (C 14 i) (by omega) (by omega)
      omega
section C58
variable {G : p_G} {Y : Nat → Nat} {h0 : p_H} {P : (Option Value) ⊕ String → c_X → Prop} {d : Nat} {V : Nat → Int} {C : Nat → Int → Int} {J : c_J}
theorem q_wf_l {nx : Int → Int → Int} {al : Int → Prop} {s0 k c f : Int} {cd : Int → Nat} (h : cSr V C nx al s0 k c cd) (h3 : V 3 = (zln (cd f) : Int)) (hl : (zln (cd f) : Int) < 3600) (hp : ∀ C', sC [22] C C' → zWrt (cd f) (C' 22) → P (.inl (some (.int (iI (V 3))))) (V, C', J)) : ∀ (zz : Nat) (x : Int) (i : Int) (C' : Nat → Int → Int), zz = (x + 1).toNat → (-1 ≤ x ∧ x < (zln (cd f) : Int)) → (sC [22] C C') → (x = -2 ∨ ((0 ≤ i ∧ i < V 12 ∨ x = -1) ∧ (0 ≤ i → i < V 12 → (zln (cd i) : Int) = x + 1))) → (∀ m : Nat, zdig (cd f) (m + ((zln (cd f) : Int) - 1 - x).toNat) = zdig (cd i) m) → (∀ q, x < q → q < (zln (cd f) : Int) → C' 22 q = 97 + zdig (cd f) ((zln (cd f) : Int) - 1 - q).toNat) → RW G mX10_writeFound (c_I Y h0) P (d + 2) 0 0 28 [some (.ref (Y 0)), none, some (.int (iI i)), some (.int (iI x))] [] (V, C', J) := by
  intro zz
  induction zz using Nat.strongRecOn with
  | _ zz ih =>
    intro x i C' hzz h1 hC hi hd hr
    have hle := h.le
    have e15 : C' 15 i = C 15 i := congrFun (hC 15 (by decide)) i
    have e14 : C' 14 i = C 14 i := congrFun (hC 14 (by decide)) i
    refine i_iload_n dX10_writeFound_28 rfl ?_
    refine i_if_lt (tgt := 60) dX10_writeFound_29 (by decide) (by omega) (fun c29 => ?_) (fun c29 => ?_)
    · -- jumps
      refine i_aload_n dX10_writeFound_60 rfl ?_
      refine u_get (i := 0) (vv := .int (iI (V 3))) dX10_writeFound_61 fX10_325 (by decide) rfl rfl ?_
      refine i_ireturn dX10_writeFound_64 rfl rfl ?_
      refine hp _ hC (fun q q0 q1 => hr q (by omega) q1)
    · -- on
      have i0 : 0 ≤ i ∧ i < V 12 := by omega
      have il : (zln (cd i) : Int) = x + 1 := hi.elim (fun z => absurd z (by omega)) (fun k1 => k1.2 i0.1 i0.2)
      have i1 : i ≠ 0 := fun e => by rw [e, h.1.2.1.2, zln_0] at il; omega
      refine i_aload_n dX10_writeFound_32 rfl ?_
      refine i_iload_n dX10_writeFound_33 rfl ?_
      refine i_aload_n dX10_writeFound_34 rfl ?_
      refine u_get (i := 0) (vv := .ref (Y (11))) dX10_writeFound_35 fX10_73.o (by decide) rfl rfl ?_
      refine i_iload_n dX10_writeFound_38 rfl ?_
      refine u_callV (i := 11) (mc := 0) (ms := 0) (As := [_]) dX10_writeFound_39 cfX3_streetInto imX3_streetInto seX3_streetInto lX10_350 (by decide) rfl rfl rfl rfl rfl (Nat.le_of_ble_eq_true rfl) (Nat.zero_add _).symm (Nat.zero_add _).symm ?_
      refine q_streetInto (by omega) (RK.v ?_)
      refine u_callV (i := 0) (mc := 0) (ms := 0) (As := [_, _]) dX10_writeFound_42 cfX10_putReportByte imX10_putReportByte seX10_putReportByte lX10_322 (by decide) rfl rfl rfl rfl rfl (Nat.le_of_ble_eq_true rfl) (Nat.zero_add _).symm (Nat.zero_add _).symm ?_
      refine q_putReportByte (by omega) (RK.n0 ?_)
      refine i_aload_n dX10_writeFound_45 rfl ?_
      refine u_get (i := 0) (vv := .ref (Y (11))) dX10_writeFound_46 fX10_73.o (by decide) rfl rfl ?_
      refine i_iload_n dX10_writeFound_49 rfl ?_
      refine u_callV (i := 11) (mc := 0) (ms := 0) (As := [_]) dX10_writeFound_50 cfX3_before imX3_before seX3_before lX10_353 (by decide) rfl rfl rfl rfl rfl (Nat.le_of_ble_eq_true rfl) (Nat.zero_add _).symm (Nat.zero_add _).symm ?_
      refine q_before (by omega) (RK.v ?_)
      refine i_istore_n dX10_writeFound_53 (L' := [some _, none, some _, some _]) (by decide) rfl ?_
      refine i_iinc dX10_writeFound_54 rfl (L' := [some _, none, some _, some _]) (by decide) rfl ?_
      refine i_goto (tgt := 28) dX10_writeFound_57 (by decide) ?_
      have q5 := h.2.2.2.2 i (by omega) (by omega)
      have ec : cd i = 6 * cd (C 14 i) + (C 15 i).toNat + 1 := by omega
      refine ih _ ?_ (x + (-1)) (C' 14 i) _ rfl (by omega) (hC.cu (by decide)) (Or.inr ⟨by omega, fun _ _ => by have l9 := h.ln (i := i) (by omega) (by omega); rw [e14]; omega⟩) (fun m => ?_) (fun q q0 q1 => ?_)
      · omega
      · rw [e14]; have qq := hd (m + 1); rw [ec, zdig_s (by omega)] at qq; rw [← qq]; exact congrArg _ (by omega)
      · show zu (C' 22) x (97 + C' 15 i) q = _
        by_cases zz : q = x
        · rw [zz, zu_at, e15]; have qq := hd 0; rw [ec, zdig_0 (by omega)] at qq; rw [show ((zln (cd f) : Int) - 1 - x).toNat = 0 + ((zln (cd f) : Int) - 1 - x).toNat by omega, qq]; omega
        · rw [zu_ne zz]; exact hr q (by omega) q1
theorem q_writeFound {nx : Int → Int → Int} {al : Int → Prop} {s0 k c f : Int} {cd : Int → Nat} (h : cSr V C nx al s0 k c cd) (hf : f = -1 ∨ (0 ≤ f ∧ f < V 12)) (hp0 : f = -1 → P (.inl (some (.int (iI (-1))))) (V, C, J)) (hp1 : (0 ≤ f ∧ f < V 12) → ∀ V' C', sV [3] V V' → sC [22] C C' → V' 3 = (zln (cd f) : Int) → zWrt (cd f) (C' 22) → P (.inl (some (.int (iI (zln (cd f) : Int))))) (V', C', J)) : RM G mX10_writeFound (c_I Y h0) [.ref (Y 0), .int (iI f)] (d + 3) 0 0 P (V, C, J) := by
  refine RM.of (L := [some (.ref (Y 0)), some (.int (iI f)), none, none]) cfX10_writeFound rfl (Nat.le_of_ble_eq_true rfl) ?_
  have hle0 := h.le
  refine i_iload_n dX10_writeFound_0 rfl ?_
  refine i_const dX10_writeFound_1 ?_
  refine i_icmp_ne (tgt := 7) dX10_writeFound_2 (by decide) (by omega) (by omega) (fun c2 => ?_) (fun c2 => ?_)
  · -- jumps
    have lz0 := h.lnle f.toNat f (by omega) (by omega)
    refine i_aload_n dX10_writeFound_7 rfl ?_
    refine i_aload_n dX10_writeFound_8 rfl ?_
    refine u_get (i := 0) (vv := .ref (Y (11))) dX10_writeFound_9 fX10_73.o (by decide) rfl rfl ?_
    refine i_iload_n dX10_writeFound_12 rfl ?_
    refine u_callV (i := 11) (mc := 0) (ms := 0) (As := [_]) dX10_writeFound_13 cfX3_stepsTo imX3_stepsTo seX3_stepsTo lX10_260 (by decide) rfl rfl rfl rfl rfl (Nat.le_of_ble_eq_true rfl) (Nat.zero_add _).symm (Nat.zero_add _).symm ?_
    refine q_stepsTo h hf (fun q => absurd q (by omega)) (fun _ => RK.v ?_)
    refine u_put (i := 0) (kV := 3) dX10_writeFound_16 fX10_325 (by decide) rfl rfl rfl (Nat.le_of_ble_eq_true rfl) rfl rfl ?_
    refine i_iload_n dX10_writeFound_19 rfl ?_
    refine i_istore_n dX10_writeFound_20 (L' := [some _, some _, some _, none]) (by decide) rfl ?_
    refine i_aload_n dX10_writeFound_21 rfl ?_
    refine u_get (i := 0) (vv := .int (iI ((zln (cd f) : Int)))) dX10_writeFound_22 fX10_325 (by decide) rfl rfl ?_
    refine i_const dX10_writeFound_25 ?_
    refine i_sub dX10_writeFound_26 ?_
    refine i_istore_n dX10_writeFound_27 (L' := [some _, some _, some _, some _]) (by decide) rfl ?_
    refine RW.wk (L' := [some _, none, some _, some _]) (p_subL.at (by repeat (first | exact subL_nil | refine subL_s ?_ | refine subL_n ?_))) ?_
    refine u_gen (fun V1 hV1 C1 hC1 => ?_)
    have v3 : V1 3 = (zln (cd f) : Int) := by rw [hV1]; rfl
    have sv : sV [3] V V1 := by rw [hV1]; exact sV.rfl.vu (by decide)
    have h9 : cSr V1 C1 nx al s0 k c cd := by rw [hV1, hC1]; exact h
    have v12 : V1 12 = V 12 := sv 12 (by decide)
    have lz := h.lnle f.toNat f (by omega) (by omega)
    have hle := h.le
    rw [← hC1] at hp1
    refine q_wf_l h9 v3 (by omega) (fun C' q1 q2 => by rw [v3]; exact hp1 (by omega) V1 C' sv q1 v3 q2) _ ((zln (cd f) : Int) - 1) f C1 rfl (by omega) sC.rfl (Or.inr ⟨Or.inl (by omega), fun _ _ => by omega⟩) (fun m => ?_) (fun q q0 q1 => by omega)
    rw [show ((zln (cd f) : Int) - 1 - ((zln (cd f) : Int) - 1)).toNat = 0 by omega]; rfl
  · -- on
    refine i_const dX10_writeFound_5 ?_
    refine i_ireturn dX10_writeFound_6 rfl rfl ?_
    exact hp0 (by omega)
theorem cSI.cg {V V' : Nat → Int} {C C' : Nat → Int → Int} (h : cSI V C) (hV : V' 12 = V 12) (h12 : C' 12 = C 12) (h13 : C' 13 = C 13) : cSI V' C' := by
  unfold cSI
  rw [hV, h12, h13]
  exact h
variable {w : Int → Int}
theorem q_writeDifference  (hN : cNow V C J w) (hO : wOK w) (hX : ∀ s, s = 0 ∨ s = 1 → wX w s) (hSI : cSI V C) (hpn : ∀ V' C', zNo (wNx2 w 0 1) zTr 0 (wG0 w) → cSI V' C' → sV [12] V V' → sC [12, 13, 14, 15] C C' → P (.inl (some (.int (iI (-1))))) (V', C', J)) (hp0 : ∀ V' C' n, zMin (wNx2 w 0 1) zTr 0 (wG0 w) n → (zln n : Int) ≤ 3600 → V' 3 = (zln n : Int) → zWrt n (C' 22) → cSI V' C' → sV [3, 12] V V' → sC [12, 13, 14, 15, 22] C C' → P (.inl (some (.int (iI (zln n : Int))))) (V', C', J)) : RM G mX10_writeDifference (c_I Y h0) [.ref (Y 0)] (d + 4) 0 0 P (V, C, J) := by
  refine RM.of (L := [some (.ref (Y 0))]) cfX10_writeDifference rfl (Nat.le_of_ble_eq_true rfl) ?_
  refine i_aload_n dX10_writeDifference_0 rfl ?_
  refine i_aload_n dX10_writeDifference_1 rfl ?_
  refine i_const dX10_writeDifference_2 ?_
  refine u_callV (i := 0) (mc := 0) (ms := 0) (As := [_]) dX10_writeDifference_3 cfX10_compareBoth imX10_compareBoth seX10_compareBoth lX10_292 (by decide) rfl rfl rfl rfl rfl (Nat.le_of_ble_eq_true rfl) (Nat.zero_add _).symm (Nat.zero_add _).symm ?_
  refine q_compareBoth hN hO hX hSI (by decide) (fun V1 C1 k1 cd1 hS1 hk1 hm1 hv1 hc1 => RK.v ?_) (fun V1 C1 cd1 hS1 hm1 hv1 hc1 => RK.v ?_)
  · -- case
    refine u_callV (i := 0) (mc := 0) (ms := 0) (As := [_]) dX10_writeDifference_6 cfX10_writeFound imX10_writeFound seX10_writeFound lX10_328 (by decide) rfl rfl rfl rfl rfl (Nat.le_of_ble_eq_true rfl) (Nat.zero_add _).symm (Nat.zero_add _).symm ?_
    refine q_writeFound hS1 (Or.inr hk1) (fun q => absurd q (by omega)) (fun _ V2 C2 hv2 hc2 h32 hw2 => RK.v ?_)
    refine i_ireturn dX10_writeDifference_9 rfl rfl ?_
    exact hp0 _ _ _ (hm1.cg (fun c c0 c1 => iff_of_true (z63 c0 c1) trivial) (fun y => zGl_1)) (by have lz := hS1.lnle k1.toNat k1 (by omega) (by omega); have hle := hS1.le; omega) h32 hw2 (hS1.SI.cg (hv2 12 (by decide)) (hc2 12 (by decide)) (hc2 13 (by decide))) (hv1.t2 hv2 (by decide) (by decide)) (hc1.t2 hc2 (by decide) (by decide))
  · -- case
    refine u_callV (i := 0) (mc := 0) (ms := 0) (As := [_]) dX10_writeDifference_6 cfX10_writeFound imX10_writeFound seX10_writeFound lX10_328 (by decide) rfl rfl rfl rfl rfl (Nat.le_of_ble_eq_true rfl) (Nat.zero_add _).symm (Nat.zero_add _).symm ?_
    refine q_writeFound hS1 (Or.inl rfl) (fun _ => RK.v ?_) (fun q => absurd q (by omega))
    refine i_ireturn dX10_writeDifference_9 rfl rfl ?_
    exact hpn _ _ (hm1.cg (fun c c0 c1 => iff_of_true (z63 c0 c1) trivial) (fun y => zGl_1)) hS1.SI hv1 hc1
theorem q_writeSharedWord  (hN : cNow V C J w) (hO : wOK w) (hX : ∀ s, s = 0 ∨ s = 1 → wX w s) (hSI : cSI V C) (hpn : ∀ V' C', zNo (wNx2 w 0 1) zTr 0 (wG1 w 0 1) → cSI V' C' → sV [12] V V' → sC [12, 13, 14, 15] C C' → P (.inl (some (.int (iI (-1))))) (V', C', J)) (hp0 : ∀ V' C' n, zMin (wNx2 w 0 1) zTr 0 (wG1 w 0 1) n → (zln n : Int) ≤ 3600 → V' 3 = (zln n : Int) → zWrt n (C' 22) → cSI V' C' → sV [3, 12] V V' → sC [12, 13, 14, 15, 22] C C' → P (.inl (some (.int (iI (zln n : Int))))) (V', C', J)) : RM G mX10_writeSharedWord (c_I Y h0) [.ref (Y 0)] (d + 4) 0 0 P (V, C, J) := by
  refine RM.of (L := [some (.ref (Y 0))]) cfX10_writeSharedWord rfl (Nat.le_of_ble_eq_true rfl) ?_
  refine i_aload_n dX10_writeSharedWord_0 rfl ?_
  refine i_aload_n dX10_writeSharedWord_1 rfl ?_
  refine i_const dX10_writeSharedWord_2 ?_
  refine u_callV (i := 0) (mc := 0) (ms := 0) (As := [_]) dX10_writeSharedWord_3 cfX10_compareBoth imX10_compareBoth seX10_compareBoth lX10_292 (by decide) rfl rfl rfl rfl rfl (Nat.le_of_ble_eq_true rfl) (Nat.zero_add _).symm (Nat.zero_add _).symm ?_
  refine q_compareBoth hN hO hX hSI (by decide) (fun V1 C1 k1 cd1 hS1 hk1 hm1 hv1 hc1 => RK.v ?_) (fun V1 C1 cd1 hS1 hm1 hv1 hc1 => RK.v ?_)
  · -- case
    refine u_callV (i := 0) (mc := 0) (ms := 0) (As := [_]) dX10_writeSharedWord_6 cfX10_writeFound imX10_writeFound seX10_writeFound lX10_328 (by decide) rfl rfl rfl rfl rfl (Nat.le_of_ble_eq_true rfl) (Nat.zero_add _).symm (Nat.zero_add _).symm ?_
    refine q_writeFound hS1 (Or.inr hk1) (fun q => absurd q (by omega)) (fun _ V2 C2 hv2 hc2 h32 hw2 => RK.v ?_)
    refine i_ireturn dX10_writeSharedWord_9 rfl rfl ?_
    exact hp0 _ _ _ (hm1.cg (fun c c0 c1 => iff_of_true (z63 c0 c1) trivial) (fun y => zGl_0)) (by have lz := hS1.lnle k1.toNat k1 (by omega) (by omega); have hle := hS1.le; omega) h32 hw2 (hS1.SI.cg (hv2 12 (by decide)) (hc2 12 (by decide)) (hc2 13 (by decide))) (hv1.t2 hv2 (by decide) (by decide)) (hc1.t2 hc2 (by decide) (by decide))
  · -- case
    refine u_callV (i := 0) (mc := 0) (ms := 0) (As := [_]) dX10_writeSharedWord_6 cfX10_writeFound imX10_writeFound seX10_writeFound lX10_328 (by decide) rfl rfl rfl rfl rfl (Nat.le_of_ble_eq_true rfl) (Nat.zero_add _).symm (Nat.zero_add _).symm ?_
    refine q_writeFound hS1 (Or.inl rfl) (fun _ => RK.v ?_) (fun q => absurd q (by omega))
    refine i_ireturn dX10_writeSharedWord_9 rfl rfl ?_
    exact hpn _ _ (hm1.cg (fun c c0 c1 => iff_of_true (z63 c0 c1) trivial) (fun y => zGl_0)) hS1.SI hv1 hc1
end C58
