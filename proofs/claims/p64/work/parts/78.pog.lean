/-! ===== the class: positions, groups ===== -/
theorem zt_63 {c : Int} (h : 0 ≤ c ∧ c < 6) : zt 63 c := z63 h.1 h.2
theorem i_astore_nN {σ : Type} {G : p_G} {M : p_M} {I : σ → p_H → Prop} {P : (Option Value) ⊕ String → σ → Prop} {d k n pc : Nat} {L L' : p_LL} {st : List Value} {X : σ} {q : Fin 4} (hd : decode M.2.1 pc = .ok (.astore_n q, 1)) (hn : (q : Nat) < M.2.2.1) (hl : p_st1 L (q : Nat) .null = L') (kk : RW G M I P d k n (pc + 1) L' st X) : RW G M I P d k n pc L (.null :: st) X := RW.up (fun kk => r_astore_nN hd hn hl kk) kk
section C78
variable {G : p_G} {Y : Nat → Nat} {h0 : p_H} {P : (Option Value) ⊕ String → c_X → Prop} {d : Nat} {V : Nat → Int} {C : Nat → Int → Int} {J : c_J}
variable {v : Nat} {l : zLv}
theorem q_rp_l {sv m q : Int} (hm : 0 ≤ m ∧ m < 64) (hq : 1 ≤ q ∧ q ≤ 24) (hr : ∀ c, 0 ≤ c → c < 6 → 0 ≤ C 6 c ∧ C 6 c < 33554432) (hp : ∀ C', sC [6] C C' → (∀ c, 0 ≤ c → c < 6 → C' 6 c = if zt m c then zo (C 6 c) (zp q) else C 6 c) → RW G mX6_readPosition (c_I Y h0) P (d) 0 0 65 [some (.ref (Y 3)), some (.int (iI sv)), some (.int (iI m)), some (.int (iI q)), none] [] (V, C', J)) : ∀ (zz : Nat) (c : Int) (C' : Nat → Int → Int), zz = (6 - c).toNat → (0 ≤ c ∧ c ≤ 6) → (sC [6] C C') → (∀ j, 0 ≤ j → j < 6 → C' 6 j = if j < c then (if zt m j then zo (C 6 j) (zp q) else C 6 j) else C 6 j) → RW G mX6_readPosition (c_I Y h0) P (d) 0 0 30 [some (.ref (Y 3)), some (.int (iI sv)), some (.int (iI m)), some (.int (iI q)), some (.int (iI c))] [] (V, C', J) := by
  intro zz
  induction zz using Nat.strongRecOn with
  | _ zz ih =>
    intro c C' hzz h1 hC hI
    have zq := @zp_nn q
    refine i_iload dX6_readPosition_30 rfl ?_
    refine i_bipush dX6_readPosition_32 (by decide) ?_
    refine i_icmp_ge (tgt := 65) dX6_readPosition_34 (by decide) (by omega) (by omega) (fun c34 => ?_) (fun c34 => ?_)
    · -- jumps
      refine RW.wk (L' := [some _, some _, some _, some _, none]) (p_subL.at (by repeat (first | exact subL_nil | refine subL_s ?_ | refine subL_n ?_))) ?_
      obtain rfl : c = 6 := by omega
      exact hp _ hC (fun c c0 c1 => (hI c c0 c1).trans (if_pos c1))
    · -- on
      refine i_iload_n dX6_readPosition_37 rfl ?_
      refine i_iload dX6_readPosition_38 rfl ?_
      refine i_shr dX6_readPosition_40 (iI_shr (by omega) (by omega)) ?_
      refine i_const dX6_readPosition_41 ?_
      refine i_and dX6_readPosition_42 (zs_nn) (by omega) ?_
      refine RW.ti zs_1 ?_
      refine i_ifeq_b (tgt := 59) dX6_readPosition_43 (by decide) (fun c43 => ?_) (fun c43 => ?_)
      · -- jumps
        refine i_iinc dX6_readPosition_59 rfl (L' := [some _, some _, some _, some _, some _]) (by decide) rfl ?_
        refine i_goto (tgt := 30) dX6_readPosition_62 (by decide) ?_
        refine ih _ ?_ (c + 1) _ rfl (by omega) hC (fun j j0 j1 => (hI j j0 j1).trans ?_)
        · omega
        by_cases z9 : j = c
        · rw [z9, if_neg (by omega), if_pos (by omega), if_neg (by assumption)]
        · exact if_cg (by omega)
      · -- on
        refine i_aload_n dX6_readPosition_46 rfl ?_
        refine u_get (i := 3) (vv := .ref (Y (6))) dX6_readPosition_47 fX6_18.o (by decide) rfl rfl ?_
        refine i_iload dX6_readPosition_50 rfl ?_
        refine i_dup2 dX6_readPosition_52 rfl rfl ?_
        have f6 := hr c (by omega) (by omega)
        have g6 : C' 6 c = C 6 c := (hI c (by omega) (by omega)).trans (if_neg (by omega))
        refine u_iald (i := 6) (N := 6) (v := C' 6 c) dX6_readPosition_53 (by decide) rfl (by decide) (by omega) rfl ?_
        refine i_const dX6_readPosition_54 ?_
        refine i_iload_n dX6_readPosition_55 rfl ?_
        refine i_shl dX6_readPosition_56 (iI_shl1 (by omega)) ?_
        refine i_or dX6_readPosition_57 (by omega) (by omega) ?_
        refine u_iast (i := 6) (N := 6) dX6_readPosition_58 (by decide) rfl (by decide) (by omega) rfl ?_
        refine i_iinc dX6_readPosition_59 rfl (L' := [some _, some _, some _, some _, some _]) (by decide) rfl ?_
        refine i_goto (tgt := 30) dX6_readPosition_62 (by decide) ?_
        refine ih _ ?_ (c + 1) _ rfl (by omega) (hC.cu (by decide)) (fun j j0 j1 => ?_)
        · omega
        rw [cu_at]
        by_cases z9 : j = c
        · rw [z9, zu_at, if_pos (by omega), if_pos (by assumption), hI c (by omega) (by omega), if_neg (by omega)]
        · rw [zu_ne z9, hI j j0 j1]; exact if_cg (by omega)
theorem q_readPosition {sv m : Int} (h9 : V 9 = (v : Int)) (hv : v < 21) (hl : cLv V v l) (ho : zOKl l) (hf : zOKf (C 5)) (hm : 0 ≤ m ∧ m < 64) (hs0 : -1 ≤ sv ∧ sv < 6) (h5 : 0 ≤ V 5 ∧ V 5 ≤ 24) (hr : ∀ c, 0 ≤ c → c < 6 → 0 ≤ C 6 c ∧ C 6 c < 33554432) (hp2 : V 5 = 24 → P (.inl (some (.int (iI 2)))) (V, C, J)) (hp0 : V 5 < 24 → ∀ V' C', cLv V' v (l.1, (zEp (C 5) l).2, some (false, zp (V 5 + 1), zp (V 5 + 1))) → C' 5 = (zEp (C 5) l).1 → V' 5 = V 5 + 1 → C' 4 = zu (C 4) (V 5 + 1) sv → (∀ c, 0 ≤ c → c < 6 → C' 6 c = if zt m c then zo (C 6 c) (zp (V 5 + 1)) else C 6 c) → (∀ i, (i < 200 + 16 * v ∨ 210 + 16 * v ≤ i) → i ≠ 5 → V' i = V i) → sC [4, 5, 6] C C' → P (.inl (some (.int (iI 0)))) (V', C', J)) : RM G mX6_readPosition (c_I Y h0) [.ref (Y 3), .int (iI sv), .int (iI m)] (d + 2) 0 0 P (V, C, J) := by
  refine RM.of (L := [some (.ref (Y 3)), some (.int (iI sv)), some (.int (iI m)), none, none]) cfX6_readPosition rfl (Nat.le_of_ble_eq_true rfl) ?_
  refine i_aload_n dX6_readPosition_0 rfl ?_
  refine u_get (i := 3) (vv := .int (iI (V 5))) dX6_readPosition_1 fX6_78 (by decide) rfl rfl ?_
  refine i_const dX6_readPosition_4 ?_
  refine i_add dX6_readPosition_5 ?_
  refine i_istore_n dX6_readPosition_6 (L' := [some _, some _, some _, some _, none]) (by decide) rfl ?_
  refine i_iload_n dX6_readPosition_7 rfl ?_
  refine i_bipush dX6_readPosition_8 (by decide) ?_
  refine i_icmp_le (tgt := 15) dX6_readPosition_10 (by decide) (by omega) (by omega) (fun c10 => ?_) (fun c10 => ?_)
  · -- jumps
    refine i_aload_n dX6_readPosition_15 rfl ?_
    refine i_iload_n dX6_readPosition_16 rfl ?_
    refine u_put (i := 3) (kV := 5) dX6_readPosition_17 fX6_78 (by decide) rfl rfl rfl (Nat.le_of_ble_eq_true rfl) rfl rfl ?_
    refine i_aload_n dX6_readPosition_20 rfl ?_
    refine u_get (i := 3) (vv := .ref (Y (4))) dX6_readPosition_21 fX6_9.o (by decide) rfl rfl ?_
    refine i_iload_n dX6_readPosition_24 rfl ?_
    refine i_iload_n dX6_readPosition_25 rfl ?_
    refine u_iast (i := 4) (N := 25) dX6_readPosition_26 (by decide) rfl (by decide) (by omega) rfl ?_
    refine i_const dX6_readPosition_27 ?_
    refine i_istore dX6_readPosition_28 (L' := [some _, some _, some _, some _, some _]) (by decide) rfl ?_
    refine u_gen (fun V1 hV1 C1 hC1 => ?_)
    have f1 : ∀ i, i ≠ 5 → V1 i = V i := fun i h => by rw [hV1]; exact vu_ne h
    have e5 : V1 5 = V 5 + 1 := by rw [hV1]; exact vu_at
    have sc0 : sC [4] C C1 := by rw [hC1]; exact sC.rfl.cu (by decide)
    have e4 : C1 4 = zu (C 4) (V 5 + 1) sv := by rw [hC1]; rfl
    clear hV1 hC1
    have c5 : C1 5 = C 5 := sc0 5 (by decide)
    have c6 : C1 6 = C 6 := sc0 6 (by decide)
    refine q_rp_l hm (by omega) (fun c c0 c1 => by rw [c6]; exact hr c c0 c1) (fun C2 sc2 h6 => ?_) _ 0 C1 rfl (by decide) sC.rfl (fun j j0 j1 => (if_neg (by omega)).symm)
    have c52 : C2 5 = C 5 := (sc2 5 (by decide)).trans c5
    have h91 : V1 9 = (v : Int) := (f1 9 (by decide)).trans h9
    have hl1 := hl.cg (V' := V1) (fun i i0 i1 => f1 i (by omega))
    have hf2 : zOKf (C2 5) := by rw [c52]; exact hf
    refine i_aload_n dX6_readPosition_65 rfl ?_
    refine u_callV (i := 3) (mc := 0) (ms := 0) (As := []) dX6_readPosition_66 cfX6_endPiece imX6_endPiece seX6_endPiece lX6_113 (by decide) rfl rfl rfl rfl rfl (Nat.le_of_ble_eq_true rfl) (Nat.zero_add _).symm (Nat.zero_add _).symm ?_
    refine q_endPiece h91 hv hl1 ho hf2 (fun V11 C11 ll11 e11 lf11 sc11 => RK.n0 ?_)
    have h92 : V11 9 = (v : Int) := (lf11 9 (by omega)).trans h91
    refine i_aload_n dX6_readPosition_69 rfl ?_
    refine u_get (i := 3) (vv := .ref (Y (100 + 4 * v))) dX6_readPosition_70 fX6_40 (by decide) rfl (c_l9 h92) ?_
    have zq := @zp_nn (V 5 + 1)
    refine i_const dX6_readPosition_73 ?_
    refine i_const dX6_readPosition_74 ?_
    refine i_iload_n dX6_readPosition_75 rfl ?_
    refine i_shl dX6_readPosition_76 (iI_shl1 (by omega)) ?_
    refine i_const dX6_readPosition_77 ?_
    refine i_iload_n dX6_readPosition_78 rfl ?_
    refine i_shl dX6_readPosition_79 (iI_shl1 (by omega)) ?_
    refine u_callV (i := 100 + 4 * v) (mc := 0) (ms := 0) (As := [_, _, _]) dX6_readPosition_80 cfX2_beginPiece imX2_beginPiece seX2_beginPiece lX6_116 (c_okL (v := v) (k := 0) (by omega) (by decide)) (c_cellL (v := v) (by omega)) rfl rfl rfl rfl (Nat.le_of_ble_eq_true rfl) (Nat.zero_add _).symm (Nat.zero_add _).symm ?_
    refine q_beginPiece (v := v) (q := (false, zp (V 5 + 1), zp (V 5 + 1))) (by omega) ll11 (fun V12 bl12 bf12 => RK.n0 ?_)
    refine i_const dX6_readPosition_83 ?_
    refine i_ireturn dX6_readPosition_84 rfl rfl ?_
    rw [c52] at bl12 e11
    refine hp0 (by omega) _ _ bl12 e11 ?_ ?_ (fun c c0 c1 => ?_) (fun i hi h5 => ?_) (fun i hi => ?_)
    · exact (bf12 5 (by omega)).trans ((lf11 5 (by omega)).trans e5)
    · rw [sc11 4 (by decide), sc2 4 (by decide)]; exact e4
    · rw [sc11 6 (by decide), h6 c c0 c1, c6]
    · exact (bf12 i hi).trans ((lf11 i hi).trans (f1 i h5))
    · rw [sc11 i (by simp only [List.mem_cons, List.not_mem_nil, or_false] at hi ⊢; omega), sc2 i (by simp only [List.mem_cons, List.not_mem_nil, or_false] at hi ⊢; omega), sc0 i (by simp only [List.mem_cons, List.not_mem_nil, or_false] at hi ⊢; omega)]
  · -- on
    refine i_const dX6_readPosition_13 ?_
    refine i_ireturn dX6_readPosition_14 rfl rfl ?_
    exact hp2 (by omega)
theorem q_openGroup  (h9 : V 9 = (v : Int)) (hv : v < 21) (hl : cLv V v l) (ho : zOKl l) (hf : zOKf (C 5)) (hp3 : v = 20 → P (.inl (some (.int (iI 3)))) (V, C, J)) (hp0 : v ≠ 20 → ∀ V' C', cLv V' v (l.1, (zEp (C 5) l).2, none) → cLv V' (v + 1) zL0 → C' 5 = (zEp (C 5) l).1 → V' 9 = (v : Int) + 1 → (∀ i, (i < 200 + 16 * v ∨ 226 + 16 * v ≤ i) → i ≠ 9 → V' i = V i) → sC [5] C C' → P (.inl (some (.int (iI 0)))) (V', C', J)) : RM G mX6_openGroup (c_I Y h0) [.ref (Y 3)] (d + 3) 0 0 P (V, C, J) := by
  refine RM.of (L := [some (.ref (Y 3)), none]) cfX6_openGroup rfl (Nat.le_of_ble_eq_true rfl) ?_
  refine i_aload_n dX6_openGroup_0 rfl ?_
  refine u_get (i := 3) (vv := .ref (Y (100 + 4 * v))) dX6_openGroup_1 fX6_40 (by decide) rfl (c_l9 h9) ?_
  by_cases z20 : v = 20
  · subst z20
    refine u_getL (v := 20) (vv := .null) dX6_openGroup_4 fX6_120 (by decide) c_lfiz ?_
    refine i_astore_nN dX6_openGroup_7 (L' := [some _, some _]) (by decide) rfl ?_
    refine i_aload_nN dX6_openGroup_8 rfl ?_
    refine i_ifnonnullN dX6_openGroup_9 ?_
    refine i_const dX6_openGroup_12 ?_
    refine i_ireturn dX6_openGroup_13 rfl rfl ?_
    exact hp3 rfl
  · refine u_getL (v := v) (vv := .ref (Y (100 + 4 * (v + 1)))) dX6_openGroup_4 fX6_120 (by omega) (c_lfi z20) ?_
    refine i_astore_n dX6_openGroup_7 (L' := [some _, some _]) (by decide) rfl ?_
    refine i_aload_n dX6_openGroup_8 rfl ?_
    refine i_ifnonnull (tgt := 14) dX6_openGroup_9 (by decide) ?_
    refine i_aload_n dX6_openGroup_14 rfl ?_
    refine u_callV (i := 3) (mc := 0) (ms := 0) (As := []) dX6_openGroup_15 cfX6_endPiece imX6_endPiece seX6_endPiece lX6_113 (by decide) rfl rfl rfl rfl rfl (Nat.le_of_ble_eq_true rfl) (Nat.zero_add _).symm (Nat.zero_add _).symm ?_
    refine q_endPiece h9 hv hl ho hf (fun V1 C1 ll1 e1 lf1 sc1 => RK.n0 ?_)
    refine i_aload_n dX6_openGroup_18 rfl ?_
    refine u_callV (i := 100 + 4 * (v + 1)) (mc := 0) (ms := 0) (As := []) dX6_openGroup_19 cfX2_begin imX2_begin seX2_begin lX6_77 (c_okL (v := (v + 1)) (k := 0) (by omega) (by decide)) (c_cellL (v := (v + 1)) (by omega)) rfl rfl rfl rfl (Nat.le_of_ble_eq_true rfl) (Nat.zero_add _).symm (Nat.zero_add _).symm ?_
    refine q_lbegin (v := (v + 1)) (by omega) (fun V2 bl2 bf2 => RK.n0 ?_)
    refine i_aload_n dX6_openGroup_22 rfl ?_
    refine i_aload_n dX6_openGroup_23 rfl ?_
    refine u_putV (u := v + 1) dX6_openGroup_24 fX6_40 rfl rfl ?_
    refine i_const dX6_openGroup_27 ?_
    refine i_ireturn dX6_openGroup_28 rfl rfl ?_
    refine hp0 z20 _ _ ((bf2.ot (show v ≠ v + 1 by omega) ll1).cg (fun i i0 i1 => vu_ne (by omega))) (bl2.cg (fun i i0 i1 => vu_ne (by omega))) e1 ?_ (fun i hi h9' => ?_) sc1
    · rw [vu_at]; omega
    · exact (vu_ne h9').trans ((bf2 i (by omega)).trans (lf1 i (by omega)))
theorem q_closeGroup {o : zLv} (h9 : V 9 = (v : Int)) (hv : v < 21) (hl : cLv V v l) (ho : zOKl l) (hf : zOKf (C 5)) (hou : ∀ u, v = u + 1 → cLv V u o) (hp1 : v = 0 → P (.inl (some (.int (iI 1)))) (V, C, J)) (hp0 : ∀ u, v = u + 1 → ∀ V' C', cLv V' u (o.1, o.2.1, some (zEb (C 5) l).2) → C' 5 = (zEb (C 5) l).1 → V' 9 = (u : Int) → (∀ i, (i < 200 + 16 * u ∨ 226 + 16 * u ≤ i) → i ≠ 9 → V' i = V i) → sC [5] C C' → P (.inl (some (.int (iI 0)))) (V', C', J)) : RM G mX6_closeGroup (c_I Y h0) [.ref (Y 3)] (d + 3) 0 0 P (V, C, J) := by
  refine RM.of (L := [some (.ref (Y 3)), none, none]) cfX6_closeGroup rfl (Nat.le_of_ble_eq_true rfl) ?_
  refine i_aload_n dX6_closeGroup_0 rfl ?_
  refine u_get (i := 3) (vv := .ref (Y (100 + 4 * v))) dX6_closeGroup_1 fX6_40 (by decide) rfl (c_l9 h9) ?_
  cases v with
  | zero =>
    refine u_getL (v := 0) (vv := .null) dX6_closeGroup_4 fX6_67 (by decide) c_lf0z ?_
    refine i_astore_nN dX6_closeGroup_7 (L' := [some _, some _, none]) (by decide) rfl ?_
    refine i_aload_nN dX6_closeGroup_8 rfl ?_
    refine i_ifnonnullN dX6_closeGroup_9 ?_
    refine i_const dX6_closeGroup_12 ?_
    refine i_ireturn dX6_closeGroup_13 rfl rfl ?_
    exact hp1 rfl
  | succ u =>
    refine u_getL (v := u + 1) (vv := .ref (Y (100 + 4 * u))) dX6_closeGroup_4 fX6_67 (by omega) (c_lf0 (by omega) rfl) ?_
    refine i_astore_n dX6_closeGroup_7 (L' := [some _, some _, none]) (by decide) rfl ?_
    refine i_aload_n dX6_closeGroup_8 rfl ?_
    refine i_ifnonnull (tgt := 14) dX6_closeGroup_9 (by decide) ?_
    refine i_aload_n dX6_closeGroup_14 rfl ?_
    refine u_callV (i := 3) (mc := 0) (ms := 0) (As := []) dX6_closeGroup_15 cfX6_endBranch imX6_endBranch seX6_endBranch lX6_70 (by decide) rfl rfl rfl rfl rfl (Nat.le_of_ble_eq_true rfl) (Nat.zero_add _).symm (Nat.zero_add _).symm ?_
    refine q_endBranch h9 hv hl ho hf (fun V1 C1 ll1 e1 lf1 sc1 => RK.n0 ?_)
    have h92 : V1 9 = ((u + 1 : Nat) : Int) := (lf1 9 (by omega)).trans h9
    have hlo := hou u rfl
    have hlo2 := lf1.ot (show u ≠ u + 1 by omega) hlo
    refine i_aload_n dX6_closeGroup_18 rfl ?_
    refine u_get (i := 3) (vv := .ref (Y (100 + 4 * (u + 1)))) dX6_closeGroup_19 fX6_40 (by decide) rfl (c_l9 h92) ?_
    refine u_getL (v := (u + 1)) (vv := .ref (Y (100 + 4 * (u + 1) + 1))) dX6_closeGroup_22 fX6_47 (by omega) c_lf1 ?_
    refine i_astore_n dX6_closeGroup_25 (L' := [some _, some _, some _]) (by decide) rfl ?_
    refine i_aload_n dX6_closeGroup_26 rfl ?_
    refine i_aload_n dX6_closeGroup_27 rfl ?_
    refine u_getQ (v := (u + 1)) (k := 1) (vv := .int (iI (V1 (198 + 16 * (u + 1) + 3 * 1)))) dX6_closeGroup_28 fX6_123 (by omega) (by decide) rfl ?_
    refine RW.ti ll1.1.1 ?_
    refine i_aload_n dX6_closeGroup_31 rfl ?_
    refine u_getQ (v := (u + 1)) (k := 1) (vv := .int (iI (V1 (199 + 16 * (u + 1) + 3 * 1)))) dX6_closeGroup_32 fX6_129 (by omega) (by decide) rfl ?_
    refine RW.ti ll1.1.2.1 ?_
    refine i_aload_n dX6_closeGroup_35 rfl ?_
    refine u_getQ (v := (u + 1)) (k := 1) (vv := .int (iI (V1 (200 + 16 * (u + 1) + 3 * 1)))) dX6_closeGroup_36 fX6_132 (by omega) (by decide) rfl ?_
    refine RW.ti ll1.1.2.2 ?_
    refine u_callV (i := 100 + 4 * u) (mc := 0) (ms := 0) (As := [_, _, _]) dX6_closeGroup_39 cfX2_beginPiece imX2_beginPiece seX2_beginPiece lX6_116 (c_okL (v := u) (k := 0) (by omega) (by decide)) (c_cellL (v := u) (by omega)) rfl rfl rfl rfl (Nat.le_of_ble_eq_true rfl) (Nat.zero_add _).symm (Nat.zero_add _).symm ?_
    refine q_beginPiece (v := u) (q := (zEb (C 5) l).2) (by omega) hlo2 (fun V2 bl2 bf2 => RK.n0 ?_)
    refine i_aload_n dX6_closeGroup_42 rfl ?_
    refine i_aload_n dX6_closeGroup_43 rfl ?_
    refine u_putV (u := u) dX6_closeGroup_44 fX6_40 rfl rfl ?_
    refine i_const dX6_closeGroup_47 ?_
    refine i_ireturn dX6_closeGroup_48 rfl rfl ?_
    refine hp0 u rfl _ _ (bl2.cg (fun i i0 i1 => vu_ne (by omega))) e1 vu_at (fun i hi h9' => ?_) sc1
    exact (vu_ne h9').trans ((bf2 i (by omega)).trans (lf1 i (by omega)))
end C78
