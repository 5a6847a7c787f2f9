/-! ===== the reference: changes ===== -/
/-- what a change does: the numbers become w', the buffer's length t, the old numbers are remembered -/
def mCh (V V' : Nat → Int) (C C' : Nat → Int → Int) (w' : Int → Int) (t : Int) : Prop := V' 12 = 0 ∧ V' 7 = t ∧ sV (4 :: 7 :: m_sv) V V' ∧ sC (0 :: 2 :: m_sc) C C' ∧ (∀ j, 0 ≤ j → j < 985 → C' 0 j = w' j) ∧ V' 4 = (if V 4 = 8 then 7 else V 4) + 1 ∧ (∀ i j, 0 ≤ i → i < V' 4 - 1 → 0 ≤ j → j < 985 → C' 2 (985 * i + j) = C 2 (985 * (if V 4 = 8 then i + 1 else i) + j)) ∧ ∀ j, 0 ≤ j → j < 985 → C' 2 (985 * (V' 4 - 1) + j) = C 0 j
theorem mCh.of {V V2 V3 : Nat → Int} {C C1 C2 C3 : Nat → Int → Int} {w' : Int → Int} {t : Int} (hr : mRem V2 V3 C2 C3 (C 0)) (hb : sC [1] C C1) (h2 : sC (0 :: m_sc) C1 C2) (hw : ∀ j, 0 ≤ j → j < 985 → C2 0 j = w' j) (hv : sV (7 :: m_sv) V V2) (h7 : V2 7 = t) (h12 : V2 12 = 0) : mCh V V3 C C3 w' t := by
  obtain ⟨r1, r2, r3, r4, r5⟩ := hr
  have e4 : V2 4 = V 4 := hv 4 (by decide)
  have e2 : C2 2 = C 2 := (h2 2 (by decide)).trans (hb 2 (by decide))
  refine ⟨(r1 12 (by decide)).trans h12, (r1 7 (by decide)).trans h7, hv.t2 r1 (by decide) (by decide), (hb.t2 h2 (U := 0 :: m_sc) (by decide) (by decide)).t2 r2 (by decide) (by decide), fun j a b => (congrFun (r2 0 (by decide)) j).trans (hw j a b), ?_, fun i j a b c e => ?_, r5⟩
  · rw [r3, e4]
  · rw [r4 i j a b c e, e4, e2]
section M12
variable {G : p_G} {Y : Nat → Nat} {h0 : p_H} {P : (Option Value) ⊕ String → m_X → Prop} {d : Nat} {V : Nat → Int} {C : Nat → Int → Int} {J : Int → Int}
theorem k_undo  (h4 : 0 ≤ V 4 ∧ V 4 ≤ 8) (hp0 : V 4 = 0 → P (.inl (some (.int (iI (-1))))) (vu V 12 0, C, J)) (hp1 : V 4 ≠ 0 → ∀ V' C', V' 12 = 0 → V' 4 = V 4 - 1 → sV [4, 12] V V' → sC [0] C C' → (∀ j, 0 ≤ j → j < 985 → C' 0 j = C 2 (985 * (V 4 - 1) + j)) → P (.inl (some (.int (iI (V 4 - 1))))) (V', C', J)) : RM G mX11_undo (m_I Y h0) [.ref (Y 38)] (d) 0 0 P (V, C, J) := by
  refine RM.of (L := [some (.ref (Y 38)), none]) cfX11_undo rfl (Nat.le_of_ble_eq_true rfl) ?_
  refine i_aload_n dX11_undo_0 rfl ?_
  refine i_const dX11_undo_1 ?_
  refine t_put dX11_undo_2 fX11_95 (by decide) rfl rfl ?_
  refine i_aload_n dX11_undo_5 rfl ?_
  refine t_getI (v := V 4) dX11_undo_6 fX11_213 (by decide) rfl ?_
  refine i_if_ne (tgt := 14) dX11_undo_9 (by decide) (by omega) (fun c9 => ?_) (fun c9 => ?_)
  · -- jumps
    refine i_aload_n dX11_undo_14 rfl ?_
    refine i_dup dX11_undo_15 rfl ?_
    refine t_getI (v := V 4) dX11_undo_16 fX11_213 (by decide) rfl ?_
    refine i_const dX11_undo_19 ?_
    refine i_sub dX11_undo_20 ?_
    refine t_put dX11_undo_21 fX11_213 (by decide) rfl rfl ?_
    refine i_const dX11_undo_24 ?_
    refine i_istore_n dX11_undo_25 (L' := [some _, some _]) (by decide) rfl ?_
    refine RW.gen (fun V1 hV1 C1 hC1 J1 hJ1 => ?_)
    have sv1 : sV [4, 12] V V1 := by rw [hV1]; repeat' (first | exact sV.rfl | refine sV.vu ?_ (by decide))
    have v1_4 : V1 4 = V 4 - 1 := by rw [hV1]; rfl
    have v1_12 : V1 12 = 0 := by rw [hV1]; rfl
    have sc1 : sC [] (C) C1 := by rw [hC1]; repeat' (first | exact sC.rfl | refine sC.cu ?_ (by decide))
    subst hJ1
    clear hV1 hC1
    refine k_undo_l (by omega) (fun C2 hC2 hf2 => ?_) _ 0 _ rfl (by omega) (by omega) ⟨sC.rfl, fun j => (if_neg (by omega)).symm⟩
    refine i_aload_n dX11_undo_60 rfl ?_
    refine t_getI dX11_undo_61 fX11_213 (by decide) rfl ?_
    refine i_ireturn dX11_undo_64 rfl rfl ?_
    rw [v1_4]
    refine hp1 (by omega) _ _ (by rw [v1_12]) (by rw [v1_4]) (sv1.t2 (T := []) sV.rfl (by decide) (by decide)) (sc1.t2 hC2 (by decide) (by decide)) (fun j a b => ?_)
    rw [hf2, if_pos (by omega), v1_4, congrFun (sc1 2 (by decide)) _]
  · -- on
    refine i_const dX11_undo_12 ?_
    refine i_ireturn dX11_undo_13 rfl rfl ?_
    exact hp0 (by omega)
theorem k_saveSnapshot  (hp : ∀ C', sC [3] C C' → (∀ j, 0 ≤ j → j < 985 → C' 3 j = C 0 j) → P (.inl (some (.int (iI (C 0 952))))) (vu (vu V 12 0) 5 1, C', J)) : RM G mX11_saveSnapshot (m_I Y h0) [.ref (Y 38)] (d) 0 0 P (V, C, J) := by
  refine RM.of (L := [some (.ref (Y 38)), none]) cfX11_saveSnapshot rfl (Nat.le_of_ble_eq_true rfl) ?_
  refine i_aload_n dX11_saveSnapshot_0 rfl ?_
  refine i_const dX11_saveSnapshot_1 ?_
  refine t_put dX11_saveSnapshot_2 fX11_95 (by decide) rfl rfl ?_
  refine i_aload_n dX11_saveSnapshot_5 rfl ?_
  refine i_const dX11_saveSnapshot_6 ?_
  refine t_put dX11_saveSnapshot_7 fX11_243 (by decide) (zb_nar (by first | exact zb_or | omega)) rfl ?_
  refine i_const dX11_saveSnapshot_10 ?_
  refine i_istore_n dX11_saveSnapshot_11 (L' := [some _, some _]) (by decide) rfl ?_
  refine k_save_l (fun C1 hC1 hf1 => ?_) _ 0 _ rfl (by omega) (by omega) ⟨sC.rfl, fun j => (if_neg (by omega)).symm⟩
  refine i_aload_n dX11_saveSnapshot_37 rfl ?_
  refine t_getA dX11_saveSnapshot_38 fX11_7.o rfl ?_
  refine i_sipush dX11_saveSnapshot_41 (by decide) ?_
  refine t_iald (N := 985) (v := C 0 952) dX11_saveSnapshot_44 (by decide) (by decide) rfl (by omega) (congrFun (hC1 0 (by decide)) _) ?_
  refine i_ireturn dX11_saveSnapshot_45 rfl rfl ?_
  exact hp _ hC1 (fun j a b => (hf1 j).trans (if_pos ⟨a, b⟩))
theorem k_restoreSnapshot  (h5 : V 5 = 0 ∨ V 5 = 1) (hp1 : ¬ V 5 = 1 → P (.inl (some (.int (iI 0)))) (vu V 12 1, C, J)) (hp0 : V 5 = 1 → ∀ C', sC [0] C C' → (∀ j, 0 ≤ j → j < 985 → C' 0 j = C 3 j) → P (.inl (some (.int (iI (C 3 952))))) (vu (vu V 12 0) 4 0, C', J)) : RM G mX11_restoreSnapshot (m_I Y h0) [.ref (Y 38)] (d + 1) 0 0 P (V, C, J) := by
  refine RM.of (L := [some (.ref (Y 38)), none]) cfX11_restoreSnapshot rfl (Nat.le_of_ble_eq_true rfl) ?_
  refine i_aload_n dX11_restoreSnapshot_0 rfl ?_
  refine i_aload_n dX11_restoreSnapshot_1 rfl ?_
  refine t_getI dX11_restoreSnapshot_2 fX11_243 (by decide) rfl ?_
  refine i_if_ne (tgt := 12) dX11_restoreSnapshot_5 (by decide) (by omega) (fun c5 => ?_) (fun c5 => ?_)
  · -- jumps
    refine i_const dX11_restoreSnapshot_12 ?_
    refine t_callV (As := [_]) dX11_restoreSnapshot_13 cfX11_throwsOne imX11_throwsOne seX11_throwsOne lX11_209 rfl rfl rfl (Nat.le_of_ble_eq_true rfl) ?_
    refine k_throwsOne (by first | exact zb_or | omega) (RK.v ?_)
    refine i_if_eq (tgt := 21) dX11_restoreSnapshot_16 (by decide) (by decide) (fun c16 => ?_) (fun c16 => by omega)
    refine i_const dX11_restoreSnapshot_21 ?_
    refine i_istore_n dX11_restoreSnapshot_22 (L' := [some _, some _]) (by decide) rfl ?_
    refine k_rest_l (fun C1 hC1 hf1 => ?_) _ 0 _ rfl (by omega) (by omega) ⟨sC.rfl, fun j => (if_neg (by omega)).symm⟩
    refine i_aload_n dX11_restoreSnapshot_48 rfl ?_
    refine i_const dX11_restoreSnapshot_49 ?_
    refine t_put dX11_restoreSnapshot_50 fX11_213 (by decide) rfl rfl ?_
    refine i_aload_n dX11_restoreSnapshot_53 rfl ?_
    refine t_getA dX11_restoreSnapshot_54 fX11_7.o rfl ?_
    refine i_sipush dX11_restoreSnapshot_57 (by decide) ?_
    refine t_iald (N := 985) (v := (C1 0) 952) dX11_restoreSnapshot_60 (by decide) (by decide) rfl (by omega) rfl ?_
    refine i_ireturn dX11_restoreSnapshot_61 rfl rfl ?_
    rw [show C1 0 952 = C 3 952 from (hf1 952).trans (if_pos (by omega))]
    exact hp0 (by omega) _ hC1 (fun j a b => (hf1 j).trans (if_pos ⟨a, b⟩))
  · -- on
    refine i_const dX11_restoreSnapshot_8 ?_
    refine i_goto (tgt := 13) dX11_restoreSnapshot_9 (by decide) ?_
    refine t_callV (As := [_]) dX11_restoreSnapshot_13 cfX11_throwsOne imX11_throwsOne seX11_throwsOne lX11_209 rfl rfl rfl (Nat.le_of_ble_eq_true rfl) ?_
    refine k_throwsOne (by first | exact zb_or | omega) (RK.v ?_)
    refine i_if_eq (tgt := 21) dX11_restoreSnapshot_16 (by decide) (by decide) (fun c16 => by omega) (fun c16 => ?_)
    refine i_const dX11_restoreSnapshot_19 ?_
    refine i_ireturn dX11_restoreSnapshot_20 rfl rfl ?_
    exact hp1 (by omega)
theorem k_addWalker {s : Int} (hO : wOK (C 0)) (h4 : 0 ≤ V 4 ∧ V 4 ≤ 8) (h_s : -2147483648 ≤ s ∧ s < 2147483648)  (hp1 : ¬ (s = 0 ∨ s = 1) → P (.inl (some (.int (iI 0)))) (vu V 12 1, C, J)) (hp2 : (s = 0 ∨ s = 1) ∧ C 0 952 = 6 → P (.inl (some (.int (iI 0)))) (vu V 12 2, C, J)) (hp0 : (s = 0 ∨ s = 1) ∧ C 0 952 < 6 → ∀ V' C' J', mCh V V' C C' (zu (zu (zu (zu (C 0) (953 + 3 * C 0 952 + 0) s) (953 + 3 * C 0 952 + 1) 0) (953 + 3 * C 0 952 + 2) 0) 952 (C 0 952 + 1)) (V 7) → P (.inl (some (.int (iI (C 0 952))))) (V', C', J')) : RM G mX11_addWalker (m_I Y h0) [.ref (Y 38), .int (iI s)] (d + 1) 0 0 P (V, C, J) := by
  refine RM.of (L := [some (.ref (Y 38)), some (.int (iI s)), none, none]) cfX11_addWalker rfl (Nat.le_of_ble_eq_true rfl) ?_
  have b1 := hO.2.1
  refine i_iload_n dX11_addWalker_0 rfl ?_
  refine t_callS (As := [_]) dX11_addWalker_1 cfX11_isSlot stX11_isSlot lX11_112 rfl rfl (Nat.le_of_ble_eq_true rfl) ?_
  refine k_isSlot (by omega) (RK.v ?_)
  refine i_istore_n dX11_addWalker_4 (L' := [some _, some _, some _, none]) (by decide) rfl ?_
  refine i_aload_n dX11_addWalker_5 rfl ?_
  refine i_iload_n dX11_addWalker_6 rfl ?_
  refine i_ifne_b (tgt := 14) dX11_addWalker_7 (by decide) (fun c7 => ?_) (fun c7 => ?_)
  · -- jumps
    refine i_const dX11_addWalker_14 ?_
    refine i_iload_n dX11_addWalker_15 rfl ?_
    refine i_ifeq_b (tgt := 36) dX11_addWalker_16 (by decide) (fun c16 => ?_) (fun c16 => ?_)
    · -- jumps
      refine i_const dX11_addWalker_36 ?_
      refine t_callV (As := [_, _]) dX11_addWalker_37 cfX11_throwsOne_ imX11_throwsOne_ seX11_throwsOne_ lX11_225 rfl rfl rfl (Nat.le_of_ble_eq_true rfl) ?_
      refine k_throwsOne_ (by omega) (by omega) (fun z => absurd z (by decide)) (fun _ z => absurd z (by decide)) (fun _ _ => RK.v ?_)
      refine i_if_eq (tgt := 45) dX11_addWalker_40 (by decide) (by decide) (fun c40 => ?_) (fun c40 => by omega)
      refine i_aload_n dX11_addWalker_45 rfl ?_
      refine t_callV (As := []) dX11_addWalker_46 cfX11_begins imX11_begins seX11_begins lX11_216 rfl rfl rfl (Nat.le_of_ble_eq_true rfl) ?_
      refine k_begins (fun C1 hC1 hf1 => RK.n0 ?_)
      have hw1 : C1 0 = C 0 := hC1 0 (by decide)
      refine i_aload_n dX11_addWalker_49 rfl ?_
      refine t_getA dX11_addWalker_50 fX11_7.o rfl ?_
      refine i_sipush dX11_addWalker_53 (by decide) ?_
      refine t_iald (N := 985) (v := C 0 952) dX11_addWalker_56 (by decide) (by decide) rfl (by omega) (congrFun hw1 _) ?_
      refine i_istore_n dX11_addWalker_57 (L' := [some _, some _, some _, some _]) (by decide) rfl ?_
      refine i_aload_n dX11_addWalker_58 rfl ?_
      refine t_getA dX11_addWalker_59 fX11_7.o rfl ?_
      refine i_sipush dX11_addWalker_62 (by decide) ?_
      refine i_const dX11_addWalker_65 ?_
      refine i_iload_n dX11_addWalker_66 rfl ?_
      refine i_mul dX11_addWalker_67 ?_
      refine i_add dX11_addWalker_68 ?_
      refine i_const dX11_addWalker_69 ?_
      refine i_add dX11_addWalker_70 ?_
      refine i_iload_n dX11_addWalker_71 rfl ?_
      refine t_iast (N := 985) dX11_addWalker_72 (by decide) (by decide) rfl (by omega) ?_
      refine i_aload_n dX11_addWalker_73 rfl ?_
      refine t_getA dX11_addWalker_74 fX11_7.o rfl ?_
      refine i_sipush dX11_addWalker_77 (by decide) ?_
      refine i_const dX11_addWalker_80 ?_
      refine i_iload_n dX11_addWalker_81 rfl ?_
      refine i_mul dX11_addWalker_82 ?_
      refine i_add dX11_addWalker_83 ?_
      refine i_const dX11_addWalker_84 ?_
      refine i_add dX11_addWalker_85 ?_
      refine i_const dX11_addWalker_86 ?_
      refine t_iast2 (N := 985) dX11_addWalker_87 (by decide) (by decide) rfl (by omega) ?_
      refine i_aload_n dX11_addWalker_88 rfl ?_
      refine t_getA dX11_addWalker_89 fX11_7.o rfl ?_
      refine i_sipush dX11_addWalker_92 (by decide) ?_
      refine i_const dX11_addWalker_95 ?_
      refine i_iload_n dX11_addWalker_96 rfl ?_
      refine i_mul dX11_addWalker_97 ?_
      refine i_add dX11_addWalker_98 ?_
      refine i_const dX11_addWalker_99 ?_
      refine i_add dX11_addWalker_100 ?_
      refine i_const dX11_addWalker_101 ?_
      refine t_iast2 (N := 985) dX11_addWalker_102 (by decide) (by decide) rfl (by omega) ?_
      refine i_aload_n dX11_addWalker_103 rfl ?_
      refine t_getA dX11_addWalker_104 fX11_7.o rfl ?_
      refine i_sipush dX11_addWalker_107 (by decide) ?_
      refine i_dup2 dX11_addWalker_110 rfl rfl ?_
      refine t_iald (N := 985) (v := (zu (zu (zu (C1 0) (953 + 3 * (C 0 952) + 0) s) (953 + 3 * (C 0 952) + 1) 0) (953 + 3 * (C 0 952) + 2) 0) 952) dX11_addWalker_111 (by decide) (by decide) rfl (by omega) rfl ?_
      refine i_const dX11_addWalker_112 ?_
      refine i_add dX11_addWalker_113 ?_
      refine t_iast2 (N := 985) dX11_addWalker_114 (by decide) (by decide) rfl (by omega) ?_
      refine i_aload_n dX11_addWalker_115 rfl ?_
      refine t_callV (As := []) dX11_addWalker_116 cfX11_remember imX11_remember seX11_remember lX11_222 rfl rfl rfl (Nat.le_of_ble_eq_true rfl) ?_
      refine k_remember (w0 := C 0) hf1 h4 (fun V2 C2 hR2 => RK.n0 ?_)
      refine i_iload_n dX11_addWalker_119 rfl ?_
      refine i_ireturn dX11_addWalker_120 rfl rfl ?_
      refine hp0 (by omega) _ _ _ (mCh.of hR2 hC1 (by repeat' (first | exact sC.rfl | refine sC.cu ?_ (by decide))) (fun j _ _ => ?_) (by repeat' (first | exact sV.rfl | refine sV.vu ?_ (by decide))) rfl rfl)
      show zu (zu (zu (zu (C1 0) (953 + 3 * (C 0 952) + 0) s) (953 + 3 * (C 0 952) + 1) 0) (953 + 3 * (C 0 952) + 2) 0) 952 ((zu (zu (zu (C1 0) (953 + 3 * (C 0 952) + 0) s) (953 + 3 * (C 0 952) + 1) 0) (953 + 3 * (C 0 952) + 2) 0) 952 + 1) j = _
      rw [hw1]
      rw [show zu (zu (zu (C 0) (953 + 3 * C 0 952 + 0) s) (953 + 3 * C 0 952 + 1) 0) (953 + 3 * C 0 952 + 2) 0 952 = C 0 952 from by rw [zu_ne (by omega), zu_ne (by omega), zu_ne (by omega)]]
    · -- on
      refine i_aload_n dX11_addWalker_19 rfl ?_
      refine t_getA dX11_addWalker_20 fX11_7.o rfl ?_
      refine i_sipush dX11_addWalker_23 (by decide) ?_
      refine t_iald (N := 985) (v := C 0 952) dX11_addWalker_26 (by decide) (by decide) rfl (by omega) rfl ?_
      refine i_bipush dX11_addWalker_27 (by decide) ?_
      refine i_icmp_ne (tgt := 36) dX11_addWalker_29 (by decide) (by omega) (by omega) (fun c29 => ?_) (fun c29 => ?_)
      · -- jumps
        refine i_const dX11_addWalker_36 ?_
        refine t_callV (As := [_, _]) dX11_addWalker_37 cfX11_throwsOne_ imX11_throwsOne_ seX11_throwsOne_ lX11_225 rfl rfl rfl (Nat.le_of_ble_eq_true rfl) ?_
        refine k_throwsOne_ (by omega) (by omega) (fun z => absurd z (by decide)) (fun _ z => absurd z (by decide)) (fun _ _ => RK.v ?_)
        refine i_if_eq (tgt := 45) dX11_addWalker_40 (by decide) (by decide) (fun c40 => ?_) (fun c40 => by omega)
        refine i_aload_n dX11_addWalker_45 rfl ?_
        refine t_callV (As := []) dX11_addWalker_46 cfX11_begins imX11_begins seX11_begins lX11_216 rfl rfl rfl (Nat.le_of_ble_eq_true rfl) ?_
        refine k_begins (fun C3 hC3 hf3 => RK.n0 ?_)
        have hw3 : C3 0 = C 0 := hC3 0 (by decide)
        refine i_aload_n dX11_addWalker_49 rfl ?_
        refine t_getA dX11_addWalker_50 fX11_7.o rfl ?_
        refine i_sipush dX11_addWalker_53 (by decide) ?_
        refine t_iald (N := 985) (v := C 0 952) dX11_addWalker_56 (by decide) (by decide) rfl (by omega) (congrFun hw3 _) ?_
        refine i_istore_n dX11_addWalker_57 (L' := [some _, some _, some _, some _]) (by decide) rfl ?_
        refine i_aload_n dX11_addWalker_58 rfl ?_
        refine t_getA dX11_addWalker_59 fX11_7.o rfl ?_
        refine i_sipush dX11_addWalker_62 (by decide) ?_
        refine i_const dX11_addWalker_65 ?_
        refine i_iload_n dX11_addWalker_66 rfl ?_
        refine i_mul dX11_addWalker_67 ?_
        refine i_add dX11_addWalker_68 ?_
        refine i_const dX11_addWalker_69 ?_
        refine i_add dX11_addWalker_70 ?_
        refine i_iload_n dX11_addWalker_71 rfl ?_
        refine t_iast (N := 985) dX11_addWalker_72 (by decide) (by decide) rfl (by omega) ?_
        refine i_aload_n dX11_addWalker_73 rfl ?_
        refine t_getA dX11_addWalker_74 fX11_7.o rfl ?_
        refine i_sipush dX11_addWalker_77 (by decide) ?_
        refine i_const dX11_addWalker_80 ?_
        refine i_iload_n dX11_addWalker_81 rfl ?_
        refine i_mul dX11_addWalker_82 ?_
        refine i_add dX11_addWalker_83 ?_
        refine i_const dX11_addWalker_84 ?_
        refine i_add dX11_addWalker_85 ?_
        refine i_const dX11_addWalker_86 ?_
        refine t_iast2 (N := 985) dX11_addWalker_87 (by decide) (by decide) rfl (by omega) ?_
        refine i_aload_n dX11_addWalker_88 rfl ?_
        refine t_getA dX11_addWalker_89 fX11_7.o rfl ?_
        refine i_sipush dX11_addWalker_92 (by decide) ?_
        refine i_const dX11_addWalker_95 ?_
        refine i_iload_n dX11_addWalker_96 rfl ?_
        refine i_mul dX11_addWalker_97 ?_
        refine i_add dX11_addWalker_98 ?_
        refine i_const dX11_addWalker_99 ?_
        refine i_add dX11_addWalker_100 ?_
        refine i_const dX11_addWalker_101 ?_
        refine t_iast2 (N := 985) dX11_addWalker_102 (by decide) (by decide) rfl (by omega) ?_
        refine i_aload_n dX11_addWalker_103 rfl ?_
        refine t_getA dX11_addWalker_104 fX11_7.o rfl ?_
        refine i_sipush dX11_addWalker_107 (by decide) ?_
        refine i_dup2 dX11_addWalker_110 rfl rfl ?_
        refine t_iald (N := 985) (v := (zu (zu (zu (C3 0) (953 + 3 * (C 0 952) + 0) s) (953 + 3 * (C 0 952) + 1) 0) (953 + 3 * (C 0 952) + 2) 0) 952) dX11_addWalker_111 (by decide) (by decide) rfl (by omega) rfl ?_
        refine i_const dX11_addWalker_112 ?_
        refine i_add dX11_addWalker_113 ?_
        refine t_iast2 (N := 985) dX11_addWalker_114 (by decide) (by decide) rfl (by omega) ?_
        refine i_aload_n dX11_addWalker_115 rfl ?_
        refine t_callV (As := []) dX11_addWalker_116 cfX11_remember imX11_remember seX11_remember lX11_222 rfl rfl rfl (Nat.le_of_ble_eq_true rfl) ?_
        refine k_remember (w0 := C 0) hf3 h4 (fun V4 C4 hR4 => RK.n0 ?_)
        refine i_iload_n dX11_addWalker_119 rfl ?_
        refine i_ireturn dX11_addWalker_120 rfl rfl ?_
        refine hp0 (by omega) _ _ _ (mCh.of hR4 hC3 (by repeat' (first | exact sC.rfl | refine sC.cu ?_ (by decide))) (fun j _ _ => ?_) (by repeat' (first | exact sV.rfl | refine sV.vu ?_ (by decide))) rfl rfl)
        show zu (zu (zu (zu (C3 0) (953 + 3 * (C 0 952) + 0) s) (953 + 3 * (C 0 952) + 1) 0) (953 + 3 * (C 0 952) + 2) 0) 952 ((zu (zu (zu (C3 0) (953 + 3 * (C 0 952) + 0) s) (953 + 3 * (C 0 952) + 1) 0) (953 + 3 * (C 0 952) + 2) 0) 952 + 1) j = _
        rw [hw3]
        rw [show zu (zu (zu (C 0) (953 + 3 * C 0 952 + 0) s) (953 + 3 * C 0 952 + 1) 0) (953 + 3 * C 0 952 + 2) 0 952 = C 0 952 from by rw [zu_ne (by omega), zu_ne (by omega), zu_ne (by omega)]]
      · -- on
        refine i_const dX11_addWalker_32 ?_
        refine i_goto (tgt := 37) dX11_addWalker_33 (by decide) ?_
        refine t_callV (As := [_, _]) dX11_addWalker_37 cfX11_throwsOne_ imX11_throwsOne_ seX11_throwsOne_ lX11_225 rfl rfl rfl (Nat.le_of_ble_eq_true rfl) ?_
        refine k_throwsOne_ (by omega) (by omega) (fun z => absurd z (by decide)) (fun _ _ => RK.v ?_) (fun _ z => absurd z (by decide))
        refine i_if_eq (tgt := 45) dX11_addWalker_40 (by decide) (by decide) (fun c40 => by omega) (fun c40 => ?_)
        refine i_const dX11_addWalker_43 ?_
        refine i_ireturn dX11_addWalker_44 rfl rfl ?_
        exact hp2 (by omega)
  · -- on
    refine i_const dX11_addWalker_10 ?_
    refine i_goto (tgt := 15) dX11_addWalker_11 (by decide) ?_
    refine i_iload_n dX11_addWalker_15 rfl ?_
    refine i_ifeq_b (tgt := 36) dX11_addWalker_16 (by decide) (fun c16 => ?_) (fun c16 => ?_)
    · -- jumps
      refine i_const dX11_addWalker_36 ?_
      refine t_callV (As := [_, _]) dX11_addWalker_37 cfX11_throwsOne_ imX11_throwsOne_ seX11_throwsOne_ lX11_225 rfl rfl rfl (Nat.le_of_ble_eq_true rfl) ?_
      refine k_throwsOne_ (by omega) (by omega) (fun _ => RK.v ?_) (fun z => absurd z (by decide)) (fun z => absurd z (by decide))
      refine i_if_eq (tgt := 45) dX11_addWalker_40 (by decide) (by decide) (fun c40 => by omega) (fun c40 => ?_)
      refine i_const dX11_addWalker_43 ?_
      refine i_ireturn dX11_addWalker_44 rfl rfl ?_
      exact hp1 (by omega)
    · -- on
      refine i_aload_n dX11_addWalker_19 rfl ?_
      refine t_getA dX11_addWalker_20 fX11_7.o rfl ?_
      refine i_sipush dX11_addWalker_23 (by decide) ?_
      refine t_iald (N := 985) (v := C 0 952) dX11_addWalker_26 (by decide) (by decide) rfl (by omega) rfl ?_
      refine i_bipush dX11_addWalker_27 (by decide) ?_
      refine i_icmp_ne (tgt := 36) dX11_addWalker_29 (by decide) (by omega) (by omega) (fun c29 => ?_) (fun c29 => ?_)
      · -- jumps
        refine i_const dX11_addWalker_36 ?_
        refine t_callV (As := [_, _]) dX11_addWalker_37 cfX11_throwsOne_ imX11_throwsOne_ seX11_throwsOne_ lX11_225 rfl rfl rfl (Nat.le_of_ble_eq_true rfl) ?_
        refine k_throwsOne_ (by omega) (by omega) (fun _ => RK.v ?_) (fun z => absurd z (by decide)) (fun z => absurd z (by decide))
        refine i_if_eq (tgt := 45) dX11_addWalker_40 (by decide) (by decide) (fun c40 => by omega) (fun c40 => ?_)
        refine i_const dX11_addWalker_43 ?_
        refine i_ireturn dX11_addWalker_44 rfl rfl ?_
        exact hp1 (by omega)
      · -- on
        refine i_const dX11_addWalker_32 ?_
        refine i_goto (tgt := 37) dX11_addWalker_33 (by decide) ?_
        refine t_callV (As := [_, _]) dX11_addWalker_37 cfX11_throwsOne_ imX11_throwsOne_ seX11_throwsOne_ lX11_225 rfl rfl rfl (Nat.le_of_ble_eq_true rfl) ?_
        refine k_throwsOne_ (by omega) (by omega) (fun _ => RK.v ?_) (fun z => absurd z (by decide)) (fun z => absurd z (by decide))
        refine i_if_eq (tgt := 45) dX11_addWalker_40 (by decide) (by decide) (fun c40 => by omega) (fun c40 => ?_)
        refine i_const dX11_addWalker_43 ?_
        refine i_ireturn dX11_addWalker_44 rfl rfl ?_
        exact hp1 (by omega)
theorem k_restartWalker {p : Int} (hO : wOK (C 0)) (h4 : 0 ≤ V 4 ∧ V 4 ≤ 8) (h_p : -2147483648 ≤ p ∧ p < 2147483648)  (hp1 : ¬ (0 ≤ p ∧ p < C 0 952) → P (.inl (some (.int (iI 0)))) (vu V 12 1, C, J)) (hp0 : 0 ≤ p ∧ p < C 0 952 → ∀ V' C' J', mCh V V' C C' (zu (zu (C 0) (953 + 3 * p + 1) 0) (953 + 3 * p + 2) 0) (V 7) → P (.inl (some (.int (iI (C 0 (953 + 3 * p + 1)))))) (V', C', J')) : RM G mX11_restartWalker (m_I Y h0) [.ref (Y 38), .int (iI p)] (d + 2) 0 0 P (V, C, J) := by
  refine RM.of (L := [some (.ref (Y 38)), some (.int (iI p)), none]) cfX11_restartWalker rfl (Nat.le_of_ble_eq_true rfl) ?_
  have b1 := hO.2.1
  refine i_aload_n dX11_restartWalker_0 rfl ?_
  refine i_aload_n dX11_restartWalker_1 rfl ?_
  refine i_iload_n dX11_restartWalker_2 rfl ?_
  refine t_callV (As := [_]) dX11_restartWalker_3 cfX11_isWalker imX11_isWalker seX11_isWalker lX11_228 rfl rfl rfl (Nat.le_of_ble_eq_true rfl) ?_
  refine k_isWalker (w := C 0) rfl (by omega) hO (RK.v ?_)
  refine i_ifne_b (tgt := 13) dX11_restartWalker_6 (by decide) (fun c6 => ?_) (fun c6 => ?_)
  · -- jumps
    refine i_const dX11_restartWalker_13 ?_
    refine t_callV (As := [_]) dX11_restartWalker_14 cfX11_throwsOne imX11_throwsOne seX11_throwsOne lX11_209 rfl rfl rfl (Nat.le_of_ble_eq_true rfl) ?_
    refine k_throwsOne (by first | exact zb_or | omega) (RK.v ?_)
    refine i_if_eq (tgt := 22) dX11_restartWalker_17 (by decide) (by decide) (fun c17 => ?_) (fun c17 => by omega)
    refine i_aload_n dX11_restartWalker_22 rfl ?_
    refine t_callV (As := []) dX11_restartWalker_23 cfX11_begins imX11_begins seX11_begins lX11_216 rfl rfl rfl (Nat.le_of_ble_eq_true rfl) ?_
    refine k_begins (fun C1 hC1 hf1 => RK.n0 ?_)
    have hw1 : C1 0 = C 0 := hC1 0 (by decide)
    refine i_aload_n dX11_restartWalker_26 rfl ?_
    refine i_iload_n dX11_restartWalker_27 rfl ?_
    refine i_const dX11_restartWalker_28 ?_
    refine t_callV (As := [_, _]) dX11_restartWalker_29 cfX11_walkerOf imX11_walkerOf seX11_walkerOf lX11_190 rfl rfl rfl (Nat.le_of_ble_eq_true rfl) ?_
    refine k_walkerOf (w := C 0) hw1 (by omega) (by omega) (RK.v ?_)
    refine i_istore_n dX11_restartWalker_32 (L' := [some _, some _, some _]) (by decide) rfl ?_
    refine i_aload_n dX11_restartWalker_33 rfl ?_
    refine t_getA dX11_restartWalker_34 fX11_7.o rfl ?_
    refine i_sipush dX11_restartWalker_37 (by decide) ?_
    refine i_const dX11_restartWalker_40 ?_
    refine i_iload_n dX11_restartWalker_41 rfl ?_
    refine i_mul dX11_restartWalker_42 ?_
    refine i_add dX11_restartWalker_43 ?_
    refine i_const dX11_restartWalker_44 ?_
    refine i_add dX11_restartWalker_45 ?_
    refine i_const dX11_restartWalker_46 ?_
    refine t_iast (N := 985) dX11_restartWalker_47 (by decide) (by decide) rfl (by omega) ?_
    refine i_aload_n dX11_restartWalker_48 rfl ?_
    refine t_getA dX11_restartWalker_49 fX11_7.o rfl ?_
    refine i_sipush dX11_restartWalker_52 (by decide) ?_
    refine i_const dX11_restartWalker_55 ?_
    refine i_iload_n dX11_restartWalker_56 rfl ?_
    refine i_mul dX11_restartWalker_57 ?_
    refine i_add dX11_restartWalker_58 ?_
    refine i_const dX11_restartWalker_59 ?_
    refine i_add dX11_restartWalker_60 ?_
    refine i_const dX11_restartWalker_61 ?_
    refine t_iast2 (N := 985) dX11_restartWalker_62 (by decide) (by decide) rfl (by omega) ?_
    refine i_aload_n dX11_restartWalker_63 rfl ?_
    refine t_callV (As := []) dX11_restartWalker_64 cfX11_remember imX11_remember seX11_remember lX11_222 rfl rfl rfl (Nat.le_of_ble_eq_true rfl) ?_
    refine k_remember (w0 := C 0) hf1 h4 (fun V2 C2 hR2 => RK.n0 ?_)
    refine i_iload_n dX11_restartWalker_67 rfl ?_
    refine i_ireturn dX11_restartWalker_68 rfl rfl ?_
    refine hp0 (by omega) _ _ _ (mCh.of hR2 hC1 (by repeat' (first | exact sC.rfl | refine sC.cu ?_ (by decide))) (fun j _ _ => ?_) (by repeat' (first | exact sV.rfl | refine sV.vu ?_ (by decide))) rfl rfl)
    show zu (zu (C1 0) (953 + 3 * p + 1) 0) (953 + 3 * p + 2) 0 j = _
    rw [hw1]
  · -- on
    refine i_const dX11_restartWalker_9 ?_
    refine i_goto (tgt := 14) dX11_restartWalker_10 (by decide) ?_
    refine t_callV (As := [_]) dX11_restartWalker_14 cfX11_throwsOne imX11_throwsOne seX11_throwsOne lX11_209 rfl rfl rfl (Nat.le_of_ble_eq_true rfl) ?_
    refine k_throwsOne (by first | exact zb_or | omega) (RK.v ?_)
    refine i_if_eq (tgt := 22) dX11_restartWalker_17 (by decide) (by decide) (fun c17 => by omega) (fun c17 => ?_)
    refine i_const dX11_restartWalker_20 ?_
    refine i_ireturn dX11_restartWalker_21 rfl rfl ?_
    exact hp1 (by omega)
theorem k_setGate {c a b : Int} (hO : wOK (C 0)) (h4 : 0 ≤ V 4 ∧ V 4 ≤ 8) (h_c : -2147483648 ≤ c ∧ c < 2147483648) (ha : a = 0 ∨ a = 1) (hb : b = 0 ∨ b = 1) (hp1 : ¬ (0 ≤ c ∧ c ≤ 5) → P (.inl (some (.int (iI 0)))) (vu V 12 1, C, J)) (hp0 : 0 ≤ c ∧ c ≤ 5 → ∀ V' C' J', mCh V V' C C' (zu (C 0) (971 + 2 * c + a) b) (V 7) → P (.inl (some (.int (iI (zb (C 0 (971 + 2 * c + a) = 1)))))) (V', C', J')) : RM G mX11_setGate (m_I Y h0) [.ref (Y 38), .int (iI c), .int (iI a), .int (iI b)] (d + 2) 0 0 P (V, C, J) := by
  refine RM.of (L := [some (.ref (Y 38)), some (.int (iI c)), some (.int (iI a)), some (.int (iI b)), none, none]) cfX11_setGate rfl (Nat.le_of_ble_eq_true rfl) ?_
  refine i_aload_n dX11_setGate_0 rfl ?_
  refine i_iload_n dX11_setGate_1 rfl ?_
  refine t_callS (As := [_]) dX11_setGate_2 cfX11_isStreet stX11_isStreet lX11_234 rfl rfl (Nat.le_of_ble_eq_true rfl) ?_
  refine k_isStreet (by omega) (RK.v ?_)
  refine i_ifne_b (tgt := 12) dX11_setGate_5 (by decide) (fun c5 => ?_) (fun c5 => ?_)
  · -- jumps
    refine i_const dX11_setGate_12 ?_
    refine t_callV (As := [_]) dX11_setGate_13 cfX11_throwsOne imX11_throwsOne seX11_throwsOne lX11_209 rfl rfl rfl (Nat.le_of_ble_eq_true rfl) ?_
    refine k_throwsOne (by first | exact zb_or | omega) (RK.v ?_)
    refine i_if_eq (tgt := 21) dX11_setGate_16 (by decide) (by decide) (fun c16 => ?_) (fun c16 => by omega)
    refine i_aload_n dX11_setGate_21 rfl ?_
    refine t_callV (As := []) dX11_setGate_22 cfX11_begins imX11_begins seX11_begins lX11_216 rfl rfl rfl (Nat.le_of_ble_eq_true rfl) ?_
    refine k_begins (fun C1 hC1 hf1 => RK.n0 ?_)
    have hw1 : C1 0 = C 0 := hC1 0 (by decide)
    refine i_sipush dX11_setGate_25 (by decide) ?_
    refine i_const dX11_setGate_28 ?_
    refine i_iload_n dX11_setGate_29 rfl ?_
    refine i_mul dX11_setGate_30 ?_
    refine i_add dX11_setGate_31 ?_
    refine i_iload_n dX11_setGate_32 rfl ?_
    refine i_if_eq (tgt := 40) dX11_setGate_33 (by decide) (by omega) (fun c33 => ?_) (fun c33 => ?_)
    · -- jumps
      refine i_const dX11_setGate_40 ?_
      refine i_add dX11_setGate_41 ?_
      refine i_istore dX11_setGate_42 (L' := [some _, some _, some _, some _, some _, none]) (by decide) rfl ?_
      refine i_aload_n dX11_setGate_44 rfl ?_
      refine t_getA dX11_setGate_45 fX11_7.o rfl ?_
      refine i_iload dX11_setGate_48 rfl ?_
      refine t_iald (N := 985) (v := C 0 (971 + 2 * c + 0)) dX11_setGate_50 (by decide) (by decide) rfl (by omega) (congrFun hw1 _) ?_
      have b0 := hO.gate (c := c) (b := 0) (by omega) (by omega) (by omega)
      refine i_const dX11_setGate_51 ?_
      refine i_icmp_ne (tgt := 59) dX11_setGate_52 (by decide) (by omega) (by omega) (fun c52 => ?_) (fun c52 => ?_)
      · -- jumps
        refine i_const dX11_setGate_59 ?_
        refine i_istore dX11_setGate_60 (L' := [some _, some _, some _, some _, some _, some _]) (by decide) rfl ?_
        refine i_aload_n dX11_setGate_62 rfl ?_
        refine t_getA dX11_setGate_63 fX11_7.o rfl ?_
        refine i_iload dX11_setGate_66 rfl ?_
        refine i_iload_n dX11_setGate_68 rfl ?_
        refine i_if_eq (tgt := 76) dX11_setGate_69 (by decide) (by omega) (fun c69 => ?_) (fun c69 => ?_)
        · -- jumps
          refine i_const dX11_setGate_76 ?_
          refine t_iast (N := 985) dX11_setGate_77 (by decide) (by decide) rfl (by omega) ?_
          refine i_aload_n dX11_setGate_78 rfl ?_
          refine t_callV (As := []) dX11_setGate_79 cfX11_remember imX11_remember seX11_remember lX11_222 rfl rfl rfl (Nat.le_of_ble_eq_true rfl) ?_
          refine k_remember (w0 := C 0) hf1 h4 (fun V2 C2 hR2 => RK.n0 ?_)
          refine i_iload dX11_setGate_82 rfl ?_
          refine i_ireturn dX11_setGate_84 rfl rfl ?_
          obtain rfl : a = 0 := by omega
          obtain rfl : b = 0 := by omega
          have hq := hp0 (by omega)
          rw [zb_f (by omega)] at hq
          refine hq _ _ _ (mCh.of hR2 hC1 (by repeat' (first | exact sC.rfl | refine sC.cu ?_ (by decide))) (fun j _ _ => ?_) (by repeat' (first | exact sV.rfl | refine sV.vu ?_ (by decide))) rfl rfl)
          show zu (C1 0) (971 + 2 * c + 0) 0 j = _
          rw [hw1]
        · -- on
          refine i_const dX11_setGate_72 ?_
          refine i_goto (tgt := 77) dX11_setGate_73 (by decide) ?_
          refine t_iast (N := 985) dX11_setGate_77 (by decide) (by decide) rfl (by omega) ?_
          refine i_aload_n dX11_setGate_78 rfl ?_
          refine t_callV (As := []) dX11_setGate_79 cfX11_remember imX11_remember seX11_remember lX11_222 rfl rfl rfl (Nat.le_of_ble_eq_true rfl) ?_
          refine k_remember (w0 := C 0) hf1 h4 (fun V3 C3 hR3 => RK.n0 ?_)
          refine i_iload dX11_setGate_82 rfl ?_
          refine i_ireturn dX11_setGate_84 rfl rfl ?_
          obtain rfl : a = 0 := by omega
          obtain rfl : b = 1 := by omega
          have hq := hp0 (by omega)
          rw [zb_f (by omega)] at hq
          refine hq _ _ _ (mCh.of hR3 hC1 (by repeat' (first | exact sC.rfl | refine sC.cu ?_ (by decide))) (fun j _ _ => ?_) (by repeat' (first | exact sV.rfl | refine sV.vu ?_ (by decide))) rfl rfl)
          show zu (C1 0) (971 + 2 * c + 0) 1 j = _
          rw [hw1]
      · -- on
        refine i_const dX11_setGate_55 ?_
        refine i_goto (tgt := 60) dX11_setGate_56 (by decide) ?_
        refine i_istore dX11_setGate_60 (L' := [some _, some _, some _, some _, some _, some _]) (by decide) rfl ?_
        refine i_aload_n dX11_setGate_62 rfl ?_
        refine t_getA dX11_setGate_63 fX11_7.o rfl ?_
        refine i_iload dX11_setGate_66 rfl ?_
        refine i_iload_n dX11_setGate_68 rfl ?_
        refine i_if_eq (tgt := 76) dX11_setGate_69 (by decide) (by omega) (fun c69 => ?_) (fun c69 => ?_)
        · -- jumps
          refine i_const dX11_setGate_76 ?_
          refine t_iast (N := 985) dX11_setGate_77 (by decide) (by decide) rfl (by omega) ?_
          refine i_aload_n dX11_setGate_78 rfl ?_
          refine t_callV (As := []) dX11_setGate_79 cfX11_remember imX11_remember seX11_remember lX11_222 rfl rfl rfl (Nat.le_of_ble_eq_true rfl) ?_
          refine k_remember (w0 := C 0) hf1 h4 (fun V4 C4 hR4 => RK.n0 ?_)
          refine i_iload dX11_setGate_82 rfl ?_
          refine i_ireturn dX11_setGate_84 rfl rfl ?_
          obtain rfl : a = 0 := by omega
          obtain rfl : b = 0 := by omega
          have hq := hp0 (by omega)
          rw [zb_t (by omega)] at hq
          refine hq _ _ _ (mCh.of hR4 hC1 (by repeat' (first | exact sC.rfl | refine sC.cu ?_ (by decide))) (fun j _ _ => ?_) (by repeat' (first | exact sV.rfl | refine sV.vu ?_ (by decide))) rfl rfl)
          show zu (C1 0) (971 + 2 * c + 0) 0 j = _
          rw [hw1]
        · -- on
          refine i_const dX11_setGate_72 ?_
          refine i_goto (tgt := 77) dX11_setGate_73 (by decide) ?_
          refine t_iast (N := 985) dX11_setGate_77 (by decide) (by decide) rfl (by omega) ?_
          refine i_aload_n dX11_setGate_78 rfl ?_
          refine t_callV (As := []) dX11_setGate_79 cfX11_remember imX11_remember seX11_remember lX11_222 rfl rfl rfl (Nat.le_of_ble_eq_true rfl) ?_
          refine k_remember (w0 := C 0) hf1 h4 (fun V5 C5 hR5 => RK.n0 ?_)
          refine i_iload dX11_setGate_82 rfl ?_
          refine i_ireturn dX11_setGate_84 rfl rfl ?_
          obtain rfl : a = 0 := by omega
          obtain rfl : b = 1 := by omega
          have hq := hp0 (by omega)
          rw [zb_t (by omega)] at hq
          refine hq _ _ _ (mCh.of hR5 hC1 (by repeat' (first | exact sC.rfl | refine sC.cu ?_ (by decide))) (fun j _ _ => ?_) (by repeat' (first | exact sV.rfl | refine sV.vu ?_ (by decide))) rfl rfl)
          show zu (C1 0) (971 + 2 * c + 0) 1 j = _
          rw [hw1]
    · -- on
      refine i_const dX11_setGate_36 ?_
      refine i_goto (tgt := 41) dX11_setGate_37 (by decide) ?_
      refine i_add dX11_setGate_41 ?_
      refine i_istore dX11_setGate_42 (L' := [some _, some _, some _, some _, some _, none]) (by decide) rfl ?_
      refine i_aload_n dX11_setGate_44 rfl ?_
      refine t_getA dX11_setGate_45 fX11_7.o rfl ?_
      refine i_iload dX11_setGate_48 rfl ?_
      refine t_iald (N := 985) (v := C 0 (971 + 2 * c + 1)) dX11_setGate_50 (by decide) (by decide) rfl (by omega) (congrFun hw1 _) ?_
      have b0 := hO.gate (c := c) (b := 1) (by omega) (by omega) (by omega)
      refine i_const dX11_setGate_51 ?_
      refine i_icmp_ne (tgt := 59) dX11_setGate_52 (by decide) (by omega) (by omega) (fun c52 => ?_) (fun c52 => ?_)
      · -- jumps
        refine i_const dX11_setGate_59 ?_
        refine i_istore dX11_setGate_60 (L' := [some _, some _, some _, some _, some _, some _]) (by decide) rfl ?_
        refine i_aload_n dX11_setGate_62 rfl ?_
        refine t_getA dX11_setGate_63 fX11_7.o rfl ?_
        refine i_iload dX11_setGate_66 rfl ?_
        refine i_iload_n dX11_setGate_68 rfl ?_
        refine i_if_eq (tgt := 76) dX11_setGate_69 (by decide) (by omega) (fun c69 => ?_) (fun c69 => ?_)
        · -- jumps
          refine i_const dX11_setGate_76 ?_
          refine t_iast (N := 985) dX11_setGate_77 (by decide) (by decide) rfl (by omega) ?_
          refine i_aload_n dX11_setGate_78 rfl ?_
          refine t_callV (As := []) dX11_setGate_79 cfX11_remember imX11_remember seX11_remember lX11_222 rfl rfl rfl (Nat.le_of_ble_eq_true rfl) ?_
          refine k_remember (w0 := C 0) hf1 h4 (fun V6 C6 hR6 => RK.n0 ?_)
          refine i_iload dX11_setGate_82 rfl ?_
          refine i_ireturn dX11_setGate_84 rfl rfl ?_
          obtain rfl : a = 1 := by omega
          obtain rfl : b = 0 := by omega
          have hq := hp0 (by omega)
          rw [zb_f (by omega)] at hq
          refine hq _ _ _ (mCh.of hR6 hC1 (by repeat' (first | exact sC.rfl | refine sC.cu ?_ (by decide))) (fun j _ _ => ?_) (by repeat' (first | exact sV.rfl | refine sV.vu ?_ (by decide))) rfl rfl)
          show zu (C1 0) (971 + 2 * c + 1) 0 j = _
          rw [hw1]
        · -- on
          refine i_const dX11_setGate_72 ?_
          refine i_goto (tgt := 77) dX11_setGate_73 (by decide) ?_
          refine t_iast (N := 985) dX11_setGate_77 (by decide) (by decide) rfl (by omega) ?_
          refine i_aload_n dX11_setGate_78 rfl ?_
          refine t_callV (As := []) dX11_setGate_79 cfX11_remember imX11_remember seX11_remember lX11_222 rfl rfl rfl (Nat.le_of_ble_eq_true rfl) ?_
          refine k_remember (w0 := C 0) hf1 h4 (fun V7 C7 hR7 => RK.n0 ?_)
          refine i_iload dX11_setGate_82 rfl ?_
          refine i_ireturn dX11_setGate_84 rfl rfl ?_
          obtain rfl : a = 1 := by omega
          obtain rfl : b = 1 := by omega
          have hq := hp0 (by omega)
          rw [zb_f (by omega)] at hq
          refine hq _ _ _ (mCh.of hR7 hC1 (by repeat' (first | exact sC.rfl | refine sC.cu ?_ (by decide))) (fun j _ _ => ?_) (by repeat' (first | exact sV.rfl | refine sV.vu ?_ (by decide))) rfl rfl)
          show zu (C1 0) (971 + 2 * c + 1) 1 j = _
          rw [hw1]
      · -- on
        refine i_const dX11_setGate_55 ?_
        refine i_goto (tgt := 60) dX11_setGate_56 (by decide) ?_
        refine i_istore dX11_setGate_60 (L' := [some _, some _, some _, some _, some _, some _]) (by decide) rfl ?_
        refine i_aload_n dX11_setGate_62 rfl ?_
        refine t_getA dX11_setGate_63 fX11_7.o rfl ?_
        refine i_iload dX11_setGate_66 rfl ?_
        refine i_iload_n dX11_setGate_68 rfl ?_
        refine i_if_eq (tgt := 76) dX11_setGate_69 (by decide) (by omega) (fun c69 => ?_) (fun c69 => ?_)
        · -- jumps
          refine i_const dX11_setGate_76 ?_
          refine t_iast (N := 985) dX11_setGate_77 (by decide) (by decide) rfl (by omega) ?_
          refine i_aload_n dX11_setGate_78 rfl ?_
          refine t_callV (As := []) dX11_setGate_79 cfX11_remember imX11_remember seX11_remember lX11_222 rfl rfl rfl (Nat.le_of_ble_eq_true rfl) ?_
          refine k_remember (w0 := C 0) hf1 h4 (fun V8 C8 hR8 => RK.n0 ?_)
          refine i_iload dX11_setGate_82 rfl ?_
          refine i_ireturn dX11_setGate_84 rfl rfl ?_
          obtain rfl : a = 1 := by omega
          obtain rfl : b = 0 := by omega
          have hq := hp0 (by omega)
          rw [zb_t (by omega)] at hq
          refine hq _ _ _ (mCh.of hR8 hC1 (by repeat' (first | exact sC.rfl | refine sC.cu ?_ (by decide))) (fun j _ _ => ?_) (by repeat' (first | exact sV.rfl | refine sV.vu ?_ (by decide))) rfl rfl)
          show zu (C1 0) (971 + 2 * c + 1) 0 j = _
          rw [hw1]
        · -- on
          refine i_const dX11_setGate_72 ?_
          refine i_goto (tgt := 77) dX11_setGate_73 (by decide) ?_
          refine t_iast (N := 985) dX11_setGate_77 (by decide) (by decide) rfl (by omega) ?_
          refine i_aload_n dX11_setGate_78 rfl ?_
          refine t_callV (As := []) dX11_setGate_79 cfX11_remember imX11_remember seX11_remember lX11_222 rfl rfl rfl (Nat.le_of_ble_eq_true rfl) ?_
          refine k_remember (w0 := C 0) hf1 h4 (fun V9 C9 hR9 => RK.n0 ?_)
          refine i_iload dX11_setGate_82 rfl ?_
          refine i_ireturn dX11_setGate_84 rfl rfl ?_
          obtain rfl : a = 1 := by omega
          obtain rfl : b = 1 := by omega
          have hq := hp0 (by omega)
          rw [zb_t (by omega)] at hq
          refine hq _ _ _ (mCh.of hR9 hC1 (by repeat' (first | exact sC.rfl | refine sC.cu ?_ (by decide))) (fun j _ _ => ?_) (by repeat' (first | exact sV.rfl | refine sV.vu ?_ (by decide))) rfl rfl)
          show zu (C1 0) (971 + 2 * c + 1) 1 j = _
          rw [hw1]
  · -- on
    refine i_const dX11_setGate_8 ?_
    refine i_goto (tgt := 13) dX11_setGate_9 (by decide) ?_
    refine t_callV (As := [_]) dX11_setGate_13 cfX11_throwsOne imX11_throwsOne seX11_throwsOne lX11_209 rfl rfl rfl (Nat.le_of_ble_eq_true rfl) ?_
    refine k_throwsOne (by first | exact zb_or | omega) (RK.v ?_)
    refine i_if_eq (tgt := 21) dX11_setGate_16 (by decide) (by decide) (fun c16 => by omega) (fun c16 => ?_)
    refine i_const dX11_setGate_19 ?_
    refine i_ireturn dX11_setGate_20 rfl rfl ?_
    exact hp1 (by omega)
end M12
