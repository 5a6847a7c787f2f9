/-! ===== the reference: rows copied, small public calls ===== -/
theorem if_cg {α : Type} {c d : Prop} [Decidable c] [Decidable d] {x y : α} (h : c ↔ d) : (if c then x else y) = if d then x else y := by
  by_cases q : c
  · rw [if_pos q, if_pos (h.mp q)]
  · rw [if_neg q, if_neg (fun z => q (h.mpr z))]
def m_sc : List Nat := [1, 13, 14, 15, 16, 17, 18, 19, 23, 24, 25, 26, 30, 37]
def m_sv : List Nat := [12, 20, 21, 22, 27, 28, 31, 32, 33, 34, 35, 36]
section M10
variable {G : p_G} {Y : Nat → Nat} {h0 : p_H} {P : (Option Value) ⊕ String → m_X → Prop} {d : Nat} {V : Nat → Int} {C : Nat → Int → Int} {J : Int → Int}
theorem k_begins_l   (kk : ∀ C', sC [1] C C' → (∀ j, C' 1 j = if 0 ≤ j ∧ j < 985 then C 0 j else C 1 j) → RW G mX11_begins (m_I Y h0) P (d) 0 0 27 [some (.ref (Y 38)), some (.int (iI 985))] [] (V, C', J)) : ∀ (zz : Nat) (k : Int) (C' : Nat → Int → Int), zz = (985 - k).toNat → 0 ≤ k → k ≤ 985 → (sC [1] C C' ∧ ∀ j, C' 1 j = if 0 ≤ j ∧ j < k then C 0 j else C 1 j) → RW G mX11_begins (m_I Y h0) P (d) 0 0 2 [some (.ref (Y 38)), some (.int (iI k))] [] (V, C', J) := by
  intro zz
  induction zz using Nat.strongRecOn with
  | _ zz ih =>
    intro k C' hzz h1 h2 hI
    have hw0 : C' 0 = C 0 := hI.1 0 (by decide)
    refine i_iload_n dX11_begins_2 rfl ?_
    refine i_sipush dX11_begins_3 (by decide) ?_
    refine i_icmp_ge (tgt := 27) dX11_begins_6 (by decide) (by omega) (by omega) (fun c6 => ?_) (fun c6 => ?_)
    · -- jumps
      obtain rfl : k = 985 := by omega
      exact kk _ hI.1 hI.2
    · -- on
      refine i_aload_n dX11_begins_9 rfl ?_
      refine t_getA dX11_begins_10 fX11_13.o rfl ?_
      refine i_iload_n dX11_begins_13 rfl ?_
      refine i_aload_n dX11_begins_14 rfl ?_
      refine t_getA dX11_begins_15 fX11_7.o rfl ?_
      refine i_iload_n dX11_begins_18 rfl ?_
      refine t_iald (N := 985) (v := C 0 k) dX11_begins_19 (by decide) (by decide) rfl (by omega) (congrFun hw0 _) ?_
      refine t_iast (N := 985) dX11_begins_20 (by decide) (by decide) rfl (by omega) ?_
      refine i_iinc dX11_begins_21 rfl (L' := [some _, some _]) (by decide) rfl ?_
      refine i_goto (tgt := 2) dX11_begins_24 (by decide) ?_
      refine ih _ ?_ (k + 1) _ rfl (by omega) (by omega) ⟨hI.1.cu (by decide), fun j => ?_⟩
      · omega
      show zu _ _ _ j = _
      unfold zu
      by_cases e : j = k
      · rw [if_pos (by omega), if_pos (by omega)]
        exact congrArg (C 0) (by omega)
      · rw [if_neg (by omega), hI.2 j]
        exact if_cg (by omega)
theorem k_takesBack_l   (kk : ∀ C', sC [0] C C' → (∀ j, C' 0 j = if 0 ≤ j ∧ j < 985 then C 1 j else C 0 j) → RW G mX11_takesBack (m_I Y h0) P (d) 0 0 27 [some (.ref (Y 38)), some (.int (iI 985))] [] (V, C', J)) : ∀ (zz : Nat) (k : Int) (C' : Nat → Int → Int), zz = (985 - k).toNat → 0 ≤ k → k ≤ 985 → (sC [0] C C' ∧ ∀ j, C' 0 j = if 0 ≤ j ∧ j < k then C 1 j else C 0 j) → RW G mX11_takesBack (m_I Y h0) P (d) 0 0 2 [some (.ref (Y 38)), some (.int (iI k))] [] (V, C', J) := by
  intro zz
  induction zz using Nat.strongRecOn with
  | _ zz ih =>
    intro k C' hzz h1 h2 hI
    refine i_iload_n dX11_takesBack_2 rfl ?_
    refine i_sipush dX11_takesBack_3 (by decide) ?_
    refine i_icmp_ge (tgt := 27) dX11_takesBack_6 (by decide) (by omega) (by omega) (fun c6 => ?_) (fun c6 => ?_)
    · -- jumps
      obtain rfl : k = 985 := by omega
      exact kk _ hI.1 hI.2
    · -- on
      refine i_aload_n dX11_takesBack_9 rfl ?_
      refine t_getA dX11_takesBack_10 fX11_7.o rfl ?_
      refine i_iload_n dX11_takesBack_13 rfl ?_
      refine i_aload_n dX11_takesBack_14 rfl ?_
      refine t_getA dX11_takesBack_15 fX11_13.o rfl ?_
      refine i_iload_n dX11_takesBack_18 rfl ?_
      refine t_iald (N := 985) dX11_takesBack_19 (by decide) (by decide) rfl (by omega) rfl ?_
      refine t_iast (N := 985) dX11_takesBack_20 (by decide) (by decide) rfl (by omega) ?_
      refine i_iinc dX11_takesBack_21 rfl (L' := [some _, some _]) (by decide) rfl ?_
      refine i_goto (tgt := 2) dX11_takesBack_24 (by decide) ?_
      refine ih _ ?_ (k + 1) _ rfl (by omega) (by omega) ⟨hI.1.cu (by decide), fun j => ?_⟩
      · omega
      show zu _ _ _ j = _
      unfold zu
      by_cases e : j = k
      · rw [if_pos (by omega), if_pos (by omega)]
        exact (congrFun (hI.1 1 (by decide)) k).trans (congrArg (C 1) (by omega))
      · rw [if_neg (by omega), hI.2 j]
        exact if_cg (by omega)
theorem k_clears_l {s : Int} (hs : s = 0 ∨ s = 1) (kk : ∀ C', sC [0] C C' → (∀ j, C' 0 j = if 476 * s + 0 ≤ j ∧ j < 476 * s + 476 then 0 else C 0 j) → RW G mX11_clears (m_I Y h0) P (d + 1) 0 0 22 [some (.ref (Y 38)), some (.int (iI s)), some (.int (iI 476))] [] (V, C', J)) : ∀ (zz : Nat) (k : Int) (C' : Nat → Int → Int), zz = (476 - k).toNat → 0 ≤ k → k ≤ 476 → (sC [0] C C' ∧ ∀ j, C' 0 j = if 476 * s + 0 ≤ j ∧ j < 476 * s + k then 0 else C 0 j) → RW G mX11_clears (m_I Y h0) P (d + 1) 0 0 2 [some (.ref (Y 38)), some (.int (iI s)), some (.int (iI k))] [] (V, C', J) := by
  intro zz
  induction zz using Nat.strongRecOn with
  | _ zz ih =>
    intro k C' hzz h1 h2 hI
    refine i_iload_n dX11_clears_2 rfl ?_
    refine i_sipush dX11_clears_3 (by decide) ?_
    refine i_icmp_ge (tgt := 22) dX11_clears_6 (by decide) (by omega) (by omega) (fun c6 => ?_) (fun c6 => ?_)
    · -- jumps
      obtain rfl : k = 476 := by omega
      exact kk _ hI.1 hI.2
    · -- on
      refine i_aload_n dX11_clears_9 rfl ?_
      refine i_iload_n dX11_clears_10 rfl ?_
      refine i_iload_n dX11_clears_11 rfl ?_
      refine i_const dX11_clears_12 ?_
      refine t_callV (As := [_, _, _]) dX11_clears_13 cfX11_to imX11_to seX11_to lX11_172 rfl rfl rfl (Nat.le_of_ble_eq_true rfl) ?_
      refine k_to (by omega) (RK.n0 ?_)
      refine i_iinc dX11_clears_16 rfl (L' := [some _, some _, some _]) (by decide) rfl ?_
      refine i_goto (tgt := 2) dX11_clears_19 (by decide) ?_
      refine ih _ ?_ (k + 1) _ rfl (by omega) (by omega) ⟨hI.1.cu (by decide), fun j => ?_⟩
      · omega
      show zu _ _ _ j = _
      unfold zu
      by_cases e : j = 476 * s + k
      · rw [if_pos (by omega), if_pos (by omega)]
      · rw [if_neg (by omega), hI.2 j]
        exact if_cg (by omega)
theorem k_undo_l  (hV : 0 ≤ V 4 ∧ V 4 < 8) (kk : ∀ C', sC [0] C C' → (∀ j, C' 0 j = if 0 ≤ j ∧ j < 985 then C 2 (985 * V 4 + j) else C 0 j) → RW G mX11_undo (m_I Y h0) P (d) 0 0 60 [some (.ref (Y 38)), some (.int (iI 985))] [] (V, C', J)) : ∀ (zz : Nat) (k : Int) (C' : Nat → Int → Int), zz = (985 - k).toNat → 0 ≤ k → k ≤ 985 → (sC [0] C C' ∧ ∀ j, C' 0 j = if 0 ≤ j ∧ j < k then C 2 (985 * V 4 + j) else C 0 j) → RW G mX11_undo (m_I Y h0) P (d) 0 0 26 [some (.ref (Y 38)), some (.int (iI k))] [] (V, C', J) := by
  intro zz
  induction zz using Nat.strongRecOn with
  | _ zz ih =>
    intro k C' hzz h1 h2 hI
    refine i_iload_n dX11_undo_26 rfl ?_
    refine i_sipush dX11_undo_27 (by decide) ?_
    refine i_icmp_ge (tgt := 60) dX11_undo_30 (by decide) (by omega) (by omega) (fun c30 => ?_) (fun c30 => ?_)
    · -- jumps
      obtain rfl : k = 985 := by omega
      exact kk _ hI.1 hI.2
    · -- on
      refine i_aload_n dX11_undo_33 rfl ?_
      refine t_getA dX11_undo_34 fX11_7.o rfl ?_
      refine i_iload_n dX11_undo_37 rfl ?_
      refine i_aload_n dX11_undo_38 rfl ?_
      refine t_getA dX11_undo_39 fX11_16.o rfl ?_
      refine i_sipush dX11_undo_42 (by decide) ?_
      refine i_aload_n dX11_undo_45 rfl ?_
      refine t_getI dX11_undo_46 fX11_213 (by decide) rfl ?_
      refine i_mul dX11_undo_49 ?_
      refine i_iload_n dX11_undo_50 rfl ?_
      refine i_add dX11_undo_51 ?_
      refine t_iald (N := 7880) dX11_undo_52 (by decide) (by decide) rfl (by omega) rfl ?_
      refine t_iast (N := 985) dX11_undo_53 (by decide) (by decide) rfl (by omega) ?_
      refine i_iinc dX11_undo_54 rfl (L' := [some _, some _]) (by decide) rfl ?_
      refine i_goto (tgt := 26) dX11_undo_57 (by decide) ?_
      refine ih _ ?_ (k + 1) _ rfl (by omega) (by omega) ⟨hI.1.cu (by decide), fun j => ?_⟩
      · omega
      show zu _ _ _ j = _
      unfold zu
      by_cases e : j = k
      · rw [if_pos (by omega), if_pos (by omega)]
        exact (congrFun (hI.1 2 (by decide)) _).trans (congrArg (C 2) (by omega))
      · rw [if_neg (by omega), hI.2 j]
        exact if_cg (by omega)
theorem k_save_l   (kk : ∀ C', sC [3] C C' → (∀ j, C' 3 j = if 0 ≤ j ∧ j < 985 then C 0 j else C 3 j) → RW G mX11_saveSnapshot (m_I Y h0) P (d) 0 0 37 [some (.ref (Y 38)), some (.int (iI 985))] [] (V, C', J)) : ∀ (zz : Nat) (k : Int) (C' : Nat → Int → Int), zz = (985 - k).toNat → 0 ≤ k → k ≤ 985 → (sC [3] C C' ∧ ∀ j, C' 3 j = if 0 ≤ j ∧ j < k then C 0 j else C 3 j) → RW G mX11_saveSnapshot (m_I Y h0) P (d) 0 0 12 [some (.ref (Y 38)), some (.int (iI k))] [] (V, C', J) := by
  intro zz
  induction zz using Nat.strongRecOn with
  | _ zz ih =>
    intro k C' hzz h1 h2 hI
    have hw0 : C' 0 = C 0 := hI.1 0 (by decide)
    refine i_iload_n dX11_saveSnapshot_12 rfl ?_
    refine i_sipush dX11_saveSnapshot_13 (by decide) ?_
    refine i_icmp_ge (tgt := 37) dX11_saveSnapshot_16 (by decide) (by omega) (by omega) (fun c16 => ?_) (fun c16 => ?_)
    · -- jumps
      obtain rfl : k = 985 := by omega
      exact kk _ hI.1 hI.2
    · -- on
      refine i_aload_n dX11_saveSnapshot_19 rfl ?_
      refine t_getA dX11_saveSnapshot_20 fX11_19.o rfl ?_
      refine i_iload_n dX11_saveSnapshot_23 rfl ?_
      refine i_aload_n dX11_saveSnapshot_24 rfl ?_
      refine t_getA dX11_saveSnapshot_25 fX11_7.o rfl ?_
      refine i_iload_n dX11_saveSnapshot_28 rfl ?_
      refine t_iald (N := 985) (v := C 0 k) dX11_saveSnapshot_29 (by decide) (by decide) rfl (by omega) (congrFun hw0 _) ?_
      refine t_iast (N := 985) dX11_saveSnapshot_30 (by decide) (by decide) rfl (by omega) ?_
      refine i_iinc dX11_saveSnapshot_31 rfl (L' := [some _, some _]) (by decide) rfl ?_
      refine i_goto (tgt := 12) dX11_saveSnapshot_34 (by decide) ?_
      refine ih _ ?_ (k + 1) _ rfl (by omega) (by omega) ⟨hI.1.cu (by decide), fun j => ?_⟩
      · omega
      show zu _ _ _ j = _
      unfold zu
      by_cases e : j = k
      · rw [if_pos (by omega), if_pos (by omega)]
        exact congrArg (C 0) (by omega)
      · rw [if_neg (by omega), hI.2 j]
        exact if_cg (by omega)
theorem k_rest_l   (kk : ∀ C', sC [0] C C' → (∀ j, C' 0 j = if 0 ≤ j ∧ j < 985 then C 3 j else C 0 j) → RW G mX11_restoreSnapshot (m_I Y h0) P (d) 0 0 48 [some (.ref (Y 38)), some (.int (iI 985))] [] (V, C', J)) : ∀ (zz : Nat) (k : Int) (C' : Nat → Int → Int), zz = (985 - k).toNat → 0 ≤ k → k ≤ 985 → (sC [0] C C' ∧ ∀ j, C' 0 j = if 0 ≤ j ∧ j < k then C 3 j else C 0 j) → RW G mX11_restoreSnapshot (m_I Y h0) P (d) 0 0 23 [some (.ref (Y 38)), some (.int (iI k))] [] (V, C', J) := by
  intro zz
  induction zz using Nat.strongRecOn with
  | _ zz ih =>
    intro k C' hzz h1 h2 hI
    refine i_iload_n dX11_restoreSnapshot_23 rfl ?_
    refine i_sipush dX11_restoreSnapshot_24 (by decide) ?_
    refine i_icmp_ge (tgt := 48) dX11_restoreSnapshot_27 (by decide) (by omega) (by omega) (fun c27 => ?_) (fun c27 => ?_)
    · -- jumps
      obtain rfl : k = 985 := by omega
      exact kk _ hI.1 hI.2
    · -- on
      refine i_aload_n dX11_restoreSnapshot_30 rfl ?_
      refine t_getA dX11_restoreSnapshot_31 fX11_7.o rfl ?_
      refine i_iload_n dX11_restoreSnapshot_34 rfl ?_
      refine i_aload_n dX11_restoreSnapshot_35 rfl ?_
      refine t_getA dX11_restoreSnapshot_36 fX11_19.o rfl ?_
      refine i_iload_n dX11_restoreSnapshot_39 rfl ?_
      refine t_iald (N := 985) dX11_restoreSnapshot_40 (by decide) (by decide) rfl (by omega) rfl ?_
      refine t_iast (N := 985) dX11_restoreSnapshot_41 (by decide) (by decide) rfl (by omega) ?_
      refine i_iinc dX11_restoreSnapshot_42 rfl (L' := [some _, some _]) (by decide) rfl ?_
      refine i_goto (tgt := 23) dX11_restoreSnapshot_45 (by decide) ?_
      refine ih _ ?_ (k + 1) _ rfl (by omega) (by omega) ⟨hI.1.cu (by decide), fun j => ?_⟩
      · omega
      show zu _ _ _ j = _
      unfold zu
      by_cases e : j = k
      · rw [if_pos (by omega), if_pos (by omega)]
        exact (congrFun (hI.1 3 (by decide)) k).trans (congrArg (C 3) (by omega))
      · rw [if_neg (by omega), hI.2 j]
        exact if_cg (by omega)
theorem k_rem_l2  (hV : 0 ≤ V 4 ∧ V 4 < 8) (kk : ∀ C', sC [2] C C' → (∀ j, C' 2 j = if 985 * V 4 + 0 ≤ j ∧ j < 985 * V 4 + 985 then C 1 (j - 985 * V 4) else C 2 j) → RW G mX11_remember (m_I Y h0) P (d) 0 0 88 [some (.ref (Y 38)), some (.int (iI 985))] [] (V, C', J)) : ∀ (zz : Nat) (k : Int) (C' : Nat → Int → Int), zz = (985 - k).toNat → 0 ≤ k → k ≤ 985 → (sC [2] C C' ∧ ∀ j, C' 2 j = if 985 * V 4 + 0 ≤ j ∧ j < 985 * V 4 + k then C 1 (j - 985 * V 4) else C 2 j) → RW G mX11_remember (m_I Y h0) P (d) 0 0 54 [some (.ref (Y 38)), some (.int (iI k))] [] (V, C', J) := by
  intro zz
  induction zz using Nat.strongRecOn with
  | _ zz ih =>
    intro k C' hzz h1 h2 hI
    have hw0 : C' 0 = C 0 := hI.1 0 (by decide)
    refine i_iload_n dX11_remember_54 rfl ?_
    refine i_sipush dX11_remember_55 (by decide) ?_
    refine i_icmp_ge (tgt := 88) dX11_remember_58 (by decide) (by omega) (by omega) (fun c58 => ?_) (fun c58 => ?_)
    · -- jumps
      obtain rfl : k = 985 := by omega
      exact kk _ hI.1 hI.2
    · -- on
      refine i_aload_n dX11_remember_61 rfl ?_
      refine t_getA dX11_remember_62 fX11_16.o rfl ?_
      refine i_sipush dX11_remember_65 (by decide) ?_
      refine i_aload_n dX11_remember_68 rfl ?_
      refine t_getI dX11_remember_69 fX11_213 (by decide) rfl ?_
      refine i_mul dX11_remember_72 ?_
      refine i_iload_n dX11_remember_73 rfl ?_
      refine i_add dX11_remember_74 ?_
      refine i_aload_n dX11_remember_75 rfl ?_
      refine t_getA dX11_remember_76 fX11_13.o rfl ?_
      refine i_iload_n dX11_remember_79 rfl ?_
      refine t_iald (N := 985) dX11_remember_80 (by decide) (by decide) rfl (by omega) rfl ?_
      refine t_iast (N := 7880) dX11_remember_81 (by decide) (by decide) rfl (by omega) ?_
      refine i_iinc dX11_remember_82 rfl (L' := [some _, some _]) (by decide) rfl ?_
      refine i_goto (tgt := 54) dX11_remember_85 (by decide) ?_
      refine ih _ ?_ (k + 1) _ rfl (by omega) (by omega) ⟨hI.1.cu (by decide), fun j => ?_⟩
      · omega
      show zu _ _ _ j = _
      unfold zu
      by_cases e : j = 985 * V 4 + k
      · rw [if_pos (by omega), if_pos (by omega)]
        exact (congrFun (hI.1 1 (by decide)) _).trans (congrArg (C 1) (by omega))
      · rw [if_neg (by omega), hI.2 j]
        exact if_cg (by omega)
theorem RW.gen {G : p_G} {M : p_M} {I : m_X → p_H → Prop} {P : (Option Value) ⊕ String → m_X → Prop} {d k n pc : Nat} {L : p_LL} {st : List Value} {V : Nat → Int} {C : Nat → Int → Int} {J : Int → Int} (kk : ∀ V1, V1 = V → ∀ C1, C1 = C → ∀ J1, J1 = J → RW G M I P d k n pc L st (V1, C1, J1)) : RW G M I P d k n pc L st (V, C, J) := kk V rfl C rfl J rfl
theorem k_begins  (hp : ∀ C', sC [1] C C' → (∀ j, 0 ≤ j → j < 985 → C' 1 j = C 0 j) → P (.inl none) (V, C', J)) : RM G mX11_begins (m_I Y h0) [.ref (Y 38)] (d) 0 0 P (V, C, J) := by
  refine RM.of (L := [some (.ref (Y 38)), none]) cfX11_begins rfl (Nat.le_of_ble_eq_true rfl) ?_
  refine i_const dX11_begins_0 ?_
  refine i_istore_n dX11_begins_1 (L' := [some _, some _]) (by decide) rfl ?_
  refine k_begins_l  (fun C1 hC1 hf1 => ?_) _ 0 _ rfl (by omega) (by omega) ⟨sC.rfl, fun j => (if_neg (by omega)).symm⟩
  refine i_return dX11_begins_27 rfl ?_
  exact hp _ hC1 (fun j a b => (hf1 j).trans (if_pos ⟨a, b⟩))
theorem k_takesBack  (hp : ∀ C', sC [0] C C' → (∀ j, 0 ≤ j → j < 985 → C' 0 j = C 1 j) → P (.inl none) (V, C', J)) : RM G mX11_takesBack (m_I Y h0) [.ref (Y 38)] (d) 0 0 P (V, C, J) := by
  refine RM.of (L := [some (.ref (Y 38)), none]) cfX11_takesBack rfl (Nat.le_of_ble_eq_true rfl) ?_
  refine i_const dX11_takesBack_0 ?_
  refine i_istore_n dX11_takesBack_1 (L' := [some _, some _]) (by decide) rfl ?_
  refine k_takesBack_l  (fun C1 hC1 hf1 => ?_) _ 0 _ rfl (by omega) (by omega) ⟨sC.rfl, fun j => (if_neg (by omega)).symm⟩
  refine i_return dX11_takesBack_27 rfl ?_
  exact hp _ hC1 (fun j a b => (hf1 j).trans (if_pos ⟨a, b⟩))
theorem k_clears {s : Int} (hs : s = 0 ∨ s = 1) (hp : ∀ C', sC [0] C C' → (∀ j, C' 0 j = if 476 * s + 0 ≤ j ∧ j < 476 * s + 476 then 0 else C 0 j) → P (.inl none) (V, C', J)) : RM G mX11_clears (m_I Y h0) [.ref (Y 38), .int (iI s)] (d + 1) 0 0 P (V, C, J) := by
  refine RM.of (L := [some (.ref (Y 38)), some (.int (iI s)), none]) cfX11_clears rfl (Nat.le_of_ble_eq_true rfl) ?_
  refine i_const dX11_clears_0 ?_
  refine i_istore_n dX11_clears_1 (L' := [some _, some _, some _]) (by decide) rfl ?_
  refine k_clears_l hs (fun C1 hC1 hf1 => ?_) _ 0 _ rfl (by omega) (by omega) ⟨sC.rfl, fun j => (if_neg (by omega)).symm⟩
  refine i_return dX11_clears_22 rfl ?_
  exact hp _ hC1 hf1
/-- a world is put behind those remembered, of eight the oldest is lost -/
def mRem (V V' : Nat → Int) (C C' : Nat → Int → Int) (w0 : Int → Int) : Prop := sV [4] V V' ∧ sC [2] C C' ∧ V' 4 = (if V 4 = 8 then 7 else V 4) + 1 ∧ (∀ i j, 0 ≤ i → i < V' 4 - 1 → 0 ≤ j → j < 985 → C' 2 (985 * i + j) = C 2 (985 * (if V 4 = 8 then i + 1 else i) + j)) ∧ ∀ j, 0 ≤ j → j < 985 → C' 2 (985 * (V' 4 - 1) + j) = w0 j
theorem k_rem_l1 (kk : ∀ C', sC [2] C C' → (∀ j, C' 2 j = if 0 ≤ j ∧ j < 7880 - 985 then C 2 (j + 985) else C 2 j) → RW G mX11_remember (m_I Y h0) P d 0 0 42 [some (.ref (Y 38)), some (.int (iI 7880))] [] (V, C', J)) : ∀ (n : Nat) (k : Int) (C' : Nat → Int → Int), n = (7880 - k).toNat → 985 ≤ k → k ≤ 7880 → (sC [2] C C' ∧ ∀ j, C' 2 j = if 0 ≤ j ∧ j < k - 985 then C 2 (j + 985) else C 2 j) → RW G mX11_remember (m_I Y h0) P d 0 0 13 [some (.ref (Y 38)), some (.int (iI k))] [] (V, C', J) := by
  intro n
  induction n using Nat.strongRecOn with
  | _ n ih =>
    intro k C' hn h1 h2 hI
    refine i_iload_n dX11_remember_13 rfl ?_
    refine i_sipush dX11_remember_14 (by decide) ?_
    refine i_icmp_ge (tgt := 42) dX11_remember_17 (by decide) (by omega) (by omega) (fun c17 => ?_) (fun c17 => ?_)
    · -- jumps
      obtain rfl : k = 7880 := by omega
      exact kk _ hI.1 hI.2
    · -- on
      refine i_aload_n dX11_remember_20 rfl ?_
      refine t_getA dX11_remember_21 fX11_16.o rfl ?_
      refine i_iload_n dX11_remember_24 rfl ?_
      refine i_sipush dX11_remember_25 (by decide) ?_
      refine i_sub dX11_remember_28 ?_
      refine i_aload_n dX11_remember_29 rfl ?_
      refine t_getA dX11_remember_30 fX11_16.o rfl ?_
      refine i_iload_n dX11_remember_33 rfl ?_
      refine t_iald (N := 7880) dX11_remember_34 (by decide) (by decide) rfl (by omega) rfl ?_
      refine t_iast (N := 7880) dX11_remember_35 (by decide) (by decide) rfl (by omega) ?_
      refine i_iinc dX11_remember_36 rfl (L' := [some _, some _]) (by decide) rfl ?_
      refine i_goto (tgt := 13) dX11_remember_39 (by decide) ?_
      refine ih _ ?_ (k + 1) _ rfl (by omega) (by omega) ⟨hI.1.cu (by decide), fun j => ?_⟩
      · omega
      show zu _ _ _ j = _
      unfold zu
      by_cases e : j = k - 985
      · rw [if_pos (by omega), if_pos (by omega), hI.2 k, if_neg (by omega)]
        exact congrArg (C 2) (by omega)
      · rw [if_neg (by omega), hI.2 j]
        exact if_cg (by omega)
theorem k_remember {w0 : Int → Int} (hb : ∀ j, 0 ≤ j → j < 985 → C 1 j = w0 j) (h4 : 0 ≤ V 4 ∧ V 4 ≤ 8) (hp : ∀ V' C', mRem V V' C C' w0 → P (.inl none) (V', C', J)) : RM G mX11_remember (m_I Y h0) [.ref (Y 38)] (d) 0 0 P (V, C, J) := by
  refine RM.of (L := [some (.ref (Y 38)), none]) cfX11_remember rfl (Nat.le_of_ble_eq_true rfl) ?_
  refine i_aload_n dX11_remember_0 rfl ?_
  refine t_getI dX11_remember_1 fX11_213 (by decide) rfl ?_
  refine i_bipush dX11_remember_4 (by decide) ?_
  refine i_icmp_ne (tgt := 52) dX11_remember_6 (by decide) (by omega) (by omega) (fun c6 => ?_) (fun c6 => ?_)
  · -- jumps
    refine i_const dX11_remember_52 ?_
    refine i_istore_n dX11_remember_53 (L' := [some _, some _]) (by decide) rfl ?_
    refine k_rem_l2 (by omega) (fun C1 hC1 hf1 => ?_) _ 0 _ rfl (by omega) (by omega) ⟨sC.rfl, fun j => (if_neg (by omega)).symm⟩
    refine i_aload_n dX11_remember_88 rfl ?_
    refine i_dup dX11_remember_89 rfl ?_
    refine t_getI dX11_remember_90 fX11_213 (by decide) rfl ?_
    refine i_const dX11_remember_93 ?_
    refine i_add dX11_remember_94 ?_
    refine t_put dX11_remember_95 fX11_213 (by decide) rfl rfl ?_
    refine i_return dX11_remember_98 rfl ?_
    refine hp _ _ ⟨sV.rfl.vu (by decide), hC1, ?_, fun i j i0 i1 j0 j1 => ?_, fun j j0 j1 => ?_⟩
    · show V 4 + 1 = _; rw [if_neg (by omega)]
    · change i < V 4 + 1 - 1 at i1; rw [hf1, if_neg (by omega), if_neg (by omega)]
    · show C1 2 (985 * (V 4 + 1 - 1) + j) = _; rw [hf1, if_pos (by omega)]; exact (congrArg (C 1) (by omega)).trans (hb j j0 j1)
  · -- on
    refine i_sipush dX11_remember_9 (by decide) ?_
    refine i_istore_n dX11_remember_12 (L' := [some _, some _]) (by decide) rfl ?_
    refine k_rem_l1 (fun C2 hC2 hf2 => ?_) _ 985 _ rfl (by omega) (by omega) ⟨sC.rfl, fun j => (if_neg (by omega)).symm⟩
    refine i_aload_n dX11_remember_42 rfl ?_
    refine i_dup dX11_remember_43 rfl ?_
    refine t_getI dX11_remember_44 fX11_213 (by decide) rfl ?_
    refine i_const dX11_remember_47 ?_
    refine i_sub dX11_remember_48 ?_
    refine t_put dX11_remember_49 fX11_213 (by decide) rfl rfl ?_
    refine i_const dX11_remember_52 ?_
    refine i_istore_n dX11_remember_53 (L' := [some _, some _]) (by decide) rfl ?_
    refine RW.gen (fun V3 hV3 C3 hC3 J3 hJ3 => ?_)
    have sv3 : sV [4] V V3 := by rw [hV3]; repeat' (first | exact sV.rfl | refine sV.vu ?_ (by decide))
    have v3_4 : V3 4 = V 4 - 1 := by rw [hV3]; rfl
    have sc3 : sC [] (C2) C3 := by rw [hC3]; repeat' (first | exact sC.rfl | refine sC.cu ?_ (by decide))
    subst hJ3
    clear hV3 hC3
    refine k_rem_l2 (by omega) (fun C4 hC4 hf4 => ?_) _ 0 _ rfl (by omega) (by omega) ⟨sC.rfl, fun j => (if_neg (by omega)).symm⟩
    refine i_aload_n dX11_remember_88 rfl ?_
    refine i_dup dX11_remember_89 rfl ?_
    refine t_getI dX11_remember_90 fX11_213 (by decide) rfl ?_
    refine i_const dX11_remember_93 ?_
    refine i_add dX11_remember_94 ?_
    refine t_put dX11_remember_95 fX11_213 (by decide) rfl rfl ?_
    refine i_return dX11_remember_98 rfl ?_
    refine hp _ _ ⟨(sv3.tr (T := [4]) (sV.rfl.vu (by decide)) (fun _ z => z)), (hC2.t2 (sc3.t2 (U := [2]) hC4 (by decide) (by decide)) (by decide) (by decide)), ?_, fun i j i0 i1 j0 j1 => ?_, fun j j0 j1 => ?_⟩
    · show V3 4 + 1 = _; rw [if_pos (by omega)]; omega
    · change i < V3 4 + 1 - 1 at i1; rw [hf4, if_neg (by omega), if_pos (by omega), congrFun (sc3 2 (by decide)) _, hf2, if_pos (by omega)]; exact congrArg (C 2) (by omega)
    · show C4 2 (985 * (V3 4 + 1 - 1) + j) = _; rw [hf4, if_pos (by omega), congrFun (sc3 1 (by decide)) _, congrFun (hC2 1 (by decide)) _]; exact (congrArg (C 1) (by omega)).trans (hb j j0 j1)
end M10
