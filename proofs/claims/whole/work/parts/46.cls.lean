/-! ===== the class: states sorted; the street to a word ===== -/
/-- two states seem equal to the classes F -/
def zSm (w : Int → Int) (s : Int) (F : Int → Int) (a b : Int) : Prop := F a = F b ∧ (wAcc w s a ↔ wAcc w s b) ∧ ∀ c, 0 ≤ c → c < 6 → F (w (476 * s + (116 + 6 * a + c))) = F (w (476 * s + (116 + 6 * b + c)))
section C46
variable {G : p_G} {Y : Nat → Nat} {h0 : p_H} {P : (Option Value) ⊕ String → c_X → Prop} {d : Nat} {V : Nat → Int} {C : Nat → Int → Int} {J : c_J}
variable {a : Nat} {p : c_P} {w : Int → Int} {s : Int}
theorem q_classOf {t : Int} (ht : 0 ≤ t ∧ t < 60) (hp : P (.inl (some (.int (iI (C 19 t))))) (V, C, J)) : RM G mX7_classOf (c_I Y h0) [.ref (Y 18), .int (iI t)] (d + 1) 0 0 P (V, C, J) := by
  refine RM.of (L := [some (.ref (Y 18)), some (.int (iI t))]) cfX7_classOf rfl (Nat.le_of_ble_eq_true rfl) ?_
  refine i_iload_n dX7_classOf_0 rfl ?_
  refine i_aload_n dX7_classOf_1 rfl ?_
  refine u_get (i := 18) (vv := .ref (Y (19))) dX7_classOf_2 fX7_9.o (by decide) rfl rfl ?_
  refine u_alen (N := 60) dX7_classOf_5 (by decide) rfl (by decide) rfl ?_
  refine i_callSN (mc := 0) (ms := 0) (As := [_, _]) dX7_classOf_6 cfX10_isIndex stX10_isIndex lX7_25 rfl rfl (Nat.le_of_ble_eq_true rfl) (Nat.zero_add _).symm (Nat.zero_add _).symm ?_
  refine q_isIndex (by omega) (by omega) (RKN.v ?_)
  refine i_ifeq_b (tgt := 21) dX7_classOf_9 (by decide) (fun c9 => ?_) (fun c9 => ?_)
  · -- jumps
    refine i_const dX7_classOf_21 ?_
    refine i_ireturn dX7_classOf_22 rfl rfl ?_
    first | exact hp | (exfalso; omega)
  · -- on
    refine i_aload_n dX7_classOf_12 rfl ?_
    refine u_get (i := 18) (vv := .ref (Y (19))) dX7_classOf_13 fX7_9.o (by decide) rfl rfl ?_
    refine i_iload_n dX7_classOf_16 rfl ?_
    refine u_iald (i := 19) (N := 60) (v := C 19 t) dX7_classOf_17 (by decide) rfl (by decide) (by omega) rfl ?_
    refine i_goto (tgt := 22) dX7_classOf_18 (by decide) ?_
    refine i_ireturn dX7_classOf_22 rfl rfl ?_
    first | exact hp | (exfalso; omega)
theorem q_seem_l {x y : Int} (hp : J.2.2 a = some p) (hr : cPt p w s) (hO : wP w s) (hX : wX w s) (hF : ∀ t, 0 ≤ t → t < w (476 * s + 5) → 0 ≤ C 19 t ∧ C 19 t ≤ 60) (hx : 0 ≤ x ∧ x < w (476 * s + 5)) (hy : 0 ≤ y ∧ y < w (476 * s + 5)) (h2 : C 19 x = C 19 y) (h3 : wAcc w s x ↔ wAcc w s y) (hq : P (.inl (some (.int (iI (zc (zSm w s (C 19) x y)))))) (V, C, J))  : ∀ (zz : Nat) (c : Int), zz = (6 - c).toNat → (0 ≤ c ∧ c ≤ 6) → (∀ c', 0 ≤ c' → c' < c → C 19 (w (476 * s + (116 + 6 * x + c'))) = C 19 (w (476 * s + (116 + 6 * y + c')))) → RW G mX7_seemEqual (c_I Y h0) P (d + 2) 0 0 31 [some (.ref (Y 18)), some (.ref a), some (.int (iI x)), some (.int (iI y)), some (.int (iI c))] [] (V, C, J) := by
  intro zz
  induction zz using Nat.strongRecOn with
  | _ zz ih =>
    intro c hzz h1 hI
    have o5 := hO.2.2.2.1
    refine i_iload dX7_seemEqual_31 rfl ?_
    refine i_bipush dX7_seemEqual_33 (by decide) ?_
    refine i_icmp_ge (tgt := 71) dX7_seemEqual_35 (by decide) (by omega) (by omega) (fun c35 => ?_) (fun c35 => ?_)
    · -- jumps
      refine i_const dX7_seemEqual_71 ?_
      refine i_ireturn dX7_seemEqual_72 rfl rfl ?_
      obtain rfl : c = 6 := by omega
      rw [zc_t ⟨h2, h3, hI⟩] at hq; exact hq
    · -- on
      refine i_aload_n dX7_seemEqual_38 rfl ?_
      refine i_aload_n dX7_seemEqual_39 rfl ?_
      refine i_iload_n dX7_seemEqual_40 rfl ?_
      refine i_iload dX7_seemEqual_41 rfl ?_
      refine u_callP (mc := 0) (ms := 0) (As := [_, _]) hp dX7_seemEqual_43 cfX5_after imX5_after seX5_after lX7_66 rfl rfl rfl rfl (Nat.le_of_ble_eq_true rfl) (Nat.zero_add _).symm (Nat.zero_add _).symm ?_
      have n9 := hO.2.2.2.2.2 (x) (c) (by omega) (by omega) (by omega) (by omega)
      refine q_after hp hr hO (by omega) (by omega) (fun _ => RK.v ?_) (fun q9 => absurd ⟨⟨by omega, by omega⟩, by omega, by omega⟩ q9)
      refine u_callV (i := 18) (mc := 0) (ms := 0) (As := [_]) dX7_seemEqual_46 cfX7_classOf imX7_classOf seX7_classOf lX7_58 (by decide) rfl rfl rfl rfl rfl (Nat.le_of_ble_eq_true rfl) (Nat.zero_add _).symm (Nat.zero_add _).symm ?_
      have f1 := hF (w (476 * s + (116 + 6 * x + c))) (by omega) (by omega)
      refine q_classOf (by omega) (RK.v ?_)
      refine i_aload_n dX7_seemEqual_49 rfl ?_
      refine i_aload_n dX7_seemEqual_50 rfl ?_
      refine i_iload_n dX7_seemEqual_51 rfl ?_
      refine i_iload dX7_seemEqual_52 rfl ?_
      refine u_callP (mc := 0) (ms := 0) (As := [_, _]) hp dX7_seemEqual_54 cfX5_after imX5_after seX5_after lX7_66 rfl rfl rfl rfl (Nat.le_of_ble_eq_true rfl) (Nat.zero_add _).symm (Nat.zero_add _).symm ?_
      have n9 := hO.2.2.2.2.2 (y) (c) (by omega) (by omega) (by omega) (by omega)
      refine q_after hp hr hO (by omega) (by omega) (fun _ => RK.v ?_) (fun q9 => absurd ⟨⟨by omega, by omega⟩, by omega, by omega⟩ q9)
      refine u_callV (i := 18) (mc := 0) (ms := 0) (As := [_]) dX7_seemEqual_57 cfX7_classOf imX7_classOf seX7_classOf lX7_58 (by decide) rfl rfl rfl rfl rfl (Nat.le_of_ble_eq_true rfl) (Nat.zero_add _).symm (Nat.zero_add _).symm ?_
      have f2 := hF (w (476 * s + (116 + 6 * y + c))) (by omega) (by omega)
      refine q_classOf (by omega) (RK.v ?_)
      refine i_icmp_eq (tgt := 65) dX7_seemEqual_60 (by decide) (by omega) (by omega) (fun c60 => ?_) (fun c60 => ?_)
      · -- jumps
        refine i_iinc dX7_seemEqual_65 rfl (L' := [some _, some _, some _, some _, some _]) (by decide) rfl ?_
        refine i_goto (tgt := 31) dX7_seemEqual_68 (by decide) ?_
        refine ih _ ?_ (c + 1) rfl (by omega) (fun c' q0 q1 => ?_)
        · omega
        by_cases zz : c' = c
        · rw [zz]; assumption
        · exact hI c' q0 (by omega)
      · -- on
        refine i_const dX7_seemEqual_63 ?_
        refine i_ireturn dX7_seemEqual_64 rfl rfl ?_
        rw [zc_f (fun z => absurd (z.2.2 c (by omega) (by omega)) (by assumption))] at hq; exact hq
theorem q_seemEqual {x y : Int} (hp : J.2.2 a = some p) (hr : cPt p w s) (hO : wP w s) (hX : wX w s) (hF : ∀ t, 0 ≤ t → t < w (476 * s + 5) → 0 ≤ C 19 t ∧ C 19 t ≤ 60) (hx : 0 ≤ x ∧ x < w (476 * s + 5)) (hy : 0 ≤ y ∧ y < w (476 * s + 5)) (hq : P (.inl (some (.int (iI (zc (zSm w s (C 19) x y)))))) (V, C, J)) : RM G mX7_seemEqual (c_I Y h0) [.ref (Y 18), .ref a, .int (iI x), .int (iI y)] (d + 2) 0 0 P (V, C, J) := by
  refine RM.of (L := [some (.ref (Y 18)), some (.ref a), some (.int (iI x)), some (.int (iI y)), none]) cfX7_seemEqual rfl (Nat.le_of_ble_eq_true rfl) ?_
  have o5 := hO.2.2.2.1
  refine i_aload_n dX7_seemEqual_0 rfl ?_
  refine i_iload_n dX7_seemEqual_1 rfl ?_
  refine u_callV (i := 18) (mc := 0) (ms := 0) (As := [_]) dX7_seemEqual_2 cfX7_classOf imX7_classOf seX7_classOf lX7_58 (by decide) rfl rfl rfl rfl rfl (Nat.le_of_ble_eq_true rfl) (Nat.zero_add _).symm (Nat.zero_add _).symm ?_
  have f1 := hF (x) (by omega) (by omega)
  refine q_classOf (by omega) (RK.v ?_)
  refine i_aload_n dX7_seemEqual_5 rfl ?_
  refine i_iload_n dX7_seemEqual_6 rfl ?_
  refine u_callV (i := 18) (mc := 0) (ms := 0) (As := [_]) dX7_seemEqual_7 cfX7_classOf imX7_classOf seX7_classOf lX7_58 (by decide) rfl rfl rfl rfl rfl (Nat.le_of_ble_eq_true rfl) (Nat.zero_add _).symm (Nat.zero_add _).symm ?_
  have f2 := hF (y) (by omega) (by omega)
  refine q_classOf (by omega) (RK.v ?_)
  refine i_icmp_ne (tgt := 26) dX7_seemEqual_10 (by decide) (by omega) (by omega) (fun c10 => ?_) (fun c10 => ?_)
  · -- jumps
    refine i_const dX7_seemEqual_26 ?_
    refine i_ireturn dX7_seemEqual_27 rfl rfl ?_
    rw [zc_f (fun z => by first | exact absurd z.1 (by assumption) | exact absurd z.2.1 (by assumption))] at hq; exact hq
  · -- on
    refine i_aload_n dX7_seemEqual_13 rfl ?_
    refine i_iload_n dX7_seemEqual_14 rfl ?_
    refine u_callP (mc := 0) (ms := 0) (As := [_]) hp dX7_seemEqual_15 cfX5_accepts imX5_accepts seX5_accepts lX7_62 rfl rfl rfl rfl (Nat.le_of_ble_eq_true rfl) (Nat.zero_add _).symm (Nat.zero_add _).symm ?_
    refine q_accepts hp hr hO hX (by omega) (fun _ => RK.v ?_) (fun q9 => absurd ⟨by omega, by omega⟩ q9)
    refine i_aload_n dX7_seemEqual_18 rfl ?_
    refine i_iload_n dX7_seemEqual_19 rfl ?_
    refine u_callP (mc := 0) (ms := 0) (As := [_]) hp dX7_seemEqual_20 cfX5_accepts imX5_accepts seX5_accepts lX7_62 rfl rfl rfl rfl (Nat.le_of_ble_eq_true rfl) (Nat.zero_add _).symm (Nat.zero_add _).symm ?_
    refine q_accepts hp hr hO hX (by omega) (fun _ => RK.v ?_) (fun q9 => absurd ⟨by omega, by omega⟩ q9)
    refine i_icmp_eq_bb (tgt := 28) dX7_seemEqual_23 (by decide) (fun c23 => ?_) (fun c23 => ?_)
    · -- jumps
      refine i_const dX7_seemEqual_28 ?_
      refine i_istore dX7_seemEqual_29 (L' := [some _, some _, some _, some _, some _]) (by decide) rfl ?_
      exact q_seem_l hp hr hO hX hF hx hy (by assumption) (by assumption) hq _ 0 rfl (by omega) (fun c' q0 q1 => by omega)
    · -- on
      refine i_const dX7_seemEqual_26 ?_
      refine i_ireturn dX7_seemEqual_27 rfl rfl ?_
      rw [zc_f (fun z => by first | exact absurd z.1 (by assumption) | exact absurd z.2.1 (by assumption))] at hq; exact hq
theorem q_finer_l {t : Int} (hp : J.2.2 a = some p) (hr : cPt p w s) (hO : wP w s) (hX : wX w s) (hF : ∀ t, 0 ≤ t → t < w (476 * s + 5) → 0 ≤ C 19 t ∧ C 19 t ≤ 60) (ht : 0 ≤ t ∧ t < w (476 * s + 5)) (h13 : 0 ≤ V 13 ∧ V 13 < 60) (hh : ∀ j, 0 ≤ j → j < V 13 → 0 ≤ C 21 j ∧ C 21 j < w (476 * s + 5)) (hp1 : ∀ k, 0 ≤ k → k < V 13 → zSm w s (C 19) t (C 21 k) → (∀ j, 0 ≤ j → j < k → ¬ zSm w s (C 19) t (C 21 j)) → P (.inl (some (.int (iI k)))) (V, C, J)) (hp2 : (∀ j, 0 ≤ j → j < V 13 → ¬ zSm w s (C 19) t (C 21 j)) → P (.inl (some (.int (iI (V 13))))) (vu V 13 (V 13 + 1), cu C 21 (zu (C 21) (V 13) t), J))  : ∀ (zz : Nat) (k : Int), zz = (60 - k).toNat → (0 ≤ k ∧ k ≤ V 13) → (∀ j, 0 ≤ j → j < k → ¬ zSm w s (C 19) t (C 21 j)) → RW G mX7_finerClass (c_I Y h0) P (d + 3) 0 0 2 [some (.ref (Y 18)), some (.ref a), some (.int (iI t)), some (.int (iI k))] [] (V, C, J) := by
  intro zz
  induction zz using Nat.strongRecOn with
  | _ zz ih =>
    intro k hzz h1 hI
    have o5 := hO.2.2.2.1
    refine i_iload_n dX7_finerClass_2 rfl ?_
    refine i_bipush dX7_finerClass_3 (by decide) ?_
    refine i_icmp_ge (tgt := 39) dX7_finerClass_5 (by decide) (by omega) (by omega) (fun c5 => ?_) (fun c5 => ?_)
    · -- jumps
      refine i_aload_n dX7_finerClass_39 rfl ?_
      refine u_get (i := 18) (vv := .int (iI (V 13))) dX7_finerClass_40 fX7_21 (by decide) rfl rfl ?_
      refine i_bipush dX7_finerClass_43 (by decide) ?_
      refine i_callSN (mc := 0) (ms := 0) (As := [_, _]) dX7_finerClass_45 cfX10_isIndex stX10_isIndex lX7_25 rfl rfl (Nat.le_of_ble_eq_true rfl) (Nat.zero_add _).symm (Nat.zero_add _).symm ?_
      refine q_isIndex (by omega) (by omega) (RKN.v ?_)
      refine i_ifne_b (tgt := 53) dX7_finerClass_48 (by decide) (fun c48 => ?_) (fun c48 => ?_)
      · -- jumps
        refine i_aload_n dX7_finerClass_53 rfl ?_
        refine u_get (i := 18) (vv := .ref (Y (21))) dX7_finerClass_54 fX7_18.o (by decide) rfl rfl ?_
        refine i_aload_n dX7_finerClass_57 rfl ?_
        refine u_get (i := 18) (vv := .int (iI (V 13))) dX7_finerClass_58 fX7_21 (by decide) rfl rfl ?_
        refine i_iload_n dX7_finerClass_61 rfl ?_
        refine u_iast (i := 21) (N := 60) dX7_finerClass_62 (by decide) rfl (by decide) (by omega) rfl ?_
        refine i_aload_n dX7_finerClass_63 rfl ?_
        refine i_dup dX7_finerClass_64 rfl ?_
        refine u_get (i := 18) (vv := .int (iI (V 13))) dX7_finerClass_65 fX7_21 (by decide) rfl rfl ?_
        refine i_const dX7_finerClass_68 ?_
        refine i_add dX7_finerClass_69 ?_
        refine u_put (i := 18) (kV := 13) dX7_finerClass_70 fX7_21 (by decide) rfl rfl rfl (Nat.le_of_ble_eq_true rfl) rfl rfl ?_
        refine i_aload_n dX7_finerClass_73 rfl ?_
        refine u_get (i := 18) (vv := .int (iI (V 13 + 1))) dX7_finerClass_74 fX7_21 (by decide) rfl rfl ?_
        refine i_const dX7_finerClass_77 ?_
        refine i_sub dX7_finerClass_78 ?_
        refine i_ireturn dX7_finerClass_79 rfl rfl ?_
        have hq := hp2 (fun j q0 q1 => hI j q0 (by omega))
        rw [show V 13 + 1 - 1 = V 13 by omega]
        exact hq
      · -- on
        refine i_const dX7_finerClass_51 ?_
        refine i_ireturn dX7_finerClass_52 rfl rfl ?_
        exfalso; omega
    · -- on
      refine i_iload_n dX7_finerClass_8 rfl ?_
      refine i_aload_n dX7_finerClass_9 rfl ?_
      refine u_get (i := 18) (vv := .int (iI (V 13))) dX7_finerClass_10 fX7_21 (by decide) rfl rfl ?_
      refine i_icmp_ge (tgt := 39) dX7_finerClass_13 (by decide) (by omega) (by omega) (fun c13 => ?_) (fun c13 => ?_)
      · -- jumps
        refine i_aload_n dX7_finerClass_39 rfl ?_
        refine u_get (i := 18) (vv := .int (iI (V 13))) dX7_finerClass_40 fX7_21 (by decide) rfl rfl ?_
        refine i_bipush dX7_finerClass_43 (by decide) ?_
        refine i_callSN (mc := 0) (ms := 0) (As := [_, _]) dX7_finerClass_45 cfX10_isIndex stX10_isIndex lX7_25 rfl rfl (Nat.le_of_ble_eq_true rfl) (Nat.zero_add _).symm (Nat.zero_add _).symm ?_
        refine q_isIndex (by omega) (by omega) (RKN.v ?_)
        refine i_ifne_b (tgt := 53) dX7_finerClass_48 (by decide) (fun c48 => ?_) (fun c48 => ?_)
        · -- jumps
          refine i_aload_n dX7_finerClass_53 rfl ?_
          refine u_get (i := 18) (vv := .ref (Y (21))) dX7_finerClass_54 fX7_18.o (by decide) rfl rfl ?_
          refine i_aload_n dX7_finerClass_57 rfl ?_
          refine u_get (i := 18) (vv := .int (iI (V 13))) dX7_finerClass_58 fX7_21 (by decide) rfl rfl ?_
          refine i_iload_n dX7_finerClass_61 rfl ?_
          refine u_iast (i := 21) (N := 60) dX7_finerClass_62 (by decide) rfl (by decide) (by omega) rfl ?_
          refine i_aload_n dX7_finerClass_63 rfl ?_
          refine i_dup dX7_finerClass_64 rfl ?_
          refine u_get (i := 18) (vv := .int (iI (V 13))) dX7_finerClass_65 fX7_21 (by decide) rfl rfl ?_
          refine i_const dX7_finerClass_68 ?_
          refine i_add dX7_finerClass_69 ?_
          refine u_put (i := 18) (kV := 13) dX7_finerClass_70 fX7_21 (by decide) rfl rfl rfl (Nat.le_of_ble_eq_true rfl) rfl rfl ?_
          refine i_aload_n dX7_finerClass_73 rfl ?_
          refine u_get (i := 18) (vv := .int (iI (V 13 + 1))) dX7_finerClass_74 fX7_21 (by decide) rfl rfl ?_
          refine i_const dX7_finerClass_77 ?_
          refine i_sub dX7_finerClass_78 ?_
          refine i_ireturn dX7_finerClass_79 rfl rfl ?_
          have hq := hp2 (fun j q0 q1 => hI j q0 (by omega))
          rw [show V 13 + 1 - 1 = V 13 by omega]
          exact hq
        · -- on
          refine i_const dX7_finerClass_51 ?_
          refine i_ireturn dX7_finerClass_52 rfl rfl ?_
          exfalso; omega
      · -- on
        have q21 := hh k (by omega) (by omega)
        refine i_aload_n dX7_finerClass_16 rfl ?_
        refine i_aload_n dX7_finerClass_17 rfl ?_
        refine i_iload_n dX7_finerClass_18 rfl ?_
        refine i_aload_n dX7_finerClass_19 rfl ?_
        refine u_get (i := 18) (vv := .ref (Y (21))) dX7_finerClass_20 fX7_18.o (by decide) rfl rfl ?_
        refine i_iload_n dX7_finerClass_23 rfl ?_
        refine u_iald (i := 21) (N := 60) (v := C 21 k) dX7_finerClass_24 (by decide) rfl (by decide) (by omega) rfl ?_
        refine u_callV (i := 18) (mc := 0) (ms := 0) (As := [_, _, _]) dX7_finerClass_25 cfX7_seemEqual imX7_seemEqual seX7_seemEqual lX7_54 (by decide) rfl rfl rfl rfl rfl (Nat.le_of_ble_eq_true rfl) (Nat.zero_add _).symm (Nat.zero_add _).symm ?_
        refine q_seemEqual hp hr hO hX hF (by omega) (by omega) (RK.v ?_)
        refine i_ifeq_c (tgt := 33) dX7_finerClass_28 (by decide) (fun c28 => ?_) (fun c28 => ?_)
        · -- jumps
          refine i_iinc dX7_finerClass_33 rfl (L' := [some _, some _, some _, some _]) (by decide) rfl ?_
          refine i_goto (tgt := 2) dX7_finerClass_36 (by decide) ?_
          refine ih _ ?_ (k + 1) rfl (by omega) (fun j q0 q1 => ?_)
          · omega
          by_cases zz : j = k
          · rw [zz]; assumption
          · exact hI j q0 (by omega)
        · -- on
          refine i_iload_n dX7_finerClass_31 rfl ?_
          refine i_ireturn dX7_finerClass_32 rfl rfl ?_
          exact hp1 k (by omega) (by omega) (by assumption) hI
theorem q_finerClass {t : Int} (hp : J.2.2 a = some p) (hr : cPt p w s) (hO : wP w s) (hX : wX w s) (hF : ∀ t, 0 ≤ t → t < w (476 * s + 5) → 0 ≤ C 19 t ∧ C 19 t ≤ 60) (ht : 0 ≤ t ∧ t < w (476 * s + 5)) (h13 : 0 ≤ V 13 ∧ V 13 < 60) (hh : ∀ j, 0 ≤ j → j < V 13 → 0 ≤ C 21 j ∧ C 21 j < w (476 * s + 5)) (hp1 : ∀ k, 0 ≤ k → k < V 13 → zSm w s (C 19) t (C 21 k) → (∀ j, 0 ≤ j → j < k → ¬ zSm w s (C 19) t (C 21 j)) → P (.inl (some (.int (iI k)))) (V, C, J)) (hp2 : (∀ j, 0 ≤ j → j < V 13 → ¬ zSm w s (C 19) t (C 21 j)) → P (.inl (some (.int (iI (V 13))))) (vu V 13 (V 13 + 1), cu C 21 (zu (C 21) (V 13) t), J)) : RM G mX7_finerClass (c_I Y h0) [.ref (Y 18), .ref a, .int (iI t)] (d + 3) 0 0 P (V, C, J) := by
  refine RM.of (L := [some (.ref (Y 18)), some (.ref a), some (.int (iI t)), none]) cfX7_finerClass rfl (Nat.le_of_ble_eq_true rfl) ?_
  refine i_const dX7_finerClass_0 ?_
  refine i_istore_n dX7_finerClass_1 (L' := [some _, some _, some _, some _]) (by decide) rfl ?_
  exact q_finer_l hp hr hO hX hF ht h13 hh hp1 hp2 _ 0 rfl (by omega) (fun j q0 q1 => by omega)
theorem q_stw_l {t l x : Int} (hp : J.2.2 a = some p) (hr : cPt p w s) (hO : wP w s) (ht : 0 ≤ t ∧ t < w (476 * s + 5)) (hl : 0 ≤ l ∧ l ≤ 19) (hct : cCt J.1 w s l) (hx : 0 ≤ x ∧ x < 9223372036854775808) (hx2 : x < zsum (wNx w s l t) 6) (hq : ∀ c, 0 ≤ c → c < 6 → zsum (wNx w s l t) c.toNat ≤ x → x < zsum (wNx w s l t) (c + 1).toNat → P (.inl (some (.int (iI c)))) (V, C, J))  : ∀ (zz : Nat) (c : Int), zz = (6 - c).toNat → (0 ≤ c ∧ c ≤ 6) → (zsum (wNx w s l t) c.toNat ≤ x) → RW G mX8_streetToWord (c_I Y h0) P (d + 3) 0 0 3 [some (.ref (Y 16)), some (.ref a), some (.int (iI t)), some (.int (iI l)), some (.long (lI x)), none, some (.int (iI c))] [] (V, C, J) := by
  intro zz
  induction zz using Nat.strongRecOn with
  | _ zz ih =>
    intro c hzz h1 hI
    have o5 := hO.2.2.2.1
    refine i_iload dX8_streetToWord_3 rfl ?_
    refine i_bipush dX8_streetToWord_5 (by decide) ?_
    refine i_icmp_ge (tgt := 36) dX8_streetToWord_7 (by decide) (by omega) (by omega) (fun c7 => ?_) (fun c7 => ?_)
    · -- jumps
      refine i_const dX8_streetToWord_36 ?_
      refine i_ireturn dX8_streetToWord_37 rfl rfl ?_
      exfalso; obtain rfl : c = 6 := by omega
      have e6 : zsum (wNx w s l t) (6 : Int).toNat = zsum (wNx w s l t) 6 := rfl
      omega
    · -- on
      refine i_lload dX8_streetToWord_10 rfl ?_
      refine i_aload_n dX8_streetToWord_12 rfl ?_
      refine i_aload_n dX8_streetToWord_13 rfl ?_
      refine i_iload_n dX8_streetToWord_14 rfl ?_
      refine i_iload_n dX8_streetToWord_15 rfl ?_
      refine i_iload dX8_streetToWord_16 rfl ?_
      refine i_const dX8_streetToWord_18 ?_
      refine i_add dX8_streetToWord_19 ?_
      have z6 := @zsum_le (wNx w s l t) 3656158440062976 (c + 1).toNat (fun j _ _ => wCW_20 (by omega))
      refine u_callV (i := 16) (mc := 0) (ms := 0) (As := [_, _, _, _]) dX8_streetToWord_20 cfX8_wordsBefore imX8_wordsBefore seX8_wordsBefore lX8_29 (by decide) rfl rfl rfl rfl rfl (Nat.le_of_ble_eq_true rfl) (Nat.zero_add _).symm (Nat.zero_add _).symm ?_
      refine q_wordsBefore hp hr hO (by omega) (by omega) (by omega) hct (RK.v ?_)
      refine i_lcmp dX8_streetToWord_23 (lI_cmp (by omega) (by omega)) ?_
      refine i_if_ge (tgt := 30) dX8_streetToWord_24 (by decide) lc_rg (fun c24 => ?_) (fun c24 => ?_)
      · -- jumps
        have c24 := lc_ge c24
        refine i_iinc dX8_streetToWord_30 rfl (L' := [some _, some _, some _, some _, some _, none, some _]) (by decide) rfl ?_
        refine i_goto (tgt := 3) dX8_streetToWord_33 (by decide) ?_
        refine ih _ ?_ (c + 1) rfl (by omega) (by omega)
        omega
      · -- on
        have c24 := lc_lt c24
        refine i_iload dX8_streetToWord_27 rfl ?_
        refine i_ireturn dX8_streetToWord_29 rfl rfl ?_
        exact hq c (by omega) (by omega) hI (by omega)
theorem q_streetToWord {t l x : Int} (hp : J.2.2 a = some p) (hr : cPt p w s) (hO : wP w s) (ht : 0 ≤ t ∧ t < w (476 * s + 5)) (hl : 0 ≤ l ∧ l ≤ 19) (hct : cCt J.1 w s l) (hx : 0 ≤ x ∧ x < 9223372036854775808) (hx2 : x < zsum (wNx w s l t) 6) (hq : ∀ c, 0 ≤ c → c < 6 → zsum (wNx w s l t) c.toNat ≤ x → x < zsum (wNx w s l t) (c + 1).toNat → P (.inl (some (.int (iI c)))) (V, C, J)) : RM G mX8_streetToWord (c_I Y h0) [.ref (Y 16), .ref a, .int (iI t), .int (iI l), .long (lI x)] (d + 3) 0 0 P (V, C, J) := by
  refine RM.of (L := [some (.ref (Y 16)), some (.ref a), some (.int (iI t)), some (.int (iI l)), some (.long (lI x)), none, none]) cfX8_streetToWord rfl (Nat.le_of_ble_eq_true rfl) ?_
  refine i_const dX8_streetToWord_0 ?_
  refine i_istore dX8_streetToWord_1 (L' := [some _, some _, some _, some _, some _, none, some _]) (by decide) rfl ?_
  exact q_stw_l hp hr hO ht hl hct hx hx2 hq _ 0 rfl (by omega) hx.1
end C46
