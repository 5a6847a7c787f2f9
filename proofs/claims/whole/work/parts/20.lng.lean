/-! ===== the reference: equivalence, the minimal count, longest words ===== -/
/-- a state is not equivalent to any before it -/
abbrev wFst (w : Int → Int) (s t : Int) : Prop := ∀ b, 0 ≤ b → b < t → ¬ wEqv w s t b
noncomputable def wMin (w : Int → Int) (s : Int) : Int := zsum (fun t => zc (wFst w s t)) (w (476 * s + 5)).toNat
/-- from a state a word of n letters, all allowed, is accepted -/
def wAt (w : Int → Int) (s : Int) (al : Int → Prop) : Nat → Int → Prop
  | 0, t => wAcc w s t
  | n + 1, t => ∃ c, 0 ≤ c ∧ c < 6 ∧ al c ∧ wAt w s al n (w (476 * s + (116 + 6 * t + c)))
/-- the length of the longest words; -1: too long from some state, or none from the first -/
def wLong (w : Int → Int) (s r : Int) : Prop := (0 ≤ r ∧ wAt w s (fun _ => True) r.toNat 0 ∧ ∀ n : Nat, wAt w s (fun _ => True) n 0 → (n : Int) ≤ r) ∨ (r = -1 ∧ ∃ (t : Int) (n : Nat), 0 ≤ t ∧ t < w (476 * s + 5) ∧ w (476 * s + 5) < (n : Int) ∧ wAt w s (fun _ => True) n t) ∨ (r = -1 ∧ ∀ n : Nat, ¬ wAt w s (fun _ => True) n 0)
section M20
variable {G : p_G} {Y : Nat → Nat} {h0 : p_H} {P : (Option Value) ⊕ String → m_X → Prop} {d : Nat} {V : Nat → Int} {C : Nat → Int → Int} {J : Int → Int}
theorem k_areEquivalentStates {s a b : Int} (hO : wOK (C 0)) (h_s : -2147483648 ≤ s ∧ s < 2147483648) (h_a : -2147483648 ≤ a ∧ a < 2147483648) (h_b : -2147483648 ≤ b ∧ b < 2147483648) (hp1 : ¬ (((s = 0 ∨ s = 1) ∧ 0 ≤ a ∧ a < C 0 (476 * s + 5)) ∧ ((s = 0 ∨ s = 1) ∧ 0 ≤ b ∧ b < C 0 (476 * s + 5))) → P (.inl (some (.int (iI 0)))) (vu V 12 1, C, J)) (hp0 : ((s = 0 ∨ s = 1) ∧ 0 ≤ a ∧ a < C 0 (476 * s + 5)) ∧ ((s = 0 ∨ s = 1) ∧ 0 ≤ b ∧ b < C 0 (476 * s + 5)) → ∀ C', sC [30] C C' → P (.inl (some (.int (iI (zc (wEqv (C 0) s a b)))))) (vu V 12 0, C', J)) : RM G mX11_areEquivalentStates (m_I Y h0) [.ref (Y 38), .int (iI s), .int (iI a), .int (iI b)] (d + 4) 0 0 P (V, C, J) := by
  refine RM.of (L := [some (.ref (Y 38)), some (.int (iI s)), some (.int (iI a)), some (.int (iI b))]) cfX11_areEquivalentStates rfl (Nat.le_of_ble_eq_true rfl) ?_
  refine i_aload_n dX11_areEquivalentStates_0 rfl ?_
  refine i_aload_n dX11_areEquivalentStates_1 rfl ?_
  refine i_iload_n dX11_areEquivalentStates_2 rfl ?_
  refine i_iload_n dX11_areEquivalentStates_3 rfl ?_
  refine t_callV (As := [_, _]) dX11_areEquivalentStates_4 cfX11_isState imX11_isState seX11_isState lX11_254 rfl rfl rfl (Nat.le_of_ble_eq_true rfl) ?_
  refine k_isState (w := C 0) rfl (by omega) (by omega) hO (RK.v ?_)
  refine i_ifeq_b (tgt := 19) dX11_areEquivalentStates_7 (by decide) (fun c7 => ?_) (fun c7 => ?_)
  · -- jumps
    refine i_const dX11_areEquivalentStates_19 ?_
    refine i_goto (tgt := 24) dX11_areEquivalentStates_20 (by decide) ?_
    refine t_callV (As := [_]) dX11_areEquivalentStates_24 cfX11_throwsOne imX11_throwsOne seX11_throwsOne lX11_209 rfl rfl rfl (Nat.le_of_ble_eq_true rfl) ?_
    refine k_throwsOne (by first | exact zb_or | omega) (RK.v ?_)
    refine i_if_eq (tgt := 32) dX11_areEquivalentStates_27 (by decide) (by decide) (fun c27 => by omega) (fun c27 => ?_)
    refine i_const dX11_areEquivalentStates_30 ?_
    refine i_ireturn dX11_areEquivalentStates_31 rfl rfl ?_
    exact hp1 (by omega)
  · -- on
    refine i_aload_n dX11_areEquivalentStates_10 rfl ?_
    refine i_iload_n dX11_areEquivalentStates_11 rfl ?_
    refine i_iload_n dX11_areEquivalentStates_12 rfl ?_
    refine t_callV (As := [_, _]) dX11_areEquivalentStates_13 cfX11_isState imX11_isState seX11_isState lX11_254 rfl rfl rfl (Nat.le_of_ble_eq_true rfl) ?_
    refine k_isState (w := C 0) rfl (by omega) (by omega) hO (RK.v ?_)
    refine i_ifne_b (tgt := 23) dX11_areEquivalentStates_16 (by decide) (fun c16 => ?_) (fun c16 => ?_)
    · -- jumps
      refine i_const dX11_areEquivalentStates_23 ?_
      refine t_callV (As := [_]) dX11_areEquivalentStates_24 cfX11_throwsOne imX11_throwsOne seX11_throwsOne lX11_209 rfl rfl rfl (Nat.le_of_ble_eq_true rfl) ?_
      refine k_throwsOne (by first | exact zb_or | omega) (RK.v ?_)
      refine i_if_eq (tgt := 32) dX11_areEquivalentStates_27 (by decide) (by decide) (fun c27 => ?_) (fun c27 => by omega)
      refine i_aload_n dX11_areEquivalentStates_32 rfl ?_
      refine i_iload_n dX11_areEquivalentStates_33 rfl ?_
      refine t_callV (As := [_]) dX11_areEquivalentStates_34 cfX11_tellsApart imX11_tellsApart seX11_tellsApart lX11_267 rfl rfl rfl (Nat.le_of_ble_eq_true rfl) ?_
      refine k_tellsApart hO (by omega) (fun C1 hC1 hA1 => RK.n0 ?_)
      have b1 := hO.sts (s := s) (by omega)
      have qa := hA1 a b (by omega) (by omega) (by omega) (by omega)
      refine i_aload_n dX11_areEquivalentStates_37 rfl ?_
      refine t_getA dX11_areEquivalentStates_38 fX11_70.o rfl ?_
      refine i_bipush dX11_areEquivalentStates_41 (by decide) ?_
      refine i_iload_n dX11_areEquivalentStates_43 rfl ?_
      refine i_mul dX11_areEquivalentStates_44 ?_
      refine i_iload_n dX11_areEquivalentStates_45 rfl ?_
      refine i_add dX11_areEquivalentStates_46 ?_
      refine t_zald dX11_areEquivalentStates_47 (by omega) rfl ?_
      refine i_if_ne (tgt := 55) dX11_areEquivalentStates_48 (by decide) (by omega) (fun c48 => ?_) (fun c48 => ?_)
      · -- jumps
        refine i_const dX11_areEquivalentStates_55 ?_
        refine i_ireturn dX11_areEquivalentStates_56 rfl rfl ?_
        have hp := hp0 (by omega) _ hC1
        rcases hA1 a b (by omega) (by omega) (by omega) (by omega) with q | q
        · rw [zc_f q.2] at hp; exact hp
        · exfalso; omega
      · -- on
        refine i_const dX11_areEquivalentStates_51 ?_
        refine i_goto (tgt := 56) dX11_areEquivalentStates_52 (by decide) ?_
        refine i_ireturn dX11_areEquivalentStates_56 rfl rfl ?_
        have hp := hp0 (by omega) _ hC1
        rcases hA1 a b (by omega) (by omega) (by omega) (by omega) with q | q
        · exfalso; omega
        · rw [zc_t q.2] at hp; exact hp
    · -- on
      refine i_const dX11_areEquivalentStates_19 ?_
      refine i_goto (tgt := 24) dX11_areEquivalentStates_20 (by decide) ?_
      refine t_callV (As := [_]) dX11_areEquivalentStates_24 cfX11_throwsOne imX11_throwsOne seX11_throwsOne lX11_209 rfl rfl rfl (Nat.le_of_ble_eq_true rfl) ?_
      refine k_throwsOne (by first | exact zb_or | omega) (RK.v ?_)
      refine i_if_eq (tgt := 32) dX11_areEquivalentStates_27 (by decide) (by decide) (fun c27 => by omega) (fun c27 => ?_)
      refine i_const dX11_areEquivalentStates_30 ?_
      refine i_ireturn dX11_areEquivalentStates_31 rfl rfl ?_
      exact hp1 (by omega)
theorem k_min_l1 {s x t : Int} {w : Int → Int} (hw : C 0 = w) (hO : wOK w) (hs : s = 0 ∨ s = 1) (ht : 0 ≤ t ∧ t < w (476 * s + 5)) (hA : ∀ a b, 0 ≤ a → a < w (476 * s + 5) → 0 ≤ b → b < w (476 * s + 5) → (C 30 (60 * a + b) = 1 ∧ ¬ wEqv w s a b) ∨ (C 30 (60 * a + b) = 0 ∧ wEqv w s a b)) (kk : RW G mX11_minimalStateCount (m_I Y h0) P (d) 0 0 85 [some (.ref (Y 38)), some (.int (iI s)), some (.int (iI x)), some (.int (iI t)), some (.int (iI (zc (wFst w s t)))), none] [] (V, C, J)) : ∀ (zz : Nat) (b : Int), zz = (t - b).toNat → (0 ≤ b) → (b ≤ t) → RW G mX11_minimalStateCount (m_I Y h0) P (d) 0 0 46 [some (.ref (Y 38)), some (.int (iI s)), some (.int (iI x)), some (.int (iI t)), some (.int (iI (zc (∀ b1, 0 ≤ b1 → b1 < b → ¬ wEqv w s t b1)))), some (.int (iI b))] [] (V, C, J) := by
  intro zz
  induction zz using Nat.strongRecOn with
  | _ zz ih =>
    intro b hzz h1 h2
    have b1 := hO.sts hs
    refine i_iload dX11_minimalStateCount_46 rfl ?_
    refine i_iload_n dX11_minimalStateCount_48 rfl ?_
    refine i_icmp_ge (tgt := 85) dX11_minimalStateCount_49 (by decide) (by omega) (by omega) (fun c49 => ?_) (fun c49 => ?_)
    · -- jumps
      refine RW.wk (L' := [some _, some _, some _, some _, some _, none]) (p_subL.at (by repeat (first | exact subL_nil | refine subL_s ?_ | refine subL_n ?_))) ?_
      obtain rfl : b = t := by omega
      exact kk
    · -- on
      refine i_iload dX11_minimalStateCount_52 rfl ?_
      refine i_ifeq_c (tgt := 76) dX11_minimalStateCount_54 (by decide) (fun c54 => ?_) (fun c54 => ?_)
      · -- jumps
        refine i_const dX11_minimalStateCount_76 ?_
        refine i_istore dX11_minimalStateCount_77 (L' := [some _, some _, some _, some _, some _, some _]) (by decide) rfl ?_
        refine i_iinc dX11_minimalStateCount_79 rfl (L' := [some _, some _, some _, some _, some _, some _]) (by decide) rfl ?_
        refine i_goto (tgt := 46) dX11_minimalStateCount_82 (by decide) ?_
        have ez : zc (∀ b1, 0 ≤ b1 → b1 < b + 1 → ¬ wEqv w s t b1) = 0 := by
          refine zc_f (fun y => ?_)
          first | exact c54 (fun b1 x0 x1 => y b1 x0 (by omega)) | exact y b (by omega) (by omega) (b4.resolve_left (fun q => by omega)).2
        refine RW.lk (L' := [some _, some _, some _, some _, some (.int (iI (zc (∀ b1, 0 ≤ b1 → b1 < b + 1 → ¬ wEqv w s t b1)))), some _]) (by rw [ez]) ?_
        refine ih _ ?_ (b + 1) rfl (by omega) (by omega)
        omega
      · -- on
        have b4 := hA t b (by omega) (by omega) (by omega) (by omega)
        refine i_aload_n dX11_minimalStateCount_57 rfl ?_
        refine t_getA dX11_minimalStateCount_58 fX11_70.o rfl ?_
        refine i_bipush dX11_minimalStateCount_61 (by decide) ?_
        refine i_iload_n dX11_minimalStateCount_63 rfl ?_
        refine i_mul dX11_minimalStateCount_64 ?_
        refine i_iload dX11_minimalStateCount_65 rfl ?_
        refine i_add dX11_minimalStateCount_67 ?_
        refine t_zald dX11_minimalStateCount_68 (by omega) rfl ?_
        refine i_if_eq (tgt := 76) dX11_minimalStateCount_69 (by decide) (by omega) (fun c69 => ?_) (fun c69 => ?_)
        · -- jumps
          refine i_const dX11_minimalStateCount_76 ?_
          refine i_istore dX11_minimalStateCount_77 (L' := [some _, some _, some _, some _, some _, some _]) (by decide) rfl ?_
          refine i_iinc dX11_minimalStateCount_79 rfl (L' := [some _, some _, some _, some _, some _, some _]) (by decide) rfl ?_
          refine i_goto (tgt := 46) dX11_minimalStateCount_82 (by decide) ?_
          have ez : zc (∀ b1, 0 ≤ b1 → b1 < b + 1 → ¬ wEqv w s t b1) = 0 := by
            refine zc_f (fun y => ?_)
            first | exact c54 (fun b1 x0 x1 => y b1 x0 (by omega)) | exact y b (by omega) (by omega) (b4.resolve_left (fun q => by omega)).2
          refine RW.lk (L' := [some _, some _, some _, some _, some (.int (iI (zc (∀ b1, 0 ≤ b1 → b1 < b + 1 → ¬ wEqv w s t b1)))), some _]) (by rw [ez]) ?_
          refine ih _ ?_ (b + 1) rfl (by omega) (by omega)
          omega
        · -- on
          refine i_const dX11_minimalStateCount_72 ?_
          refine i_goto (tgt := 77) dX11_minimalStateCount_73 (by decide) ?_
          refine i_istore dX11_minimalStateCount_77 (L' := [some _, some _, some _, some _, some _, some _]) (by decide) rfl ?_
          refine i_iinc dX11_minimalStateCount_79 rfl (L' := [some _, some _, some _, some _, some _, some _]) (by decide) rfl ?_
          refine i_goto (tgt := 46) dX11_minimalStateCount_82 (by decide) ?_
          have ez : zc (∀ b1, 0 ≤ b1 → b1 < b + 1 → ¬ wEqv w s t b1) = 1 := by
            refine zc_t (fun b1 x0 x1 => ?_)
            by_cases e : b1 = b
            · rw [e]; exact (b4.resolve_right (fun q => by omega)).2
            · exact c54 b1 x0 (by omega)
          refine RW.lk (L' := [some _, some _, some _, some _, some (.int (iI (zc (∀ b1, 0 ≤ b1 → b1 < b + 1 → ¬ wEqv w s t b1)))), some _]) (by rw [ez]) ?_
          refine ih _ ?_ (b + 1) rfl (by omega) (by omega)
          omega
theorem k_min_l2 {s : Int} {w : Int → Int} (hw : C 0 = w) (hO : wOK w) (hs : s = 0 ∨ s = 1) (hA : ∀ a b, 0 ≤ a → a < w (476 * s + 5) → 0 ≤ b → b < w (476 * s + 5) → (C 30 (60 * a + b) = 1 ∧ ¬ wEqv w s a b) ∨ (C 30 (60 * a + b) = 0 ∧ wEqv w s a b)) (hp : P (.inl (some (.int (iI (wMin w s))))) (V, C, J)) : ∀ (zz : Nat) (t x : Int), zz = (w (476 * s + 5) - t).toNat → (0 ≤ t) → (t ≤ w (476 * s + 5)) → (x = zsum (fun t => zc (wFst w s t)) t.toNat) → RW G mX11_minimalStateCount (m_I Y h0) P (d + 1) 0 0 30 [some (.ref (Y 38)), some (.int (iI s)), some (.int (iI x)), some (.int (iI t)), none, none] [] (V, C, J) := by
  intro zz
  induction zz using Nat.strongRecOn with
  | _ zz ih =>
    intro t x hzz h1 h2 hx
    have b1 := hO.sts hs
    refine i_iload_n dX11_minimalStateCount_30 rfl ?_
    refine i_aload_n dX11_minimalStateCount_31 rfl ?_
    refine i_iload_n dX11_minimalStateCount_32 rfl ?_
    refine i_const dX11_minimalStateCount_33 ?_
    refine t_callV (As := [_, _]) dX11_minimalStateCount_34 cfX11_of imX11_of seX11_of lX11_115 rfl rfl rfl (Nat.le_of_ble_eq_true rfl) ?_
    refine k_of (w := w) hw (by omega) (RK.v ?_)
    refine i_icmp_ge (tgt := 104) dX11_minimalStateCount_37 (by decide) (by omega) (by omega) (fun c37 => ?_) (fun c37 => ?_)
    · -- jumps
      refine i_iload_n dX11_minimalStateCount_104 rfl ?_
      refine i_ireturn dX11_minimalStateCount_105 rfl rfl ?_
      obtain rfl : t = w (476 * s + 5) := by omega
      rw [hx]; exact hp
    · -- on
      refine i_const dX11_minimalStateCount_40 ?_
      refine i_istore dX11_minimalStateCount_41 (L' := [some _, some _, some _, some _, some _, none]) (by decide) rfl ?_
      refine i_const dX11_minimalStateCount_43 ?_
      refine i_istore dX11_minimalStateCount_44 (L' := [some _, some _, some _, some _, some _, some _]) (by decide) rfl ?_
      have e1 : zc (∀ b1, 0 ≤ b1 → b1 < 0 → ¬ wEqv w s t b1) = 1 := zc_t (fun b1 x0 x1 => by omega)
      refine RW.lk (L' := [some _, some _, some _, some _, some (.int (iI (zc (∀ b1, 0 ≤ b1 → b1 < 0 → ¬ wEqv w s t b1)))), some _]) (by rw [e1]) ?_
      refine k_min_l1 hw hO hs (by omega) hA ?_ _ 0 rfl (by omega) (by omega)
      refine i_iload_n dX11_minimalStateCount_85 rfl ?_
      refine i_iload dX11_minimalStateCount_86 rfl ?_
      refine i_ifeq_c (tgt := 95) dX11_minimalStateCount_88 (by decide) (fun c88 => ?_) (fun c88 => ?_)
      · -- jumps
        refine i_const dX11_minimalStateCount_95 ?_
        refine i_add dX11_minimalStateCount_96 ?_
        refine i_istore_n dX11_minimalStateCount_97 (L' := [some _, some _, some _, some _, some _, none]) (by decide) rfl ?_
        refine i_iinc dX11_minimalStateCount_98 rfl (L' := [some _, some _, some _, some _, some _, none]) (by decide) rfl ?_
        refine i_goto (tgt := 30) dX11_minimalStateCount_101 (by decide) ?_
        refine RW.wk (L' := [some _, some _, some _, some _, none, none]) (p_subL.at (by repeat (first | exact subL_nil | refine subL_s ?_ | refine subL_n ?_))) ?_
        refine ih _ ?_ (t + 1) _ rfl (by omega) (by omega) ?_
        · omega
        · rw [zsum_s h1, hx]; first | (rw [zc_t (by assumption)]) | (rw [zc_f (by assumption)])
      · -- on
        refine i_const dX11_minimalStateCount_91 ?_
        refine i_goto (tgt := 96) dX11_minimalStateCount_92 (by decide) ?_
        refine i_add dX11_minimalStateCount_96 ?_
        refine i_istore_n dX11_minimalStateCount_97 (L' := [some _, some _, some _, some _, some _, none]) (by decide) rfl ?_
        refine i_iinc dX11_minimalStateCount_98 rfl (L' := [some _, some _, some _, some _, some _, none]) (by decide) rfl ?_
        refine i_goto (tgt := 30) dX11_minimalStateCount_101 (by decide) ?_
        refine RW.wk (L' := [some _, some _, some _, some _, none, none]) (p_subL.at (by repeat (first | exact subL_nil | refine subL_s ?_ | refine subL_n ?_))) ?_
        refine ih _ ?_ (t + 1) _ rfl (by omega) (by omega) ?_
        · omega
        · rw [zsum_s h1, hx]; first | (rw [zc_t (by assumption)]) | (rw [zc_f (by assumption)])
theorem k_minimalStateCount {s : Int} (hO : wOK (C 0)) (h_s : -2147483648 ≤ s ∧ s < 2147483648) (hp1 : ¬ (s = 0 ∨ s = 1) → P (.inl (some (.int (iI 0)))) (vu V 12 1, C, J)) (hp0 : s = 0 ∨ s = 1 → ∀ C', sC [30] C C' → P (.inl (some (.int (iI (wMin (C 0) s))))) (vu V 12 0, C', J)) : RM G mX11_minimalStateCount (m_I Y h0) [.ref (Y 38), .int (iI s)] (d + 4) 0 0 P (V, C, J) := by
  refine RM.of (L := [some (.ref (Y 38)), some (.int (iI s)), none, none, none, none]) cfX11_minimalStateCount rfl (Nat.le_of_ble_eq_true rfl) ?_
  refine i_aload_n dX11_minimalStateCount_0 rfl ?_
  refine i_iload_n dX11_minimalStateCount_1 rfl ?_
  refine t_callS (As := [_]) dX11_minimalStateCount_2 cfX11_isSlot stX11_isSlot lX11_112 rfl rfl (Nat.le_of_ble_eq_true rfl) ?_
  refine k_isSlot (by omega) (RK.v ?_)
  refine i_ifne_b (tgt := 12) dX11_minimalStateCount_5 (by decide) (fun c5 => ?_) (fun c5 => ?_)
  · -- jumps
    refine i_const dX11_minimalStateCount_12 ?_
    refine t_callV (As := [_]) dX11_minimalStateCount_13 cfX11_throwsOne imX11_throwsOne seX11_throwsOne lX11_209 rfl rfl rfl (Nat.le_of_ble_eq_true rfl) ?_
    refine k_throwsOne (by first | exact zb_or | omega) (RK.v ?_)
    refine i_if_eq (tgt := 21) dX11_minimalStateCount_16 (by decide) (by decide) (fun c16 => ?_) (fun c16 => by omega)
    refine i_aload_n dX11_minimalStateCount_21 rfl ?_
    refine i_iload_n dX11_minimalStateCount_22 rfl ?_
    refine t_callV (As := [_]) dX11_minimalStateCount_23 cfX11_tellsApart imX11_tellsApart seX11_tellsApart lX11_267 rfl rfl rfl (Nat.le_of_ble_eq_true rfl) ?_
    refine k_tellsApart hO (by omega) (fun C1 hC1 hA1 => RK.n0 ?_)
    refine i_const dX11_minimalStateCount_26 ?_
    refine i_istore_n dX11_minimalStateCount_27 (L' := [some _, some _, some _, none, none, none]) (by decide) rfl ?_
    refine i_const dX11_minimalStateCount_28 ?_
    refine i_istore_n dX11_minimalStateCount_29 (L' := [some _, some _, some _, some _, none, none]) (by decide) rfl ?_
    have b1 := hO.sts (s := s) (by omega)
    exact k_min_l2 (w := C 0) (hC1 0 (by decide)) hO (by omega) hA1 (hp0 (by omega) _ hC1) _ 0 0 rfl (by omega) (by omega) rfl
  · -- on
    refine i_const dX11_minimalStateCount_8 ?_
    refine i_goto (tgt := 13) dX11_minimalStateCount_9 (by decide) ?_
    refine t_callV (As := [_]) dX11_minimalStateCount_13 cfX11_throwsOne imX11_throwsOne seX11_throwsOne lX11_209 rfl rfl rfl (Nat.le_of_ble_eq_true rfl) ?_
    refine k_throwsOne (by first | exact zb_or | omega) (RK.v ?_)
    refine i_if_eq (tgt := 21) dX11_minimalStateCount_16 (by decide) (by decide) (fun c16 => by omega) (fun c16 => ?_)
    refine i_const dX11_minimalStateCount_19 ?_
    refine i_ireturn dX11_minimalStateCount_20 rfl rfl ?_
    exact hp1 (by omega)
theorem k_lo_l1 {s : Int} (hO : wOK (C 0)) (hs : s = 0 ∨ s = 1) (kk : ∀ t C', sC [26] C C' → (∀ t', 0 ≤ t' → t' < C 0 (476 * s + 5) → (C' 26 t' = 0 ∧ wAcc (C 0) s t') ∨ (C' 26 t' = -1 ∧ ¬ wAcc (C 0) s t')) → RW G mX11_longest (m_I Y h0) P (d + 2) 0 0 40 [some (.ref (Y 38)), some (.int (iI s)), some (.int (iI (C 0 (476 * s + 5)))), some (.int (iI t)), none, none, none] [] (V, C', J)) : ∀ (zz : Nat) (t : Int) (C' : Nat → Int → Int), zz = (C 0 (476 * s + 5) - t).toNat → (0 ≤ t) → (t ≤ C 0 (476 * s + 5)) → (sC [26] C C') → (∀ t', 0 ≤ t' → t' < t → (C' 26 t' = 0 ∧ wAcc (C 0) s t') ∨ (C' 26 t' = -1 ∧ ¬ wAcc (C 0) s t')) → RW G mX11_longest (m_I Y h0) P (d + 2) 0 0 9 [some (.ref (Y 38)), some (.int (iI s)), some (.int (iI (C 0 (476 * s + 5)))), some (.int (iI t)), none, none, none] [] (V, C', J) := by
  intro zz
  induction zz using Nat.strongRecOn with
  | _ zz ih =>
    intro t C' hzz h1 h2 hC hI
    have hw : C' 0 = C 0 := hC 0 (by decide)
    have b1 := hO.sts hs
    refine i_iload_n dX11_longest_9 rfl ?_
    refine i_iload_n dX11_longest_10 rfl ?_
    refine i_icmp_ge (tgt := 40) dX11_longest_11 (by decide) (by omega) (by omega) (fun c11 => ?_) (fun c11 => ?_)
    · -- jumps
      exact kk t _ hC (fun t' x0 x1 => hI t' x0 (by omega))
    · -- on
      refine i_aload_n dX11_longest_14 rfl ?_
      refine t_getA dX11_longest_15 fX11_63.o rfl ?_
      refine i_iload_n dX11_longest_18 rfl ?_
      refine i_aload_n dX11_longest_19 rfl ?_
      refine i_iload_n dX11_longest_20 rfl ?_
      refine i_iload_n dX11_longest_21 rfl ?_
      refine t_callV (As := [_, _]) dX11_longest_22 cfX11_accepts imX11_accepts seX11_accepts lX11_257 rfl rfl rfl (Nat.le_of_ble_eq_true rfl) ?_
      refine k_accepts (w := C 0) hw (by omega) (by omega) (hO.1 _ (by omega)) (RK.v ?_)
      refine i_ifeq_b (tgt := 32) dX11_longest_25 (by decide) (fun c25 => ?_) (fun c25 => ?_)
      · -- jumps
        refine i_const dX11_longest_32 ?_
        refine t_iast (N := 3600) dX11_longest_33 (by decide) (by decide) rfl (by omega) ?_
        refine i_iinc dX11_longest_34 rfl (L' := [some _, some _, some _, some _, none, none, none]) (by decide) rfl ?_
        refine i_goto (tgt := 9) dX11_longest_37 (by decide) ?_
        refine ih _ ?_ (t + 1) _ rfl (by omega) (by omega) (hC.cu (by decide)) (fun t' x0 x1 => ?_)
        · omega
        show (zu (C' 26) _ _ _ = 0 ∧ _) ∨ (zu (C' 26) _ _ _ = -1 ∧ _)
        by_cases e : t' = t
        · rw [e, zu_at]; exact Or.inr ⟨rfl, by assumption⟩
        · rw [zu_ne (by omega)]; exact hI t' x0 (by omega)
      · -- on
        refine i_const dX11_longest_28 ?_
        refine i_goto (tgt := 33) dX11_longest_29 (by decide) ?_
        refine t_iast (N := 3600) dX11_longest_33 (by decide) (by decide) rfl (by omega) ?_
        refine i_iinc dX11_longest_34 rfl (L' := [some _, some _, some _, some _, none, none, none]) (by decide) rfl ?_
        refine i_goto (tgt := 9) dX11_longest_37 (by decide) ?_
        refine ih _ ?_ (t + 1) _ rfl (by omega) (by omega) (hC.cu (by decide)) (fun t' x0 x1 => ?_)
        · omega
        show (zu (C' 26) _ _ _ = 0 ∧ _) ∨ (zu (C' 26) _ _ _ = -1 ∧ _)
        by_cases e : t' = t
        · rw [e, zu_at]; exact Or.inl ⟨rfl, by assumption⟩
        · rw [zu_ne (by omega)]; exact hI t' x0 (by omega)
/-- lengths of accepted words -/
def wLS (w : Int → Int) (s : Int) (F : Int → Int) : Prop := ∀ t, 0 ≤ t → t < w (476 * s + 5) → -1 ≤ F t ∧ (0 ≤ F t → wAt w s (fun _ => True) (F t).toNat t) ∧ (wAcc w s t → 0 ≤ F t)
def wLM (w : Int → Int) (s : Int) (F : Int → Int) : Int := zsum (fun t => 70 - F t) (w (476 * s + 5)).toNat
theorem wLS.up {w : Int → Int} {s : Int} {F : Int → Int} (hO : wOK w) (hs : s = 0 ∨ s = 1) (h : wLS w s F) {t c : Int} (t0 : 0 ≤ t) (t1 : t < w (476 * s + 5)) (c0 : 0 ≤ c) (c1 : c < 6) (hF : F (w (476 * s + (116 + 6 * t + c))) ≠ -1) : wLS w s (zu F t (F (w (476 * s + (116 + 6 * t + c))) + 1)) := by
  intro t' x0 x1
  by_cases e : t' = t
  · have b2 := hO.nxt hs t0 t1 c0 c1
    have q := h _ b2.1 b2.2
    rw [e, zu_at]
    refine ⟨by omega, fun _ => ?_, fun _ => by omega⟩
    rw [show (F (w (476 * s + (116 + 6 * t + c))) + 1).toNat = (F (w (476 * s + (116 + 6 * t + c)))).toNat + 1 by omega]
    exact ⟨c, c0, c1, trivial, q.2.1 (by omega)⟩
  · rw [zu_ne e]; exact h t' x0 x1
theorem wLM_up {w : Int → Int} {s : Int} {F : Int → Int} {t v : Int} (t0 : 0 ≤ t) (t1 : t < w (476 * s + 5)) (hv : F t < v) : wLM w s (zu F t v) < wLM w s F := by
  unfold wLM
  rw [zsum_up (f := fun j => 70 - zu F t v j) (g := fun j => 70 - F j) t0 _ (by omega) (fun j hj => by simp only [zu_ne hj])]
  simp only [zu_at]
  omega
theorem k_lo_l2 {s t m0 : Int} (hO : wOK (C 0)) (hs : s = 0 ∨ s = 1) (ht : 0 ≤ t ∧ t < C 0 (476 * s + 5)) (kk : ∀ m C', sC [26] C C' → wLS (C 0) s (C' 26) → (∀ t', 0 ≤ t' → t' < C 0 (476 * s + 5) → C' 26 t' ≤ C 0 (476 * s + 5) + (if t' = t then 6 else 0)) → ((m = 0 ∧ wLM (C 0) s (C' 26) = m0 ∧ (∀ t' c', 0 ≤ t' → t' < C 0 (476 * s + 5) → 0 ≤ c' → c' < 6 → (t' ≤ t) → C' 26 (C 0 (476 * s + (116 + 6 * t' + c'))) ≠ -1 → C' 26 (C 0 (476 * s + (116 + 6 * t' + c'))) + 1 ≤ C' 26 t')) ∨ (m = 1 ∧ wLM (C 0) s (C' 26) < m0)) → RW G mX11_longest (m_I Y h0) P (d + 2) 0 0 122 [some (.ref (Y 38)), some (.int (iI s)), some (.int (iI (C 0 (476 * s + 5)))), some (.int (iI m)), some (.int (iI t)), none, none] [] (V, C', J)) : ∀ (zz : Nat) (c m : Int) (C' : Nat → Int → Int), zz = (6 - c).toNat → (0 ≤ c) → (c ≤ 6) → (sC [26] C C') → (wLS (C 0) s (C' 26)) → (∀ t', 0 ≤ t' → t' < C 0 (476 * s + 5) → C' 26 t' ≤ C 0 (476 * s + 5) + (if t' = t then c else 0)) → ((m = 0 ∧ wLM (C 0) s (C' 26) = m0 ∧ (∀ t' c', 0 ≤ t' → t' < C 0 (476 * s + 5) → 0 ≤ c' → c' < 6 → (t' < t ∨ t' = t ∧ c' < c) → C' 26 (C 0 (476 * s + (116 + 6 * t' + c'))) ≠ -1 → C' 26 (C 0 (476 * s + (116 + 6 * t' + c'))) + 1 ≤ C' 26 t')) ∨ (m = 1 ∧ wLM (C 0) s (C' 26) < m0)) → RW G mX11_longest (m_I Y h0) P (d + 2) 0 0 60 [some (.ref (Y 38)), some (.int (iI s)), some (.int (iI (C 0 (476 * s + 5)))), some (.int (iI m)), some (.int (iI t)), some (.int (iI c)), none] [] (V, C', J) := by
  intro zz
  induction zz using Nat.strongRecOn with
  | _ zz ih =>
    intro c m C' hzz h1 h2 hC hS hB hF
    have hw : C' 0 = C 0 := hC 0 (by decide)
    have b1 := hO.sts hs
    refine i_iload dX11_longest_60 rfl ?_
    refine i_bipush dX11_longest_62 (by decide) ?_
    refine i_icmp_ge (tgt := 122) dX11_longest_64 (by decide) (by omega) (by omega) (fun c64 => ?_) (fun c64 => ?_)
    · -- jumps
      refine RW.wk (L' := [some _, some _, some _, some _, some _, none, none]) (p_subL.at (by repeat (first | exact subL_nil | refine subL_s ?_ | refine subL_n ?_))) ?_
      obtain rfl : c = 6 := by omega
      exact kk m _ hC hS hB (hF.imp (fun f => ⟨f.1, f.2.1, fun t' c' x0 x1 y0 y1 z q => f.2.2 t' c' x0 x1 y0 y1 (by omega) q⟩) id)
    · -- on
      refine i_aload_n dX11_longest_67 rfl ?_
      refine t_getA dX11_longest_68 fX11_63.o rfl ?_
      have b2 := hO.nxt hs ht.1 ht.2 h1 (by omega)
      have b3 := hS _ b2.1 b2.2
      have b4 := hB _ b2.1 b2.2
      have b5 := hB t ht.1 ht.2
      have b6 := hS t ht.1 ht.2
      have b7 : (if C 0 (476 * s + (116 + 6 * t + c)) = t then c else 0) ≤ 6 := by split <;> omega
      have b8 : (if t = t then c else 0) ≤ 6 := by split <;> omega
      refine i_aload_n dX11_longest_71 rfl ?_
      refine i_iload_n dX11_longest_72 rfl ?_
      refine i_iload dX11_longest_73 rfl ?_
      refine i_iload dX11_longest_75 rfl ?_
      refine t_callV (As := [_, _, _]) dX11_longest_77 cfX11_goes imX11_goes seX11_goes lX11_231 rfl rfl rfl (Nat.le_of_ble_eq_true rfl) ?_
      refine k_goes (w := C 0) hw (by omega) (by omega) (by omega) (RK.v ?_)
      refine t_iald (N := 3600) dX11_longest_80 (by decide) (by decide) rfl (by omega) rfl ?_
      refine i_istore dX11_longest_81 (L' := [some _, some _, some _, some _, some _, some _, some _]) (by decide) rfl ?_
      refine i_iload dX11_longest_83 rfl ?_
      refine i_const dX11_longest_85 ?_
      refine i_icmp_eq (tgt := 116) dX11_longest_86 (by decide) (by omega) (by omega) (fun c86 => ?_) (fun c86 => ?_)
      · -- jumps
        refine i_iinc dX11_longest_116 rfl (L' := [some _, some _, some _, some _, some _, some _, some _]) (by decide) rfl ?_
        refine i_goto (tgt := 60) dX11_longest_119 (by decide) ?_
        refine RW.wk (L' := [some _, some _, some _, some _, some _, some _, none]) (p_subL.at (by repeat (first | exact subL_nil | refine subL_s ?_ | refine subL_n ?_))) ?_
        refine ih _ ?_ (c + 1) m _ rfl (by omega) (by omega) hC hS (fun t' x0 x1 => ?_) ?_
        · omega
        · have := hB t' x0 x1; split at this <;> split <;> omega
        rcases hF with ⟨f1, f2, f3⟩ | hF
        · refine Or.inl ⟨f1, f2, fun t' c' x0 x1 y0 y1 z q => ?_⟩
          by_cases e : t' = t ∧ c' = c
          · obtain ⟨e1, e2⟩ := e; subst e1; subst e2; first | omega | exact absurd (by assumption) q
          · exact f3 t' c' x0 x1 y0 y1 (by omega) q
        · exact Or.inr hF
      · -- on
        refine i_iload dX11_longest_89 rfl ?_
        refine i_const dX11_longest_91 ?_
        refine i_add dX11_longest_92 ?_
        refine i_aload_n dX11_longest_93 rfl ?_
        refine t_getA dX11_longest_94 fX11_63.o rfl ?_
        refine i_iload dX11_longest_97 rfl ?_
        refine t_iald (N := 3600) dX11_longest_99 (by decide) (by decide) rfl (by omega) rfl ?_
        refine i_icmp_le (tgt := 116) dX11_longest_100 (by decide) (by omega) (by omega) (fun c100 => ?_) (fun c100 => ?_)
        · -- jumps
          refine i_iinc dX11_longest_116 rfl (L' := [some _, some _, some _, some _, some _, some _, some _]) (by decide) rfl ?_
          refine i_goto (tgt := 60) dX11_longest_119 (by decide) ?_
          refine RW.wk (L' := [some _, some _, some _, some _, some _, some _, none]) (p_subL.at (by repeat (first | exact subL_nil | refine subL_s ?_ | refine subL_n ?_))) ?_
          refine ih _ ?_ (c + 1) m _ rfl (by omega) (by omega) hC hS (fun t' x0 x1 => ?_) ?_
          · omega
          · have := hB t' x0 x1; split at this <;> split <;> omega
          rcases hF with ⟨f1, f2, f3⟩ | hF
          · refine Or.inl ⟨f1, f2, fun t' c' x0 x1 y0 y1 z q => ?_⟩
            by_cases e : t' = t ∧ c' = c
            · obtain ⟨e1, e2⟩ := e; subst e1; subst e2; first | omega | exact absurd (by assumption) q
            · exact f3 t' c' x0 x1 y0 y1 (by omega) q
          · exact Or.inr hF
        · -- on
          refine i_aload_n dX11_longest_103 rfl ?_
          refine t_getA dX11_longest_104 fX11_63.o rfl ?_
          refine i_iload dX11_longest_107 rfl ?_
          refine i_iload dX11_longest_109 rfl ?_
          refine i_const dX11_longest_111 ?_
          refine i_add dX11_longest_112 ?_
          refine t_iast (N := 3600) dX11_longest_113 (by decide) (by decide) rfl (by omega) ?_
          refine i_const dX11_longest_114 ?_
          refine i_istore_n dX11_longest_115 (L' := [some _, some _, some _, some _, some _, some _, some _]) (by decide) rfl ?_
          refine i_iinc dX11_longest_116 rfl (L' := [some _, some _, some _, some _, some _, some _, some _]) (by decide) rfl ?_
          refine i_goto (tgt := 60) dX11_longest_119 (by decide) ?_
          refine RW.wk (L' := [some _, some _, some _, some _, some _, some _, none]) (p_subL.at (by repeat (first | exact subL_nil | refine subL_s ?_ | refine subL_n ?_))) ?_
          refine ih _ ?_ (c + 1) 1 _ rfl (by omega) (by omega) (hC.cu (by decide)) (hS.up hO hs ht.1 ht.2 h1 (by omega) (by omega)) (fun t' x0 x1 => ?_) (Or.inr ⟨rfl, ?_⟩)
          · omega
          · show zu (C' 26) _ _ t' ≤ _
            by_cases e : t' = t
            · rw [e, zu_at, if_pos rfl]
              split at b4 <;> omega
            · have b6 := hB t' x0 x1; rw [if_neg e] at b6; rw [zu_ne e, if_neg e]; exact b6
          · have := wLM_up (w := C 0) (s := s) (F := C' 26) ht.1 ht.2 (show C' 26 t < _ by assumption)
            show wLM (C 0) s (zu (C' 26) _ _) < m0
            rcases hF with hF | hF <;> omega
theorem k_lo_l3 {s m0 : Int} (hO : wOK (C 0)) (hs : s = 0 ∨ s = 1) (hpn : ∀ C', sC [26] C C' → ∀ (t : Int) (n : Nat), 0 ≤ t → t < C 0 (476 * s + 5) → C 0 (476 * s + 5) < (n : Int) → wAt (C 0) s (fun _ => True) n t → P (.inl (some (.int (iI (-1))))) (V, C', J)) (kk : ∀ m C', sC [26] C C' → wLS (C 0) s (C' 26) → (∀ t', 0 ≤ t' → t' < C 0 (476 * s + 5) → C' 26 t' ≤ C 0 (476 * s + 5) + 0) → ((m = 0 ∧ wLM (C 0) s (C' 26) = m0 ∧ (∀ t' c', 0 ≤ t' → t' < C 0 (476 * s + 5) → 0 ≤ c' → c' < 6 → (True) → C' 26 (C 0 (476 * s + (116 + 6 * t' + c'))) ≠ -1 → C' 26 (C 0 (476 * s + (116 + 6 * t' + c'))) + 1 ≤ C' 26 t')) ∨ (m = 1 ∧ wLM (C 0) s (C' 26) < m0)) → RW G mX11_longest (m_I Y h0) P (d + 2) 0 0 141 [some (.ref (Y 38)), some (.int (iI s)), some (.int (iI (C 0 (476 * s + 5)))), some (.int (iI m)), none, none, none] [] (V, C', J)) : ∀ (zz : Nat) (t m : Int) (C' : Nat → Int → Int), zz = (C 0 (476 * s + 5) - t).toNat → (0 ≤ t) → (t ≤ C 0 (476 * s + 5)) → (sC [26] C C') → (wLS (C 0) s (C' 26)) → (∀ t', 0 ≤ t' → t' < C 0 (476 * s + 5) → C' 26 t' ≤ C 0 (476 * s + 5) + 0) → ((m = 0 ∧ wLM (C 0) s (C' 26) = m0 ∧ (∀ t' c', 0 ≤ t' → t' < C 0 (476 * s + 5) → 0 ≤ c' → c' < 6 → (t' < t) → C' 26 (C 0 (476 * s + (116 + 6 * t' + c'))) ≠ -1 → C' 26 (C 0 (476 * s + (116 + 6 * t' + c'))) + 1 ≤ C' 26 t')) ∨ (m = 1 ∧ wLM (C 0) s (C' 26) < m0)) → RW G mX11_longest (m_I Y h0) P (d + 2) 0 0 51 [some (.ref (Y 38)), some (.int (iI s)), some (.int (iI (C 0 (476 * s + 5)))), some (.int (iI m)), some (.int (iI t)), none, none] [] (V, C', J) := by
  intro zz
  induction zz using Nat.strongRecOn with
  | _ zz ih =>
    intro t m C' hzz h1 h2 hC hS hB hF
    have hw : C' 0 = C 0 := hC 0 (by decide)
    have b1 := hO.sts hs
    refine i_iload dX11_longest_51 rfl ?_
    refine i_iload_n dX11_longest_53 rfl ?_
    refine i_icmp_ge (tgt := 141) dX11_longest_54 (by decide) (by omega) (by omega) (fun c54 => ?_) (fun c54 => ?_)
    · -- jumps
      refine RW.wk (L' := [some _, some _, some _, some _, none, none, none]) (p_subL.at (by repeat (first | exact subL_nil | refine subL_s ?_ | refine subL_n ?_))) ?_
      exact kk m _ hC hS hB (hF.imp (fun f => ⟨f.1, f.2.1, fun t' c' x0 x1 y0 y1 z q => f.2.2 t' c' x0 x1 y0 y1 (by omega) q⟩) id)
    · -- on
      refine i_const dX11_longest_57 ?_
      refine i_istore dX11_longest_58 (L' := [some _, some _, some _, some _, some _, some _, none]) (by decide) rfl ?_
      refine k_lo_l2 hO hs (by omega) (fun m2 C2 hC2 hS2 hB2 hF2 => ?_) _ 0 m _ rfl (by omega) (by omega) hC hS (fun t' x0 x1 => by have := hB t' x0 x1; split <;> omega) (hF.imp (fun f => ⟨f.1, f.2.1, fun t' c' x0 x1 y0 y1 z q => f.2.2 t' c' x0 x1 y0 y1 (by omega) q⟩) id)
      have b2 := hB2 t (by omega) (by omega)
      rw [if_pos rfl] at b2
      have b3 := hS2 t (by omega) (by omega)
      refine i_aload_n dX11_longest_122 rfl ?_
      refine t_getA dX11_longest_123 fX11_63.o rfl ?_
      refine i_iload dX11_longest_126 rfl ?_
      refine t_iald (N := 3600) dX11_longest_128 (by decide) (by decide) rfl (by omega) rfl ?_
      refine i_iload_n dX11_longest_129 rfl ?_
      refine i_icmp_le (tgt := 135) dX11_longest_130 (by decide) (by omega) (by omega) (fun c130 => ?_) (fun c130 => ?_)
      · -- jumps
        refine i_iinc dX11_longest_135 rfl (L' := [some _, some _, some _, some _, some _, none, none]) (by decide) rfl ?_
        refine i_goto (tgt := 51) dX11_longest_138 (by decide) ?_
        refine ih _ ?_ (t + 1) m2 _ rfl (by omega) (by omega) hC2 hS2 (fun t' x0 x1 => ?_) (hF2.imp (fun f => ⟨f.1, f.2.1, fun t' c' x0 x1 y0 y1 z q => f.2.2 t' c' x0 x1 y0 y1 (by omega) q⟩) id)
        · omega
        · by_cases e : t' = t
          · rw [e]; omega
          · have := hB2 t' x0 x1; rw [if_neg e] at this; exact this
      · -- on
        refine i_const dX11_longest_133 ?_
        refine i_ireturn dX11_longest_134 rfl rfl ?_
        refine hpn _ hC2 t (C2 26 t).toNat (by omega) (by omega) (by omega) (b3.2.1 (by omega))
theorem zsum_ge0 {f : Int → Int} : ∀ n : Nat, (∀ j : Int, 0 ≤ j → j < n → 0 ≤ f j) → 0 ≤ zsum f n
  | 0, _ => Int.le_refl _
  | n + 1, h => by
    have h1 := zsum_ge0 n (fun j a b => h j a (by omega))
    have h2 := h n (by omega) (by omega)
    show 0 ≤ zsum f n + f n
    omega
theorem k_lo_l4 {s : Int} (hO : wOK (C 0)) (hs : s = 0 ∨ s = 1) (hp : ∀ C', sC [26] C C' → ∀ r, wLong (C 0) s r → r ≤ 60 → P (.inl (some (.int (iI r)))) (V, C', J)) : ∀ (zz : Nat) (m : Int) (C' : Nat → Int → Int), zz = (2 * wLM (C 0) s (C' 26) + m).toNat → (0 ≤ m ∧ m ≤ 1) → (sC [26] C C') → (wLS (C 0) s (C' 26)) → (∀ t', 0 ≤ t' → t' < C 0 (476 * s + 5) → C' 26 t' ≤ C 0 (476 * s + 5) + 0) → (m = 0 → ∀ t' c', 0 ≤ t' → t' < C 0 (476 * s + 5) → 0 ≤ c' → c' < 6 → C' 26 (C 0 (476 * s + (116 + 6 * t' + c'))) ≠ -1 → C' 26 (C 0 (476 * s + (116 + 6 * t' + c'))) + 1 ≤ C' 26 t') → RW G mX11_longest (m_I Y h0) P (d + 2) 0 0 42 [some (.ref (Y 38)), some (.int (iI s)), some (.int (iI (C 0 (476 * s + 5)))), some (.int (iI m)), none, none, none] [] (V, C', J) := by
  intro zz
  induction zz using Nat.strongRecOn with
  | _ zz ih =>
    intro m C' hzz h1 hC hS hB hm
    have hw : C' 0 = C 0 := hC 0 (by decide)
    have b1 := hO.sts hs
    have n0 : 0 ≤ wLM (C 0) s (C' 26) := (zsum_ge0 _ (fun j x0 x1 => by have := hB j x0 (by omega); omega))
    refine i_iload_n dX11_longest_42 rfl ?_
    refine i_if_eq (tgt := 144) dX11_longest_43 (by decide) (by omega) (fun c43 => ?_) (fun c43 => ?_)
    · -- jumps
      refine i_aload_n dX11_longest_144 rfl ?_
      refine t_getA dX11_longest_145 fX11_63.o rfl ?_
      refine i_const dX11_longest_148 ?_
      refine t_iald (N := 3600) dX11_longest_149 (by decide) (by decide) rfl (by omega) rfl ?_
      refine i_ireturn dX11_longest_150 rfl rfl ?_
      have hB0 := hB 0 (by omega) (by omega)
      refine hp _ hC _ ?_ (by omega)
      have hmx : ∀ (n : Nat) (t : Int), 0 ≤ t → t < C 0 (476 * s + 5) → wAt (C 0) s (fun _ => True) n t → (n : Int) ≤ C' 26 t := by
        intro n; induction n with
        | zero => exact fun t x0 x1 h => by have := (hS t x0 x1).2.2 h; omega
        | succ n ih2 =>
          intro t x0 x1 h; obtain ⟨c, c0, c1, -, h⟩ := h
          have b2 := hO.nxt hs x0 x1 c0 c1
          have q := ih2 _ b2.1 b2.2 h
          have q2 := hm (by omega) t c x0 x1 c0 c1 (by omega)
          omega
      have q0 := hS 0 (by omega) (by omega)
      by_cases e : 0 ≤ C' 26 0
      · exact Or.inl ⟨e, q0.2.1 e, fun n h => hmx n 0 (by omega) (by omega) h⟩
      · exact Or.inr (Or.inr ⟨by omega, fun n h => by have := hmx n 0 (by omega) (by omega) h; omega⟩)
    · -- on
      refine i_const dX11_longest_46 ?_
      refine i_istore_n dX11_longest_47 (L' := [some _, some _, some _, some _, none, none, none]) (by decide) rfl ?_
      refine i_const dX11_longest_48 ?_
      refine i_istore dX11_longest_49 (L' := [some _, some _, some _, some _, some _, none, none]) (by decide) rfl ?_
      refine k_lo_l3 (m0 := wLM (C 0) s (C' 26)) hO hs (fun C2 hC2 t n t0 t1 hn ha => hp _ hC2 _ (Or.inr (Or.inl ⟨rfl, t, n, t0, t1, hn, ha⟩)) (by decide)) (fun m2 C2 hC2 hS2 hB2 hF2 => ?_) _ 0 0 _ rfl (by omega) (by omega) hC hS hB (Or.inl ⟨rfl, rfl, fun t' c' x0 x1 y0 y1 z q => by omega⟩)
      refine i_goto (tgt := 42) dX11_longest_141 (by decide) ?_
      have n1 : 0 ≤ wLM (C 0) s (C2 26) := (zsum_ge0 _ (fun j x0 x1 => by have := hB2 j x0 (by omega); omega))
      rcases hF2 with ⟨f1, f2, f3⟩ | ⟨f1, f2⟩
      · refine ih _ ?_ m2 _ rfl (by omega) hC2 hS2 hB2 (fun _ t' c' x0 x1 y0 y1 => f3 t' c' x0 x1 y0 y1 trivial)
        omega
      · refine ih _ ?_ m2 _ rfl (by omega) hC2 hS2 hB2 (fun q => by omega)
        omega
theorem k_longest {s : Int} (hO : wOK (C 0)) (hs : s = 0 ∨ s = 1) (hp : ∀ C', sC [26] C C' → ∀ r, wLong (C 0) s r → r ≤ 60 → P (.inl (some (.int (iI r)))) (V, C', J)) : RM G mX11_longest (m_I Y h0) [.ref (Y 38), .int (iI s)] (d + 2) 0 0 P (V, C, J) := by
  refine RM.of (L := [some (.ref (Y 38)), some (.int (iI s)), none, none, none, none, none]) cfX11_longest rfl (Nat.le_of_ble_eq_true rfl) ?_
  refine i_aload_n dX11_longest_0 rfl ?_
  refine i_iload_n dX11_longest_1 rfl ?_
  refine i_const dX11_longest_2 ?_
  refine t_callV (As := [_, _]) dX11_longest_3 cfX11_of imX11_of seX11_of lX11_115 rfl rfl rfl (Nat.le_of_ble_eq_true rfl) ?_
  refine k_of (w := C 0) rfl (by omega) (RK.v ?_)
  refine i_istore_n dX11_longest_6 (L' := [some _, some _, some _, none, none, none, none]) (by decide) rfl ?_
  refine i_const dX11_longest_7 ?_
  refine i_istore_n dX11_longest_8 (L' := [some _, some _, some _, some _, none, none, none]) (by decide) rfl ?_
  have b1 := hO.sts hs
  refine k_lo_l1 hO hs (fun t2 C2 hC2 hI2 => ?_) _ 0 _ rfl (by omega) (by omega) sC.rfl (fun t' x0 x1 => by omega)
  refine i_const dX11_longest_40 ?_
  refine i_istore_n dX11_longest_41 (L' := [some _, some _, some _, some _, none, none, none]) (by decide) rfl ?_
  refine k_lo_l4 hO hs hp _ 1 _ rfl (by omega) hC2 (fun t x0 x1 => ?_) (fun t x0 x1 => ?_) (fun q => by omega)
  · rcases hI2 t x0 x1 with ⟨q, q2⟩ | ⟨q, q2⟩
    · exact ⟨by omega, fun _ => by rw [q]; exact q2, fun _ => by omega⟩
    · exact ⟨by omega, fun z => by omega, fun z => absurd z q2⟩
  · rcases hI2 t x0 x1 with q | q <;> omega
theorem wLong_rg {w : Int → Int} {s r : Int} (h : wLong w s r) : -1 ≤ r := by
  rcases h with h | h | h <;> omega
theorem k_longestLength {s : Int} (hO : wOK (C 0)) (h_s : -2147483648 ≤ s ∧ s < 2147483648) (hp1 : ¬ (s = 0 ∨ s = 1) → P (.inl (some (.int (iI 0)))) (vu V 12 1, C, J)) (hp0 : s = 0 ∨ s = 1 → ∀ C', sC [26] C C' → ∀ r, wLong (C 0) s r → P (.inl (some (.int (iI r)))) (vu V 12 0, C', J)) : RM G mX11_longestLength (m_I Y h0) [.ref (Y 38), .int (iI s)] (d + 3) 0 0 P (V, C, J) := by
  refine RM.of (L := [some (.ref (Y 38)), some (.int (iI s))]) cfX11_longestLength rfl (Nat.le_of_ble_eq_true rfl) ?_
  refine i_aload_n dX11_longestLength_0 rfl ?_
  refine i_iload_n dX11_longestLength_1 rfl ?_
  refine t_callS (As := [_]) dX11_longestLength_2 cfX11_isSlot stX11_isSlot lX11_112 rfl rfl (Nat.le_of_ble_eq_true rfl) ?_
  refine k_isSlot (by omega) (RK.v ?_)
  refine i_ifne_b (tgt := 12) dX11_longestLength_5 (by decide) (fun c5 => ?_) (fun c5 => ?_)
  · -- jumps
    refine i_const dX11_longestLength_12 ?_
    refine t_callV (As := [_]) dX11_longestLength_13 cfX11_throwsOne imX11_throwsOne seX11_throwsOne lX11_209 rfl rfl rfl (Nat.le_of_ble_eq_true rfl) ?_
    refine k_throwsOne (by first | exact zb_or | omega) (RK.v ?_)
    refine i_if_eq (tgt := 23) dX11_longestLength_16 (by decide) (by decide) (fun c16 => ?_) (fun c16 => by omega)
    refine i_aload_n dX11_longestLength_23 rfl ?_
    refine i_iload_n dX11_longestLength_24 rfl ?_
    refine t_callV (As := [_]) dX11_longestLength_25 cfX11_longest imX11_longest seX11_longest lX11_273 rfl rfl rfl (Nat.le_of_ble_eq_true rfl) ?_
    refine k_longest hO (by omega) (fun C1 hC1 r hr hr2 => RK.v ?_)
    have rr := wLong_rg hr
    refine i_ireturn dX11_longestLength_28 rfl rfl ?_
    exact hp0 (by omega) _ hC1 r hr
  · -- on
    refine i_const dX11_longestLength_8 ?_
    refine i_goto (tgt := 13) dX11_longestLength_9 (by decide) ?_
    refine t_callV (As := [_]) dX11_longestLength_13 cfX11_throwsOne imX11_throwsOne seX11_throwsOne lX11_209 rfl rfl rfl (Nat.le_of_ble_eq_true rfl) ?_
    refine k_throwsOne (by first | exact zb_or | omega) (RK.v ?_)
    refine i_if_eq (tgt := 23) dX11_longestLength_16 (by decide) (by decide) (fun c16 => by omega) (fun c16 => ?_)
    refine i_const dX11_longestLength_19 ?_
    refine i_goto (tgt := 28) dX11_longestLength_20 (by decide) ?_
    refine i_ireturn dX11_longestLength_28 rfl rfl ?_
    exact hp1 (by omega)
theorem k_isFinite {s : Int} (hO : wOK (C 0)) (h_s : -2147483648 ≤ s ∧ s < 2147483648) (hp1 : ¬ (s = 0 ∨ s = 1) → P (.inl (some (.int (iI 0)))) (vu V 12 1, C, J)) (hp0 : s = 0 ∨ s = 1 → ∀ C', sC [26] C C' → ∀ r, wLong (C 0) s r → P (.inl (some (.int (iI (zb (r ≠ -1)))))) (vu V 12 0, C', J)) : RM G mX11_isFinite (m_I Y h0) [.ref (Y 38), .int (iI s)] (d + 3) 0 0 P (V, C, J) := by
  refine RM.of (L := [some (.ref (Y 38)), some (.int (iI s))]) cfX11_isFinite rfl (Nat.le_of_ble_eq_true rfl) ?_
  refine i_aload_n dX11_isFinite_0 rfl ?_
  refine i_iload_n dX11_isFinite_1 rfl ?_
  refine t_callS (As := [_]) dX11_isFinite_2 cfX11_isSlot stX11_isSlot lX11_112 rfl rfl (Nat.le_of_ble_eq_true rfl) ?_
  refine k_isSlot (by omega) (RK.v ?_)
  refine i_ifne_b (tgt := 12) dX11_isFinite_5 (by decide) (fun c5 => ?_) (fun c5 => ?_)
  · -- jumps
    refine i_const dX11_isFinite_12 ?_
    refine t_callV (As := [_]) dX11_isFinite_13 cfX11_throwsOne imX11_throwsOne seX11_throwsOne lX11_209 rfl rfl rfl (Nat.le_of_ble_eq_true rfl) ?_
    refine k_throwsOne (by first | exact zb_or | omega) (RK.v ?_)
    refine i_if_ne (tgt := 32) dX11_isFinite_16 (by decide) (by decide) (fun c16 => by omega) (fun c16 => ?_)
    refine i_aload_n dX11_isFinite_19 rfl ?_
    refine i_iload_n dX11_isFinite_20 rfl ?_
    refine t_callV (As := [_]) dX11_isFinite_21 cfX11_longest imX11_longest seX11_longest lX11_273 rfl rfl rfl (Nat.le_of_ble_eq_true rfl) ?_
    refine k_longest hO (by omega) (fun C1 hC1 r hr hr2 => RK.v ?_)
    have rr := wLong_rg hr
    refine i_const dX11_isFinite_24 ?_
    refine i_icmp_eq (tgt := 32) dX11_isFinite_25 (by decide) (by omega) (by omega) (fun c25 => ?_) (fun c25 => ?_)
    · -- jumps
      refine i_const dX11_isFinite_32 ?_
      refine i_ireturn dX11_isFinite_33 rfl rfl ?_
      have hp := hp0 (by omega) _ hC1 r hr
      first | (rw [zb_t (by omega)] at hp; exact hp) | (rw [zb_f (by omega)] at hp; exact hp)
    · -- on
      refine i_const dX11_isFinite_28 ?_
      refine i_goto (tgt := 33) dX11_isFinite_29 (by decide) ?_
      refine i_ireturn dX11_isFinite_33 rfl rfl ?_
      have hp := hp0 (by omega) _ hC1 r hr
      first | (rw [zb_t (by omega)] at hp; exact hp) | (rw [zb_f (by omega)] at hp; exact hp)
  · -- on
    refine i_const dX11_isFinite_8 ?_
    refine i_goto (tgt := 13) dX11_isFinite_9 (by decide) ?_
    refine t_callV (As := [_]) dX11_isFinite_13 cfX11_throwsOne imX11_throwsOne seX11_throwsOne lX11_209 rfl rfl rfl (Nat.le_of_ble_eq_true rfl) ?_
    refine k_throwsOne (by first | exact zb_or | omega) (RK.v ?_)
    refine i_if_ne (tgt := 32) dX11_isFinite_16 (by decide) (by decide) (fun c16 => ?_) (fun c16 => by omega)
    refine i_const dX11_isFinite_32 ?_
    refine i_ireturn dX11_isFinite_33 rfl rfl ?_
    exact hp1 (by omega)
end M20
