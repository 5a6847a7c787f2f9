/-! ===== the reference: words counted and written, the calls ===== -/
section M18
variable {G : p_G} {Y : Nat → Nat} {h0 : p_H} {P : (Option Value) ⊕ String → m_X → Prop} {d : Nat} {V : Nat → Int} {C : Nat → Int → Int} {J : Int → Int}
theorem k_wordCount {s n : Int} (hO : wOK (C 0)) (h_s : -2147483648 ≤ s ∧ s < 2147483648) (h_n : -2147483648 ≤ n ∧ n < 2147483648) (hp1 : ¬ (s = 0 ∨ s = 1) → P (.inl (some (.long (lI 0)))) (vu V 12 1, C, J)) (hp2 : (s = 0 ∨ s = 1) ∧ ¬ (0 ≤ n ∧ n ≤ 20) → P (.inl (some (.long (lI 0)))) (vu V 12 2, C, J)) (hp0 : (s = 0 ∨ s = 1) ∧ (0 ≤ n ∧ n ≤ 20) → ∀ J', P (.inl (some (.long (lI (wCW (C 0) s n.toNat 0))))) (vu V 12 0, C, J')) : RM G mX11_wordCount (m_I Y h0) [.ref (Y 38), .int (iI s), .int (iI n)] (d + 3) 0 0 P (V, C, J) := by
  refine RM.of (L := [some (.ref (Y 38)), some (.int (iI s)), some (.int (iI n))]) cfX11_wordCount rfl (Nat.le_of_ble_eq_true rfl) ?_
  refine i_aload_n dX11_wordCount_0 rfl ?_
  refine i_iload_n dX11_wordCount_1 rfl ?_
  refine t_callS (As := [_]) dX11_wordCount_2 cfX11_isSlot stX11_isSlot lX11_112 rfl rfl (Nat.le_of_ble_eq_true rfl) ?_
  refine k_isSlot (by omega) (RK.v ?_)
  refine i_ifne_b (tgt := 12) dX11_wordCount_5 (by decide) (fun c5 => ?_) (fun c5 => ?_)
  · -- jumps
    refine i_const dX11_wordCount_12 ?_
    refine i_iload_n dX11_wordCount_13 rfl ?_
    refine i_const dX11_wordCount_14 ?_
    refine i_bipush dX11_wordCount_15 (by decide) ?_
    refine t_callS (As := [_, _, _]) dX11_wordCount_17 cfX11_in stX11_in lX11_108 rfl rfl (Nat.le_of_ble_eq_true rfl) ?_
    refine k_in (by omega) (by omega) (by omega) (RK.v ?_)
    refine i_ifne_b (tgt := 27) dX11_wordCount_20 (by decide) (fun c20 => ?_) (fun c20 => ?_)
    · -- jumps
      refine i_const dX11_wordCount_27 ?_
      refine t_callV (As := [_, _]) dX11_wordCount_28 cfX11_throwsOne_ imX11_throwsOne_ seX11_throwsOne_ lX11_225 rfl rfl rfl (Nat.le_of_ble_eq_true rfl) ?_
      refine k_throwsOne_ (by omega) (by omega) (fun z => absurd z (by decide)) (fun _ z => absurd z (by decide)) (fun _ _ => RK.v ?_)
      refine i_if_eq (tgt := 36) dX11_wordCount_31 (by decide) (by decide) (fun c31 => ?_) (fun c31 => by omega)
      refine i_aload_n dX11_wordCount_36 rfl ?_
      refine i_iload_n dX11_wordCount_37 rfl ?_
      refine i_iload_n dX11_wordCount_38 rfl ?_
      refine t_callV (As := [_, _]) dX11_wordCount_39 cfX11_countsWords imX11_countsWords seX11_countsWords lX11_270 rfl rfl rfl (Nat.le_of_ble_eq_true rfl) ?_
      refine k_countsWords hO (by omega) (by omega) (fun J1 hJ1 => RK.n0 ?_)
      refine i_aload_n dX11_wordCount_42 rfl ?_
      refine t_getA dX11_wordCount_43 fX11_66.o rfl ?_
      refine i_bipush dX11_wordCount_46 (by decide) ?_
      refine i_iload_n dX11_wordCount_48 rfl ?_
      refine i_mul dX11_wordCount_49 ?_
      refine t_lald (v := (J1) (60 * n)) dX11_wordCount_50 (by omega) rfl ?_
      refine i_lreturn dX11_wordCount_51 rfl ?_
      have b1 := hO.sts (s := s) (by omega)
      have q := hJ1 n 0 (by omega) (by omega) (by omega) (by omega)
      rw [Int.add_zero] at q
      rw [q]
      exact hp0 (by omega) _
    · -- on
      refine i_const dX11_wordCount_23 ?_
      refine i_goto (tgt := 28) dX11_wordCount_24 (by decide) ?_
      refine t_callV (As := [_, _]) dX11_wordCount_28 cfX11_throwsOne_ imX11_throwsOne_ seX11_throwsOne_ lX11_225 rfl rfl rfl (Nat.le_of_ble_eq_true rfl) ?_
      refine k_throwsOne_ (by omega) (by omega) (fun z => absurd z (by decide)) (fun _ _ => RK.v ?_) (fun _ z => absurd z (by decide))
      refine i_if_eq (tgt := 36) dX11_wordCount_31 (by decide) (by decide) (fun c31 => by omega) (fun c31 => ?_)
      refine i_lconst dX11_wordCount_34 (z := 0) (by decide) ?_
      refine i_lreturn dX11_wordCount_35 rfl ?_
      exact hp2 (by omega)
  · -- on
    refine i_const dX11_wordCount_8 ?_
    refine i_goto (tgt := 13) dX11_wordCount_9 (by decide) ?_
    refine i_iload_n dX11_wordCount_13 rfl ?_
    refine i_const dX11_wordCount_14 ?_
    refine i_bipush dX11_wordCount_15 (by decide) ?_
    refine t_callS (As := [_, _, _]) dX11_wordCount_17 cfX11_in stX11_in lX11_108 rfl rfl (Nat.le_of_ble_eq_true rfl) ?_
    refine k_in (by omega) (by omega) (by omega) (RK.v ?_)
    refine i_ifne_b (tgt := 27) dX11_wordCount_20 (by decide) (fun c20 => ?_) (fun c20 => ?_)
    · -- jumps
      refine i_const dX11_wordCount_27 ?_
      refine t_callV (As := [_, _]) dX11_wordCount_28 cfX11_throwsOne_ imX11_throwsOne_ seX11_throwsOne_ lX11_225 rfl rfl rfl (Nat.le_of_ble_eq_true rfl) ?_
      refine k_throwsOne_ (by omega) (by omega) (fun _ => RK.v ?_) (fun z => absurd z (by decide)) (fun z => absurd z (by decide))
      refine i_if_eq (tgt := 36) dX11_wordCount_31 (by decide) (by decide) (fun c31 => by omega) (fun c31 => ?_)
      refine i_lconst dX11_wordCount_34 (z := 0) (by decide) ?_
      refine i_lreturn dX11_wordCount_35 rfl ?_
      exact hp1 (by omega)
    · -- on
      refine i_const dX11_wordCount_23 ?_
      refine i_goto (tgt := 28) dX11_wordCount_24 (by decide) ?_
      refine t_callV (As := [_, _]) dX11_wordCount_28 cfX11_throwsOne_ imX11_throwsOne_ seX11_throwsOne_ lX11_225 rfl rfl rfl (Nat.le_of_ble_eq_true rfl) ?_
      refine k_throwsOne_ (by omega) (by omega) (fun _ => RK.v ?_) (fun z => absurd z (by decide)) (fun z => absurd z (by decide))
      refine i_if_eq (tgt := 36) dX11_wordCount_31 (by decide) (by decide) (fun c31 => by omega) (fun c31 => ?_)
      refine i_lconst dX11_wordCount_34 (z := 0) (by decide) ?_
      refine i_lreturn dX11_wordCount_35 rfl ?_
      exact hp1 (by omega)
/-- words that begin with the buffer's word -/
noncomputable def wPre (w b : Int → Int) (s m n : Int) : Int := zc (m ≤ n ∧ ∀ i, 0 ≤ i → i < m → bStr b i) * wCW w s (n - m).toNat (wRun w b s m.toNat)
theorem k_wp_l {s n : Int} (hO : wOK (C 0)) (hs : s = 0 ∨ s = 1) (hn : 0 ≤ n ∧ n ≤ 20) (hn7 : V 7 ≤ n) (h7 : 0 ≤ V 7 ∧ V 7 ≤ 200) (hby : ∀ i, 0 ≤ i → i < V 7 → 0 ≤ C 6 i ∧ C 6 i < 256) (hp : ∀ J', P (.inl (some (.long (lI (wPre (C 0) (C 6) s (V 7) n))))) (V, C, J')) : ∀ (zz : Nat) (k : Int), zz = (V 7 - k).toNat → (0 ≤ k) → (k ≤ V 7) → (∀ i, 0 ≤ i → i < k → bStr (C 6) i) → RW G mX11_wordCountWithPrefix (m_I Y h0) P (d + 3) 0 0 49 [some (.ref (Y 38)), some (.int (iI s)), some (.int (iI n)), some (.int (iI (wRun (C 0) (C 6) s k.toNat))), some (.int (iI k))] [] (V, C, J) := by
  intro zz
  induction zz using Nat.strongRecOn with
  | _ zz ih =>
    intro k hzz h1 h2 hI
    have b1 := hO.sts hs
    have b2 := wRun_ok (b := C 6) hO hs k.toNat (fun i i0 i1 => hI i i0 (by omega))
    have b3 := hby k h1
    refine i_iload dX11_wordCountWithPrefix_49 rfl ?_
    refine i_aload_n dX11_wordCountWithPrefix_51 rfl ?_
    refine t_getI dX11_wordCountWithPrefix_52 fX11_89 (by decide) rfl ?_
    refine i_icmp_ge (tgt := 99) dX11_wordCountWithPrefix_55 (by decide) (by omega) (by omega) (fun c55 => ?_) (fun c55 => ?_)
    · -- jumps
      refine i_aload_n dX11_wordCountWithPrefix_99 rfl ?_
      refine i_iload_n dX11_wordCountWithPrefix_100 rfl ?_
      refine i_iload_n dX11_wordCountWithPrefix_101 rfl ?_
      refine i_aload_n dX11_wordCountWithPrefix_102 rfl ?_
      refine t_getI dX11_wordCountWithPrefix_103 fX11_89 (by decide) rfl ?_
      refine i_sub dX11_wordCountWithPrefix_106 ?_
      refine t_callV (As := [_, _]) dX11_wordCountWithPrefix_107 cfX11_countsWords imX11_countsWords seX11_countsWords lX11_270 rfl rfl rfl (Nat.le_of_ble_eq_true rfl) ?_
      refine k_countsWords hO (by omega) (by omega) (fun J1 hJ1 => RK.n0 ?_)
      refine i_aload_n dX11_wordCountWithPrefix_110 rfl ?_
      refine t_getA dX11_wordCountWithPrefix_111 fX11_66.o rfl ?_
      refine i_bipush dX11_wordCountWithPrefix_114 (by decide) ?_
      refine i_iload_n dX11_wordCountWithPrefix_116 rfl ?_
      refine i_aload_n dX11_wordCountWithPrefix_117 rfl ?_
      refine t_getI dX11_wordCountWithPrefix_118 fX11_89 (by decide) rfl ?_
      refine i_sub dX11_wordCountWithPrefix_121 ?_
      refine i_mul dX11_wordCountWithPrefix_122 ?_
      refine i_iload_n dX11_wordCountWithPrefix_123 rfl ?_
      refine i_add dX11_wordCountWithPrefix_124 ?_
      refine t_lald (v := (J1) (60 * (n - (V 7)) + wRun (C 0) (C 6) s k.toNat)) dX11_wordCountWithPrefix_125 (by omega) rfl ?_
      refine i_lreturn dX11_wordCountWithPrefix_126 rfl ?_
      obtain rfl : k = V 7 := by omega
      rw [hJ1 (n - V 7) _ (by omega) (by omega) b2.1 b2.2]
      refine Eq.mp ?_ (hp J1)
      unfold wPre
      rw [zc_t ⟨hn7, hI⟩, Int.one_mul]
    · -- on
      refine i_aload_n dX11_wordCountWithPrefix_58 rfl ?_
      refine t_getA dX11_wordCountWithPrefix_59 fX11_22.o rfl ?_
      refine i_iload dX11_wordCountWithPrefix_62 rfl ?_
      refine t_iald (N := 200) dX11_wordCountWithPrefix_64 (by decide) (by decide) rfl (by omega) rfl ?_
      refine i_bipush dX11_wordCountWithPrefix_65 (by decide) ?_
      refine i_sub dX11_wordCountWithPrefix_67 ?_
      refine t_callS (As := [_]) dX11_wordCountWithPrefix_68 cfX11_isStreet stX11_isStreet lX11_234 rfl rfl (Nat.le_of_ble_eq_true rfl) ?_
      refine k_isStreet (by omega) (RK.v ?_)
      refine i_ifne_b (tgt := 76) dX11_wordCountWithPrefix_71 (by decide) (fun c71 => ?_) (fun c71 => ?_)
      · -- jumps
        refine i_aload_n dX11_wordCountWithPrefix_76 rfl ?_
        refine i_iload_n dX11_wordCountWithPrefix_77 rfl ?_
        refine i_iload_n dX11_wordCountWithPrefix_78 rfl ?_
        refine i_aload_n dX11_wordCountWithPrefix_79 rfl ?_
        refine t_getA dX11_wordCountWithPrefix_80 fX11_22.o rfl ?_
        refine i_iload dX11_wordCountWithPrefix_83 rfl ?_
        refine t_iald (N := 200) dX11_wordCountWithPrefix_85 (by decide) (by decide) rfl (by omega) rfl ?_
        refine i_bipush dX11_wordCountWithPrefix_86 (by decide) ?_
        refine i_sub dX11_wordCountWithPrefix_88 ?_
        refine t_callV (As := [_, _, _]) dX11_wordCountWithPrefix_89 cfX11_goes imX11_goes seX11_goes lX11_231 rfl rfl rfl (Nat.le_of_ble_eq_true rfl) ?_
        refine k_goes (w := C 0) rfl (by omega) (by omega) (by omega) (RK.v ?_)
        refine i_istore_n dX11_wordCountWithPrefix_92 (L' := [some _, some _, some _, some _, some _]) (by decide) rfl ?_
        refine i_iinc dX11_wordCountWithPrefix_93 rfl (L' := [some _, some _, some _, some _, some _]) (by decide) rfl ?_
        refine i_goto (tgt := 49) dX11_wordCountWithPrefix_96 (by decide) ?_
        rw [← wRun_s (w := C 0) (b := C 6) (s := s) h1]
        refine ih _ ?_ (k + 1) rfl (by omega) (by omega) (fun i i0 i1 => ?_)
        · omega
        by_cases e : i = k
        · rw [e]; assumption
        · exact hI i i0 (by omega)
      · -- on
        refine i_lconst dX11_wordCountWithPrefix_74 (z := 0) (by decide) ?_
        refine i_lreturn dX11_wordCountWithPrefix_75 rfl ?_
        refine Eq.mp ?_ (hp J)
        unfold wPre
        rw [zc_f (fun z => by have := z.2 k h1 (by omega); unfold bStr at this; omega), Int.zero_mul]
theorem k_wordCountWithPrefix {s n : Int} (hO : wOK (C 0)) (h_s : -2147483648 ≤ s ∧ s < 2147483648) (h_n : -2147483648 ≤ n ∧ n < 2147483648) (h7 : 0 ≤ V 7 ∧ V 7 ≤ 200) (hby : ∀ i, 0 ≤ i → i < V 7 → 0 ≤ C 6 i ∧ C 6 i < 256) (hp1 : ¬ (s = 0 ∨ s = 1) → P (.inl (some (.long (lI 0)))) (vu V 12 1, C, J)) (hp2 : (s = 0 ∨ s = 1) ∧ ¬ (0 ≤ n ∧ n ≤ 20) → P (.inl (some (.long (lI 0)))) (vu V 12 2, C, J)) (hp0 : (s = 0 ∨ s = 1) ∧ (0 ≤ n ∧ n ≤ 20) → ∀ J', P (.inl (some (.long (lI (wPre (C 0) (C 6) s (V 7) n))))) (vu V 12 0, C, J')) : RM G mX11_wordCountWithPrefix (m_I Y h0) [.ref (Y 38), .int (iI s), .int (iI n)] (d + 3) 0 0 P (V, C, J) := by
  refine RM.of (L := [some (.ref (Y 38)), some (.int (iI s)), some (.int (iI n)), none, none]) cfX11_wordCountWithPrefix rfl (Nat.le_of_ble_eq_true rfl) ?_
  refine i_aload_n dX11_wordCountWithPrefix_0 rfl ?_
  refine i_iload_n dX11_wordCountWithPrefix_1 rfl ?_
  refine t_callS (As := [_]) dX11_wordCountWithPrefix_2 cfX11_isSlot stX11_isSlot lX11_112 rfl rfl (Nat.le_of_ble_eq_true rfl) ?_
  refine k_isSlot (by omega) (RK.v ?_)
  refine i_ifne_b (tgt := 12) dX11_wordCountWithPrefix_5 (by decide) (fun c5 => ?_) (fun c5 => ?_)
  · -- jumps
    refine i_const dX11_wordCountWithPrefix_12 ?_
    refine i_iload_n dX11_wordCountWithPrefix_13 rfl ?_
    refine i_const dX11_wordCountWithPrefix_14 ?_
    refine i_bipush dX11_wordCountWithPrefix_15 (by decide) ?_
    refine t_callS (As := [_, _, _]) dX11_wordCountWithPrefix_17 cfX11_in stX11_in lX11_108 rfl rfl (Nat.le_of_ble_eq_true rfl) ?_
    refine k_in (by omega) (by omega) (by omega) (RK.v ?_)
    refine i_ifne_b (tgt := 27) dX11_wordCountWithPrefix_20 (by decide) (fun c20 => ?_) (fun c20 => ?_)
    · -- jumps
      refine i_const dX11_wordCountWithPrefix_27 ?_
      refine t_callV (As := [_, _]) dX11_wordCountWithPrefix_28 cfX11_throwsOne_ imX11_throwsOne_ seX11_throwsOne_ lX11_225 rfl rfl rfl (Nat.le_of_ble_eq_true rfl) ?_
      refine k_throwsOne_ (by omega) (by omega) (fun z => absurd z (by decide)) (fun _ z => absurd z (by decide)) (fun _ _ => RK.v ?_)
      refine i_if_ne (tgt := 42) dX11_wordCountWithPrefix_31 (by decide) (by decide) (fun c31 => by omega) (fun c31 => ?_)
      refine i_aload_n dX11_wordCountWithPrefix_34 rfl ?_
      refine t_getI (v := V 7) dX11_wordCountWithPrefix_35 fX11_89 (by decide) rfl ?_
      refine i_iload_n dX11_wordCountWithPrefix_38 rfl ?_
      refine i_icmp_le (tgt := 44) dX11_wordCountWithPrefix_39 (by decide) (by omega) (by omega) (fun c39 => ?_) (fun c39 => ?_)
      · -- jumps
        refine i_const dX11_wordCountWithPrefix_44 ?_
        refine i_istore_n dX11_wordCountWithPrefix_45 (L' := [some _, some _, some _, some _, none]) (by decide) rfl ?_
        refine i_const dX11_wordCountWithPrefix_46 ?_
        refine i_istore dX11_wordCountWithPrefix_47 (L' := [some _, some _, some _, some _, some _]) (by decide) rfl ?_
        exact k_wp_l (V := vu V 12 0) hO (by omega) (by omega) (show V 7 ≤ n by omega) h7 hby (hp0 (by omega)) _ 0 rfl (by omega) (show (0 : Int) ≤ V 7 by omega) (fun c2 c0 c1 => by omega)
      · -- on
        refine i_lconst dX11_wordCountWithPrefix_42 (z := 0) (by decide) ?_
        refine i_lreturn dX11_wordCountWithPrefix_43 rfl ?_
        refine Eq.mp ?_ (hp0 (by omega) J)
        unfold wPre
        rw [zc_f (fun z => by have := z.1; omega), Int.zero_mul]
    · -- on
      refine i_const dX11_wordCountWithPrefix_23 ?_
      refine i_goto (tgt := 28) dX11_wordCountWithPrefix_24 (by decide) ?_
      refine t_callV (As := [_, _]) dX11_wordCountWithPrefix_28 cfX11_throwsOne_ imX11_throwsOne_ seX11_throwsOne_ lX11_225 rfl rfl rfl (Nat.le_of_ble_eq_true rfl) ?_
      refine k_throwsOne_ (by omega) (by omega) (fun z => absurd z (by decide)) (fun _ _ => RK.v ?_) (fun _ z => absurd z (by decide))
      refine i_if_ne (tgt := 42) dX11_wordCountWithPrefix_31 (by decide) (by decide) (fun c31 => ?_) (fun c31 => by omega)
      refine i_lconst dX11_wordCountWithPrefix_42 (z := 0) (by decide) ?_
      refine i_lreturn dX11_wordCountWithPrefix_43 rfl ?_
      exact hp2 (by omega)
  · -- on
    refine i_const dX11_wordCountWithPrefix_8 ?_
    refine i_goto (tgt := 13) dX11_wordCountWithPrefix_9 (by decide) ?_
    refine i_iload_n dX11_wordCountWithPrefix_13 rfl ?_
    refine i_const dX11_wordCountWithPrefix_14 ?_
    refine i_bipush dX11_wordCountWithPrefix_15 (by decide) ?_
    refine t_callS (As := [_, _, _]) dX11_wordCountWithPrefix_17 cfX11_in stX11_in lX11_108 rfl rfl (Nat.le_of_ble_eq_true rfl) ?_
    refine k_in (by omega) (by omega) (by omega) (RK.v ?_)
    refine i_ifne_b (tgt := 27) dX11_wordCountWithPrefix_20 (by decide) (fun c20 => ?_) (fun c20 => ?_)
    · -- jumps
      refine i_const dX11_wordCountWithPrefix_27 ?_
      refine t_callV (As := [_, _]) dX11_wordCountWithPrefix_28 cfX11_throwsOne_ imX11_throwsOne_ seX11_throwsOne_ lX11_225 rfl rfl rfl (Nat.le_of_ble_eq_true rfl) ?_
      refine k_throwsOne_ (by omega) (by omega) (fun _ => RK.v ?_) (fun z => absurd z (by decide)) (fun z => absurd z (by decide))
      refine i_if_ne (tgt := 42) dX11_wordCountWithPrefix_31 (by decide) (by decide) (fun c31 => ?_) (fun c31 => by omega)
      refine i_lconst dX11_wordCountWithPrefix_42 (z := 0) (by decide) ?_
      refine i_lreturn dX11_wordCountWithPrefix_43 rfl ?_
      exact hp1 (by omega)
    · -- on
      refine i_const dX11_wordCountWithPrefix_23 ?_
      refine i_goto (tgt := 28) dX11_wordCountWithPrefix_24 (by decide) ?_
      refine t_callV (As := [_, _]) dX11_wordCountWithPrefix_28 cfX11_throwsOne_ imX11_throwsOne_ seX11_throwsOne_ lX11_225 rfl rfl rfl (Nat.le_of_ble_eq_true rfl) ?_
      refine k_throwsOne_ (by omega) (by omega) (fun _ => RK.v ?_) (fun z => absurd z (by decide)) (fun z => absurd z (by decide))
      refine i_if_ne (tgt := 42) dX11_wordCountWithPrefix_31 (by decide) (by decide) (fun c31 => ?_) (fun c31 => by omega)
      refine i_lconst dX11_wordCountWithPrefix_42 (z := 0) (by decide) ?_
      refine i_lreturn dX11_wordCountWithPrefix_43 rfl ?_
      exact hp1 (by omega)
theorem k_ww_l1 {s n m t k x0 : Int} {V' : Nat → Int} {C' : Nat → Int → Int} {J' : Int → Int} (hO : wOK (C 0)) (hw : C' 0 = C 0) (hs : s = 0 ∨ s = 1) (hn : 0 ≤ n ∧ n ≤ 20) (hk : 0 ≤ k ∧ k < n) (ht : 0 ≤ t ∧ t < C 0 (476 * s + 5)) (hJ : ∀ k t, 0 ≤ k → k ≤ n → 0 ≤ t → t < C 0 (476 * s + 5) → J' (60 * k + t) = wCW (C 0) s k.toNat t) (hx0 : 0 ≤ x0 ∧ x0 < zsum (wNx (C 0) s k t) 6) (kk : ∀ c, 0 ≤ c → c < 6 → zsum (wNx (C 0) s k t) c.toNat ≤ x0 → x0 < zsum (wNx (C 0) s k t) (c + 1).toNat → RW G mX11_writeWord (m_I Y h0) P (d + 2) 0 0 153 [some (.ref (Y 38)), some (.int (iI s)), some (.int (iI n)), some (.long (lI m)), none, some (.long (lI (x0 - zsum (wNx (C 0) s k t) c.toNat))), none, some (.int (iI t)), some (.int (iI k)), some (.int (iI c)), none, none] [] (V', C', J')) : ∀ (zz : Nat) (c x y : Int), zz = (6 - c).toNat → (0 ≤ c) → (c < 6) → (0 ≤ x) → (x = x0 - zsum (wNx (C 0) s k t) c.toNat) → (y = wNx (C 0) s k t c) → RW G mX11_writeWord (m_I Y h0) P (d + 2) 0 0 110 [some (.ref (Y 38)), some (.int (iI s)), some (.int (iI n)), some (.long (lI m)), none, some (.long (lI x)), none, some (.int (iI t)), some (.int (iI k)), some (.int (iI c)), some (.long (lI y)), none] [] (V', C', J') := by
  intro zz
  induction zz using Nat.strongRecOn with
  | _ zz ih =>
    intro c x y hzz h1 h2 h3 hx hy
    have b1 := hO.sts hs
    have b2 := @wCW_20 (C 0) s k (C 0 (476 * s + (116 + 6 * t + c))) (by omega)
    have b3 := zsum_le (f := wNx (C 0) s k t) (b := 3656158440062976) 6 (fun j _ _ => wCW_20 (by omega))
    have b5 := zsum_le (f := wNx (C 0) s k t) (b := 3656158440062976) c.toNat (fun j _ _ => wCW_20 (by omega))
    have hy2 : y = wCW (C 0) s k.toNat (C 0 (476 * s + (116 + 6 * t + c))) := hy
    refine i_lload dX11_writeWord_110 rfl ?_
    refine i_lload dX11_writeWord_112 rfl ?_
    refine i_lcmp dX11_writeWord_114 (lI_cmp (by omega) (by omega)) ?_
    refine i_if_lt (tgt := 153) dX11_writeWord_115 (by decide) lc_rg (fun c115 => ?_) (fun c115 => ?_)
    · -- jumps
      have c115 := lc_lt c115
      refine RW.wk (L' := [some _, some _, some _, some _, none, some _, none, some _, some _, some _, none, none]) (p_subL.at (by repeat (first | exact subL_nil | refine subL_s ?_ | refine subL_n ?_))) ?_
      rw [hx]
      exact kk c h1 h2 (by omega) (by rw [zsum_s h1, ← hy]; omega)
    · -- on
      have c115 := lc_ge c115
      have c5 : c + 1 < 6 := by
        refine Decidable.byContradiction (fun z => ?_)
        obtain rfl : c = 5 := by omega
        have e6 := zsum_s (f := wNx (C 0) s k t) (k := 5) (by decide)
        have e7 : zsum (wNx (C 0) s k t) ((5 : Int) + 1).toNat = zsum (wNx (C 0) s k t) 6 := rfl
        omega
      have b4 := hO.nxt hs ht.1 ht.2 (show 0 ≤ c + 1 by omega) c5
      refine i_lload dX11_writeWord_118 rfl ?_
      refine i_lload dX11_writeWord_120 rfl ?_
      refine i_lsub dX11_writeWord_122 ?_
      refine i_lstore dX11_writeWord_123 (L' := [some _, some _, some _, some _, none, some _, none, some _, some _, some _, some _, none]) (by decide) rfl ?_
      refine i_iinc dX11_writeWord_125 rfl (L' := [some _, some _, some _, some _, none, some _, none, some _, some _, some _, some _, none]) (by decide) rfl ?_
      refine i_aload_n dX11_writeWord_128 rfl ?_
      refine t_getA dX11_writeWord_129 fX11_66.o rfl ?_
      refine i_bipush dX11_writeWord_132 (by decide) ?_
      refine i_iload dX11_writeWord_134 rfl ?_
      refine i_mul dX11_writeWord_136 ?_
      refine i_aload_n dX11_writeWord_137 rfl ?_
      refine i_iload_n dX11_writeWord_138 rfl ?_
      refine i_iload dX11_writeWord_139 rfl ?_
      refine i_iload dX11_writeWord_141 rfl ?_
      refine t_callV (As := [_, _, _]) dX11_writeWord_143 cfX11_goes imX11_goes seX11_goes lX11_231 rfl rfl rfl (Nat.le_of_ble_eq_true rfl) ?_
      refine k_goes (w := C 0) hw (by omega) (by omega) (by omega) (RK.v ?_)
      refine i_add dX11_writeWord_146 ?_
      refine t_lald (v := wNx (C 0) s k t (c + 1)) dX11_writeWord_147 (by omega) (hJ _ _ (by omega) (by omega) b4.1 b4.2) ?_
      refine i_lstore dX11_writeWord_148 (L' := [some _, some _, some _, some _, none, some _, none, some _, some _, some _, some _, none]) (by decide) rfl ?_
      refine i_goto (tgt := 110) dX11_writeWord_150 (by decide) ?_
      refine ih _ ?_ (c + 1) _ _ rfl (by omega) (by omega) (by omega) ?_ rfl
      · omega
      rw [zsum_s h1, hx, hy]; omega
theorem k_ww_l2 {s n m : Int} {J' : Int → Int} (hO : wOK (C 0)) (hs : s = 0 ∨ s = 1) (hn : 0 ≤ n ∧ n ≤ 20) (hJ : ∀ k t, 0 ≤ k → k ≤ n → 0 ≤ t → t < C 0 (476 * s + 5) → J' (60 * k + t) = wCW (C 0) s k.toNat t) (hp : ∀ V' C', V' 11 = n → sV [11] V V' → sC [10] C C' → wWord (C 0) s (C' 10) n.toNat 0 m 0 → P (.inl (some (.int (iI n)))) (V', C', J')) : ∀ (zz : Nat) (k t x : Int) (V' : Nat → Int) (C' : Nat → Int → Int), zz = (k + 1).toNat → (-1 ≤ k) → (k < n) → (0 ≤ t ∧ t < C 0 (476 * s + 5)) → (0 ≤ x ∧ x < wCW (C 0) s (k + 1).toNat t) → (V' 11 = n - 1 - k) → (sV [11] V V') → (sC [10] C C') → (∀ r', (∀ i, 0 ≤ i → i < n - 1 - k → r' i = C' 10 i) → wWord (C 0) s r' (k + 1).toNat t x (n - 1 - k) → wWord (C 0) s r' n.toNat 0 m 0) → RW G mX11_writeWord (m_I Y h0) P (d + 2) 0 0 80 [some (.ref (Y 38)), some (.int (iI s)), some (.int (iI n)), some (.long (lI m)), none, some (.long (lI x)), none, some (.int (iI t)), some (.int (iI k)), none, none, none] [] (V', C', J') := by
  intro zz
  induction zz using Nat.strongRecOn with
  | _ zz ih =>
    intro k t x V' C' hzz h1 h2 ht hx h11 hV hC hW
    have hw : C' 0 = C 0 := hC 0 (by decide)
    have b1 := hO.sts hs
    refine i_iload dX11_writeWord_80 rfl ?_
    refine i_if_lt (tgt := 195) dX11_writeWord_82 (by decide) (by omega) (fun c82 => ?_) (fun c82 => ?_)
    · -- jumps
      refine i_aload_n dX11_writeWord_195 rfl ?_
      refine t_getI dX11_writeWord_196 fX11_295 (by decide) rfl ?_
      refine i_ireturn dX11_writeWord_199 rfl rfl ?_
      obtain rfl : k = -1 := by omega
      have e : V' 11 = n := by omega
      rw [e]
      exact hp _ _ e hV hC (hW _ (fun i _ _ => rfl) trivial)
    · -- on
      have hx2 : x < zsum (wNx (C 0) s k t) 6 := by have q := hx.2; rw [wCW_s (by omega), show k + 1 - 1 = k by omega] at q; exact q
      refine i_const dX11_writeWord_85 ?_
      refine i_istore dX11_writeWord_86 (L' := [some _, some _, some _, some _, none, some _, none, some _, some _, some _, none, none]) (by decide) rfl ?_
      refine i_aload_n dX11_writeWord_88 rfl ?_
      refine t_getA dX11_writeWord_89 fX11_66.o rfl ?_
      refine i_bipush dX11_writeWord_92 (by decide) ?_
      refine i_iload dX11_writeWord_94 rfl ?_
      refine i_mul dX11_writeWord_96 ?_
      refine i_aload_n dX11_writeWord_97 rfl ?_
      refine i_iload_n dX11_writeWord_98 rfl ?_
      refine i_iload dX11_writeWord_99 rfl ?_
      refine i_iload dX11_writeWord_101 rfl ?_
      refine t_callV (As := [_, _, _]) dX11_writeWord_103 cfX11_goes imX11_goes seX11_goes lX11_231 rfl rfl rfl (Nat.le_of_ble_eq_true rfl) ?_
      refine k_goes (w := C 0) hw (by omega) (by omega) (by omega) (RK.v ?_)
      have b4 := hO.nxt hs (c := 0) ht.1 ht.2 (by decide) (by decide)
      refine i_add dX11_writeWord_106 ?_
      refine t_lald (v := wNx (C 0) s k t (0)) dX11_writeWord_107 (by omega) (hJ _ _ (by omega) (by omega) b4.1 b4.2) ?_
      refine i_lstore dX11_writeWord_108 (L' := [some _, some _, some _, some _, none, some _, none, some _, some _, some _, some _, none]) (by decide) rfl ?_
      refine k_ww_l1 hO hw hs hn (by omega) ht hJ ⟨hx.1, hx2⟩ (fun c c0 c1 c2 c3 => ?_) _ 0 _ _ rfl (by omega) (by omega) hx.1 ?_ rfl
      · have b4 := hO.nxt hs ht.1 ht.2 c0 c1
        have b6 := zsum_le (f := wNx (C 0) s k t) (b := 3656158440062976) c.toNat (fun j _ _ => wCW_20 (by omega))
        refine i_aload_n dX11_writeWord_153 rfl ?_
        refine i_iload_n dX11_writeWord_154 rfl ?_
        refine i_iload dX11_writeWord_155 rfl ?_
        refine i_iload dX11_writeWord_157 rfl ?_
        refine t_callV (As := [_, _, _]) dX11_writeWord_159 cfX11_goes imX11_goes seX11_goes lX11_231 rfl rfl rfl (Nat.le_of_ble_eq_true rfl) ?_
        refine k_goes (w := C 0) hw (by omega) (by omega) (by omega) (RK.v ?_)
        refine i_istore dX11_writeWord_162 (L' := [some _, some _, some _, some _, none, some _, none, some _, some _, some _, none, none]) (by decide) rfl ?_
        refine i_aload_n dX11_writeWord_164 rfl ?_
        refine t_getA dX11_writeWord_165 fX11_29.o rfl ?_
        refine i_aload_n dX11_writeWord_168 rfl ?_
        refine t_getI dX11_writeWord_169 fX11_295 (by decide) rfl ?_
        refine i_bipush dX11_writeWord_172 (by decide) ?_
        refine i_iload dX11_writeWord_174 rfl ?_
        refine i_add dX11_writeWord_176 ?_
        refine i_i2c dX11_writeWord_177 (iI_i2c (by omega)) ?_
        refine t_cast dX11_writeWord_178 (iI_char (by omega)) (by omega) ?_
        refine i_aload_n dX11_writeWord_179 rfl ?_
        refine i_dup dX11_writeWord_180 rfl ?_
        refine t_getI dX11_writeWord_181 fX11_295 (by decide) rfl ?_
        refine i_const dX11_writeWord_184 ?_
        refine i_add dX11_writeWord_185 ?_
        refine t_put dX11_writeWord_186 fX11_295 (by decide) rfl rfl ?_
        refine i_iinc dX11_writeWord_189 rfl (L' := [some _, some _, some _, some _, none, some _, none, some _, some _, some _, none, none]) (by decide) rfl ?_
        refine i_goto (tgt := 80) dX11_writeWord_192 (by decide) ?_
        refine RW.wk (L' := [some _, some _, some _, some _, none, some _, none, some _, some _, none, none, none]) (p_subL.at (by repeat (first | exact subL_nil | refine subL_s ?_ | refine subL_n ?_))) ?_
        refine ih _ ?_ (k + (-1)) _ _ _ _ rfl (by omega) (by omega) b4 ⟨by omega, ?_⟩ ?_ (hV.vu (by decide)) (hC.cu (by decide)) (fun r' q1 q2 => hW r' (fun i i0 i1 => ?_) ?_)
        · omega
        · rw [zsum_s c0] at c3; rw [show k + -1 + 1 = k by omega]; exact Int.sub_left_lt_of_lt_add c3
        · show V' 11 + 1 = _; omega
        · rw [q1 i i0 (by omega)]; show zu (C' 10) (V' 11) (97 + c) i = _; rw [zu_ne (by omega)]
        · rw [show (k + 1).toNat = k.toNat + 1 by omega]
          refine ⟨c, ⟨c0, c1⟩, ?_, ?_, ?_, ?_⟩
          · rw [Int.toNat_of_nonneg (by omega : 0 ≤ k)]; exact c2
          · rw [Int.toNat_of_nonneg (by omega : 0 ≤ k)]; exact c3
          · rw [q1 _ (by omega) (by omega)]; show zu (C' 10) (V' 11) (97 + c) _ = _; rw [h11, zu_at]
          · rw [Int.toNat_of_nonneg (by omega : 0 ≤ k)]; rw [show k + -1 + 1 = k by omega] at q2; rw [show n - 1 - k + 1 = n - 1 - (k + -1) by omega]; exact q2
      · rw [show (0 : Int).toNat = 0 from rfl]; show x = x - 0; omega
theorem k_writeWord {s n m : Int} (hO : wOK (C 0)) (h_s : -2147483648 ≤ s ∧ s < 2147483648) (h_n : -2147483648 ≤ n ∧ n < 2147483648) (h_m : -9223372036854775808 ≤ m ∧ m < 9223372036854775808) (hp1 : ¬ (s = 0 ∨ s = 1) → P (.inl (some (.int (iI 0)))) (vu V 12 1, C, J)) (hp2 : (s = 0 ∨ s = 1) ∧ ¬ (0 ≤ n ∧ n ≤ 20) → P (.inl (some (.int (iI 0)))) (vu V 12 2, C, J)) (hp3 : ((s = 0 ∨ s = 1) ∧ (0 ≤ n ∧ n ≤ 20)) ∧ ¬ (0 ≤ m ∧ m < wCW (C 0) s n.toNat 0) → ∀ J', P (.inl (some (.int (iI (-1))))) (vu V 12 0, C, J')) (hp0 : ((s = 0 ∨ s = 1) ∧ (0 ≤ n ∧ n ≤ 20)) ∧ (0 ≤ m ∧ m < wCW (C 0) s n.toNat 0) → ∀ V' C' J', V' 12 = 0 → V' 11 = n → sV [11, 12] V V' → sC [10] C C' → wWord (C 0) s (C' 10) n.toNat 0 m 0 → P (.inl (some (.int (iI n)))) (V', C', J')) : RM G mX11_writeWord (m_I Y h0) [.ref (Y 38), .int (iI s), .int (iI n), .long (lI m)] (d + 3) 0 0 P (V, C, J) := by
  refine RM.of (L := [some (.ref (Y 38)), some (.int (iI s)), some (.int (iI n)), some (.long (lI m)), none, none, none, none, none, none, none, none]) cfX11_writeWord rfl (Nat.le_of_ble_eq_true rfl) ?_
  refine i_aload_n dX11_writeWord_0 rfl ?_
  refine i_iload_n dX11_writeWord_1 rfl ?_
  refine t_callS (As := [_]) dX11_writeWord_2 cfX11_isSlot stX11_isSlot lX11_112 rfl rfl (Nat.le_of_ble_eq_true rfl) ?_
  refine k_isSlot (by omega) (RK.v ?_)
  refine i_ifne_b (tgt := 12) dX11_writeWord_5 (by decide) (fun c5 => ?_) (fun c5 => ?_)
  · -- jumps
    refine i_const dX11_writeWord_12 ?_
    refine i_iload_n dX11_writeWord_13 rfl ?_
    refine i_const dX11_writeWord_14 ?_
    refine i_bipush dX11_writeWord_15 (by decide) ?_
    refine t_callS (As := [_, _, _]) dX11_writeWord_17 cfX11_in stX11_in lX11_108 rfl rfl (Nat.le_of_ble_eq_true rfl) ?_
    refine k_in (by omega) (by omega) (by omega) (RK.v ?_)
    refine i_ifne_b (tgt := 27) dX11_writeWord_20 (by decide) (fun c20 => ?_) (fun c20 => ?_)
    · -- jumps
      refine i_const dX11_writeWord_27 ?_
      refine t_callV (As := [_, _]) dX11_writeWord_28 cfX11_throwsOne_ imX11_throwsOne_ seX11_throwsOne_ lX11_225 rfl rfl rfl (Nat.le_of_ble_eq_true rfl) ?_
      refine k_throwsOne_ (by omega) (by omega) (fun z => absurd z (by decide)) (fun _ z => absurd z (by decide)) (fun _ _ => RK.v ?_)
      refine i_if_eq (tgt := 36) dX11_writeWord_31 (by decide) (by decide) (fun c31 => ?_) (fun c31 => by omega)
      refine i_aload_n dX11_writeWord_36 rfl ?_
      refine i_iload_n dX11_writeWord_37 rfl ?_
      refine i_iload_n dX11_writeWord_38 rfl ?_
      refine t_callV (As := [_, _]) dX11_writeWord_39 cfX11_countsWords imX11_countsWords seX11_countsWords lX11_270 rfl rfl rfl (Nat.le_of_ble_eq_true rfl) ?_
      refine k_countsWords hO (by omega) (by omega) (fun J1 hJ1 => RK.n0 ?_)
      have b1 := hO.sts (s := s) (by omega)
      have b2 := @wCW_20 (C 0) s n 0 (by omega)
      refine i_lload_n dX11_writeWord_42 rfl ?_
      refine i_lconst dX11_writeWord_43 (z := 0) (by decide) ?_
      refine i_lcmp dX11_writeWord_44 (lI_cmp (by omega) (by omega)) ?_
      refine i_if_lt (tgt := 62) dX11_writeWord_45 (by decide) lc_rg (fun c45 => ?_) (fun c45 => ?_)
      · -- jumps
        have c45 := lc_lt c45
        refine i_const dX11_writeWord_62 ?_
        refine i_ireturn dX11_writeWord_63 rfl rfl ?_
        exact hp3 (by omega) _
      · -- on
        have c45 := lc_ge c45
        refine i_lload_n dX11_writeWord_48 rfl ?_
        refine i_aload_n dX11_writeWord_49 rfl ?_
        refine t_getA dX11_writeWord_50 fX11_66.o rfl ?_
        refine i_bipush dX11_writeWord_53 (by decide) ?_
        refine i_iload_n dX11_writeWord_55 rfl ?_
        refine i_mul dX11_writeWord_56 ?_
        refine t_lald (v := wCW (C 0) s n.toNat 0) dX11_writeWord_57 (by omega) ((congrArg _ (Int.add_zero _).symm).trans (hJ1 n 0 (by omega) (by omega) (by omega) (by omega))) ?_
        refine i_lcmp dX11_writeWord_58 (lI_cmp (by omega) (by omega)) ?_
        refine i_if_lt (tgt := 64) dX11_writeWord_59 (by decide) lc_rg (fun c59 => ?_) (fun c59 => ?_)
        · -- jumps
          have c59 := lc_lt c59
          refine i_lload_n dX11_writeWord_64 rfl ?_
          refine i_lstore dX11_writeWord_65 (L' := [some _, some _, some _, some _, none, some _, none, none, none, none, none, none]) (by decide) rfl ?_
          refine i_const dX11_writeWord_67 ?_
          refine i_istore dX11_writeWord_68 (L' := [some _, some _, some _, some _, none, some _, none, some _, none, none, none, none]) (by decide) rfl ?_
          refine i_aload_n dX11_writeWord_70 rfl ?_
          refine i_const dX11_writeWord_71 ?_
          refine t_put dX11_writeWord_72 fX11_295 (by decide) rfl rfl ?_
          refine i_iload_n dX11_writeWord_75 rfl ?_
          refine i_const dX11_writeWord_76 ?_
          refine i_sub dX11_writeWord_77 ?_
          refine i_istore dX11_writeWord_78 (L' := [some _, some _, some _, some _, none, some _, none, some _, some _, none, none, none]) (by decide) rfl ?_
          refine RW.gen (fun V2 hV2 C2 hC2 J2 hJ2 => ?_)
          have sv2 : sV [11, 12] V V2 := by rw [hV2]; repeat' (first | exact sV.rfl | refine sV.vu ?_ (by decide))
          have v2_11 : V2 11 = 0 := by rw [hV2]; rfl
          have v2_12 : V2 12 = 0 := by rw [hV2]; rfl
          have sc2 : sC [] (C) C2 := by rw [hC2]; repeat' (first | exact sC.rfl | refine sC.cu ?_ (by decide))
          subst hJ2
          clear hV2 hC2
          have hO' : wOK (C2 0) := by rw [sc2 0 (by decide)]; exact hO
          have ow : C2 0 = C 0 := sc2 0 (by decide)
          refine k_ww_l2 (n := n) (m := m) hO' (by omega) (by omega) (by rw [ow]; exact hJ1) (fun V' C' g1 g2 g3 g4 => ?_) _ (n - 1) 0 m _ _ rfl (by omega) (by omega) (by rw [ow]; omega) ⟨by omega, ?_⟩ ?_ sV.rfl sC.rfl (fun r' q1 q2 => ?_)
          · rw [ow] at g4; exact hp0 (by omega) _ _ _ ((g2 12 (by decide)).trans v2_12) g1 (sV.t2 sv2 g2 (by decide) (by decide)) (sC.t2 sc2 g3 (by decide) (by decide)) g4
          · rw [ow, show n - 1 + 1 = n by omega]; omega
          · rw [v2_11]; omega
          · rw [show n - 1 + 1 = n by omega, show n - 1 - (n - 1) = 0 by omega] at q2; exact q2
        · -- on
          have c59 := lc_ge c59
          refine i_const dX11_writeWord_62 ?_
          refine i_ireturn dX11_writeWord_63 rfl rfl ?_
          exact hp3 (by omega) _
    · -- on
      refine i_const dX11_writeWord_23 ?_
      refine i_goto (tgt := 28) dX11_writeWord_24 (by decide) ?_
      refine t_callV (As := [_, _]) dX11_writeWord_28 cfX11_throwsOne_ imX11_throwsOne_ seX11_throwsOne_ lX11_225 rfl rfl rfl (Nat.le_of_ble_eq_true rfl) ?_
      refine k_throwsOne_ (by omega) (by omega) (fun z => absurd z (by decide)) (fun _ _ => RK.v ?_) (fun _ z => absurd z (by decide))
      refine i_if_eq (tgt := 36) dX11_writeWord_31 (by decide) (by decide) (fun c31 => by omega) (fun c31 => ?_)
      refine i_const dX11_writeWord_34 ?_
      refine i_ireturn dX11_writeWord_35 rfl rfl ?_
      exact hp2 (by omega)
  · -- on
    refine i_const dX11_writeWord_8 ?_
    refine i_goto (tgt := 13) dX11_writeWord_9 (by decide) ?_
    refine i_iload_n dX11_writeWord_13 rfl ?_
    refine i_const dX11_writeWord_14 ?_
    refine i_bipush dX11_writeWord_15 (by decide) ?_
    refine t_callS (As := [_, _, _]) dX11_writeWord_17 cfX11_in stX11_in lX11_108 rfl rfl (Nat.le_of_ble_eq_true rfl) ?_
    refine k_in (by omega) (by omega) (by omega) (RK.v ?_)
    refine i_ifne_b (tgt := 27) dX11_writeWord_20 (by decide) (fun c20 => ?_) (fun c20 => ?_)
    · -- jumps
      refine i_const dX11_writeWord_27 ?_
      refine t_callV (As := [_, _]) dX11_writeWord_28 cfX11_throwsOne_ imX11_throwsOne_ seX11_throwsOne_ lX11_225 rfl rfl rfl (Nat.le_of_ble_eq_true rfl) ?_
      refine k_throwsOne_ (by omega) (by omega) (fun _ => RK.v ?_) (fun z => absurd z (by decide)) (fun z => absurd z (by decide))
      refine i_if_eq (tgt := 36) dX11_writeWord_31 (by decide) (by decide) (fun c31 => by omega) (fun c31 => ?_)
      refine i_const dX11_writeWord_34 ?_
      refine i_ireturn dX11_writeWord_35 rfl rfl ?_
      exact hp1 (by omega)
    · -- on
      refine i_const dX11_writeWord_23 ?_
      refine i_goto (tgt := 28) dX11_writeWord_24 (by decide) ?_
      refine t_callV (As := [_, _]) dX11_writeWord_28 cfX11_throwsOne_ imX11_throwsOne_ seX11_throwsOne_ lX11_225 rfl rfl rfl (Nat.le_of_ble_eq_true rfl) ?_
      refine k_throwsOne_ (by omega) (by omega) (fun _ => RK.v ?_) (fun z => absurd z (by decide)) (fun z => absurd z (by decide))
      refine i_if_eq (tgt := 36) dX11_writeWord_31 (by decide) (by decide) (fun c31 => by omega) (fun c31 => ?_)
      refine i_const dX11_writeWord_34 ?_
      refine i_ireturn dX11_writeWord_35 rfl rfl ?_
      exact hp1 (by omega)
end M18
