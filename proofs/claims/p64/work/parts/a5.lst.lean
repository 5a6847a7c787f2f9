/-! ===== the law: words listed ===== -/
section A5a
variable {V V' : Nat → Int} {C C' : Nat → Int → Int} {J J' : c_J} {w r r2 : Int → Int} {s n k x : Int}
theorem cNow.wrt (h : cNow V C J w) (hV : sV [3] V V') (hC : sC [22] C C') (hJ : J'.2 = J.2) : cNow V' C' J' w :=
  h.cg3 (fun i i0 i1 => hV i (by simp only [List.mem_cons, List.not_mem_nil, or_false]; omega)) (fun i i0 i1 => hC i (by simp only [List.mem_cons, List.not_mem_nil, or_false]; omega)) hJ
theorem gWd0 (hn : 0 ≤ n) (h : wWord w s r n.toNat 0 k 0) (k0 : 0 ≤ k) (k1 : k < wCW w s n.toNat 0) : (∀ j, 0 ≤ j → j < n → bStr r j) ∧ wAcc w s (wRun w r s n.toNat) := by
  obtain ⟨h1, h2⟩ := gWord n.toNat 0 k h k0 k1
  rw [Nat.zero_add] at h2
  exact ⟨fun j j0 j1 => h1 j (by omega) (by omega), h2⟩
theorem gV_0 (n : Nat) : gV r n = gU r n 0 := by
  have h := gV_U (r := r) n 0
  rw [Nat.zero_add] at h
  rw [h]
  show 0 * 6 ^ n + gU r n 0 = _
  rw [Int.zero_mul, Int.zero_add]
/-- the next word is worth more -/
theorem gNext (hn : 0 ≤ n) (h : wWord w s r n.toNat 0 (k - 1) 0) (h2 : wWord w s r2 n.toNat 0 k 0) (k0 : 0 < k) (k1 : k < wCW w s n.toNat 0) : gV r n.toNat < gV r2 n.toNat := by
  have a := (gWd0 hn h (by omega) (by omega)).1
  have b := (gWd0 hn h2 (by omega) k1).1
  rw [gV_0, gV_0]
  exact gAsc n.toNat 0 0 (k - 1) k h h2 (by omega) (by omega) k1 (fun j j0 j1 => a j j0 (by omega)) (fun j j0 j1 => b j j0 (by omega))
/-- the worth of the word ahead -/
def gLs (w : Int → Int) (s n k l : Int) : Prop := (k = 0 ∧ l = -1) ∨ (0 < k ∧ ∃ r : Int → Int, wWord w s r n.toNat 0 (k - 1) 0 ∧ l = gV r n.toNat)
theorem gLs.lt {l : Int} (hL : gLs w s n k l) (hn : 0 ≤ n) (h2 : wWord w s r2 n.toNat 0 k 0) (k1 : k < wCW w s n.toNat 0) (r0 : 0 ≤ gV r2 n.toNat) : l < gV r2 n.toNat := by
  rcases hL with z | ⟨z0, r, z1, z2⟩
  · omega
  · rw [z2]
    exact gNext hn z1 h2 z0 k1
end A5a
section A5
variable {G : p_G} {Y : Nat → Nat} {h0 : p_H} {P : (Option Value) ⊕ String → c_X → Prop} {d : Nat} {V : Nat → Int} {C : Nat → Int → Int} {J : c_J}
variable {w : Int → Int}
theorem h_lst_i {s n m l k : Int} {K0 N0 : Nat} (hZ : p_Zs G) (hN : cNow V C J w) (hA : wAll w) (hs : s = 0 ∨ s = 1) (h_n : 0 ≤ n ∧ n ≤ 5) (h3 : 0 ≤ V 3 ∧ V 3 ≤ 3600) (hv3 : V 3 = n) (hb : ∀ j, 0 ≤ j → j < n → bStr (C 22) j) (kk : RW G mL_isListed (c_I Y h0) P (d + 9) K0 N0 109 [some (.ref (Y 0)), some (.int (iI s)), some (.int (iI n)), some (.long (lI m)), none, some (.int (iI l)), some (.int (iI k)), some (.int (iI (wRun w (C 22) s n.toNat))), some (.int (iI (gV (C 22) n.toNat))), none, none] [] (V, C, J)) : ∀ (zz : Nat) (i t x : Int), zz = (n - i).toNat → (0 ≤ i ∧ i ≤ n) → (t = wRun w (C 22) s i.toNat) → (x = gV (C 22) i.toNat) → RW G mL_isListed (c_I Y h0) P (d + 9) (3 * zz + K0) (18 * zz + N0) 52 [some (.ref (Y 0)), some (.int (iI s)), some (.int (iI n)), some (.long (lI m)), none, some (.int (iI l)), some (.int (iI k)), some (.int (iI t)), some (.int (iI x)), some (.int (iI i)), none] [] (V, C, J) := by
  intro zz
  induction zz using Nat.strongRecOn with
  | _ zz ih =>
    intro i t x hzz h1 ht hx
    have hO := hA.1
    have hP := hO.1 s hs
    have hX := fun s hs => (hA.2 s hs).1
    have h5 := hP.2.2.2.1
    have rt : 0 ≤ t ∧ t < w (476 * s + 5) := by rw [ht]; exact wRun_rg hP i.toNat (fun j j0 j1 => hb j j0 (by omega))
    refine i_iload dL_isListed_52 rfl ?_
    refine i_iload_n dL_isListed_54 rfl ?_
    refine i_icmp_ge (tgt := 109) dL_isListed_55 (by decide) (by omega) (by omega) (fun c55 => ?_) (fun c55 => ?_)
    · -- jumps
      refine RW.room (Nat.le_refl _) (k' := K0 + 0) (n' := N0 + 0) (by omega) (by omega) ?_
      refine RW.wk (L' := [some _, some _, some _, some _, none, some _, some _, some _, some _, none, none]) (p_subL.at (by repeat (first | exact subL_nil | refine subL_s ?_ | refine subL_n ?_))) ?_
      obtain rfl : i = n := by omega
      rw [ht, hx]
      exact kk
    · -- on
      refine RW.room (Nat.le_refl _) (k' := 3 * (n - (i + 1)).toNat + K0 + 3) (n' := 18 * (n - (i + 1)).toNat + N0 + 18) (by omega) (by omega) ?_
      refine i_aload_n dL_isListed_58 rfl ?_
      refine i_iload dL_isListed_59 rfl ?_
      refine u_callV (i := 0) (mc := 0) (ms := 0) (As := [_]) dL_isListed_61 cfX10_reportByte imX10_reportByte seX10_reportByte lL_76 (by decide) rfl rfl rfl rfl rfl (Nat.le_of_ble_eq_true rfl) (Nat.zero_add _).symm (Nat.zero_add _).symm ?_
      have b9 : 0 ≤ C 22 i - 97 ∧ C 22 i - 97 ≤ 5 := hb i (by omega) (by omega)
      refine q_reportByte h3 (by omega) (fun _ => RK.v ?_) (fun q9 => absurd ⟨by omega, by omega⟩ q9)
      refine i_bipush dL_isListed_64 (by decide) ?_
      refine i_sub dL_isListed_66 ?_
      refine i_istore dL_isListed_67 (L' := [some _, some _, some _, some _, none, some _, some _, some _, some _, some _, some _]) (by decide) rfl ?_
      refine i_iload dL_isListed_69 rfl ?_
      refine i_if_lt (tgt := 80) dL_isListed_71 (by decide) (by omega) (fun c71 => ?_) (fun c71 => ?_)
      · -- jumps
        refine i_const dL_isListed_80 ?_
        refine i_ireturn dL_isListed_81 rfl rfl ?_
        exact absurd b9 (by omega)
      · -- on
        refine i_iload dL_isListed_74 rfl ?_
        refine i_const dL_isListed_76 ?_
        refine i_icmp_le (tgt := 82) dL_isListed_77 (by decide) (by omega) (by omega) (fun c77 => ?_) (fun c77 => ?_)
        · -- jumps
          refine i_aload_n dL_isListed_82 rfl ?_
          refine i_iload_n dL_isListed_83 rfl ?_
          refine i_iload dL_isListed_84 rfl ?_
          refine i_iload dL_isListed_86 rfl ?_
          refine u_callV (i := 0) (mc := 3) (ms := 18) (k' := 3 * (n - (i + 1)).toNat + K0 + 0) (n' := 18 * (n - (i + 1)).toNat + N0 + 0) (As := [_, _, _]) dL_isListed_88 cfX10_transition imX10_transition seX10_transition lL_45 (by decide) rfl rfl rfl rfl rfl (Nat.le_of_ble_eq_true rfl) (by omega) (by omega) ?_
          refine q_transition hZ hN hO (by omega) (by omega) (by omega) (fun _ => RK.v ?_) (fun q9 => absurd ⟨⟨hs, by omega, by omega⟩, by omega, by omega⟩ q9)
          refine i_istore dL_isListed_91 (L' := [some _, some _, some _, some _, none, some _, some _, some _, some _, some _, some _]) (by decide) rfl ?_
          refine i_bipush dL_isListed_93 (by decide) ?_
          refine i_iload dL_isListed_95 rfl ?_
          refine i_mul dL_isListed_97 ?_
          refine i_iload dL_isListed_98 rfl ?_
          refine i_add dL_isListed_100 ?_
          refine i_istore dL_isListed_101 (L' := [some _, some _, some _, some _, none, some _, some _, some _, some _, some _, some _]) (by decide) rfl ?_
          refine i_iinc dL_isListed_103 rfl (L' := [some _, some _, some _, some _, none, some _, some _, some _, some _, some _, some _]) (by decide) rfl ?_
          refine i_goto (tgt := 52) dL_isListed_106 (by decide) ?_
          refine RW.wk (L' := [some _, some _, some _, some _, none, some _, some _, some _, some _, some _, none]) (p_subL.at (by repeat (first | exact subL_nil | refine subL_s ?_ | refine subL_n ?_))) ?_
          refine RW.room (Nat.le_refl _) ?_ ?_ (ih _ ?_ (i + 1) _ _ rfl (by omega) ?_ ?_)
          · omega
          · omega
          · omega
          · rw [wRun_s h1.1, ← ht]
          · rw [gV_s h1.1, ← hx]
        · -- on
          refine i_const dL_isListed_80 ?_
          refine i_ireturn dL_isListed_81 rfl rfl ?_
          exact absurd b9 (by omega)
theorem h_lst_o {s n m : Int} (hZ : p_Zs G) (hN : cNow V C J w) (hA : wAll w) (hs : s = 0 ∨ s = 1) (h_n : 0 ≤ n ∧ n ≤ 5) (hp : ∀ V' C' J', sV [3] V V' → sC [22] C C' → J'.2 = J.2 → P (.inl (some (.int (iI 1)))) (V', C', J')) (hm : m = wCW w s n.toNat 0)  : ∀ (zz : Nat) (k l : Int) (V' : Nat → Int) (C' : Nat → Int → Int) (J' : c_J), zz = (12 - k).toNat → (0 ≤ k ∧ k ≤ 12) → (sV [3] V V') → (sC [22] C C') → (J'.2 = J.2) → (gLs w s n k l) → RW G mL_isListed (c_I Y h0) P (d + 9) (19 * zz + 4) (114 * zz + 24) 13 [some (.ref (Y 0)), some (.int (iI s)), some (.int (iI n)), some (.long (lI m)), none, some (.int (iI l)), some (.int (iI k)), none, none, none, none] [] (V', C', J') := by
  intro zz
  induction zz using Nat.strongRecOn with
  | _ zz ih =>
    intro k l V' C' J' hzz h1 hV hC hJ hL
    have hO := hA.1
    have hP := hO.1 s hs
    have hX := fun s hs => (hA.2 s hs).1
    have h5 := hP.2.2.2.1
    have hN1 := hN.wrt hV hC hJ
    have rm := wCW_20 (w := w) (s := s) (k := n) (t := 0) (by omega)
    rw [← hm] at rm
    have rl : k ≤ m → -1 ≤ l ∧ l < 7776 := fun km => by
      rcases hL with z | ⟨z0, r, z1, z2⟩
      · omega
      · have q := (gWd0 h_n.1 z1 (by omega) (by omega)).1
        have q2 := gV_rg (r := r) n.toNat (by omega) (fun j j0 j1 => q j j0 (by omega))
        omega
    refine i_iload dL_isListed_13 rfl ?_
    refine i_bipush dL_isListed_15 (by decide) ?_
    refine i_icmp_ge (tgt := 138) dL_isListed_17 (by decide) (by omega) (by omega) (fun c17 => ?_) (fun c17 => ?_)
    · -- jumps
      refine RW.room (Nat.le_refl _) (k' := 0 + 4) (n' := 0 + 24) (by omega) (by omega) ?_
      refine i_aload_n dL_isListed_138 rfl ?_
      refine i_iload_n dL_isListed_139 rfl ?_
      refine i_iload_n dL_isListed_140 rfl ?_
      refine i_lload_n dL_isListed_141 rfl ?_
      refine u_callV (i := 0) (mc := 2) (ms := 12) (k' := 0 + 2) (n' := 0 + 12) (As := [_, _, _]) dL_isListed_142 cfX10_writeWord imX10_writeWord seX10_writeWord lL_72 (by decide) rfl rfl rfl rfl rfl (Nat.le_of_ble_eq_true rfl) (by omega) (by omega) ?_
      refine q_writeWord (m := m) hZ hN1 hO hX (by omega) (by omega) (by omega) (fun z => absurd hs z) (fun z => absurd ⟨by omega, by omega⟩ z.2) (fun _ J2 j2 => RK.v ?_) (fun z => absurd z.2 (by omega))
      have hN3 := hN1.wrt sV.rfl sC.rfl j2
      refine i_const dL_isListed_145 ?_
      refine i_icmp_ne (tgt := 166) dL_isListed_146 (by decide) (by decide) (by decide) (fun c146 => by omega) (fun c146 => ?_)
      refine i_aload_n dL_isListed_149 rfl ?_
      refine i_iload_n dL_isListed_150 rfl ?_
      refine i_iload_n dL_isListed_151 rfl ?_
      refine i_ldc2 kL_79 dL_isListed_152 ?_
      refine u_callV (i := 0) (mc := 2) (ms := 12) (k' := 0 + 0) (n' := 0 + 0) (As := [_, _, _]) dL_isListed_155 cfX10_writeWord imX10_writeWord seX10_writeWord lL_72 (by decide) rfl rfl rfl rfl rfl (Nat.le_of_ble_eq_true rfl) (by omega) (by omega) ?_
      refine q_writeWord (m := (-1)) hZ hN3 hO hX (by omega) (by omega) (by omega) (fun z => absurd hs z) (fun z => absurd ⟨by omega, by omega⟩ z.2) (fun _ J3 j3 => RK.v ?_) (fun z => absurd z.2 (by omega))
      refine i_const dL_isListed_158 ?_
      refine i_icmp_ne (tgt := 166) dL_isListed_159 (by decide) (by decide) (by decide) (fun c159 => by omega) (fun c159 => ?_)
      refine i_const dL_isListed_162 ?_
      refine i_goto (tgt := 167) dL_isListed_163 (by decide) ?_
      refine i_ireturn dL_isListed_167 rfl rfl ?_
      exact hp _ _ _ hV hC (j3.trans (j2.trans hJ))
    · -- on
      refine i_iload dL_isListed_20 rfl ?_
      refine i_i2l dL_isListed_22 (iI_i2l (by omega)) ?_
      refine i_lload_n dL_isListed_23 rfl ?_
      refine i_lcmp dL_isListed_24 (lI_cmp (by omega) (by omega)) ?_
      refine i_if_ge (tgt := 138) dL_isListed_25 (by decide) lc_rg (fun c25 => ?_) (fun c25 => ?_)
      · -- jumps
        have c25 := lc_ge c25
        refine RW.room (Nat.le_refl _) (k' := 0 + 4) (n' := 0 + 24) (by omega) (by omega) ?_
        refine i_aload_n dL_isListed_138 rfl ?_
        refine i_iload_n dL_isListed_139 rfl ?_
        refine i_iload_n dL_isListed_140 rfl ?_
        refine i_lload_n dL_isListed_141 rfl ?_
        refine u_callV (i := 0) (mc := 2) (ms := 12) (k' := 0 + 2) (n' := 0 + 12) (As := [_, _, _]) dL_isListed_142 cfX10_writeWord imX10_writeWord seX10_writeWord lL_72 (by decide) rfl rfl rfl rfl rfl (Nat.le_of_ble_eq_true rfl) (by omega) (by omega) ?_
        refine q_writeWord (m := m) hZ hN1 hO hX (by omega) (by omega) (by omega) (fun z => absurd hs z) (fun z => absurd ⟨by omega, by omega⟩ z.2) (fun _ J2 j2 => RK.v ?_) (fun z => absurd z.2 (by omega))
        have hN3 := hN1.wrt sV.rfl sC.rfl j2
        refine i_const dL_isListed_145 ?_
        refine i_icmp_ne (tgt := 166) dL_isListed_146 (by decide) (by decide) (by decide) (fun c146 => by omega) (fun c146 => ?_)
        refine i_aload_n dL_isListed_149 rfl ?_
        refine i_iload_n dL_isListed_150 rfl ?_
        refine i_iload_n dL_isListed_151 rfl ?_
        refine i_ldc2 kL_79 dL_isListed_152 ?_
        refine u_callV (i := 0) (mc := 2) (ms := 12) (k' := 0 + 0) (n' := 0 + 0) (As := [_, _, _]) dL_isListed_155 cfX10_writeWord imX10_writeWord seX10_writeWord lL_72 (by decide) rfl rfl rfl rfl rfl (Nat.le_of_ble_eq_true rfl) (by omega) (by omega) ?_
        refine q_writeWord (m := (-1)) hZ hN3 hO hX (by omega) (by omega) (by omega) (fun z => absurd hs z) (fun z => absurd ⟨by omega, by omega⟩ z.2) (fun _ J3 j3 => RK.v ?_) (fun z => absurd z.2 (by omega))
        refine i_const dL_isListed_158 ?_
        refine i_icmp_ne (tgt := 166) dL_isListed_159 (by decide) (by decide) (by decide) (fun c159 => by omega) (fun c159 => ?_)
        refine i_const dL_isListed_162 ?_
        refine i_goto (tgt := 167) dL_isListed_163 (by decide) ?_
        refine i_ireturn dL_isListed_167 rfl rfl ?_
        exact hp _ _ _ hV hC (j3.trans (j2.trans hJ))
      · -- on
        have c25 := lc_lt c25
        refine RW.room (Nat.le_refl _) (k' := 19 * (12 - (k + 1)).toNat + 4 + 19) (n' := 114 * (12 - (k + 1)).toNat + 24 + 114) (by omega) (by omega) ?_
        have rl := rl (by omega)
        refine i_aload_n dL_isListed_28 rfl ?_
        refine i_iload_n dL_isListed_29 rfl ?_
        refine i_iload_n dL_isListed_30 rfl ?_
        refine i_iload dL_isListed_31 rfl ?_
        refine i_i2l dL_isListed_33 (iI_i2l (by omega)) ?_
        refine u_callV (i := 0) (mc := 2) (ms := 12) (k' := 19 * (12 - (k + 1)).toNat + 4 + 17) (n' := 114 * (12 - (k + 1)).toNat + 24 + 102) (As := [_, _, _]) dL_isListed_34 cfX10_writeWord imX10_writeWord seX10_writeWord lL_72 (by decide) rfl rfl rfl rfl rfl (Nat.le_of_ble_eq_true rfl) (by omega) (by omega) ?_
        refine q_writeWord (m := k) hZ hN1 hO hX (by omega) (by omega) (by omega) (fun z => absurd hs z) (fun z => absurd ⟨by omega, by omega⟩ z.2) (fun z => absurd ⟨by omega, by omega⟩ z.2) (fun _ V1 C1 J1 d1 d2 d3 d4 d5 => RK.v ?_)
        obtain ⟨hb, hac⟩ := gWd0 h_n.1 d5 (by omega) (by omega)
        have hN2 := hN1.wrt d2 d3 d1
        have rx := gV_rg (r := C1 22) n.toNat (by omega) (fun j j0 j1 => hb j j0 (by omega))
        refine i_iload_n dL_isListed_37 rfl ?_
        refine i_icmp_eq (tgt := 43) dL_isListed_38 (by decide) (by omega) (by omega) (fun c38 => ?_) (fun c38 => absurd c38 (by omega))
        refine i_const dL_isListed_43 ?_
        refine i_istore dL_isListed_44 (L' := [some _, some _, some _, some _, none, some _, some _, some _, none, none, none]) (by decide) rfl ?_
        refine i_const dL_isListed_46 ?_
        refine i_istore dL_isListed_47 (L' := [some _, some _, some _, some _, none, some _, some _, some _, some _, none, none]) (by decide) rfl ?_
        refine i_const dL_isListed_49 ?_
        refine i_istore dL_isListed_50 (L' := [some _, some _, some _, some _, none, some _, some _, some _, some _, some _, none]) (by decide) rfl ?_
        have rt := wRun_rg (b := C1 22) hP n.toNat (fun j j0 j1 => hb j j0 (by omega))
        refine RW.room (Nat.le_refl _) ?_ ?_ (h_lst_i (K0 := 19 * (12 - (k + 1)).toNat + 4 + 2) (N0 := 114 * (12 - (k + 1)).toNat + 24 + 12) hZ hN2 hA hs h_n (by omega) d4 hb ?_ _ 0 0 0 rfl (by omega) rfl rfl)
        · omega
        · omega
        · -- behind
          refine i_aload_n dL_isListed_109 rfl ?_
          refine i_iload_n dL_isListed_110 rfl ?_
          refine i_iload dL_isListed_111 rfl ?_
          refine u_callV (i := 0) (mc := 2) (ms := 12) (k' := 19 * (12 - (k + 1)).toNat + 4 + 0) (n' := 114 * (12 - (k + 1)).toNat + 24 + 0) (As := [_, _]) dL_isListed_113 cfX10_isAccepting imX10_isAccepting seX10_isAccepting lL_49 (by decide) rfl rfl rfl rfl rfl (Nat.le_of_ble_eq_true rfl) (by omega) (by omega) ?_
          refine q_isAccepting hZ hN2 hO hX (by omega) (by omega) (fun _ => RK.v ?_) (fun q9 => absurd ⟨hs, by omega, by omega⟩ q9)
          refine i_ifeq_b (tgt := 126) dL_isListed_116 (by decide) (fun c116 => ?_) (fun c116 => ?_)
          · -- jumps
            refine i_const dL_isListed_126 ?_
            refine i_ireturn dL_isListed_127 rfl rfl ?_
            have q9 := hL.lt h_n.1 d5 (by omega) rx.1
            first | exact absurd hac (by assumption) | exact absurd q9 (by omega)
          · -- on
            refine i_iload dL_isListed_119 rfl ?_
            refine i_iload dL_isListed_121 rfl ?_
            refine i_icmp_gt (tgt := 128) dL_isListed_123 (by decide) (by omega) (by omega) (fun c123 => ?_) (fun c123 => ?_)
            · -- jumps
              refine i_iload dL_isListed_128 rfl ?_
              refine i_istore dL_isListed_130 (L' := [some _, some _, some _, some _, none, some _, some _, some _, some _, none, none]) (by decide) rfl ?_
              refine i_iinc dL_isListed_132 rfl (L' := [some _, some _, some _, some _, none, some _, some _, some _, some _, none, none]) (by decide) rfl ?_
              refine i_goto (tgt := 13) dL_isListed_135 (by decide) ?_
              refine RW.wk (L' := [some _, some _, some _, some _, none, some _, some _, none, none, none, none]) (p_subL.at (by repeat (first | exact subL_nil | refine subL_s ?_ | refine subL_n ?_))) ?_
              refine RW.room (Nat.le_refl _) ?_ ?_ (ih _ ?_ (k + 1) _ _ _ _ rfl (by omega) (hV.tr d2 (fun _ h => h)) (hC.tr d3 (fun _ h => h)) (d1.trans hJ) (Or.inr ⟨by omega, _, by rw [show k + 1 - 1 = k by omega]; exact d5, rfl⟩))
              · omega
              · omega
              · omega
            · -- on
              refine i_const dL_isListed_126 ?_
              refine i_ireturn dL_isListed_127 rfl rfl ?_
              have q9 := hL.lt h_n.1 d5 (by omega) rx.1
              first | exact absurd hac (by assumption) | exact absurd q9 (by omega)
theorem h_isListed {s n : Int} (hZ : p_Zs G) (hN : cNow V C J w) (hA : wAll w) (hs : s = 0 ∨ s = 1) (h_n : 0 ≤ n ∧ n ≤ 5) (hp : ∀ V' C' J', sV [3] V V' → sC [22] C C' → J'.2 = J.2 → P (.inl (some (.int (iI 1)))) (V', C', J')) : RM G mL_isListed (c_I Y h0) [.ref (Y 0), .int (iI s), .int (iI n)] (d + 9) 234 1404 P (V, C, J) := by
  have hO := hA.1
  have hP := hO.1 s hs
  have hX := fun s hs => (hA.2 s hs).1
  have h5 := hP.2.2.2.1
  refine RM.of (L := [some (.ref (Y 0)), some (.int (iI s)), some (.int (iI n)), none, none, none, none, none, none, none, none]) cfL_isListed rfl (Nat.le_of_ble_eq_true rfl) ?_
  refine RW.room (Nat.le_refl _) (k' := 0 + 234) (n' := 0 + 1404) (by omega) (by omega) ?_
  refine i_aload_n dL_isListed_0 rfl ?_
  refine i_iload_n dL_isListed_1 rfl ?_
  refine i_iload_n dL_isListed_2 rfl ?_
  refine u_callV (i := 0) (mc := 2) (ms := 12) (k' := 0 + 232) (n' := 0 + 1392) (As := [_, _]) dL_isListed_3 cfX10_wordCount imX10_wordCount seX10_wordCount lL_68 (by decide) rfl rfl rfl rfl rfl (Nat.le_of_ble_eq_true rfl) (by omega) (by omega) ?_
  refine q_wordCount hZ hN hO hX (by omega) (by omega) (fun z => absurd hs z) (fun z => absurd ⟨by omega, by omega⟩ z.2) (fun _ J1 j1 => RK.v ?_)
  refine i_lstore_n dL_isListed_6 (L' := [some _, some _, some _, some _, none, none, none, none, none, none, none]) (by decide) rfl ?_
  refine i_const dL_isListed_7 ?_
  refine i_istore dL_isListed_8 (L' := [some _, some _, some _, some _, none, some _, none, none, none, none, none]) (by decide) rfl ?_
  refine i_const dL_isListed_10 ?_
  refine i_istore dL_isListed_11 (L' := [some _, some _, some _, some _, none, some _, some _, none, none, none, none]) (by decide) rfl ?_
  refine RW.room (Nat.le_refl _) ?_ ?_ (h_lst_o hZ (hN.wrt sV.rfl sC.rfl j1) hA hs h_n (fun V' C' J' e1 e2 e3 => hp V' C' J' e1 e2 (e3.trans j1)) rfl _ 0 (-1) V C J1 rfl (by decide) sV.rfl sC.rfl rfl (Or.inl ⟨rfl, rfl⟩))
  · omega
  · omega
end A5
