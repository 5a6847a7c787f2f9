/-! ===== the law: a pattern's words, three ways ===== -/
section A4a
variable {σ : Type} {G : p_G} {M : p_M} {I : σ → p_H → Prop} {P : (Option Value) ⊕ String → σ → Prop} {d k n pc : Nat} {L : p_LL} {st : List Value} {X : σ}
theorem i_andM {a : Int} (hd : decode M.2.1 pc = .ok (.iand, 1)) (kk : ∀ N : Int, 0 ≤ N ∧ N < 2147483648 → RW G M I P d k n (pc + 1) L (.int (iI N) :: st) X) : RW G M I P d k n pc L (.int (iI 2147483647) :: .int (iI a) :: st) X := i_andE hd iI_m31 (kk _ (by omega))
end A4a
section A4b
variable {V V' : Nat → Int} {C C' : Nat → Int → Int} {J J' : c_J} {w : Int → Int} {s N n : Int}
theorem cNow.cg3 (h : cNow V C J w) (hV : ∀ i, 20 ≤ i → i < 25 → V' i = V i) (hC : ∀ i, 31 ≤ i → i < 34 → C' i = C i) (hJ : J'.2 = J.2) : cNow V' C' J' w := by
  unfold cNow at h ⊢
  rw [hV 20 (by decide) (by decide), hV 21 (by decide) (by decide), hV 22 (by decide) (by decide), hV 23 (by decide) (by decide), hV 24 (by decide) (by decide), hC 31 (by decide) (by decide), hC 32 (by decide) (by decide), hC 33 (by decide) (by decide), hJ]
  exact h
theorem cNow.typ (h : cNow V C J w) (hV : sV [4] V V') (hC : sC [2] C C') : cNow V' C' J w :=
  h.cg3 (fun i i0 i1 => hV i (by simp only [List.mem_cons, List.not_mem_nil, or_false]; omega)) (fun i i0 i1 => hC i (by simp only [List.mem_cons, List.not_mem_nil, or_false]; omega)) rfl
theorem gInp (hn : 0 ≤ n) (h4 : V 4 = n) (hC : ∀ j, 0 ≤ j → j < n → C 2 j = gB N j) : zc ((∀ i, 0 ≤ i → i < V 4 → bStr (C 2) i) ∧ wAcc w s (wRun w (C 2) s (V 4).toNat)) = zb (wAcc w s (wRun w (gB N) s n.toNat)) := by
  rw [h4]
  have e : wRun w (C 2) s n.toNat = wRun w (gB N) s n.toNat := wRun_cg n.toNat (fun i i0 i1 => hC i i0 (by omega))
  rw [e, zc_zb]
  refine zc_c ⟨fun z => z.2, fun z => ⟨fun i i0 i1 => ?_, z⟩⟩
  unfold bStr
  rw [hC i i0 i1]
  exact gB_str
theorem gInp0 (h4 : V 4 = 0) : zc ((∀ i, 0 ≤ i → i < V 4 → bStr (C 2) i) ∧ wAcc w s (wRun w (C 2) s (V 4).toNat)) = zb (wAcc w s 0) := by
  rw [h4, zc_zb]
  exact zc_c ⟨fun z => z.2, fun z => ⟨fun i i0 i1 => by omega, z⟩⟩
theorem gB_rg {j : Int} : 0 ≤ gB N j ∧ gB N j < 256 := by
  show 0 ≤ 97 + gLf N j.toNat % 6 ∧ 97 + gLf N j.toNat % 6 < 256
  omega
end A4b
section A4
variable {G : p_G} {Y : Nat → Nat} {h0 : p_H} {P : (Option Value) ⊕ String → c_X → Prop} {d : Nat} {V : Nat → Int} {C : Nat → Int → Int} {J : c_J}
variable {w : Int → Int}
theorem h_knows_l {s c : Int} (hZ : p_Zs G) (hN : cNow V C J w) (hA : wAll w) (hs : s = 0 ∨ s = 1) (h4 : 0 ≤ V 4 ∧ V 4 ≤ 200) (hp : ∀ V' C', V' 4 = 0 → sV [4] V V' → sC [2] C C' → P (.inl (some (.int (iI 1)))) (V', C', J))  : ∀ (zz : Nat) (k : Int) (V' : Nat → Int) (C' : Nat → Int → Int), zz = (24 - k).toNat → (0 ≤ k ∧ k ≤ 24) → (sV [4] V V') → (sC [2] C C') → (0 ≤ V' 4 ∧ V' 4 ≤ 200) → RW G mL_knows (c_I Y h0) P (d + 10) (1590 * zz + 6) (9540 * zz + 36) 2 [some (.ref (Y 0)), some (.int (iI s)), some (.int (iI c)), some (.int (iI k)), none, none, none] [] (V', C', J) := by
  intro zz
  induction zz using Nat.strongRecOn with
  | _ zz ih =>
    intro k V' C' hzz h1 hV hC h4'
    have hO := hA.1
    have hP := hO.1 s hs
    have hX := fun s hs => (hA.2 s hs).1
    have h5 := hP.2.2.2.1
    have hN1 := hN.typ hV hC
    refine i_iload_n dL_knows_2 rfl ?_
    refine i_bipush dL_knows_3 (by decide) ?_
    refine i_icmp_ge (tgt := 152) dL_knows_5 (by decide) (by omega) (by omega) (fun c5 => ?_) (fun c5 => ?_)
    · -- jumps
      refine RW.room (Nat.le_refl _) (k' := 0 + 6) (n' := 0 + 36) (by omega) (by omega) ?_
      refine i_aload_n dL_knows_152 rfl ?_
      refine i_const dL_knows_153 ?_
      refine u_callV (i := 0) (mc := 1) (ms := 6) (k' := 0 + 5) (n' := 0 + 30) (As := [_]) dL_knows_154 cfX10_truncateInput imX10_truncateInput seX10_truncateInput lL_19 (by decide) rfl rfl rfl rfl rfl (Nat.le_of_ble_eq_true rfl) (by omega) (by omega) ?_
      refine q_truncateInput (n := 0) hZ h4' (by omega) (fun _ => RK.v ?_) (fun q9 => absurd ⟨by omega, by omega⟩ q9)
      have hN2 : cNow (vu V' 4 0) C' J w := hN1.typ (sV.rfl.vu (by decide)) sC.rfl
      have hz0 : zb (wAcc w s 0) = w (476 * s + 1) := by
        rcases hP.2.1 with z | z
        · exact (zb_f (fun y => by have := (gAcc_0 hP (hX s hs)).mp y; omega)).trans z.symm
        · exact (zb_t ((gAcc_0 hP (hX s hs)).mpr z)).trans z.symm
      have rw1 := hP.2.1
      refine i_pop dL_knows_157 rfl ?_
      refine i_aload_n dL_knows_158 rfl ?_
      refine i_iload_n dL_knows_159 rfl ?_
      refine u_callV (i := 0) (mc := 1) (ms := 6) (k' := 0 + 4) (n' := 0 + 24) (As := [_]) dL_knows_160 cfX10_acceptsInput imX10_acceptsInput seX10_acceptsInput lL_65 (by decide) rfl rfl rfl rfl rfl (Nat.le_of_ble_eq_true rfl) (by omega) (by omega) ?_
      refine q_acceptsInput hZ hN2 hO hX (by rw [vu_at]; decide) (fun j j0 j1 => by rw [vu_at] at j1; omega) (by omega) (fun z => absurd hs z) (fun _ => RK.v ?_)
      refine RW.ti (gInp0 vu_at) ?_
      refine i_aload_n dL_knows_163 rfl ?_
      refine i_iload_n dL_knows_164 rfl ?_
      refine u_callV (i := 0) (mc := 1) (ms := 6) (k' := 0 + 3) (n' := 0 + 18) (As := [_]) dL_knows_165 cfX10_acceptsEmptyWord imX10_acceptsEmptyWord seX10_acceptsEmptyWord lL_25 (by decide) rfl rfl rfl rfl rfl (Nat.le_of_ble_eq_true rfl) (by omega) (by omega) ?_
      refine q_acceptsEmptyWord hZ hN2 hO (by omega) (fun _ => RK.v ?_) (fun q9 => absurd hs q9)
      refine i_icmp_ne (tgt := 189) dL_knows_168 (by decide) (by omega) (by omega) (fun c168 => ?_) (fun c168 => ?_)
      · -- jumps
        refine i_const dL_knows_189 ?_
        refine i_ireturn dL_knows_190 rfl rfl ?_
        exact absurd hz0 (by omega)
      · -- on
        refine i_aload_n dL_knows_171 rfl ?_
        refine i_iload_n dL_knows_172 rfl ?_
        refine i_const dL_knows_173 ?_
        refine u_callV (i := 0) (mc := 2) (ms := 12) (k' := 0 + 1) (n' := 0 + 6) (As := [_, _]) dL_knows_174 cfX10_isAccepting imX10_isAccepting seX10_isAccepting lL_49 (by decide) rfl rfl rfl rfl rfl (Nat.le_of_ble_eq_true rfl) (by omega) (by omega) ?_
        refine q_isAccepting hZ hN2 hO hX (by omega) (by omega) (fun _ => RK.v ?_) (fun q9 => absurd ⟨hs, by omega, by omega⟩ q9)
        refine i_aload_n dL_knows_177 rfl ?_
        refine i_iload_n dL_knows_178 rfl ?_
        refine u_callV (i := 0) (mc := 1) (ms := 6) (k' := 0 + 0) (n' := 0 + 0) (As := [_]) dL_knows_179 cfX10_acceptsEmptyWord imX10_acceptsEmptyWord seX10_acceptsEmptyWord lL_25 (by decide) rfl rfl rfl rfl rfl (Nat.le_of_ble_eq_true rfl) (by omega) (by omega) ?_
        refine q_acceptsEmptyWord hZ hN2 hO (by omega) (fun _ => RK.v ?_) (fun q9 => absurd hs q9)
        refine i_icmp_ne (tgt := 189) dL_knows_182 (by decide) (by omega) (by omega) (fun c182 => absurd c182 (by omega)) (fun c182 => ?_)
        refine i_const dL_knows_185 ?_
        refine i_goto (tgt := 190) dL_knows_186 (by decide) ?_
        refine i_ireturn dL_knows_190 rfl rfl ?_
        exact hp _ _ vu_at (hV.vu (by decide)) hC
    · -- on
      refine RW.room (Nat.le_refl _) (k' := 1590 * (24 - (k + 1)).toNat + 6 + 1590) (n' := 9540 * (24 - (k + 1)).toNat + 36 + 9540) (by omega) (by omega) ?_
      refine i_iload_n dL_knows_8 rfl ?_
      refine i_bipush dL_knows_9 (by decide) ?_
      refine i_icmp_ge (tgt := 18) dL_knows_11 (by decide) (by omega) (by omega) (fun c11 => ?_) (fun c11 => ?_)
      · -- jumps
        refine i_iload_n dL_knows_18 rfl ?_
        refine i_bipush dL_knows_19 (by decide) ?_
        refine i_icmp_ge (tgt := 28) dL_knows_21 (by decide) (by omega) (by omega) (fun c21 => ?_) (fun c21 => ?_)
        · -- jumps
          refine i_iload_n dL_knows_28 rfl ?_
          refine i_bipush dL_knows_29 (by decide) ?_
          refine i_icmp_ge (tgt := 38) dL_knows_31 (by decide) (by omega) (by omega) (fun c31 => ?_) (fun c31 => ?_)
          · -- jumps
            refine i_iload_n dL_knows_38 rfl ?_
            refine i_bipush dL_knows_39 (by decide) ?_
            refine i_icmp_ge (tgt := 48) dL_knows_41 (by decide) (by omega) (by omega) (fun c41 => ?_) (fun c41 => ?_)
            · -- jumps
              refine i_bipush dL_knows_48 (by decide) ?_
              refine i_istore dL_knows_50 (L' := [some _, some _, some _, some _, some _, none, none]) (by decide) rfl ?_
              refine i_iload_n dL_knows_52 rfl ?_
              refine i_iload_n dL_knows_53 rfl ?_
              refine i_bipush dL_knows_54 (by decide) ?_
              refine i_rem dL_knows_56 (by omega) (by omega) ?_
              refine i_iushr dL_knows_57 (iI_of _) ?_
              refine i_const dL_knows_58 ?_
              refine i_iload_n dL_knows_59 rfl ?_
              refine i_mul dL_knows_60 ?_
              refine i_const dL_knows_61 ?_
              refine i_add dL_knows_62 ?_
              refine i_mul dL_knows_63 ?_
              refine i_ldc kL_53 dL_knows_64 ?_
              refine i_andM dL_knows_66 (fun N hNN => ?_)
              refine i_istore dL_knows_67 (L' := [some _, some _, some _, some _, some _, some _, none]) (by decide) rfl ?_
              refine i_aload_n dL_knows_69 rfl ?_
              refine i_iload_n dL_knows_70 rfl ?_
              refine i_iload_n dL_knows_71 rfl ?_
              refine i_bipush dL_knows_72 (by decide) ?_
              refine i_icmp_ge (tgt := 81) dL_knows_74 (by decide) (by omega) (by omega) (fun c74 => ?_) (fun c74 => absurd c74 (by omega))
              refine i_iload dL_knows_81 rfl ?_
              refine i_iload dL_knows_83 rfl ?_
              refine i_callS (mc := 1561) (ms := 9366) (k' := 1590 * (24 - (k + 1)).toNat + 6 + 29) (n' := 9540 * (24 - (k + 1)).toNat + 36 + 174) (As := [_, _, _, _]) dL_knows_85 cfL_isPath stL_isPath lL_54 rfl rfl (Nat.le_of_ble_eq_true rfl) (by omega) (by omega) ?_
              refine h_isPath hZ hN1 hA hs (by omega) (by omega) (RK.v ?_)
              refine i_istore dL_knows_88 (L' := [some _, some _, some _, some _, some _, some _, some _]) (by decide) rfl ?_
              refine i_aload_n dL_knows_90 rfl ?_
              refine i_iload_n dL_knows_91 rfl ?_
              refine i_iload_n dL_knows_92 rfl ?_
              refine i_bipush dL_knows_93 (by decide) ?_
              refine i_icmp_ge (tgt := 102) dL_knows_95 (by decide) (by omega) (by omega) (fun c95 => ?_) (fun c95 => absurd c95 (by omega))
              refine i_iload dL_knows_102 rfl ?_
              refine i_iload dL_knows_104 rfl ?_
              refine i_callS (mc := 26) (ms := 156) (k' := 1590 * (24 - (k + 1)).toNat + 6 + 3) (n' := 9540 * (24 - (k + 1)).toNat + 36 + 18) (As := [_, _, _, _]) dL_knows_106 cfL_isRun stL_isRun lL_58 rfl rfl (Nat.le_of_ble_eq_true rfl) (by omega) (by omega) ?_
              refine h_isRun hZ hN1 hA hs (by omega) (by omega) (RK.v ?_)
              refine i_iload dL_knows_109 rfl ?_
              refine i_icmp_eq_bb (tgt := 116) dL_knows_111 (by decide) (fun c111 => ?_) (fun c111 => ?_)
              · -- jumps
                refine i_aload_n dL_knows_116 rfl ?_
                refine i_iload_n dL_knows_117 rfl ?_
                refine i_bipush dL_knows_118 (by decide) ?_
                refine i_icmp_ge (tgt := 127) dL_knows_120 (by decide) (by omega) (by omega) (fun c120 => ?_) (fun c120 => absurd c120 (by omega))
                refine i_iload dL_knows_127 rfl ?_
                refine i_iload dL_knows_129 rfl ?_
                refine i_callS (mc := 2) (ms := 12) (k' := 1590 * (24 - (k + 1)).toNat + 6 + 1) (n' := 9540 * (24 - (k + 1)).toNat + 36 + 6) (As := [_, _, _]) dL_knows_131 cfL_word stL_word lL_61 rfl rfl (Nat.le_of_ble_eq_true rfl) (by omega) (by omega) ?_
                refine h_word hZ h4' (by omega) (by omega) (fun V1 C1 b1 b2 b3 b4 => RK.n0 ?_)
                have hN2 := hN1.typ b3 b4
                refine i_aload_n dL_knows_134 rfl ?_
                refine i_iload_n dL_knows_135 rfl ?_
                refine u_callV (i := 0) (mc := 1) (ms := 6) (k' := 1590 * (24 - (k + 1)).toNat + 6 + 0) (n' := 9540 * (24 - (k + 1)).toNat + 36 + 0) (As := [_]) dL_knows_136 cfX10_acceptsInput imX10_acceptsInput seX10_acceptsInput lL_65 (by decide) rfl rfl rfl rfl rfl (Nat.le_of_ble_eq_true rfl) (by omega) (by omega) ?_
                refine q_acceptsInput hZ hN2 hO hX (by omega) (fun j j0 j1 => by rw [b2 j j0 (by omega)]; exact gB_rg) (by omega) (fun z => absurd hs z) (fun _ => RK.v ?_)
                refine RW.ti (gInp (by omega) b1 b2) ?_
                refine i_iload dL_knows_139 rfl ?_
                refine i_icmp_eq_bb (tgt := 146) dL_knows_141 (by decide) (fun c141 => ?_) (fun c141 => ?_)
                · -- jumps
                  refine i_iinc dL_knows_146 rfl (L' := [some _, some _, some _, some _, some _, some _, some _]) (by decide) rfl ?_
                  refine i_goto (tgt := 2) dL_knows_149 (by decide) ?_
                  refine RW.wk (L' := [some _, some _, some _, some _, none, none, none]) (p_subL.at (by repeat (first | exact subL_nil | refine subL_s ?_ | refine subL_n ?_))) ?_
                  refine RW.room (Nat.le_refl _) ?_ ?_ (ih _ ?_ (k + 1) _ _ rfl (by omega) (hV.tr b3 (fun _ h => h)) (hC.tr b4 (fun _ h => h)) (by omega))
                  · omega
                  · omega
                  · omega
                · -- on
                  refine i_const dL_knows_144 ?_
                  refine i_ireturn dL_knows_145 rfl rfl ?_
                  exact absurd Iff.rfl (by assumption)
              · -- on
                refine i_const dL_knows_114 ?_
                refine i_ireturn dL_knows_115 rfl rfl ?_
                exact absurd Iff.rfl (by assumption)
            · -- on
              refine i_const dL_knows_44 ?_
              refine i_goto (tgt := 50) dL_knows_45 (by decide) ?_
              refine i_istore dL_knows_50 (L' := [some _, some _, some _, some _, some _, none, none]) (by decide) rfl ?_
              refine i_iload_n dL_knows_52 rfl ?_
              refine i_iload_n dL_knows_53 rfl ?_
              refine i_bipush dL_knows_54 (by decide) ?_
              refine i_rem dL_knows_56 (by omega) (by omega) ?_
              refine i_iushr dL_knows_57 (iI_of _) ?_
              refine i_const dL_knows_58 ?_
              refine i_iload_n dL_knows_59 rfl ?_
              refine i_mul dL_knows_60 ?_
              refine i_const dL_knows_61 ?_
              refine i_add dL_knows_62 ?_
              refine i_mul dL_knows_63 ?_
              refine i_ldc kL_53 dL_knows_64 ?_
              refine i_andM dL_knows_66 (fun N hNN => ?_)
              refine i_istore dL_knows_67 (L' := [some _, some _, some _, some _, some _, some _, none]) (by decide) rfl ?_
              refine i_aload_n dL_knows_69 rfl ?_
              refine i_iload_n dL_knows_70 rfl ?_
              refine i_iload_n dL_knows_71 rfl ?_
              refine i_bipush dL_knows_72 (by decide) ?_
              refine i_icmp_ge (tgt := 81) dL_knows_74 (by decide) (by omega) (by omega) (fun c74 => ?_) (fun c74 => absurd c74 (by omega))
              refine i_iload dL_knows_81 rfl ?_
              refine i_iload dL_knows_83 rfl ?_
              refine i_callS (mc := 1561) (ms := 9366) (k' := 1590 * (24 - (k + 1)).toNat + 6 + 29) (n' := 9540 * (24 - (k + 1)).toNat + 36 + 174) (As := [_, _, _, _]) dL_knows_85 cfL_isPath stL_isPath lL_54 rfl rfl (Nat.le_of_ble_eq_true rfl) (by omega) (by omega) ?_
              refine h_isPath hZ hN1 hA hs (by omega) (by omega) (RK.v ?_)
              refine i_istore dL_knows_88 (L' := [some _, some _, some _, some _, some _, some _, some _]) (by decide) rfl ?_
              refine i_aload_n dL_knows_90 rfl ?_
              refine i_iload_n dL_knows_91 rfl ?_
              refine i_iload_n dL_knows_92 rfl ?_
              refine i_bipush dL_knows_93 (by decide) ?_
              refine i_icmp_ge (tgt := 102) dL_knows_95 (by decide) (by omega) (by omega) (fun c95 => ?_) (fun c95 => absurd c95 (by omega))
              refine i_iload dL_knows_102 rfl ?_
              refine i_iload dL_knows_104 rfl ?_
              refine i_callS (mc := 26) (ms := 156) (k' := 1590 * (24 - (k + 1)).toNat + 6 + 3) (n' := 9540 * (24 - (k + 1)).toNat + 36 + 18) (As := [_, _, _, _]) dL_knows_106 cfL_isRun stL_isRun lL_58 rfl rfl (Nat.le_of_ble_eq_true rfl) (by omega) (by omega) ?_
              refine h_isRun hZ hN1 hA hs (by omega) (by omega) (RK.v ?_)
              refine i_iload dL_knows_109 rfl ?_
              refine i_icmp_eq_bb (tgt := 116) dL_knows_111 (by decide) (fun c111 => ?_) (fun c111 => ?_)
              · -- jumps
                refine i_aload_n dL_knows_116 rfl ?_
                refine i_iload_n dL_knows_117 rfl ?_
                refine i_bipush dL_knows_118 (by decide) ?_
                refine i_icmp_ge (tgt := 127) dL_knows_120 (by decide) (by omega) (by omega) (fun c120 => ?_) (fun c120 => absurd c120 (by omega))
                refine i_iload dL_knows_127 rfl ?_
                refine i_iload dL_knows_129 rfl ?_
                refine i_callS (mc := 2) (ms := 12) (k' := 1590 * (24 - (k + 1)).toNat + 6 + 1) (n' := 9540 * (24 - (k + 1)).toNat + 36 + 6) (As := [_, _, _]) dL_knows_131 cfL_word stL_word lL_61 rfl rfl (Nat.le_of_ble_eq_true rfl) (by omega) (by omega) ?_
                refine h_word hZ h4' (by omega) (by omega) (fun V1 C1 b1 b2 b3 b4 => RK.n0 ?_)
                have hN2 := hN1.typ b3 b4
                refine i_aload_n dL_knows_134 rfl ?_
                refine i_iload_n dL_knows_135 rfl ?_
                refine u_callV (i := 0) (mc := 1) (ms := 6) (k' := 1590 * (24 - (k + 1)).toNat + 6 + 0) (n' := 9540 * (24 - (k + 1)).toNat + 36 + 0) (As := [_]) dL_knows_136 cfX10_acceptsInput imX10_acceptsInput seX10_acceptsInput lL_65 (by decide) rfl rfl rfl rfl rfl (Nat.le_of_ble_eq_true rfl) (by omega) (by omega) ?_
                refine q_acceptsInput hZ hN2 hO hX (by omega) (fun j j0 j1 => by rw [b2 j j0 (by omega)]; exact gB_rg) (by omega) (fun z => absurd hs z) (fun _ => RK.v ?_)
                refine RW.ti (gInp (by omega) b1 b2) ?_
                refine i_iload dL_knows_139 rfl ?_
                refine i_icmp_eq_bb (tgt := 146) dL_knows_141 (by decide) (fun c141 => ?_) (fun c141 => ?_)
                · -- jumps
                  refine i_iinc dL_knows_146 rfl (L' := [some _, some _, some _, some _, some _, some _, some _]) (by decide) rfl ?_
                  refine i_goto (tgt := 2) dL_knows_149 (by decide) ?_
                  refine RW.wk (L' := [some _, some _, some _, some _, none, none, none]) (p_subL.at (by repeat (first | exact subL_nil | refine subL_s ?_ | refine subL_n ?_))) ?_
                  refine RW.room (Nat.le_refl _) ?_ ?_ (ih _ ?_ (k + 1) _ _ rfl (by omega) (hV.tr b3 (fun _ h => h)) (hC.tr b4 (fun _ h => h)) (by omega))
                  · omega
                  · omega
                  · omega
                · -- on
                  refine i_const dL_knows_144 ?_
                  refine i_ireturn dL_knows_145 rfl rfl ?_
                  exact absurd Iff.rfl (by assumption)
              · -- on
                refine i_const dL_knows_114 ?_
                refine i_ireturn dL_knows_115 rfl rfl ?_
                exact absurd Iff.rfl (by assumption)
          · -- on
            refine i_const dL_knows_34 ?_
            refine i_goto (tgt := 50) dL_knows_35 (by decide) ?_
            refine i_istore dL_knows_50 (L' := [some _, some _, some _, some _, some _, none, none]) (by decide) rfl ?_
            refine i_iload_n dL_knows_52 rfl ?_
            refine i_iload_n dL_knows_53 rfl ?_
            refine i_bipush dL_knows_54 (by decide) ?_
            refine i_rem dL_knows_56 (by omega) (by omega) ?_
            refine i_iushr dL_knows_57 (iI_of _) ?_
            refine i_const dL_knows_58 ?_
            refine i_iload_n dL_knows_59 rfl ?_
            refine i_mul dL_knows_60 ?_
            refine i_const dL_knows_61 ?_
            refine i_add dL_knows_62 ?_
            refine i_mul dL_knows_63 ?_
            refine i_ldc kL_53 dL_knows_64 ?_
            refine i_andM dL_knows_66 (fun N hNN => ?_)
            refine i_istore dL_knows_67 (L' := [some _, some _, some _, some _, some _, some _, none]) (by decide) rfl ?_
            refine i_aload_n dL_knows_69 rfl ?_
            refine i_iload_n dL_knows_70 rfl ?_
            refine i_iload_n dL_knows_71 rfl ?_
            refine i_bipush dL_knows_72 (by decide) ?_
            refine i_icmp_ge (tgt := 81) dL_knows_74 (by decide) (by omega) (by omega) (fun c74 => ?_) (fun c74 => absurd c74 (by omega))
            refine i_iload dL_knows_81 rfl ?_
            refine i_iload dL_knows_83 rfl ?_
            refine i_callS (mc := 1561) (ms := 9366) (k' := 1590 * (24 - (k + 1)).toNat + 6 + 29) (n' := 9540 * (24 - (k + 1)).toNat + 36 + 174) (As := [_, _, _, _]) dL_knows_85 cfL_isPath stL_isPath lL_54 rfl rfl (Nat.le_of_ble_eq_true rfl) (by omega) (by omega) ?_
            refine h_isPath hZ hN1 hA hs (by omega) (by omega) (RK.v ?_)
            refine i_istore dL_knows_88 (L' := [some _, some _, some _, some _, some _, some _, some _]) (by decide) rfl ?_
            refine i_aload_n dL_knows_90 rfl ?_
            refine i_iload_n dL_knows_91 rfl ?_
            refine i_iload_n dL_knows_92 rfl ?_
            refine i_bipush dL_knows_93 (by decide) ?_
            refine i_icmp_ge (tgt := 102) dL_knows_95 (by decide) (by omega) (by omega) (fun c95 => ?_) (fun c95 => absurd c95 (by omega))
            refine i_iload dL_knows_102 rfl ?_
            refine i_iload dL_knows_104 rfl ?_
            refine i_callS (mc := 26) (ms := 156) (k' := 1590 * (24 - (k + 1)).toNat + 6 + 3) (n' := 9540 * (24 - (k + 1)).toNat + 36 + 18) (As := [_, _, _, _]) dL_knows_106 cfL_isRun stL_isRun lL_58 rfl rfl (Nat.le_of_ble_eq_true rfl) (by omega) (by omega) ?_
            refine h_isRun hZ hN1 hA hs (by omega) (by omega) (RK.v ?_)
            refine i_iload dL_knows_109 rfl ?_
            refine i_icmp_eq_bb (tgt := 116) dL_knows_111 (by decide) (fun c111 => ?_) (fun c111 => ?_)
            · -- jumps
              refine i_aload_n dL_knows_116 rfl ?_
              refine i_iload_n dL_knows_117 rfl ?_
              refine i_bipush dL_knows_118 (by decide) ?_
              refine i_icmp_ge (tgt := 127) dL_knows_120 (by decide) (by omega) (by omega) (fun c120 => ?_) (fun c120 => absurd c120 (by omega))
              refine i_iload dL_knows_127 rfl ?_
              refine i_iload dL_knows_129 rfl ?_
              refine i_callS (mc := 2) (ms := 12) (k' := 1590 * (24 - (k + 1)).toNat + 6 + 1) (n' := 9540 * (24 - (k + 1)).toNat + 36 + 6) (As := [_, _, _]) dL_knows_131 cfL_word stL_word lL_61 rfl rfl (Nat.le_of_ble_eq_true rfl) (by omega) (by omega) ?_
              refine h_word hZ h4' (by omega) (by omega) (fun V1 C1 b1 b2 b3 b4 => RK.n0 ?_)
              have hN2 := hN1.typ b3 b4
              refine i_aload_n dL_knows_134 rfl ?_
              refine i_iload_n dL_knows_135 rfl ?_
              refine u_callV (i := 0) (mc := 1) (ms := 6) (k' := 1590 * (24 - (k + 1)).toNat + 6 + 0) (n' := 9540 * (24 - (k + 1)).toNat + 36 + 0) (As := [_]) dL_knows_136 cfX10_acceptsInput imX10_acceptsInput seX10_acceptsInput lL_65 (by decide) rfl rfl rfl rfl rfl (Nat.le_of_ble_eq_true rfl) (by omega) (by omega) ?_
              refine q_acceptsInput hZ hN2 hO hX (by omega) (fun j j0 j1 => by rw [b2 j j0 (by omega)]; exact gB_rg) (by omega) (fun z => absurd hs z) (fun _ => RK.v ?_)
              refine RW.ti (gInp (by omega) b1 b2) ?_
              refine i_iload dL_knows_139 rfl ?_
              refine i_icmp_eq_bb (tgt := 146) dL_knows_141 (by decide) (fun c141 => ?_) (fun c141 => ?_)
              · -- jumps
                refine i_iinc dL_knows_146 rfl (L' := [some _, some _, some _, some _, some _, some _, some _]) (by decide) rfl ?_
                refine i_goto (tgt := 2) dL_knows_149 (by decide) ?_
                refine RW.wk (L' := [some _, some _, some _, some _, none, none, none]) (p_subL.at (by repeat (first | exact subL_nil | refine subL_s ?_ | refine subL_n ?_))) ?_
                refine RW.room (Nat.le_refl _) ?_ ?_ (ih _ ?_ (k + 1) _ _ rfl (by omega) (hV.tr b3 (fun _ h => h)) (hC.tr b4 (fun _ h => h)) (by omega))
                · omega
                · omega
                · omega
              · -- on
                refine i_const dL_knows_144 ?_
                refine i_ireturn dL_knows_145 rfl rfl ?_
                exact absurd Iff.rfl (by assumption)
            · -- on
              refine i_const dL_knows_114 ?_
              refine i_ireturn dL_knows_115 rfl rfl ?_
              exact absurd Iff.rfl (by assumption)
        · -- on
          refine i_const dL_knows_24 ?_
          refine i_goto (tgt := 50) dL_knows_25 (by decide) ?_
          refine i_istore dL_knows_50 (L' := [some _, some _, some _, some _, some _, none, none]) (by decide) rfl ?_
          refine i_iload_n dL_knows_52 rfl ?_
          refine i_iload_n dL_knows_53 rfl ?_
          refine i_bipush dL_knows_54 (by decide) ?_
          refine i_rem dL_knows_56 (by omega) (by omega) ?_
          refine i_iushr dL_knows_57 (iI_of _) ?_
          refine i_const dL_knows_58 ?_
          refine i_iload_n dL_knows_59 rfl ?_
          refine i_mul dL_knows_60 ?_
          refine i_const dL_knows_61 ?_
          refine i_add dL_knows_62 ?_
          refine i_mul dL_knows_63 ?_
          refine i_ldc kL_53 dL_knows_64 ?_
          refine i_andM dL_knows_66 (fun N hNN => ?_)
          refine i_istore dL_knows_67 (L' := [some _, some _, some _, some _, some _, some _, none]) (by decide) rfl ?_
          refine i_aload_n dL_knows_69 rfl ?_
          refine i_iload_n dL_knows_70 rfl ?_
          refine i_iload_n dL_knows_71 rfl ?_
          refine i_bipush dL_knows_72 (by decide) ?_
          refine i_icmp_ge (tgt := 81) dL_knows_74 (by decide) (by omega) (by omega) (fun c74 => ?_) (fun c74 => absurd c74 (by omega))
          refine i_iload dL_knows_81 rfl ?_
          refine i_iload dL_knows_83 rfl ?_
          refine i_callS (mc := 1561) (ms := 9366) (k' := 1590 * (24 - (k + 1)).toNat + 6 + 29) (n' := 9540 * (24 - (k + 1)).toNat + 36 + 174) (As := [_, _, _, _]) dL_knows_85 cfL_isPath stL_isPath lL_54 rfl rfl (Nat.le_of_ble_eq_true rfl) (by omega) (by omega) ?_
          refine h_isPath hZ hN1 hA hs (by omega) (by omega) (RK.v ?_)
          refine i_istore dL_knows_88 (L' := [some _, some _, some _, some _, some _, some _, some _]) (by decide) rfl ?_
          refine i_aload_n dL_knows_90 rfl ?_
          refine i_iload_n dL_knows_91 rfl ?_
          refine i_iload_n dL_knows_92 rfl ?_
          refine i_bipush dL_knows_93 (by decide) ?_
          refine i_icmp_ge (tgt := 102) dL_knows_95 (by decide) (by omega) (by omega) (fun c95 => ?_) (fun c95 => absurd c95 (by omega))
          refine i_iload dL_knows_102 rfl ?_
          refine i_iload dL_knows_104 rfl ?_
          refine i_callS (mc := 26) (ms := 156) (k' := 1590 * (24 - (k + 1)).toNat + 6 + 3) (n' := 9540 * (24 - (k + 1)).toNat + 36 + 18) (As := [_, _, _, _]) dL_knows_106 cfL_isRun stL_isRun lL_58 rfl rfl (Nat.le_of_ble_eq_true rfl) (by omega) (by omega) ?_
          refine h_isRun hZ hN1 hA hs (by omega) (by omega) (RK.v ?_)
          refine i_iload dL_knows_109 rfl ?_
          refine i_icmp_eq_bb (tgt := 116) dL_knows_111 (by decide) (fun c111 => ?_) (fun c111 => ?_)
          · -- jumps
            refine i_aload_n dL_knows_116 rfl ?_
            refine i_iload_n dL_knows_117 rfl ?_
            refine i_bipush dL_knows_118 (by decide) ?_
            refine i_icmp_ge (tgt := 127) dL_knows_120 (by decide) (by omega) (by omega) (fun c120 => ?_) (fun c120 => absurd c120 (by omega))
            refine i_iload dL_knows_127 rfl ?_
            refine i_iload dL_knows_129 rfl ?_
            refine i_callS (mc := 2) (ms := 12) (k' := 1590 * (24 - (k + 1)).toNat + 6 + 1) (n' := 9540 * (24 - (k + 1)).toNat + 36 + 6) (As := [_, _, _]) dL_knows_131 cfL_word stL_word lL_61 rfl rfl (Nat.le_of_ble_eq_true rfl) (by omega) (by omega) ?_
            refine h_word hZ h4' (by omega) (by omega) (fun V1 C1 b1 b2 b3 b4 => RK.n0 ?_)
            have hN2 := hN1.typ b3 b4
            refine i_aload_n dL_knows_134 rfl ?_
            refine i_iload_n dL_knows_135 rfl ?_
            refine u_callV (i := 0) (mc := 1) (ms := 6) (k' := 1590 * (24 - (k + 1)).toNat + 6 + 0) (n' := 9540 * (24 - (k + 1)).toNat + 36 + 0) (As := [_]) dL_knows_136 cfX10_acceptsInput imX10_acceptsInput seX10_acceptsInput lL_65 (by decide) rfl rfl rfl rfl rfl (Nat.le_of_ble_eq_true rfl) (by omega) (by omega) ?_
            refine q_acceptsInput hZ hN2 hO hX (by omega) (fun j j0 j1 => by rw [b2 j j0 (by omega)]; exact gB_rg) (by omega) (fun z => absurd hs z) (fun _ => RK.v ?_)
            refine RW.ti (gInp (by omega) b1 b2) ?_
            refine i_iload dL_knows_139 rfl ?_
            refine i_icmp_eq_bb (tgt := 146) dL_knows_141 (by decide) (fun c141 => ?_) (fun c141 => ?_)
            · -- jumps
              refine i_iinc dL_knows_146 rfl (L' := [some _, some _, some _, some _, some _, some _, some _]) (by decide) rfl ?_
              refine i_goto (tgt := 2) dL_knows_149 (by decide) ?_
              refine RW.wk (L' := [some _, some _, some _, some _, none, none, none]) (p_subL.at (by repeat (first | exact subL_nil | refine subL_s ?_ | refine subL_n ?_))) ?_
              refine RW.room (Nat.le_refl _) ?_ ?_ (ih _ ?_ (k + 1) _ _ rfl (by omega) (hV.tr b3 (fun _ h => h)) (hC.tr b4 (fun _ h => h)) (by omega))
              · omega
              · omega
              · omega
            · -- on
              refine i_const dL_knows_144 ?_
              refine i_ireturn dL_knows_145 rfl rfl ?_
              exact absurd Iff.rfl (by assumption)
          · -- on
            refine i_const dL_knows_114 ?_
            refine i_ireturn dL_knows_115 rfl rfl ?_
            exact absurd Iff.rfl (by assumption)
      · -- on
        refine i_const dL_knows_14 ?_
        refine i_goto (tgt := 50) dL_knows_15 (by decide) ?_
        refine i_istore dL_knows_50 (L' := [some _, some _, some _, some _, some _, none, none]) (by decide) rfl ?_
        refine i_iload_n dL_knows_52 rfl ?_
        refine i_iload_n dL_knows_53 rfl ?_
        refine i_bipush dL_knows_54 (by decide) ?_
        refine i_rem dL_knows_56 (by omega) (by omega) ?_
        refine i_iushr dL_knows_57 (iI_of _) ?_
        refine i_const dL_knows_58 ?_
        refine i_iload_n dL_knows_59 rfl ?_
        refine i_mul dL_knows_60 ?_
        refine i_const dL_knows_61 ?_
        refine i_add dL_knows_62 ?_
        refine i_mul dL_knows_63 ?_
        refine i_ldc kL_53 dL_knows_64 ?_
        refine i_andM dL_knows_66 (fun N hNN => ?_)
        refine i_istore dL_knows_67 (L' := [some _, some _, some _, some _, some _, some _, none]) (by decide) rfl ?_
        refine i_aload_n dL_knows_69 rfl ?_
        refine i_iload_n dL_knows_70 rfl ?_
        refine i_iload_n dL_knows_71 rfl ?_
        refine i_bipush dL_knows_72 (by decide) ?_
        refine i_icmp_ge (tgt := 81) dL_knows_74 (by decide) (by omega) (by omega) (fun c74 => absurd c74 (by omega)) (fun c74 => ?_)
        refine i_iload_n dL_knows_77 rfl ?_
        refine i_goto (tgt := 83) dL_knows_78 (by decide) ?_
        refine i_iload dL_knows_83 rfl ?_
        refine i_callS (mc := 1561) (ms := 9366) (k' := 1590 * (24 - (k + 1)).toNat + 6 + 29) (n' := 9540 * (24 - (k + 1)).toNat + 36 + 174) (As := [_, _, _, _]) dL_knows_85 cfL_isPath stL_isPath lL_54 rfl rfl (Nat.le_of_ble_eq_true rfl) (by omega) (by omega) ?_
        refine h_isPath hZ hN1 hA hs (by omega) (by omega) (RK.v ?_)
        refine i_istore dL_knows_88 (L' := [some _, some _, some _, some _, some _, some _, some _]) (by decide) rfl ?_
        refine i_aload_n dL_knows_90 rfl ?_
        refine i_iload_n dL_knows_91 rfl ?_
        refine i_iload_n dL_knows_92 rfl ?_
        refine i_bipush dL_knows_93 (by decide) ?_
        refine i_icmp_ge (tgt := 102) dL_knows_95 (by decide) (by omega) (by omega) (fun c95 => absurd c95 (by omega)) (fun c95 => ?_)
        refine i_iload_n dL_knows_98 rfl ?_
        refine i_goto (tgt := 104) dL_knows_99 (by decide) ?_
        refine i_iload dL_knows_104 rfl ?_
        refine i_callS (mc := 26) (ms := 156) (k' := 1590 * (24 - (k + 1)).toNat + 6 + 3) (n' := 9540 * (24 - (k + 1)).toNat + 36 + 18) (As := [_, _, _, _]) dL_knows_106 cfL_isRun stL_isRun lL_58 rfl rfl (Nat.le_of_ble_eq_true rfl) (by omega) (by omega) ?_
        refine h_isRun hZ hN1 hA hs (by omega) (by omega) (RK.v ?_)
        refine i_iload dL_knows_109 rfl ?_
        refine i_icmp_eq_bb (tgt := 116) dL_knows_111 (by decide) (fun c111 => ?_) (fun c111 => ?_)
        · -- jumps
          refine i_aload_n dL_knows_116 rfl ?_
          refine i_iload_n dL_knows_117 rfl ?_
          refine i_bipush dL_knows_118 (by decide) ?_
          refine i_icmp_ge (tgt := 127) dL_knows_120 (by decide) (by omega) (by omega) (fun c120 => absurd c120 (by omega)) (fun c120 => ?_)
          refine i_iload_n dL_knows_123 rfl ?_
          refine i_goto (tgt := 129) dL_knows_124 (by decide) ?_
          refine i_iload dL_knows_129 rfl ?_
          refine i_callS (mc := 2) (ms := 12) (k' := 1590 * (24 - (k + 1)).toNat + 6 + 1) (n' := 9540 * (24 - (k + 1)).toNat + 36 + 6) (As := [_, _, _]) dL_knows_131 cfL_word stL_word lL_61 rfl rfl (Nat.le_of_ble_eq_true rfl) (by omega) (by omega) ?_
          refine h_word hZ h4' (by omega) (by omega) (fun V1 C1 b1 b2 b3 b4 => RK.n0 ?_)
          have hN2 := hN1.typ b3 b4
          refine i_aload_n dL_knows_134 rfl ?_
          refine i_iload_n dL_knows_135 rfl ?_
          refine u_callV (i := 0) (mc := 1) (ms := 6) (k' := 1590 * (24 - (k + 1)).toNat + 6 + 0) (n' := 9540 * (24 - (k + 1)).toNat + 36 + 0) (As := [_]) dL_knows_136 cfX10_acceptsInput imX10_acceptsInput seX10_acceptsInput lL_65 (by decide) rfl rfl rfl rfl rfl (Nat.le_of_ble_eq_true rfl) (by omega) (by omega) ?_
          refine q_acceptsInput hZ hN2 hO hX (by omega) (fun j j0 j1 => by rw [b2 j j0 (by omega)]; exact gB_rg) (by omega) (fun z => absurd hs z) (fun _ => RK.v ?_)
          refine RW.ti (gInp (by omega) b1 b2) ?_
          refine i_iload dL_knows_139 rfl ?_
          refine i_icmp_eq_bb (tgt := 146) dL_knows_141 (by decide) (fun c141 => ?_) (fun c141 => ?_)
          · -- jumps
            refine i_iinc dL_knows_146 rfl (L' := [some _, some _, some _, some _, some _, some _, some _]) (by decide) rfl ?_
            refine i_goto (tgt := 2) dL_knows_149 (by decide) ?_
            refine RW.wk (L' := [some _, some _, some _, some _, none, none, none]) (p_subL.at (by repeat (first | exact subL_nil | refine subL_s ?_ | refine subL_n ?_))) ?_
            refine RW.room (Nat.le_refl _) ?_ ?_ (ih _ ?_ (k + 1) _ _ rfl (by omega) (hV.tr b3 (fun _ h => h)) (hC.tr b4 (fun _ h => h)) (by omega))
            · omega
            · omega
            · omega
          · -- on
            refine i_const dL_knows_144 ?_
            refine i_ireturn dL_knows_145 rfl rfl ?_
            exact absurd Iff.rfl (by assumption)
        · -- on
          refine i_const dL_knows_114 ?_
          refine i_ireturn dL_knows_115 rfl rfl ?_
          exact absurd Iff.rfl (by assumption)
theorem h_knows {s c : Int} (hZ : p_Zs G) (hN : cNow V C J w) (hA : wAll w) (hs : s = 0 ∨ s = 1) (h4 : 0 ≤ V 4 ∧ V 4 ≤ 200) (hp : ∀ V' C', V' 4 = 0 → sV [4] V V' → sC [2] C C' → P (.inl (some (.int (iI 1)))) (V', C', J)) : RM G mL_knows (c_I Y h0) [.ref (Y 0), .int (iI s), .int (iI c)] (d + 10) 38166 228996 P (V, C, J) := by
  refine RM.of (L := [some (.ref (Y 0)), some (.int (iI s)), some (.int (iI c)), none, none, none, none]) cfL_knows rfl (Nat.le_of_ble_eq_true rfl) ?_
  refine RW.room (Nat.le_refl _) (k' := 0 + 38166) (n' := 0 + 228996) (by omega) (by omega) ?_
  refine i_const dL_knows_0 ?_
  refine i_istore_n dL_knows_1 (L' := [some _, some _, some _, some _, none, none, none]) (by decide) rfl ?_
  refine RW.room (Nat.le_refl _) ?_ ?_ (h_knows_l hZ hN hA hs h4 hp _ 0 V C rfl (by decide) sV.rfl sC.rfl h4)
  · omega
  · omega
end A4
