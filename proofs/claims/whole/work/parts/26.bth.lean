/-! ===== the reference: both home ===== -/
section M26
variable {G : p_G} {Y : Nat → Nat} {h0 : p_H} {P : (Option Value) ⊕ String → m_X → Prop} {d : Nat} {V : Nat → Int} {C : Nat → Int → Int} {J : Int → Int}
theorem k_bh_l1 {s t s2 t2 : Int}  (kk : ∀ C', sC [23, 26] C C' → (∀ y, 0 ≤ y → y < 3600 → C' 26 y = -1) → RW G mX11_bothHome (m_I Y h0) P (d) 0 0 25 [some (.ref (Y 38)), some (.int (iI s)), some (.int (iI t)), some (.int (iI s2)), some (.int (iI t2)), some (.int (iI 3600)), none, none, none, none, none] [] (V, C', J)) : ∀ (zz : Nat) (k : Int) (C' : Nat → Int → Int), zz = (3600 - k).toNat → (0 ≤ k) → (k ≤ 3600) → (sC [23, 26] C C') → (∀ y, 0 ≤ y → y < k → C' 26 y = -1) → RW G mX11_bothHome (m_I Y h0) P (d) 0 0 3 [some (.ref (Y 38)), some (.int (iI s)), some (.int (iI t)), some (.int (iI s2)), some (.int (iI t2)), some (.int (iI k)), none, none, none, none, none] [] (V, C', J) := by
  intro zz
  induction zz using Nat.strongRecOn with
  | _ zz ih =>
    intro k C' hzz h1 h2 hC hI
    have hw : C' 0 = C 0 := hC 0 (by decide)
    refine i_iload dX11_bothHome_3 rfl ?_
    refine i_sipush dX11_bothHome_5 (by decide) ?_
    refine i_icmp_ge (tgt := 25) dX11_bothHome_8 (by decide) (by omega) (by omega) (fun c8 => ?_) (fun c8 => ?_)
    · -- jumps
      obtain rfl : k = 3600 := by omega
      exact kk _ hC hI
    · -- on
      refine i_aload_n dX11_bothHome_11 rfl ?_
      refine t_getA dX11_bothHome_12 fX11_63.o rfl ?_
      refine i_iload dX11_bothHome_15 rfl ?_
      refine i_const dX11_bothHome_17 ?_
      refine t_iast (N := 3600) dX11_bothHome_18 (by decide) (by decide) rfl (by omega) ?_
      refine i_iinc dX11_bothHome_19 rfl (L' := [some _, some _, some _, some _, some _, some _, none, none, none, none, none]) (by decide) rfl ?_
      refine i_goto (tgt := 3) dX11_bothHome_22 (by decide) ?_
      refine ih _ ?_ (k + 1) _ rfl (by omega) (by omega) (hC.cu (by decide)) (fun y y0 y1 => ?_)
      · omega
      show zu (C' 26) _ _ _ = -1
      by_cases e : y = k
      · rw [e, zu_at]
      · rw [zu_ne e]; exact hI y y0 (by omega)
theorem k_bh_l2 {s t s2 t2 k a b : Int} (hO : wOK (C 0)) (hs : s = 0 ∨ s = 1) (hs2 : s2 = 0 ∨ s2 = 1) (kk : ∀ e cd C', k < e → sC [23, 26] C C' → wQ (wNx2 (C 0) s s2) (wAl (C 0) 1) (60 * t + t2) 3600 (C' 23) (C' 26) e k 6 cd → (∀ i, 0 ≤ i → i < e → wVal (C 0) s s2 (C' 23 i)) → (∀ i, 0 ≤ i → i ≤ k → ¬ wG1 (C 0) s s2 (C' 23 i)) → RW G mX11_bothHome (m_I Y h0) P (d + 2) 0 0 213 [some (.ref (Y 38)), some (.int (iI s)), some (.int (iI t)), some (.int (iI s2)), some (.int (iI t2)), some (.int (iI e)), some (.int (iI k)), none, none, none, none] [] (V, C', J)) : ∀ (zz : Nat) (c e : Int) (cd : Int → Nat) (C' : Nat → Int → Int), zz = (6 - c).toNat → (0 ≤ c) → (c ≤ 6) → (k < e) → (sC [23, 26] C C') → (wQ (wNx2 (C 0) s s2) (wAl (C 0) 1) (60 * t + t2) 3600 (C' 23) (C' 26) e k c cd) → (∀ i, 0 ≤ i → i < e → wVal (C 0) s s2 (C' 23 i)) → (a = C' 23 k / 60 ∧ b = C' 23 k % 60) → (∀ i, 0 ≤ i → i ≤ k → ¬ wG1 (C 0) s s2 (C' 23 i)) → RW G mX11_bothHome (m_I Y h0) P (d + 2) 0 0 123 [some (.ref (Y 38)), some (.int (iI s)), some (.int (iI t)), some (.int (iI s2)), some (.int (iI t2)), some (.int (iI e)), some (.int (iI k)), some (.int (iI a)), some (.int (iI b)), some (.int (iI c)), none] [] (V, C', J) := by
  intro zz
  induction zz using Nat.strongRecOn with
  | _ zz ih =>
    intro c e cd C' hzz h1 h2 hk hC hQ hV ho hn
    obtain ⟨ea, eb⟩ := ho
    subst ea
    subst eb
    have hw : C' 0 = C 0 := hC 0 (by decide)
    have b2 := hQ.rm
    have b3 := hV k b2.2.1 hk
    have m0 := hO.sts hs
    have m1 := hO.sts hs2
    refine i_iload dX11_bothHome_123 rfl ?_
    refine i_bipush dX11_bothHome_125 (by decide) ?_
    refine i_icmp_ge (tgt := 213) dX11_bothHome_127 (by decide) (by omega) (by omega) (fun c127 => ?_) (fun c127 => ?_)
    · -- jumps
      refine RW.wk (L' := [some _, some _, some _, some _, some _, some _, some _, none, none, none, none]) (p_subL.at (by repeat (first | exact subL_nil | refine subL_s ?_ | refine subL_n ?_))) ?_
      obtain rfl : c = 6 := by omega
      exact kk e cd _ hk hC hQ hV hn
    · -- on
      have b5 := b3.nx hO hs hs2 h1 (show c < 6 by omega)
      have b4 : 0 ≤ (60 * C 0 (476 * s + (116 + 6 * (C' 23 k / 60) + c)) + C 0 (476 * s2 + (116 + 6 * (C' 23 k % 60) + c))) ∧ (60 * C 0 (476 * s + (116 + 6 * (C' 23 k / 60) + c)) + C 0 (476 * s2 + (116 + 6 * (C' 23 k % 60) + c))) < 3600 := ⟨b5.1, b5.2.1⟩
      have b6 := hQ.2.2.2.2 (60 * C 0 (476 * s + (116 + 6 * (C' 23 k / 60) + c)) + C 0 (476 * s2 + (116 + 6 * (C' 23 k % 60) + c))) b4.1 b4.2
      have b7 := hQ.2.2.2.2 _ b3.1 b3.2.1
      refine i_bipush dX11_bothHome_130 (by decide) ?_
      refine i_aload_n dX11_bothHome_132 rfl ?_
      refine i_iload_n dX11_bothHome_133 rfl ?_
      refine i_iload dX11_bothHome_134 rfl ?_
      refine i_iload dX11_bothHome_136 rfl ?_
      refine t_callV (As := [_, _, _]) dX11_bothHome_138 cfX11_goes imX11_goes seX11_goes lX11_231 rfl rfl rfl (Nat.le_of_ble_eq_true rfl) ?_
      refine k_goes (w := C 0) hw (by omega) (by omega) (by omega) (RK.v ?_)
      refine i_mul dX11_bothHome_141 ?_
      refine i_aload_n dX11_bothHome_142 rfl ?_
      refine i_iload_n dX11_bothHome_143 rfl ?_
      refine i_iload dX11_bothHome_144 rfl ?_
      refine i_iload dX11_bothHome_146 rfl ?_
      refine t_callV (As := [_, _, _]) dX11_bothHome_148 cfX11_goes imX11_goes seX11_goes lX11_231 rfl rfl rfl (Nat.le_of_ble_eq_true rfl) ?_
      refine k_goes (w := C 0) hw (by omega) (by omega) (by omega) (RK.v ?_)
      refine i_add dX11_bothHome_151 ?_
      refine i_istore dX11_bothHome_152 (L' := [some _, some _, some _, some _, some _, some _, some _, some _, some _, some _, some _]) (by decide) rfl ?_
      refine i_aload_n dX11_bothHome_154 rfl ?_
      refine i_iload dX11_bothHome_155 rfl ?_
      refine t_callV (As := [_]) dX11_bothHome_157 cfX11_passes imX11_passes seX11_passes lX11_237 rfl rfl rfl (Nat.le_of_ble_eq_true rfl) ?_
      refine k_passes (w := C 0) hw (by omega) hO (RK.v ?_)
      refine i_ifeq_b (tgt := 207) dX11_bothHome_160 (by decide) (fun c160 => ?_) (fun c160 => ?_)
      · -- jumps
        refine i_iinc dX11_bothHome_207 rfl (L' := [some _, some _, some _, some _, some _, some _, some _, some _, some _, some _, some _]) (by decide) rfl ?_
        refine i_goto (tgt := 123) dX11_bothHome_210 (by decide) ?_
        refine RW.wk (L' := [some _, some _, some _, some _, some _, some _, some _, some _, some _, some _, none]) (p_subL.at (by repeat (first | exact subL_nil | refine subL_s ?_ | refine subL_n ?_))) ?_
        refine ih _ ?_ (c + 1) e cd _ rfl (by omega) (by omega) hk hC (hQ.skip hk (by first | exact Or.inr ⟨b4, by assumption⟩ | (refine Or.inl (fun z => ?_); rcases z with z | z <;> first | omega | contradiction))) hV ⟨rfl, rfl⟩ hn
        omega
      · -- on
        refine i_aload_n dX11_bothHome_163 rfl ?_
        refine t_getA dX11_bothHome_164 fX11_63.o rfl ?_
        refine i_iload dX11_bothHome_167 rfl ?_
        refine t_iald (N := 3600) dX11_bothHome_169 (by decide) (by decide) rfl (by omega) rfl ?_
        refine i_const dX11_bothHome_170 ?_
        refine i_icmp_ne (tgt := 207) dX11_bothHome_171 (by decide) (by omega) (by omega) (fun c171 => ?_) (fun c171 => ?_)
        · -- jumps
          refine i_iinc dX11_bothHome_207 rfl (L' := [some _, some _, some _, some _, some _, some _, some _, some _, some _, some _, some _]) (by decide) rfl ?_
          refine i_goto (tgt := 123) dX11_bothHome_210 (by decide) ?_
          refine RW.wk (L' := [some _, some _, some _, some _, some _, some _, some _, some _, some _, some _, none]) (p_subL.at (by repeat (first | exact subL_nil | refine subL_s ?_ | refine subL_n ?_))) ?_
          refine ih _ ?_ (c + 1) e cd _ rfl (by omega) (by omega) hk hC (hQ.skip hk (by first | exact Or.inr ⟨b4, by assumption⟩ | (refine Or.inl (fun z => ?_); rcases z with z | z <;> first | omega | contradiction))) hV ⟨rfl, rfl⟩ hn
          omega
        · -- on
          have b8 := hQ.lt b4.1 b4.2 (by assumption)
          refine i_aload_n dX11_bothHome_174 rfl ?_
          refine t_getA dX11_bothHome_175 fX11_63.o rfl ?_
          refine i_iload dX11_bothHome_178 rfl ?_
          refine i_aload_n dX11_bothHome_180 rfl ?_
          refine t_getA dX11_bothHome_181 fX11_63.o rfl ?_
          refine i_aload_n dX11_bothHome_184 rfl ?_
          refine t_getA dX11_bothHome_185 fX11_54.o rfl ?_
          refine i_iload dX11_bothHome_188 rfl ?_
          refine t_iald (N := 3600) dX11_bothHome_190 (by decide) (by decide) rfl (by omega) rfl ?_
          refine t_iald (N := 3600) dX11_bothHome_191 (by decide) (by decide) rfl (by omega) rfl ?_
          refine i_const dX11_bothHome_192 ?_
          refine i_add dX11_bothHome_193 ?_
          refine t_iast (N := 3600) dX11_bothHome_194 (by decide) (by decide) rfl (by omega) ?_
          refine i_aload_n dX11_bothHome_195 rfl ?_
          refine t_getA dX11_bothHome_196 fX11_54.o rfl ?_
          refine i_iload dX11_bothHome_199 rfl ?_
          refine i_iload dX11_bothHome_201 rfl ?_
          refine t_iast (N := 3600) dX11_bothHome_203 (by decide) (by decide) rfl (by omega) ?_
          refine i_iinc dX11_bothHome_204 rfl (L' := [some _, some _, some _, some _, some _, some _, some _, some _, some _, some _, some _]) (by decide) rfl ?_
          refine i_iinc dX11_bothHome_207 rfl (L' := [some _, some _, some _, some _, some _, some _, some _, some _, some _, some _, some _]) (by decide) rfl ?_
          refine i_goto (tgt := 123) dX11_bothHome_210 (by decide) ?_
          refine RW.wk (L' := [some _, some _, some _, some _, some _, some _, some _, some _, some _, some _, none]) (p_subL.at (by repeat (first | exact subL_nil | refine subL_s ?_ | refine subL_n ?_))) ?_
          obtain ⟨cd', a1, a2, a3⟩ := hQ.add hk (by omega) (Or.inr (by assumption)) b4 (by assumption) (Q' := zu (C' 23) e (wNx2 (C 0) s s2 (C' 23 k) c)) (F' := zu (C' 26) (wNx2 (C 0) s s2 (C' 23 k) c) (C' 26 (C' 23 k) + 1)) (fun _ => rfl) (fun _ => rfl)
          refine ih _ ?_ (c + 1) (e + 1) cd' _ rfl (by omega) (by omega) (by omega) ((hC.cu (by decide)).cu (by decide)) (a1.kp rfl rfl) (fun i i0 i1 => ?_) ?_ (fun i i0 i1 => ?_)
          · omega
          · show wVal (C 0) s s2 (zu (C' 23) e (wNx2 (C 0) s s2 (C' 23 k) c) i)
            by_cases z : i = e
            · rw [z, zu_at]; exact b5
            · rw [zu_ne z]; exact hV i i0 (by omega)
          · show C' 23 k / 60 = zu (C' 23) e _ k / 60 ∧ C' 23 k % 60 = zu (C' 23) e _ k % 60
            rw [zu_ne (by omega)]; exact ⟨rfl, rfl⟩
          · show ¬ wG1 (C 0) s s2 (zu (C' 23) e _ i)
            rw [zu_ne (by omega)]; exact hn i i0 i1
theorem k_bh_l3 {s t s2 t2 : Int} (hO : wOK (C 0)) (hs : s = 0 ∨ s = 1) (hs2 : s2 = 0 ∨ s2 = 1) (hp : ∀ C', sC [23, 26] C C' → ∀ r, zLen (wNx2 (C 0) s s2) (wAl (C 0) 1) (60 * t + t2) (wG1 (C 0) s s2) r → r ≤ 3600 → P (.inl (some (.int (iI r)))) (V, C', J)) : ∀ (zz : Nat) (k e : Int) (cd : Int → Nat) (C' : Nat → Int → Int), zz = (3600 - k).toNat → (sC [23, 26] C C') → (wQ (wNx2 (C 0) s s2) (wAl (C 0) 1) (60 * t + t2) 3600 (C' 23) (C' 26) e k 0 cd) → (∀ i, 0 ≤ i → i < e → wVal (C 0) s s2 (C' 23 i)) → (∀ i, 0 ≤ i → i < k → ¬ wG1 (C 0) s s2 (C' 23 i)) → RW G mX11_bothHome (m_I Y h0) P (d + 2) 0 0 56 [some (.ref (Y 38)), some (.int (iI s)), some (.int (iI t)), some (.int (iI s2)), some (.int (iI t2)), some (.int (iI e)), some (.int (iI k)), none, none, none, none] [] (V, C', J) := by
  intro zz
  induction zz using Nat.strongRecOn with
  | _ zz ih =>
    intro k e cd C' hzz hC hQ hV hn
    have hw : C' 0 = C 0 := hC 0 (by decide)
    have b2 := hQ.rm
    have b3 := fun z => hV k b2.2.1 z
    have m0 := hO.sts hs
    have m1 := hO.sts hs2
    refine i_iload dX11_bothHome_56 rfl ?_
    refine i_iload dX11_bothHome_58 rfl ?_
    refine i_icmp_ge (tgt := 219) dX11_bothHome_60 (by decide) (by omega) (by omega) (fun c60 => ?_) (fun c60 => ?_)
    · -- jumps
      refine i_const dX11_bothHome_219 ?_
      refine i_ireturn dX11_bothHome_220 rfl rfl ?_
      obtain rfl : k = e := by omega
      exact hp _ hC _ (Or.inr ⟨hQ.1.no hn, rfl⟩) (by decide)
    · -- on
      have b4 := b3 (by omega)
      unfold wVal at b4
      refine i_aload_n dX11_bothHome_63 rfl ?_
      refine t_getA dX11_bothHome_64 fX11_54.o rfl ?_
      refine i_iload dX11_bothHome_67 rfl ?_
      refine t_iald (N := 3600) dX11_bothHome_69 (by decide) (by decide) rfl (by omega) rfl ?_
      refine i_bipush dX11_bothHome_70 (by decide) ?_
      refine i_div dX11_bothHome_72 (by omega) (by omega) ?_
      refine i_istore dX11_bothHome_73 (L' := [some _, some _, some _, some _, some _, some _, some _, some _, none, none, none]) (by decide) rfl ?_
      refine i_aload_n dX11_bothHome_75 rfl ?_
      refine t_getA dX11_bothHome_76 fX11_54.o rfl ?_
      refine i_iload dX11_bothHome_79 rfl ?_
      refine t_iald (N := 3600) dX11_bothHome_81 (by decide) (by decide) rfl (by omega) rfl ?_
      refine i_bipush dX11_bothHome_82 (by decide) ?_
      refine i_rem dX11_bothHome_84 (by omega) (by omega) ?_
      refine i_istore dX11_bothHome_85 (L' := [some _, some _, some _, some _, some _, some _, some _, some _, some _, none, none]) (by decide) rfl ?_
      refine i_aload_n dX11_bothHome_87 rfl ?_
      refine i_iload_n dX11_bothHome_88 rfl ?_
      refine i_iload dX11_bothHome_89 rfl ?_
      refine t_callV (As := [_, _]) dX11_bothHome_91 cfX11_accepts imX11_accepts seX11_accepts lX11_257 rfl rfl rfl (Nat.le_of_ble_eq_true rfl) ?_
      refine k_accepts (w := C 0) hw (by omega) (by omega) (hO.1 _ (by omega)) (RK.v ?_)
      refine i_ifeq_b (tgt := 120) dX11_bothHome_94 (by decide) (fun c94 => ?_) (fun c94 => ?_)
      · -- jumps
        refine i_const dX11_bothHome_120 ?_
        refine i_istore dX11_bothHome_121 (L' := [some _, some _, some _, some _, some _, some _, some _, some _, some _, some _, none]) (by decide) rfl ?_
        refine k_bh_l2 hO hs hs2 (fun e2 cd2 C2 hk2 hC2 hQ2 hV2 hn2 => ?_) _ 0 e cd _ rfl (by omega) (by omega) (by omega) hC hQ hV ⟨rfl, rfl⟩ (fun i i0 i1 => ?_)
        · skip
          refine i_iinc dX11_bothHome_213 rfl (L' := [some _, some _, some _, some _, some _, some _, some _, none, none, none, none]) (by decide) rfl ?_
          refine i_goto (tgt := 56) dX11_bothHome_216 (by decide) ?_
          have b6 := hQ2.rm
          refine ih _ ?_ (k + 1) e2 cd2 _ rfl hC2 (hQ2.next hk2) hV2 (fun i i0 i1 => hn2 i i0 (by omega))
          omega
        · by_cases z : i = k
          · rw [z]; rintro ⟨z1, z2⟩; contradiction
          · exact hn i i0 (by omega)
      · -- on
        refine i_aload_n dX11_bothHome_97 rfl ?_
        refine i_iload_n dX11_bothHome_98 rfl ?_
        refine i_iload dX11_bothHome_99 rfl ?_
        refine t_callV (As := [_, _]) dX11_bothHome_101 cfX11_accepts imX11_accepts seX11_accepts lX11_257 rfl rfl rfl (Nat.le_of_ble_eq_true rfl) ?_
        refine k_accepts (w := C 0) hw (by omega) (by omega) (hO.1 _ (by omega)) (RK.v ?_)
        refine i_ifeq_b (tgt := 120) dX11_bothHome_104 (by decide) (fun c104 => ?_) (fun c104 => ?_)
        · -- jumps
          refine i_const dX11_bothHome_120 ?_
          refine i_istore dX11_bothHome_121 (L' := [some _, some _, some _, some _, some _, some _, some _, some _, some _, some _, none]) (by decide) rfl ?_
          refine k_bh_l2 hO hs hs2 (fun e2 cd2 C2 hk2 hC2 hQ2 hV2 hn2 => ?_) _ 0 e cd _ rfl (by omega) (by omega) (by omega) hC hQ hV ⟨rfl, rfl⟩ (fun i i0 i1 => ?_)
          · skip
            refine i_iinc dX11_bothHome_213 rfl (L' := [some _, some _, some _, some _, some _, some _, some _, none, none, none, none]) (by decide) rfl ?_
            refine i_goto (tgt := 56) dX11_bothHome_216 (by decide) ?_
            have b6 := hQ2.rm
            refine ih _ ?_ (k + 1) e2 cd2 _ rfl hC2 (hQ2.next hk2) hV2 (fun i i0 i1 => hn2 i i0 (by omega))
            omega
          · by_cases z : i = k
            · rw [z]; rintro ⟨z1, z2⟩; contradiction
            · exact hn i i0 (by omega)
        · -- on
          refine i_aload_n dX11_bothHome_107 rfl ?_
          have b9 := hQ.2.2.2.2 _ b4.1 b4.2.1
          refine t_getA dX11_bothHome_108 fX11_63.o rfl ?_
          refine i_aload_n dX11_bothHome_111 rfl ?_
          refine t_getA dX11_bothHome_112 fX11_54.o rfl ?_
          refine i_iload dX11_bothHome_115 rfl ?_
          refine t_iald (N := 3600) dX11_bothHome_117 (by decide) (by decide) rfl (by omega) rfl ?_
          refine t_iald (N := 3600) dX11_bothHome_118 (by decide) (by decide) rfl (by omega) rfl ?_
          refine i_ireturn dX11_bothHome_119 rfl rfl ?_
          have b6 := hQ.2.2.2.2 _ b4.1 b4.2.1
          exact hp _ hC _ (Or.inl ⟨cd k, hQ.1.hit (by omega) ⟨by assumption, by assumption⟩ hn, hQ.2.2.1 k b2.2.1 (by omega)⟩) (by omega)
theorem k_bothHome {s t s2 t2 : Int} (hO : wOK (C 0)) (hs : s = 0 ∨ s = 1) (hs2 : s2 = 0 ∨ s2 = 1) (ht : 0 ≤ t ∧ t < C 0 (476 * s + 5)) (ht2 : 0 ≤ t2 ∧ t2 < C 0 (476 * s2 + 5)) (hp : ∀ C', sC [23, 26] C C' → ∀ r, zLen (wNx2 (C 0) s s2) (wAl (C 0) 1) (60 * t + t2) (wG1 (C 0) s s2) r → r ≤ 3600 → P (.inl (some (.int (iI r)))) (V, C', J)) : RM G mX11_bothHome (m_I Y h0) [.ref (Y 38), .int (iI s), .int (iI t), .int (iI s2), .int (iI t2)] (d + 2) 0 0 P (V, C, J) := by
  refine RM.of (L := [some (.ref (Y 38)), some (.int (iI s)), some (.int (iI t)), some (.int (iI s2)), some (.int (iI t2)), none, none, none, none, none, none]) cfX11_bothHome rfl (Nat.le_of_ble_eq_true rfl) ?_
  refine i_const dX11_bothHome_0 ?_
  refine i_istore dX11_bothHome_1 (L' := [some _, some _, some _, some _, some _, some _, none, none, none, none, none]) (by decide) rfl ?_
  refine k_bh_l1 (fun C2 hC2 hI2 => ?_) _ 0 _ rfl (by omega) (by omega) sC.rfl (fun y y0 y1 => by omega)
  have m0 := hO.sts hs
  have m1 := hO.sts hs2
  refine i_aload_n dX11_bothHome_25 rfl ?_
  refine t_getA dX11_bothHome_26 fX11_54.o rfl ?_
  refine i_const dX11_bothHome_29 ?_
  refine i_bipush dX11_bothHome_30 (by decide) ?_
  refine i_iload_n dX11_bothHome_32 rfl ?_
  refine i_mul dX11_bothHome_33 ?_
  refine i_iload dX11_bothHome_34 rfl ?_
  refine i_add dX11_bothHome_36 ?_
  refine t_iast (N := 3600) dX11_bothHome_37 (by decide) (by decide) rfl (by omega) ?_
  refine i_aload_n dX11_bothHome_38 rfl ?_
  refine t_getA dX11_bothHome_39 fX11_63.o rfl ?_
  refine i_aload_n dX11_bothHome_42 rfl ?_
  refine t_getA dX11_bothHome_43 fX11_54.o rfl ?_
  refine i_const dX11_bothHome_46 ?_
  refine t_iald (N := 3600) (v := (zu (C2 23) 0 (60 * t + t2)) 0) dX11_bothHome_47 (by decide) (by decide) rfl (by omega) rfl ?_
  refine RW.ti (y := 60 * t + t2) zu_at ?_
  refine i_const dX11_bothHome_48 ?_
  refine t_iast (N := 3600) dX11_bothHome_49 (by decide) (by decide) rfl (by omega) ?_
  refine i_const dX11_bothHome_50 ?_
  refine i_istore dX11_bothHome_51 (L' := [some _, some _, some _, some _, some _, some _, none, none, none, none, none]) (by decide) rfl ?_
  refine i_const dX11_bothHome_53 ?_
  refine i_istore dX11_bothHome_54 (L' := [some _, some _, some _, some _, some _, some _, some _, none, none, none, none]) (by decide) rfl ?_
  refine k_bh_l3 hO hs hs2 hp _ 0 1 (fun _ => 0) _ rfl ((hC2.cu (by decide)).cu (by decide)) (wQ.init (by omega) (by show zu (C2 23) 0 (60 * t + t2) 0 = _; exact zu_at) (fun y y0 y1 => ?_)) (fun i i0 i1 => ?_) (fun i i0 i1 => by omega)
  · show zu (C2 26) (60 * t + t2) 0 y = _
    by_cases z : y = 60 * t + t2
    · rw [z, zu_at, if_pos rfl]
    · rw [zu_ne z, if_neg z]; exact hI2 y y0 y1
  · obtain rfl : i = 0 := by omega
    show wVal (C 0) s s2 (zu (C2 23) 0 (60 * t + t2) 0)
    rw [zu_at]; unfold wVal; omega
theorem k_meetingSteps {p q : Int} (hO : wOK (C 0)) (h_p : -2147483648 ≤ p ∧ p < 2147483648) (h_q : -2147483648 ≤ q ∧ q < 2147483648) (hp1 : ¬ ((0 ≤ p ∧ p < C 0 952) ∧ (0 ≤ q ∧ q < C 0 952)) → P (.inl (some (.int (iI 0)))) (vu V 12 1, C, J)) (hp0 : (0 ≤ p ∧ p < C 0 952) ∧ (0 ≤ q ∧ q < C 0 952) → ∀ C', sC [23, 26] C C' → ∀ r, zLen (wNx2 (C 0) (C 0 (953 + 3 * p + 0)) (C 0 (953 + 3 * q + 0))) (wAl (C 0) 1) (60 * C 0 (953 + 3 * p + 1) + C 0 (953 + 3 * q + 1)) (wG1 (C 0) (C 0 (953 + 3 * p + 0)) (C 0 (953 + 3 * q + 0))) r → r ≤ 3600 → P (.inl (some (.int (iI r)))) (vu V 12 0, C', J)) : RM G mX11_meetingSteps (m_I Y h0) [.ref (Y 38), .int (iI p), .int (iI q)] (d + 3) 0 0 P (V, C, J) := by
  refine RM.of (L := [some (.ref (Y 38)), some (.int (iI p)), some (.int (iI q))]) cfX11_meetingSteps rfl (Nat.le_of_ble_eq_true rfl) ?_
  refine i_aload_n dX11_meetingSteps_0 rfl ?_
  refine i_aload_n dX11_meetingSteps_1 rfl ?_
  refine i_iload_n dX11_meetingSteps_2 rfl ?_
  refine t_callV (As := [_]) dX11_meetingSteps_3 cfX11_isWalker imX11_isWalker seX11_isWalker lX11_228 rfl rfl rfl (Nat.le_of_ble_eq_true rfl) ?_
  refine k_isWalker (w := C 0) rfl (by omega) hO (RK.v ?_)
  refine i_ifeq_b (tgt := 17) dX11_meetingSteps_6 (by decide) (fun c6 => ?_) (fun c6 => ?_)
  · -- jumps
    refine i_const dX11_meetingSteps_17 ?_
    refine i_goto (tgt := 22) dX11_meetingSteps_18 (by decide) ?_
    refine t_callV (As := [_]) dX11_meetingSteps_22 cfX11_throwsOne imX11_throwsOne seX11_throwsOne lX11_209 rfl rfl rfl (Nat.le_of_ble_eq_true rfl) ?_
    refine k_throwsOne (by first | exact zb_or | omega) (RK.v ?_)
    refine i_if_eq (tgt := 30) dX11_meetingSteps_25 (by decide) (by decide) (fun c25 => by omega) (fun c25 => ?_)
    refine i_const dX11_meetingSteps_28 ?_
    refine i_ireturn dX11_meetingSteps_29 rfl rfl ?_
    exact hp1 (by omega)
  · -- on
    refine i_aload_n dX11_meetingSteps_9 rfl ?_
    refine i_iload_n dX11_meetingSteps_10 rfl ?_
    refine t_callV (As := [_]) dX11_meetingSteps_11 cfX11_isWalker imX11_isWalker seX11_isWalker lX11_228 rfl rfl rfl (Nat.le_of_ble_eq_true rfl) ?_
    refine k_isWalker (w := C 0) rfl (by omega) hO (RK.v ?_)
    refine i_ifne_b (tgt := 21) dX11_meetingSteps_14 (by decide) (fun c14 => ?_) (fun c14 => ?_)
    · -- jumps
      refine i_const dX11_meetingSteps_21 ?_
      refine t_callV (As := [_]) dX11_meetingSteps_22 cfX11_throwsOne imX11_throwsOne seX11_throwsOne lX11_209 rfl rfl rfl (Nat.le_of_ble_eq_true rfl) ?_
      refine k_throwsOne (by first | exact zb_or | omega) (RK.v ?_)
      refine i_if_eq (tgt := 30) dX11_meetingSteps_25 (by decide) (by decide) (fun c25 => ?_) (fun c25 => by omega)
      have b0 := hO.2.1
      have b1 := hO.wk (k := p) (by omega) (by omega)
      have b2 := hO.wk (k := q) (by omega) (by omega)
      refine i_aload_n dX11_meetingSteps_30 rfl ?_
      refine i_aload_n dX11_meetingSteps_31 rfl ?_
      refine i_iload_n dX11_meetingSteps_32 rfl ?_
      refine i_const dX11_meetingSteps_33 ?_
      refine t_callV (As := [_, _]) dX11_meetingSteps_34 cfX11_walkerOf imX11_walkerOf seX11_walkerOf lX11_190 rfl rfl rfl (Nat.le_of_ble_eq_true rfl) ?_
      refine k_walkerOf (w := C 0) rfl (by omega) (by omega) (RK.v ?_)
      refine i_aload_n dX11_meetingSteps_37 rfl ?_
      refine i_iload_n dX11_meetingSteps_38 rfl ?_
      refine i_const dX11_meetingSteps_39 ?_
      refine t_callV (As := [_, _]) dX11_meetingSteps_40 cfX11_walkerOf imX11_walkerOf seX11_walkerOf lX11_190 rfl rfl rfl (Nat.le_of_ble_eq_true rfl) ?_
      refine k_walkerOf (w := C 0) rfl (by omega) (by omega) (RK.v ?_)
      refine i_aload_n dX11_meetingSteps_43 rfl ?_
      refine i_iload_n dX11_meetingSteps_44 rfl ?_
      refine i_const dX11_meetingSteps_45 ?_
      refine t_callV (As := [_, _]) dX11_meetingSteps_46 cfX11_walkerOf imX11_walkerOf seX11_walkerOf lX11_190 rfl rfl rfl (Nat.le_of_ble_eq_true rfl) ?_
      refine k_walkerOf (w := C 0) rfl (by omega) (by omega) (RK.v ?_)
      refine i_aload_n dX11_meetingSteps_49 rfl ?_
      refine i_iload_n dX11_meetingSteps_50 rfl ?_
      refine i_const dX11_meetingSteps_51 ?_
      refine t_callV (As := [_, _]) dX11_meetingSteps_52 cfX11_walkerOf imX11_walkerOf seX11_walkerOf lX11_190 rfl rfl rfl (Nat.le_of_ble_eq_true rfl) ?_
      refine k_walkerOf (w := C 0) rfl (by omega) (by omega) (RK.v ?_)
      refine t_callV (As := [_, _, _, _]) dX11_meetingSteps_55 cfX11_bothHome imX11_bothHome seX11_bothHome lX11_288 rfl rfl rfl (Nat.le_of_ble_eq_true rfl) ?_
      refine k_bothHome hO (by omega) (by omega) (by omega) (by omega) (fun C1 hC1 r hr hr2 => RK.v ?_)
      refine i_ireturn dX11_meetingSteps_58 rfl rfl ?_
      exact hp0 (by omega) _ hC1 r hr hr2
    · -- on
      refine i_const dX11_meetingSteps_17 ?_
      refine i_goto (tgt := 22) dX11_meetingSteps_18 (by decide) ?_
      refine t_callV (As := [_]) dX11_meetingSteps_22 cfX11_throwsOne imX11_throwsOne seX11_throwsOne lX11_209 rfl rfl rfl (Nat.le_of_ble_eq_true rfl) ?_
      refine k_throwsOne (by first | exact zb_or | omega) (RK.v ?_)
      refine i_if_eq (tgt := 30) dX11_meetingSteps_25 (by decide) (by decide) (fun c25 => by omega) (fun c25 => ?_)
      refine i_const dX11_meetingSteps_28 ?_
      refine i_ireturn dX11_meetingSteps_29 rfl rfl ?_
      exact hp1 (by omega)
end M26
