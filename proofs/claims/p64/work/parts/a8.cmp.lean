/-! ===== the law: a cell's pattern compiled ===== -/
/-- what holds of the world between the law's checks -/
def wG (w : Int → Int) : Prop := wAll w ∧ wNo w ∧ (∀ k, 971 ≤ k → k ≤ 982 → w k = 1) ∧ w 983 = 0 ∧ w 952 ≤ 3
section A8a
variable {w f b : Int → Int} {s n v j : Int} {x : zSt} {N : Nat}
theorem wG.new (h : wG w) (hs : s = 0 ∨ s = 1) (hI : zIv x) (he : x.2.2 = []) (hlp : 0 ≤ x.1.1.2 ∧ x.1.1.2 ≤ 200) (hD : zDone x N) : wG (wRes (wMad x N w s) s) ∧ wRes (wMad x N w s) s 952 = w 952 := by
  obtain ⟨h1, ⟨h2, h3⟩, h4, h5, h6⟩ := h
  have hN : N ≤ 360 := by have := hD.1; have := hD.2.2; omega
  have o : ∀ j : Int, 952 ≤ j → wMad x N w s j = w j := fun j hj => wMad.ot (by omega)
  have e2 := o 952 (by decide)
  have hi : ∀ j : Int, 962 ≤ j → wRes (wMad x N w s) s j = w j := fun j hj => by
    unfold wRes
    rw [if_neg (by rw [e2]; omega), o j (by omega)]
  have e3 : wRes (wMad x N w s) s 952 = w 952 := by
    unfold wRes
    rw [if_neg (by omega), e2]
  refine ⟨⟨h1.new hs hI he hlp hD (wMad.nw hN hD.2.2) (fun j hj => wMad.ot hj), ⟨(hi 984 (by decide)).trans h2, fun k k0 k1 => ?_⟩, fun k k0 k1 => (hi k (by omega)).trans (h4 k k0 k1), (hi 983 (by decide)).trans h5, by rw [e3]; exact h6⟩, e3⟩
  rw [e3] at k1
  unfold wRes
  split
  · rfl
  · rw [o _ (by omega)]
    exact h3 k k0 k1
theorem zu_rg (hf : ∀ j, 0 ≤ j → j < 20 → 0 ≤ f j ∧ f j < 128) (hv : 0 ≤ v ∧ v < 128) : ∀ j, 0 ≤ j → j < 20 → 0 ≤ zu f n v j ∧ zu f n v j < 128 := fun j j0 j1 => by
  by_cases z : j = n
  · rw [zu_e z]; exact hv
  · rw [zu_ne z]; exact hf j j0 j1
abbrev gP4 (f : Int → Int) (a b c d : Int) : Int := zo (zo (zo (f a * 16777216) (f b * 65536)) (f c * 256)) (f d)
theorem gP4_b (hf : ∀ j, 0 ≤ j → j < 20 → 0 ≤ f j ∧ f j < 128) {a b c d : Int} (ha : 0 ≤ a ∧ a < 20) (hb : 0 ≤ b ∧ b < 20) (hc : 0 ≤ c ∧ c < 20) (hd : 0 ≤ d ∧ d < 20) : zby (gP4 f a b c d) 24 = f a ∧ zby (gP4 f a b c d) 16 = f b ∧ zby (gP4 f a b c d) 8 = f c ∧ zby (gP4 f a b c d) 0 = f d := by
  have qa := hf a ha.1 ha.2
  have qb := hf b hb.1 hb.2
  have qc := hf c hc.1 hc.2
  have qd := hf d hd.1 hd.2
  exact gPack_b qa (by omega) (by omega) (by omega) (gPack qa qb qc qd)
theorem gBytes (hf : ∀ j, 0 ≤ j → j < 20 → 0 ≤ f j ∧ f j < 128) (hj : 0 ≤ j ∧ j < 20) : bPut (bPut (bPut (bPut (bPut b 0 (gP4 f 0 1 2 3)) (0 + 4) (gP4 f 4 5 6 7)) (0 + 8) (gP4 f 8 9 10 11)) (0 + 12) (gP4 f 12 13 14 15)) (0 + 16) (gP4 f 16 17 18 19) j = f j := by
  obtain ⟨a0, a1, a2, a3⟩ := gP4_b hf (a := 0) (b := 1) (c := 2) (d := 3) (by decide) (by decide) (by decide) (by decide)
  obtain ⟨a4, a5, a6, a7⟩ := gP4_b hf (a := 4) (b := 5) (c := 6) (d := 7) (by decide) (by decide) (by decide) (by decide)
  obtain ⟨a8, a9, a10, a11⟩ := gP4_b hf (a := 8) (b := 9) (c := 10) (d := 11) (by decide) (by decide) (by decide) (by decide)
  obtain ⟨a12, a13, a14, a15⟩ := gP4_b hf (a := 12) (b := 13) (c := 14) (d := 15) (by decide) (by decide) (by decide) (by decide)
  obtain ⟨a16, a17, a18, a19⟩ := gP4_b hf (a := 16) (b := 17) (c := 18) (d := 19) (by decide) (by decide) (by decide) (by decide)
  unfold bPut
  rcases (by omega : j = 0 ∨ j = 1 ∨ j = 2 ∨ j = 3 ∨ j = 4 ∨ j = 5 ∨ j = 6 ∨ j = 7 ∨ j = 8 ∨ j = 9 ∨ j = 10 ∨ j = 11 ∨ j = 12 ∨ j = 13 ∨ j = 14 ∨ j = 15 ∨ j = 16 ∨ j = 17 ∨ j = 18 ∨ j = 19) with rfl | rfl | rfl | rfl | rfl | rfl | rfl | rfl | rfl | rfl | rfl | rfl | rfl | rfl | rfl | rfl | rfl | rfl | rfl | rfl
  · repeat rw [zu_ne (by decide)]
    rw [zu_e (by decide)]
    exact a0
  · repeat rw [zu_ne (by decide)]
    rw [zu_e (by decide)]
    exact a1
  · repeat rw [zu_ne (by decide)]
    rw [zu_e (by decide)]
    exact a2
  · repeat rw [zu_ne (by decide)]
    rw [zu_e (by decide)]
    exact a3
  · repeat rw [zu_ne (by decide)]
    rw [zu_e (by decide)]
    exact a4
  · repeat rw [zu_ne (by decide)]
    rw [zu_e (by decide)]
    exact a5
  · repeat rw [zu_ne (by decide)]
    rw [zu_e (by decide)]
    exact a6
  · repeat rw [zu_ne (by decide)]
    rw [zu_e (by decide)]
    exact a7
  · repeat rw [zu_ne (by decide)]
    rw [zu_e (by decide)]
    exact a8
  · repeat rw [zu_ne (by decide)]
    rw [zu_e (by decide)]
    exact a9
  · repeat rw [zu_ne (by decide)]
    rw [zu_e (by decide)]
    exact a10
  · repeat rw [zu_ne (by decide)]
    rw [zu_e (by decide)]
    exact a11
  · repeat rw [zu_ne (by decide)]
    rw [zu_e (by decide)]
    exact a12
  · repeat rw [zu_ne (by decide)]
    rw [zu_e (by decide)]
    exact a13
  · repeat rw [zu_ne (by decide)]
    rw [zu_e (by decide)]
    exact a14
  · repeat rw [zu_ne (by decide)]
    rw [zu_e (by decide)]
    exact a15
  · repeat rw [zu_ne (by decide)]
    rw [zu_e (by decide)]
    exact a16
  · repeat rw [zu_ne (by decide)]
    rw [zu_e (by decide)]
    exact a17
  · repeat rw [zu_ne (by decide)]
    rw [zu_e (by decide)]
    exact a18
  · repeat rw [zu_ne (by decide)]
    rw [zu_e (by decide)]
    exact a19
end A8a
section A8
variable {G : p_G} {Y : Nat → Nat} {h0 : p_H} {P : (Option Value) ⊕ String → c_X → Prop} {d : Nat} {V : Nat → Int} {C : Nat → Int → Int} {J : c_J}
variable {w : Int → Int} {m : Int} {H : Int → Int → Int}
theorem h_cmp_1 {s c : Int} {aT K0 N0 : Nat}  (kk : ∀ f, gOk f (gLn c 5) 5 → (∀ j, 0 ≤ j → j < 20 → 0 ≤ f j ∧ f j < 128) → RW G mL_compiled (tI Y h0 (V, C, J) aT) (tP P) d K0 N0 214 [some (.ref (Y 0)), some (.int (iI s)), some (.int (iI c)), some (.ref aT), some (.int (iI (gLn c 5))), none, none, none] [] (.inr f)) : ∀ (zz : Nat) (k n l : Int) (f : Int → Int), zz = (5 - k).toNat → (0 ≤ k ∧ k ≤ 5) → (n = gLn c k.toNat) → (l = gQ c k.toNat) → (gOk f n k) → (∀ j, 0 ≤ j → j < 20 → 0 ≤ f j ∧ f j < 128) → RW G mL_compiled (tI Y h0 (V, C, J) aT) (tP P) (d) (K0) (N0) 14 [some (.ref (Y 0)), some (.int (iI s)), some (.int (iI c)), some (.ref aT), some (.int (iI n)), some (.int (iI l)), some (.int (iI k)), none] [] (.inr f) := by
  intro zz
  induction zz using Nat.strongRecOn with
  | _ zz ih =>
    intro k n l f hzz h1 hn hl hg hf
    have gl := gLn_rg (c := c) k.toNat
    refine i_iload dL_compiled_14 rfl ?_
    refine i_const dL_compiled_16 ?_
    refine i_icmp_ge (tgt := 214) dL_compiled_17 (by decide) (by omega) (by omega) (fun c17 => ?_) (fun c17 => ?_)
    · -- jumps
      refine RW.wk (L' := [some _, some _, some _, some _, some _, none, none, none]) (p_subL.at (by repeat (first | exact subL_nil | refine subL_s ?_ | refine subL_n ?_))) ?_
      obtain rfl : k = 5 := by omega
      rw [hn] at hg ⊢
      exact kk f hg hf
    · -- on
      refine i_iload dL_compiled_20 rfl ?_
      refine i_bipush dL_compiled_22 (by decide) ?_
      refine i_andE dL_compiled_24 iI_m15 ?_
      refine i_istore dL_compiled_25 (L' := [some _, some _, some _, some _, some _, some _, some _, some _]) (by decide) rfl ?_
      refine i_iload dL_compiled_27 rfl ?_
      refine i_const dL_compiled_29 ?_
      refine i_iushr dL_compiled_30 iI_us4 ?_
      refine i_istore dL_compiled_31 (L' := [some _, some _, some _, some _, some _, some _, some _, some _]) (by decide) rfl ?_
      refine i_iload dL_compiled_33 rfl ?_
      refine i_bipush dL_compiled_35 (by decide) ?_
      refine i_icmp_ge (tgt := 67) dL_compiled_37 (by decide) (by omega) (by omega) (fun c37 => ?_) (fun c37 => ?_)
      · -- jumps
        refine i_iload dL_compiled_67 rfl ?_
        refine i_bipush dL_compiled_69 (by decide) ?_
        refine i_icmp_ge (tgt := 136) dL_compiled_71 (by decide) (by omega) (by omega) (fun c71 => ?_) (fun c71 => ?_)
        · -- jumps
          refine i_iload dL_compiled_136 rfl ?_
          refine i_bipush dL_compiled_138 (by decide) ?_
          refine i_icmp_ge (tgt := 155) dL_compiled_140 (by decide) (by omega) (by omega) (fun c140 => ?_) (fun c140 => ?_)
          · -- jumps
            refine i_aload_n dL_compiled_155 rfl ?_
            refine i_iload dL_compiled_156 rfl ?_
            refine i_iinc dL_compiled_158 rfl (L' := [some _, some _, some _, some _, some _, some _, some _, some _]) (by decide) rfl ?_
            refine i_bipush dL_compiled_161 (by decide) ?_
            refine t_ast dL_compiled_163 (by omega) ?_
            refine i_aload_n dL_compiled_164 rfl ?_
            refine i_iload dL_compiled_165 rfl ?_
            refine i_iinc dL_compiled_167 rfl (L' := [some _, some _, some _, some _, some _, some _, some _, some _]) (by decide) rfl ?_
            refine i_bipush dL_compiled_170 (by decide) ?_
            refine i_iload dL_compiled_172 rfl ?_
            refine i_const dL_compiled_174 ?_
            refine i_rem dL_compiled_175 (by omega) (by omega) ?_
            refine i_add dL_compiled_176 ?_
            refine t_ast dL_compiled_177 (by omega) ?_
            refine i_aload_n dL_compiled_178 rfl ?_
            refine i_iload dL_compiled_179 rfl ?_
            refine i_iinc dL_compiled_181 rfl (L' := [some _, some _, some _, some _, some _, some _, some _, some _]) (by decide) rfl ?_
            refine i_bipush dL_compiled_184 (by decide) ?_
            refine t_ast dL_compiled_186 (by omega) ?_
            refine i_aload_n dL_compiled_187 rfl ?_
            refine i_iload dL_compiled_188 rfl ?_
            refine i_iinc dL_compiled_190 rfl (L' := [some _, some _, some _, some _, some _, some _, some _, some _]) (by decide) rfl ?_
            refine i_iload dL_compiled_193 rfl ?_
            refine i_bipush dL_compiled_195 (by decide) ?_
            refine i_icmp_ne (tgt := 205) dL_compiled_197 (by decide) (by omega) (by omega) (fun c197 => ?_) (fun c197 => ?_)
            · -- jumps
              refine i_bipush dL_compiled_205 (by decide) ?_
              refine t_ast dL_compiled_207 (by omega) ?_
              refine i_iinc dL_compiled_208 rfl (L' := [some _, some _, some _, some _, some _, some _, some _, some _]) (by decide) rfl ?_
              refine i_goto (tgt := 14) dL_compiled_211 (by decide) ?_
              refine RW.wk (L' := [some _, some _, some _, some _, some _, some _, some _, none]) (p_subL.at (by repeat (first | exact subL_nil | refine subL_s ?_ | refine subL_n ?_))) ?_
              have gl := gLn_rg (c := c) k.toNat
              refine ih _ ?_ (k + 1) _ _ _ rfl (by omega) ?_ ?_ ?_ ?_
              · omega
              · rw [gLn_s h1.1, ← hl, ← hn]; unfold gPl; first | (rw [if_pos (by omega)]; done) | (rw [if_neg (by omega), if_pos (by omega)]; omega) | (rw [if_neg (by omega), if_neg (by omega), if_pos (by omega)]; done) | (rw [if_neg (by omega), if_neg (by omega), if_neg (by omega)]; omega)
              · rw [gQ_s h1.1, ← hl]
              · rw [show n + 1 + 1 + 1 + 1 = n + 4 by omega]; exact hg.gr (by omega) (by omega) ((zu_ne (by omega)).trans ((zu_ne (by omega)).trans ((zu_ne (by omega)).trans (zu_at)))) ((zu_ne (by omega)).trans ((zu_ne (by omega)).trans (zu_at))) (Or.inr (by omega)) ((zu_ne (by omega)).trans (zu_at)) zu_at (by decide) (fun j j0 j1 => ((((zu_ne (by omega)).trans (zu_ne (by omega))).trans (zu_ne (by omega))).trans (zu_ne (by omega))))
              · exact fun j j0 j1 => (zu_rg (zu_rg (zu_rg (zu_rg hf (by omega)) (by omega)) (by omega)) (by omega)) j j0 j1
            · -- on
              refine i_bipush dL_compiled_200 (by decide) ?_
              refine i_goto (tgt := 207) dL_compiled_202 (by decide) ?_
              refine t_ast dL_compiled_207 (by omega) ?_
              refine i_iinc dL_compiled_208 rfl (L' := [some _, some _, some _, some _, some _, some _, some _, some _]) (by decide) rfl ?_
              refine i_goto (tgt := 14) dL_compiled_211 (by decide) ?_
              refine RW.wk (L' := [some _, some _, some _, some _, some _, some _, some _, none]) (p_subL.at (by repeat (first | exact subL_nil | refine subL_s ?_ | refine subL_n ?_))) ?_
              have gl := gLn_rg (c := c) k.toNat
              refine ih _ ?_ (k + 1) _ _ _ rfl (by omega) ?_ ?_ ?_ ?_
              · omega
              · rw [gLn_s h1.1, ← hl, ← hn]; unfold gPl; first | (rw [if_pos (by omega)]; done) | (rw [if_neg (by omega), if_pos (by omega)]; omega) | (rw [if_neg (by omega), if_neg (by omega), if_pos (by omega)]; done) | (rw [if_neg (by omega), if_neg (by omega), if_neg (by omega)]; omega)
              · rw [gQ_s h1.1, ← hl]
              · rw [show n + 1 + 1 + 1 + 1 = n + 4 by omega]; exact hg.gr (by omega) (by omega) ((zu_ne (by omega)).trans ((zu_ne (by omega)).trans ((zu_ne (by omega)).trans (zu_at)))) ((zu_ne (by omega)).trans ((zu_ne (by omega)).trans (zu_at))) (Or.inr (by omega)) ((zu_ne (by omega)).trans (zu_at)) zu_at (by decide) (fun j j0 j1 => ((((zu_ne (by omega)).trans (zu_ne (by omega))).trans (zu_ne (by omega))).trans (zu_ne (by omega))))
              · exact fun j j0 j1 => (zu_rg (zu_rg (zu_rg (zu_rg hf (by omega)) (by omega)) (by omega)) (by omega)) j j0 j1
          · -- on
            refine i_aload_n dL_compiled_143 rfl ?_
            refine i_iload dL_compiled_144 rfl ?_
            refine i_iinc dL_compiled_146 rfl (L' := [some _, some _, some _, some _, some _, some _, some _, some _]) (by decide) rfl ?_
            refine i_bipush dL_compiled_149 (by decide) ?_
            refine t_ast dL_compiled_151 (by omega) ?_
            refine i_goto (tgt := 208) dL_compiled_152 (by decide) ?_
            refine i_iinc dL_compiled_208 rfl (L' := [some _, some _, some _, some _, some _, some _, some _, some _]) (by decide) rfl ?_
            refine i_goto (tgt := 14) dL_compiled_211 (by decide) ?_
            refine RW.wk (L' := [some _, some _, some _, some _, some _, some _, some _, none]) (p_subL.at (by repeat (first | exact subL_nil | refine subL_s ?_ | refine subL_n ?_))) ?_
            have gl := gLn_rg (c := c) k.toNat
            refine ih _ ?_ (k + 1) _ _ _ rfl (by omega) ?_ ?_ ?_ ?_
            · omega
            · rw [gLn_s h1.1, ← hl, ← hn]; unfold gPl; first | (rw [if_pos (by omega)]; done) | (rw [if_neg (by omega), if_pos (by omega)]; omega) | (rw [if_neg (by omega), if_neg (by omega), if_pos (by omega)]; done) | (rw [if_neg (by omega), if_neg (by omega), if_neg (by omega)]; omega)
            · rw [gQ_s h1.1, ← hl]
            · exact hg.br (by omega) zu_at (fun j j0 j1 => zu_ne (by omega))
            · exact fun j j0 j1 => (zu_rg hf (by omega)) j j0 j1
        · -- on
          refine i_aload_n dL_compiled_74 rfl ?_
          refine i_iload dL_compiled_75 rfl ?_
          refine i_iinc dL_compiled_77 rfl (L' := [some _, some _, some _, some _, some _, some _, some _, some _]) (by decide) rfl ?_
          refine i_bipush dL_compiled_80 (by decide) ?_
          refine i_iload dL_compiled_82 rfl ?_
          refine i_const dL_compiled_84 ?_
          refine i_rem dL_compiled_85 (by omega) (by omega) ?_
          refine i_add dL_compiled_86 ?_
          refine t_ast dL_compiled_87 (by omega) ?_
          refine i_aload_n dL_compiled_88 rfl ?_
          refine i_iload dL_compiled_89 rfl ?_
          refine i_iinc dL_compiled_91 rfl (L' := [some _, some _, some _, some _, some _, some _, some _, some _]) (by decide) rfl ?_
          refine i_iload dL_compiled_94 rfl ?_
          refine i_bipush dL_compiled_96 (by decide) ?_
          refine i_icmp_ne (tgt := 106) dL_compiled_98 (by decide) (by omega) (by omega) (fun c98 => ?_) (fun c98 => ?_)
          · -- jumps
            refine i_iload dL_compiled_106 rfl ?_
            refine i_bipush dL_compiled_108 (by decide) ?_
            refine i_icmp_ne (tgt := 118) dL_compiled_110 (by decide) (by omega) (by omega) (fun c110 => ?_) (fun c110 => ?_)
            · -- jumps
              refine i_iload dL_compiled_118 rfl ?_
              refine i_bipush dL_compiled_120 (by decide) ?_
              refine i_icmp_ne (tgt := 130) dL_compiled_122 (by decide) (by omega) (by omega) (fun c122 => ?_) (fun c122 => ?_)
              · -- jumps
                refine i_bipush dL_compiled_130 (by decide) ?_
                refine t_ast dL_compiled_132 (by omega) ?_
                refine i_goto (tgt := 208) dL_compiled_133 (by decide) ?_
                refine i_iinc dL_compiled_208 rfl (L' := [some _, some _, some _, some _, some _, some _, some _, some _]) (by decide) rfl ?_
                refine i_goto (tgt := 14) dL_compiled_211 (by decide) ?_
                refine RW.wk (L' := [some _, some _, some _, some _, some _, some _, some _, none]) (p_subL.at (by repeat (first | exact subL_nil | refine subL_s ?_ | refine subL_n ?_))) ?_
                have gl := gLn_rg (c := c) k.toNat
                refine ih _ ?_ (k + 1) _ _ _ rfl (by omega) ?_ ?_ ?_ ?_
                · omega
                · rw [gLn_s h1.1, ← hl, ← hn]; unfold gPl; first | (rw [if_pos (by omega)]; done) | (rw [if_neg (by omega), if_pos (by omega)]; omega) | (rw [if_neg (by omega), if_neg (by omega), if_pos (by omega)]; done) | (rw [if_neg (by omega), if_neg (by omega), if_neg (by omega)]; omega)
                · rw [gQ_s h1.1, ← hl]
                · rw [show n + 1 + 1 = n + 2 by omega]; exact hg.po (by omega) (by omega) ((zu_ne (by omega)).trans (zu_at)) (Or.inr (by omega)) zu_at (by decide) (fun j j0 j1 => ((zu_ne (by omega)).trans (zu_ne (by omega))))
                · exact fun j j0 j1 => (zu_rg (zu_rg hf (by omega)) (by omega)) j j0 j1
              · -- on
                refine i_bipush dL_compiled_125 (by decide) ?_
                refine i_goto (tgt := 132) dL_compiled_127 (by decide) ?_
                refine t_ast dL_compiled_132 (by omega) ?_
                refine i_goto (tgt := 208) dL_compiled_133 (by decide) ?_
                refine i_iinc dL_compiled_208 rfl (L' := [some _, some _, some _, some _, some _, some _, some _, some _]) (by decide) rfl ?_
                refine i_goto (tgt := 14) dL_compiled_211 (by decide) ?_
                refine RW.wk (L' := [some _, some _, some _, some _, some _, some _, some _, none]) (p_subL.at (by repeat (first | exact subL_nil | refine subL_s ?_ | refine subL_n ?_))) ?_
                have gl := gLn_rg (c := c) k.toNat
                refine ih _ ?_ (k + 1) _ _ _ rfl (by omega) ?_ ?_ ?_ ?_
                · omega
                · rw [gLn_s h1.1, ← hl, ← hn]; unfold gPl; first | (rw [if_pos (by omega)]; done) | (rw [if_neg (by omega), if_pos (by omega)]; omega) | (rw [if_neg (by omega), if_neg (by omega), if_pos (by omega)]; done) | (rw [if_neg (by omega), if_neg (by omega), if_neg (by omega)]; omega)
                · rw [gQ_s h1.1, ← hl]
                · rw [show n + 1 + 1 = n + 2 by omega]; exact hg.po (by omega) (by omega) ((zu_ne (by omega)).trans (zu_at)) (Or.inr (by omega)) zu_at (by decide) (fun j j0 j1 => ((zu_ne (by omega)).trans (zu_ne (by omega))))
                · exact fun j j0 j1 => (zu_rg (zu_rg hf (by omega)) (by omega)) j j0 j1
            · -- on
              refine i_bipush dL_compiled_113 (by decide) ?_
              refine i_goto (tgt := 132) dL_compiled_115 (by decide) ?_
              refine t_ast dL_compiled_132 (by omega) ?_
              refine i_goto (tgt := 208) dL_compiled_133 (by decide) ?_
              refine i_iinc dL_compiled_208 rfl (L' := [some _, some _, some _, some _, some _, some _, some _, some _]) (by decide) rfl ?_
              refine i_goto (tgt := 14) dL_compiled_211 (by decide) ?_
              refine RW.wk (L' := [some _, some _, some _, some _, some _, some _, some _, none]) (p_subL.at (by repeat (first | exact subL_nil | refine subL_s ?_ | refine subL_n ?_))) ?_
              have gl := gLn_rg (c := c) k.toNat
              refine ih _ ?_ (k + 1) _ _ _ rfl (by omega) ?_ ?_ ?_ ?_
              · omega
              · rw [gLn_s h1.1, ← hl, ← hn]; unfold gPl; first | (rw [if_pos (by omega)]; done) | (rw [if_neg (by omega), if_pos (by omega)]; omega) | (rw [if_neg (by omega), if_neg (by omega), if_pos (by omega)]; done) | (rw [if_neg (by omega), if_neg (by omega), if_neg (by omega)]; omega)
              · rw [gQ_s h1.1, ← hl]
              · rw [show n + 1 + 1 = n + 2 by omega]; exact hg.po (by omega) (by omega) ((zu_ne (by omega)).trans (zu_at)) (Or.inr (by omega)) zu_at (by decide) (fun j j0 j1 => ((zu_ne (by omega)).trans (zu_ne (by omega))))
              · exact fun j j0 j1 => (zu_rg (zu_rg hf (by omega)) (by omega)) j j0 j1
          · -- on
            refine i_bipush dL_compiled_101 (by decide) ?_
            refine i_goto (tgt := 132) dL_compiled_103 (by decide) ?_
            refine t_ast dL_compiled_132 (by omega) ?_
            refine i_goto (tgt := 208) dL_compiled_133 (by decide) ?_
            refine i_iinc dL_compiled_208 rfl (L' := [some _, some _, some _, some _, some _, some _, some _, some _]) (by decide) rfl ?_
            refine i_goto (tgt := 14) dL_compiled_211 (by decide) ?_
            refine RW.wk (L' := [some _, some _, some _, some _, some _, some _, some _, none]) (p_subL.at (by repeat (first | exact subL_nil | refine subL_s ?_ | refine subL_n ?_))) ?_
            have gl := gLn_rg (c := c) k.toNat
            refine ih _ ?_ (k + 1) _ _ _ rfl (by omega) ?_ ?_ ?_ ?_
            · omega
            · rw [gLn_s h1.1, ← hl, ← hn]; unfold gPl; first | (rw [if_pos (by omega)]; done) | (rw [if_neg (by omega), if_pos (by omega)]; omega) | (rw [if_neg (by omega), if_neg (by omega), if_pos (by omega)]; done) | (rw [if_neg (by omega), if_neg (by omega), if_neg (by omega)]; omega)
            · rw [gQ_s h1.1, ← hl]
            · rw [show n + 1 + 1 = n + 2 by omega]; exact hg.po (by omega) (by omega) ((zu_ne (by omega)).trans (zu_at)) (Or.inr (by omega)) zu_at (by decide) (fun j j0 j1 => ((zu_ne (by omega)).trans (zu_ne (by omega))))
            · exact fun j j0 j1 => (zu_rg (zu_rg hf (by omega)) (by omega)) j j0 j1
      · -- on
        refine i_aload_n dL_compiled_40 rfl ?_
        refine i_iload dL_compiled_41 rfl ?_
        refine i_iinc dL_compiled_43 rfl (L' := [some _, some _, some _, some _, some _, some _, some _, some _]) (by decide) rfl ?_
        refine i_iload dL_compiled_46 rfl ?_
        refine i_bipush dL_compiled_48 (by decide) ?_
        refine i_icmp_ne (tgt := 58) dL_compiled_50 (by decide) (by omega) (by omega) (fun c50 => ?_) (fun c50 => ?_)
        · -- jumps
          refine i_bipush dL_compiled_58 (by decide) ?_
          refine i_iload dL_compiled_60 rfl ?_
          refine i_add dL_compiled_62 ?_
          refine t_ast dL_compiled_63 (by omega) ?_
          refine i_goto (tgt := 208) dL_compiled_64 (by decide) ?_
          refine i_iinc dL_compiled_208 rfl (L' := [some _, some _, some _, some _, some _, some _, some _, some _]) (by decide) rfl ?_
          refine i_goto (tgt := 14) dL_compiled_211 (by decide) ?_
          refine RW.wk (L' := [some _, some _, some _, some _, some _, some _, some _, none]) (p_subL.at (by repeat (first | exact subL_nil | refine subL_s ?_ | refine subL_n ?_))) ?_
          have gl := gLn_rg (c := c) k.toNat
          refine ih _ ?_ (k + 1) _ _ _ rfl (by omega) ?_ ?_ ?_ ?_
          · omega
          · rw [gLn_s h1.1, ← hl, ← hn]; unfold gPl; first | (rw [if_pos (by omega)]; done) | (rw [if_neg (by omega), if_pos (by omega)]; omega) | (rw [if_neg (by omega), if_neg (by omega), if_pos (by omega)]; done) | (rw [if_neg (by omega), if_neg (by omega), if_neg (by omega)]; omega)
          · rw [gQ_s h1.1, ← hl]
          · exact hg.p (by omega) (by omega) zu_at (Or.inr (by omega)) (fun j j0 j1 => zu_ne (by omega))
          · exact fun j j0 j1 => (zu_rg hf (by omega)) j j0 j1
        · -- on
          refine i_bipush dL_compiled_53 (by decide) ?_
          refine i_goto (tgt := 63) dL_compiled_55 (by decide) ?_
          refine t_ast dL_compiled_63 (by omega) ?_
          refine i_goto (tgt := 208) dL_compiled_64 (by decide) ?_
          refine i_iinc dL_compiled_208 rfl (L' := [some _, some _, some _, some _, some _, some _, some _, some _]) (by decide) rfl ?_
          refine i_goto (tgt := 14) dL_compiled_211 (by decide) ?_
          refine RW.wk (L' := [some _, some _, some _, some _, some _, some _, some _, none]) (p_subL.at (by repeat (first | exact subL_nil | refine subL_s ?_ | refine subL_n ?_))) ?_
          have gl := gLn_rg (c := c) k.toNat
          refine ih _ ?_ (k + 1) _ _ _ rfl (by omega) ?_ ?_ ?_ ?_
          · omega
          · rw [gLn_s h1.1, ← hl, ← hn]; unfold gPl; first | (rw [if_pos (by omega)]; done) | (rw [if_neg (by omega), if_pos (by omega)]; omega) | (rw [if_neg (by omega), if_neg (by omega), if_pos (by omega)]; done) | (rw [if_neg (by omega), if_neg (by omega), if_neg (by omega)]; omega)
          · rw [gQ_s h1.1, ← hl]
          · exact hg.p (by omega) (by omega) zu_at (Or.inl rfl) (fun j j0 j1 => zu_ne (by omega))
          · exact fun j j0 j1 => (zu_rg hf (by omega)) j j0 j1
theorem h_cmp_2 {s c : Int} {aT K0 N0 : Nat}  (kk : ∀ f, gOk f (gLn c 5) 5 → (∀ j, 0 ≤ j → j < 20 → 0 ≤ f j ∧ f j < 128) → RW G mL_compiled (tI Y h0 (V, C, J) aT) (tP P) d K0 N0 248 [some (.ref (Y 0)), some (.int (iI s)), some (.int (iI c)), some (.ref aT), none, none, none, none] [] (.inr f)) : ∀ (zz : Nat) (n : Int) (f : Int → Int), zz = (20 - n).toNat → (gLn c 5 ≤ n ∧ n ≤ 20) → (gOk f (gLn c 5) 5) → (∀ j, 0 ≤ j → j < 20 → 0 ≤ f j ∧ f j < 128) → RW G mL_compiled (tI Y h0 (V, C, J) aT) (tP P) (d) (K0) (N0) 214 [some (.ref (Y 0)), some (.int (iI s)), some (.int (iI c)), some (.ref aT), some (.int (iI n)), none, none, none] [] (.inr f) := by
  intro zz
  induction zz using Nat.strongRecOn with
  | _ zz ih =>
    intro n f hzz h1 hg hf
    have gl := gLn_rg (c := c) 5
    refine i_iload dL_compiled_214 rfl ?_
    refine i_const dL_compiled_216 ?_
    refine i_rem dL_compiled_217 (by omega) (by omega) ?_
    refine i_if_ne (tgt := 236) dL_compiled_218 (by decide) (by omega) (fun c218 => ?_) (fun c218 => ?_)
    · -- jumps
      refine i_aload_n dL_compiled_236 rfl ?_
      refine i_iload dL_compiled_237 rfl ?_
      refine i_iinc dL_compiled_239 rfl (L' := [some _, some _, some _, some _, some _, none, none, none]) (by decide) rfl ?_
      refine i_bipush dL_compiled_242 (by decide) ?_
      refine t_ast dL_compiled_244 (by omega) ?_
      refine i_goto (tgt := 214) dL_compiled_245 (by decide) ?_
      refine ih _ ?_ (n + 1) _ rfl (by omega) (hg.cg (fun j j0 j1 => zu_ne (by omega))) (zu_rg hf (by omega))
      omega
    · -- on
      refine i_iload dL_compiled_221 rfl ?_
      refine i_bipush dL_compiled_223 (by decide) ?_
      refine i_icmp_ge (tgt := 248) dL_compiled_225 (by decide) (by omega) (by omega) (fun c225 => ?_) (fun c225 => ?_)
      · -- jumps
        refine RW.wk (L' := [some _, some _, some _, some _, none, none, none, none]) (p_subL.at (by repeat (first | exact subL_nil | refine subL_s ?_ | refine subL_n ?_))) ?_
        exact kk f hg hf
      · -- on
        refine i_iload dL_compiled_228 rfl ?_
        refine i_bipush dL_compiled_230 (by decide) ?_
        refine i_rem dL_compiled_232 (by omega) (by omega) ?_
        refine i_if_eq (tgt := 248) dL_compiled_233 (by decide) (by omega) (fun c233 => ?_) (fun c233 => ?_)
        · -- jumps
          refine RW.wk (L' := [some _, some _, some _, some _, none, none, none, none]) (p_subL.at (by repeat (first | exact subL_nil | refine subL_s ?_ | refine subL_n ?_))) ?_
          exact kk f hg hf
        · -- on
          refine i_aload_n dL_compiled_236 rfl ?_
          refine i_iload dL_compiled_237 rfl ?_
          refine i_iinc dL_compiled_239 rfl (L' := [some _, some _, some _, some _, some _, none, none, none]) (by decide) rfl ?_
          refine i_bipush dL_compiled_242 (by decide) ?_
          refine t_ast dL_compiled_244 (by omega) ?_
          refine i_goto (tgt := 214) dL_compiled_245 (by decide) ?_
          refine ih _ ?_ (n + 1) _ rfl (by omega) (hg.cg (fun j j0 j1 => zu_ne (by omega))) (zu_rg hf (by omega))
          omega
theorem h_compiled {s c : Int} (hZ : p_Zs G) (hN : cNow V C J w) (hG : wG w) (hH : cHs V C J m H) (hm : m < 8) (hs : s = 0 ∨ s = 1) (h4 : V 4 = 0) (hp : ∀ V' C' J' w', cNow V' C' J' w' → wG w' → w' 952 = w 952 → cHs V' C' J' (m + 1) (hPush m H w) → V' 1 = 0 → V' 2 = -1 → V' 4 = 0 → P (.inl (some (.int (iI 1)))) (V', C', J')) : RM G mL_compiled (c_I Y h0) [.ref (Y 0), .int (iI s), .int (iI c)] (d + 8) 9 519 P (V, C, J) := by
  have gl := gLn_rg (c := c) 5
  refine RM.of (L := [some (.ref (Y 0)), some (.int (iI s)), some (.int (iI c)), none, none, none, none, none]) cfL_compiled rfl (Nat.le_of_ble_eq_true rfl) ?_
  refine i_bipush dL_compiled_0 (by decide) ?_
  refine RW.room (Nat.le_refl _) (k' := 8 + 1) (n' := 499 + 20) (by omega) (by omega) ?_
  refine t_new dL_compiled_2 (fun aT => ?_)
  refine i_astore_n dL_compiled_4 (L' := [some _, some _, some _, some _, none, none, none, none]) (by decide) rfl ?_
  refine i_const dL_compiled_5 ?_
  refine i_istore dL_compiled_6 (L' := [some _, some _, some _, some _, some _, none, none, none]) (by decide) rfl ?_
  refine i_iload_n dL_compiled_8 rfl ?_
  refine i_istore dL_compiled_9 (L' := [some _, some _, some _, some _, some _, some _, none, none]) (by decide) rfl ?_
  refine i_const dL_compiled_11 ?_
  refine i_istore dL_compiled_12 (L' := [some _, some _, some _, some _, some _, some _, some _, none]) (by decide) rfl ?_
  refine h_cmp_1 (fun f hg hf => ?_) _ 0 0 c (fun _ => 0) rfl (by decide) rfl rfl gOk_0 (fun j j0 j1 => by decide)
  refine h_cmp_2 (fun f2 hg2 hf2 => ?_) _ (gLn c 5) f rfl (by omega) hg hf
  have q0 := hf2 0 (by decide) (by decide)
  have q1 := hf2 1 (by decide) (by decide)
  have q2 := hf2 2 (by decide) (by decide)
  have q3 := hf2 3 (by decide) (by decide)
  have q4 := hf2 4 (by decide) (by decide)
  have q5 := hf2 5 (by decide) (by decide)
  have q6 := hf2 6 (by decide) (by decide)
  have q7 := hf2 7 (by decide) (by decide)
  have q8 := hf2 8 (by decide) (by decide)
  have q9 := hf2 9 (by decide) (by decide)
  have q10 := hf2 10 (by decide) (by decide)
  have q11 := hf2 11 (by decide) (by decide)
  have q12 := hf2 12 (by decide) (by decide)
  have q13 := hf2 13 (by decide) (by decide)
  have q14 := hf2 14 (by decide) (by decide)
  have q15 := hf2 15 (by decide) (by decide)
  have q16 := hf2 16 (by decide) (by decide)
  have q17 := hf2 17 (by decide) (by decide)
  have q18 := hf2 18 (by decide) (by decide)
  have q19 := hf2 19 (by decide) (by decide)
  refine i_aload_n dL_compiled_248 rfl ?_
  refine i_aload_n dL_compiled_249 rfl ?_
  refine i_const dL_compiled_250 ?_
  refine t_ald dL_compiled_251 (by first | exact zo_nn | omega) ?_
  refine i_bipush dL_compiled_252 (by decide) ?_
  refine i_shl dL_compiled_254 iI_sh24 ?_
  refine i_aload_n dL_compiled_255 rfl ?_
  refine i_const dL_compiled_256 ?_
  refine t_ald dL_compiled_257 (by first | exact zo_nn | omega) ?_
  refine i_bipush dL_compiled_258 (by decide) ?_
  refine i_shl dL_compiled_260 iI_sh16 ?_
  refine i_or dL_compiled_261 (by first | exact zo_nn | omega) (by first | exact zo_nn | omega) ?_
  refine i_aload_n dL_compiled_262 rfl ?_
  refine i_const dL_compiled_263 ?_
  refine t_ald dL_compiled_264 (by first | exact zo_nn | omega) ?_
  refine i_bipush dL_compiled_265 (by decide) ?_
  refine i_shl dL_compiled_267 iI_sh8 ?_
  refine i_or dL_compiled_268 (by first | exact zo_nn | omega) (by first | exact zo_nn | omega) ?_
  refine i_aload_n dL_compiled_269 rfl ?_
  refine i_const dL_compiled_270 ?_
  refine t_ald dL_compiled_271 (by first | exact zo_nn | omega) ?_
  refine i_or dL_compiled_272 (by first | exact zo_nn | omega) (by first | exact zo_nn | omega) ?_
  refine i_aload_n dL_compiled_273 rfl ?_
  refine i_const dL_compiled_274 ?_
  refine t_ald dL_compiled_275 (by first | exact zo_nn | omega) ?_
  refine i_bipush dL_compiled_276 (by decide) ?_
  refine i_shl dL_compiled_278 iI_sh24 ?_
  refine i_aload_n dL_compiled_279 rfl ?_
  refine i_const dL_compiled_280 ?_
  refine t_ald dL_compiled_281 (by first | exact zo_nn | omega) ?_
  refine i_bipush dL_compiled_282 (by decide) ?_
  refine i_shl dL_compiled_284 iI_sh16 ?_
  refine i_or dL_compiled_285 (by first | exact zo_nn | omega) (by first | exact zo_nn | omega) ?_
  refine i_aload_n dL_compiled_286 rfl ?_
  refine i_bipush dL_compiled_287 (by decide) ?_
  refine t_ald dL_compiled_289 (by first | exact zo_nn | omega) ?_
  refine i_bipush dL_compiled_290 (by decide) ?_
  refine i_shl dL_compiled_292 iI_sh8 ?_
  refine i_or dL_compiled_293 (by first | exact zo_nn | omega) (by first | exact zo_nn | omega) ?_
  refine i_aload_n dL_compiled_294 rfl ?_
  refine i_bipush dL_compiled_295 (by decide) ?_
  refine t_ald dL_compiled_297 (by first | exact zo_nn | omega) ?_
  refine i_or dL_compiled_298 (by first | exact zo_nn | omega) (by first | exact zo_nn | omega) ?_
  refine i_aload_n dL_compiled_299 rfl ?_
  refine i_bipush dL_compiled_300 (by decide) ?_
  refine t_ald dL_compiled_302 (by first | exact zo_nn | omega) ?_
  refine i_bipush dL_compiled_303 (by decide) ?_
  refine i_shl dL_compiled_305 iI_sh24 ?_
  refine i_aload_n dL_compiled_306 rfl ?_
  refine i_bipush dL_compiled_307 (by decide) ?_
  refine t_ald dL_compiled_309 (by first | exact zo_nn | omega) ?_
  refine i_bipush dL_compiled_310 (by decide) ?_
  refine i_shl dL_compiled_312 iI_sh16 ?_
  refine i_or dL_compiled_313 (by first | exact zo_nn | omega) (by first | exact zo_nn | omega) ?_
  refine i_aload_n dL_compiled_314 rfl ?_
  refine i_bipush dL_compiled_315 (by decide) ?_
  refine t_ald dL_compiled_317 (by first | exact zo_nn | omega) ?_
  refine i_bipush dL_compiled_318 (by decide) ?_
  refine i_shl dL_compiled_320 iI_sh8 ?_
  refine i_or dL_compiled_321 (by first | exact zo_nn | omega) (by first | exact zo_nn | omega) ?_
  refine i_aload_n dL_compiled_322 rfl ?_
  refine i_bipush dL_compiled_323 (by decide) ?_
  refine t_ald dL_compiled_325 (by first | exact zo_nn | omega) ?_
  refine i_or dL_compiled_326 (by first | exact zo_nn | omega) (by first | exact zo_nn | omega) ?_
  refine i_aload_n dL_compiled_327 rfl ?_
  refine i_bipush dL_compiled_328 (by decide) ?_
  refine t_ald dL_compiled_330 (by first | exact zo_nn | omega) ?_
  refine i_bipush dL_compiled_331 (by decide) ?_
  refine i_shl dL_compiled_333 iI_sh24 ?_
  refine i_aload_n dL_compiled_334 rfl ?_
  refine i_bipush dL_compiled_335 (by decide) ?_
  refine t_ald dL_compiled_337 (by first | exact zo_nn | omega) ?_
  refine i_bipush dL_compiled_338 (by decide) ?_
  refine i_shl dL_compiled_340 iI_sh16 ?_
  refine i_or dL_compiled_341 (by first | exact zo_nn | omega) (by first | exact zo_nn | omega) ?_
  refine i_aload_n dL_compiled_342 rfl ?_
  refine i_bipush dL_compiled_343 (by decide) ?_
  refine t_ald dL_compiled_345 (by first | exact zo_nn | omega) ?_
  refine i_bipush dL_compiled_346 (by decide) ?_
  refine i_shl dL_compiled_348 iI_sh8 ?_
  refine i_or dL_compiled_349 (by first | exact zo_nn | omega) (by first | exact zo_nn | omega) ?_
  refine i_aload_n dL_compiled_350 rfl ?_
  refine i_bipush dL_compiled_351 (by decide) ?_
  refine t_ald dL_compiled_353 (by first | exact zo_nn | omega) ?_
  refine i_or dL_compiled_354 (by first | exact zo_nn | omega) (by first | exact zo_nn | omega) ?_
  refine i_aload_n dL_compiled_355 rfl ?_
  refine i_bipush dL_compiled_356 (by decide) ?_
  refine t_ald dL_compiled_358 (by first | exact zo_nn | omega) ?_
  refine i_bipush dL_compiled_359 (by decide) ?_
  refine i_shl dL_compiled_361 iI_sh24 ?_
  refine i_aload_n dL_compiled_362 rfl ?_
  refine i_bipush dL_compiled_363 (by decide) ?_
  refine t_ald dL_compiled_365 (by first | exact zo_nn | omega) ?_
  refine i_bipush dL_compiled_366 (by decide) ?_
  refine i_shl dL_compiled_368 iI_sh16 ?_
  refine i_or dL_compiled_369 (by first | exact zo_nn | omega) (by first | exact zo_nn | omega) ?_
  refine i_aload_n dL_compiled_370 rfl ?_
  refine i_bipush dL_compiled_371 (by decide) ?_
  refine t_ald dL_compiled_373 (by first | exact zo_nn | omega) ?_
  refine i_bipush dL_compiled_374 (by decide) ?_
  refine i_shl dL_compiled_376 iI_sh8 ?_
  refine i_or dL_compiled_377 (by first | exact zo_nn | omega) (by first | exact zo_nn | omega) ?_
  refine i_aload_n dL_compiled_378 rfl ?_
  refine i_bipush dL_compiled_379 (by decide) ?_
  refine t_ald dL_compiled_381 (by first | exact zo_nn | omega) ?_
  refine i_or dL_compiled_382 (by first | exact zo_nn | omega) (by first | exact zo_nn | omega) ?_
  refine t_out ?_
  refine u_callV (i := 0) (mc := 0) (ms := 0) (As := [_, _, _, _, _]) dL_compiled_383 cfX10_append imX10_append seX10_append lL_7 (by decide) rfl rfl rfl rfl rfl (Nat.le_of_ble_eq_true rfl) (Nat.zero_add _).symm (Nat.zero_add _).symm ?_
  refine q_append (by rw [h4]; decide) (fun z => absurd (by rw [h4]; decide) z) (fun _ V1 C1 a1 a2 a3 a4 => RK.v ?_)
  rw [h4] at a1 a2
  have e1 : V1 4 = 20 := by rw [a1]; rfl
  have hby : ∀ j, 0 ≤ j → j < 20 → C1 2 j = f2 j := fun j j0 j1 => by rw [a2]; exact gBytes hf2 ⟨j0, j1⟩
  obtain ⟨x0, r0, r1, r2, r3⟩ := hg2.end (g := C1 2) (fun j j0 j1 => hby j j0 (by omega))
  have h5 : 0 ≤ V1 4 ∧ V1 4 ≤ 200 := by omega
  refine i_pop dL_compiled_386 rfl ?_
  refine i_aload_n dL_compiled_387 rfl ?_
  refine i_iload_n dL_compiled_388 rfl ?_
  refine i_callS (mc := 0) (ms := 0) (As := [_]) dL_compiled_389 cfL_len stL_len lL_13 rfl rfl (Nat.le_of_ble_eq_true rfl) (Nat.zero_add _).symm (Nat.zero_add _).symm ?_
  refine h_len (RK.v ?_)
  refine u_callV (i := 0) (mc := 1) (ms := 6) (k' := 0 + 7) (n' := 0 + 493) (As := [_]) dL_compiled_392 cfX10_truncateInput imX10_truncateInput seX10_truncateInput lL_19 (by decide) rfl rfl rfl rfl rfl (Nat.le_of_ble_eq_true rfl) (by omega) (by omega) ?_
  refine q_truncateInput (n := gLn c 5) hZ h5 (by omega) (fun _ => RK.v ?_) (fun q9 => absurd ⟨by omega, by omega⟩ q9)
  refine i_iload_n dL_compiled_395 rfl ?_
  refine i_callS (mc := 0) (ms := 0) (As := [_]) dL_compiled_396 cfL_len stL_len lL_13 rfl rfl (Nat.le_of_ble_eq_true rfl) (Nat.zero_add _).symm (Nat.zero_add _).symm ?_
  refine h_len (RK.v ?_)
  refine i_icmp_ne (tgt := 415) dL_compiled_399 (by decide) (by first | exact zo_nn | omega) (by first | exact zo_nn | omega) (fun c399 => absurd c399 (by omega)) (fun c399 => ?_)
  refine i_aload_n dL_compiled_402 rfl ?_
  refine i_iload_n dL_compiled_403 rfl ?_
  refine u_callV (i := 0) (mc := 7) (ms := 493) (k' := 0 + 0) (n' := 0 + 0) (As := [_]) dL_compiled_404 cfX10_compile imX10_compile seX10_compile lL_22 (by decide) rfl rfl rfl rfl rfl (Nat.le_of_ble_eq_true rfl) (by omega) (by omega) ?_
  have hV4 : (vu V1 4 (gLn c 5)) 4 = gLn c 5 := vu_at
  have hsV : sV [4] V (vu V1 4 (gLn c 5)) := a3.vu (by decide)
  have hN2 := hN.typ hsV a4
  have hH2 : cHs (vu V1 4 (gLn c 5)) C1 J m H := hH.cg (fun i hi => hsV i (by simp only [List.mem_cons, List.not_mem_nil, or_false]; omega)) (fun i i0 i1 => a4 i (by simp only [List.mem_cons, List.not_mem_nil, or_false]; omega)) (fun _ _ _ => rfl) (fun _ _ h => h)
  have hno : ∀ kd off, ¬ zCE (C1 2) ((vu V1 4 (gLn c 5)) 4) kd off := fun kd off hz => by
    rw [hV4] at hz
    rcases hz with h | ⟨x, h, ho, _⟩
    · rw [r0] at h; cases h
    · rw [r0] at h; cases h; exact gSmall ⟨r2, r3⟩ ho
  refine q_compile hZ hN2 hG.1.1 hH2 (by rw [hV4]; omega) (fun j j0 j1 => by rw [hV4] at j1; rw [hby j j0 (by omega)]; have := hf2 j j0 (by omega); omega) (by omega) (fun z => absurd hs z) (fun _ V2 C2 kd off z _ _ _ _ _ => absurd z (hno kd off)) (fun _ V2 C2 J2 x N x1 x2 x3 x4 x5 x6 x7 x8 x9 x10 x11 x12 => RK.v ?_)
  rw [hV4] at x1
  obtain ⟨i1, i2, i3⟩ := zIv.got (by omega) x1
  have i0 := i1.1
  obtain ⟨g1, g2⟩ := hG.new hs i1 i2 i3 x2
  have x6 := x6 _ (wMad.nw (by have := x2.1; have := x2.2.2; omega) x2.2.2) (fun j hj => wMad.ot hj)
  refine i_const dL_compiled_407 ?_
  refine i_icmp_eq (tgt := 415) dL_compiled_408 (by decide) (by first | exact zo_nn | omega) (by first | exact zo_nn | omega) (fun c408 => ?_) (fun c408 => ?_)
  · -- jumps
    refine i_const dL_compiled_415 ?_
    refine i_ireturn dL_compiled_416 rfl rfl ?_
    exact absurd i0.1 (by omega)
  · -- on
    refine i_const dL_compiled_411 ?_
    refine i_goto (tgt := 416) dL_compiled_412 (by decide) ?_
    refine i_ireturn dL_compiled_416 rfl rfl ?_
    exact hp _ _ _ _ x6 g1 g2 (by rw [if_neg (by omega)] at x7; exact x7) x3 x4 x5
end A8
