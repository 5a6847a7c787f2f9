/-! ===== the reference: pairs of states ===== -/
abbrev wNx2 (w : Int → Int) (s s2 : Int) : Int → Int → Int := fun y c => 60 * w (476 * s + (116 + 6 * (y / 60) + c)) + w (476 * s2 + (116 + 6 * (y % 60) + c))
abbrev wG0 (w : Int → Int) : Int → Prop := fun y => ¬ (wAcc w 0 (y / 60) ↔ wAcc w 1 (y % 60))
abbrev wG1 (w : Int → Int) (s s2 : Int) : Int → Prop := fun y => wAcc w s (y / 60) ∧ wAcc w s2 (y % 60)
abbrev zTr : Int → Prop := fun _ => True
/-- a pair is valid -/
abbrev wVal (w : Int → Int) (s s2 y : Int) : Prop := 0 ≤ y ∧ y < 3600 ∧ y / 60 < w (476 * s + 5) ∧ y % 60 < w (476 * s2 + 5)
theorem wVal.nx {w : Int → Int} (hO : wOK w) {s s2 y c : Int} (hs : s = 0 ∨ s = 1) (hs2 : s2 = 0 ∨ s2 = 1) (h : wVal w s s2 y) (c0 : 0 ≤ c) (c1 : c < 6) : wVal w s s2 (wNx2 w s s2 y c) := by
  have a := hO.nxt hs (t := y / 60) (by omega) h.2.2.1 c0 c1
  have b := hO.nxt hs2 (t := y % 60) (by omega) h.2.2.2 c0 c1
  have m1 := hO.sts hs
  have m2 := hO.sts hs2
  unfold wVal wNx2
  have e1 : (60 * w (476 * s + (116 + 6 * (y / 60) + c)) + w (476 * s2 + (116 + 6 * (y % 60) + c))) / 60 = w (476 * s + (116 + 6 * (y / 60) + c)) := by omega
  have e2 : (60 * w (476 * s + (116 + 6 * (y / 60) + c)) + w (476 * s2 + (116 + 6 * (y % 60) + c))) % 60 = w (476 * s2 + (116 + 6 * (y % 60) + c)) := by omega
  rw [e1, e2]
  omega
/-- the first node of the queue that has G, of those before k -/
def wHit (nx : Int → Int → Int) (al : Int → Prop) (s0 : Int) (G : Int → Prop) (Q : Int → Int) (v e k : Int) (cd : Int → Nat) : Prop := (v = -1 ∧ ∀ i, 0 ≤ i → i < k → ¬ G (Q i)) ∨ ∃ i, 0 ≤ i ∧ i < e ∧ v = Q i ∧ zMin nx al s0 G (cd i)
/-- where a node comes from -/
def wCh (Q Fr Al : Int → Int) (e : Int) (cd : Int → Nat) : Prop := Fr (Q 0) = -1 ∧ ∀ i, 0 < i → i < e → ∃ j, 0 ≤ j ∧ j < i ∧ Fr (Q i) = Q j ∧ (cd i : Int) = 6 * cd j + Al (Q i) + 1 ∧ 0 ≤ Al (Q i) ∧ Al (Q i) < 6
section WH
variable {nx : Int → Int → Int} {al : Int → Prop} {s0 v e k : Int} {G : Int → Prop} {Q : Int → Int} {cd : Int → Nat}
theorem wHit.add (h : wHit nx al s0 G Q v e k cd) (hk : k ≤ e) {Q' : Int → Int} {cd' : Int → Nat} {y : Int} (hq : ∀ j, Q' j = zu Q e y j) (hc : ∀ i, i ≠ e → cd' i = cd i) : wHit nx al s0 G Q' v (e + 1) k cd' := by
  rcases h with ⟨h1, h2⟩ | ⟨i, i0, i1, h1, h2⟩
  · exact Or.inl ⟨h1, fun i i0 i1 => by rw [hq, zu_ne (by omega)]; exact h2 i i0 i1⟩
  · exact Or.inr ⟨i, i0, by omega, by rw [hq, zu_ne (by omega)]; exact h1, by rw [hc i (by omega)]; exact h2⟩
theorem wHit.next (h : wHit nx al s0 G Q v e k cd) (hG : v = -1 → ¬ G (Q k)) : wHit nx al s0 G Q v e (k + 1) cd := by
  rcases h with ⟨h1, h2⟩ | h
  · refine Or.inl ⟨h1, fun i i0 i1 => ?_⟩
    by_cases z : i = k
    · rw [z]; exact hG h1
    · exact h2 i i0 (by omega)
  · exact Or.inr h
theorem wHit.hit {seen : Int → Prop} (h : wHit nx al s0 G Q (-1) e k cd) (hB : zBfs nx al s0 Q e k 0 cd seen) (hk : k < e) (hQ : ∀ i, 0 ≤ i → i < e → 0 ≤ Q i) (hG : G (Q k)) : wHit nx al s0 G Q (Q k) e (k + 1) cd := by
  have k0 := hB.1.2.1
  refine Or.inr ⟨k, k0, hk, rfl, hB.hit hk hG ?_⟩
  rcases h with ⟨_, h2⟩ | ⟨i, i0, i1, h1, _⟩
  · exact h2
  · have := hQ i i0 i1; omega
theorem wHit.rg (h : wHit nx al s0 G Q v e k cd) (hQ : ∀ i, 0 ≤ i → i < e → 0 ≤ Q i ∧ Q i < 3600) : -1 ≤ v ∧ v < 3600 := by
  rcases h with ⟨h1, _⟩ | ⟨i, i0, i1, h1, _⟩
  · omega
  · have := hQ i i0 i1
    omega
theorem wHit.fin {seen : Int → Prop} (h : wHit nx al s0 G Q v e e cd) (hB : zBfs nx al s0 Q e e 0 cd seen) (hQ : ∀ i, 0 ≤ i → i < e → 0 ≤ Q i) : (v = -1 ∧ zNo nx al s0 G) ∨ (0 ≤ v ∧ ∃ i, 0 ≤ i ∧ i < e ∧ v = Q i ∧ zMin nx al s0 G (cd i)) := by
  rcases h with ⟨h1, h2⟩ | ⟨i, i0, i1, h1, h2⟩
  · exact Or.inl ⟨h1, hB.no h2⟩
  · exact Or.inr ⟨by rw [h1]; exact hQ i i0 i1, i, i0, i1, h1, h2⟩
theorem wCh.add {Fr Al : Int → Int} (h : wCh Q Fr Al e cd) (he : 1 ≤ e) (k0 : 0 ≤ k) (hk : k < e) {c : Int} (c0 : 0 ≤ c) (c1 : c < 6) {y : Int} (hn : ∀ i, 0 ≤ i → i < e → Q i ≠ y) {cd' : Int → Nat} (hc : ∀ i, i ≠ e → cd' i = cd i) (hce : (cd' e : Int) = 6 * cd k + c + 1) : wCh (zu Q e y) (zu Fr y (Q k)) (zu Al y c) (e + 1) cd' := by
  obtain ⟨h1, h2⟩ := h
  refine ⟨by rw [zu_ne (by omega : (0 : Int) ≠ e), zu_ne (hn 0 (by omega) (by omega))]; exact h1, fun i i0 i1 => ?_⟩
  by_cases z : i = e
  · subst z
    refine ⟨k, k0, hk, ?_, ?_, ?_⟩
    · rw [zu_at, zu_at, zu_ne (by omega)]
    · rw [zu_at, zu_at, hc k (by omega)]; exact hce
    · rw [zu_at, zu_at]; exact ⟨c0, c1⟩
  · obtain ⟨j, j0, j1, j2, j3, j4⟩ := h2 i i0 (by omega)
    have q := hn i (by omega) (by omega)
    refine ⟨j, j0, j1, ?_, ?_, ?_⟩
    · rw [zu_ne z, zu_ne q, zu_ne (by omega)]; exact j2
    · rw [zu_ne z, zu_ne q, hc i z, hc j (by omega)]; exact j3
    · rw [zu_ne z, zu_ne q]; exact j4
end WH
/-- all pairs that words reach -/
def wPr (w : Int → Int) (V : Nat → Int) (C : Nat → Int → Int) (e k c : Int) (cd : Int → Nat) : Prop := wQ (wNx2 w 0 1) zTr 0 3600 (C 23) (C 26) e k c cd ∧ (∀ i, 0 ≤ i → i < e → wVal w 0 1 (C 23 i)) ∧ wCh (C 23) (C 24) (C 25) e cd
section M23
variable {G : p_G} {Y : Nat → Nat} {h0 : p_H} {P : (Option Value) ⊕ String → m_X → Prop} {d : Nat} {V : Nat → Int} {C : Nat → Int → Int} {J : Int → Int}
theorem k_pa_l1   (kk : ∀ C', sC [23, 24, 25, 26] C C' → (∀ y, 0 ≤ y → y < 3600 → C' 26 y = -1) → RW G mX11_pairs (m_I Y h0) P (d) 0 0 22 [some (.ref (Y 38)), some (.int (iI 3600)), none, none, none, none, none] [] (V, C', J)) : ∀ (zz : Nat) (k : Int) (C' : Nat → Int → Int), zz = (3600 - k).toNat → (0 ≤ k) → (k ≤ 3600) → (sC [23, 24, 25, 26] C C') → (∀ y, 0 ≤ y → y < k → C' 26 y = -1) → RW G mX11_pairs (m_I Y h0) P (d) 0 0 2 [some (.ref (Y 38)), some (.int (iI k)), none, none, none, none, none] [] (V, C', J) := by
  intro zz
  induction zz using Nat.strongRecOn with
  | _ zz ih =>
    intro k C' hzz h1 h2 hC hI
    have hw : C' 0 = C 0 := hC 0 (by decide)
    refine i_iload_n dX11_pairs_2 rfl ?_
    refine i_sipush dX11_pairs_3 (by decide) ?_
    refine i_icmp_ge (tgt := 22) dX11_pairs_6 (by decide) (by omega) (by omega) (fun c6 => ?_) (fun c6 => ?_)
    · -- jumps
      obtain rfl : k = 3600 := by omega
      exact kk _ hC hI
    · -- on
      refine i_aload_n dX11_pairs_9 rfl ?_
      refine t_getA dX11_pairs_10 fX11_63.o rfl ?_
      refine i_iload_n dX11_pairs_13 rfl ?_
      refine i_const dX11_pairs_14 ?_
      refine t_iast (N := 3600) dX11_pairs_15 (by decide) (by decide) rfl (by omega) ?_
      refine i_iinc dX11_pairs_16 rfl (L' := [some _, some _, none, none, none, none, none]) (by decide) rfl ?_
      refine i_goto (tgt := 2) dX11_pairs_19 (by decide) ?_
      refine ih _ ?_ (k + 1) _ rfl (by omega) (by omega) (hC.cu (by decide)) (fun y y0 y1 => ?_)
      · omega
      show zu (C' 26) _ _ _ = -1
      by_cases e : y = k
      · rw [e, zu_at]
      · rw [zu_ne e]; exact hI y y0 (by omega)
theorem k_pa_l2 {k a b : Int} {V' : Nat → Int} (hO : wOK (C 0)) (kk : ∀ e cd C', k < e → sC [23, 24, 25, 26] C C' → wPr (C 0) V' C' e k 6 cd → wHit (wNx2 (C 0) 0 1) zTr 0 (wG0 (C 0)) (C' 23) (V' 27) e (k + 1) cd → wHit (wNx2 (C 0) 0 1) zTr 0 (wG1 (C 0) 0 1) (C' 23) (V' 28) e (k + 1) cd → RW G mX11_pairs (m_I Y h0) P (d + 2) 0 0 257 [some (.ref (Y 38)), some (.int (iI e)), some (.int (iI k)), none, none, none, none] [] (V', C', J)) : ∀ (zz : Nat) (c e : Int) (cd : Int → Nat) (C' : Nat → Int → Int), zz = (6 - c).toNat → (0 ≤ c) → (c ≤ 6) → (k < e) → (sC [23, 24, 25, 26] C C') → (wPr (C 0) V' C' e k c cd) → (a = C' 23 k / 60 ∧ b = C' 23 k % 60) → (wHit (wNx2 (C 0) 0 1) zTr 0 (wG0 (C 0)) (C' 23) (V' 27) e (k + 1) cd) → (wHit (wNx2 (C 0) 0 1) zTr 0 (wG1 (C 0) 0 1) (C' 23) (V' 28) e (k + 1) cd) → RW G mX11_pairs (m_I Y h0) P (d + 2) 0 0 157 [some (.ref (Y 38)), some (.int (iI e)), some (.int (iI k)), some (.int (iI a)), some (.int (iI b)), some (.int (iI c)), none] [] (V', C', J) := by
  intro zz
  induction zz using Nat.strongRecOn with
  | _ zz ih =>
    intro c e cd C' hzz h1 h2 hk hC hP ho h27 h28
    obtain ⟨ea, eb⟩ := ho
    subst ea
    subst eb
    have hw : C' 0 = C 0 := hC 0 (by decide)
    have b2 := hP.1.rm
    have b3 := hP.2.1 k b2.2.1 hk
    have m0 := hO.sts (s := 0) (by decide)
    have m1 := hO.sts (s := 1) (by decide)
    refine i_iload dX11_pairs_157 rfl ?_
    refine i_bipush dX11_pairs_159 (by decide) ?_
    refine i_icmp_ge (tgt := 257) dX11_pairs_161 (by decide) (by omega) (by omega) (fun c161 => ?_) (fun c161 => ?_)
    · -- jumps
      refine RW.wk (L' := [some _, some _, some _, none, none, none, none]) (p_subL.at (by repeat (first | exact subL_nil | refine subL_s ?_ | refine subL_n ?_))) ?_
      obtain rfl : c = 6 := by omega
      exact kk e cd _ hk hC hP h27 h28
    · -- on
      have b5 := b3.nx hO (by decide) (by decide) h1 (show c < 6 by omega)
      have b4 : 0 ≤ (60 * C 0 (476 * 0 + (116 + 6 * (C' 23 k / 60) + c)) + C 0 (476 * 1 + (116 + 6 * (C' 23 k % 60) + c))) ∧ (60 * C 0 (476 * 0 + (116 + 6 * (C' 23 k / 60) + c)) + C 0 (476 * 1 + (116 + 6 * (C' 23 k % 60) + c))) < 3600 := ⟨b5.1, b5.2.1⟩
      have b6 := hP.1.2.2.2.2 (60 * C 0 (476 * 0 + (116 + 6 * (C' 23 k / 60) + c)) + C 0 (476 * 1 + (116 + 6 * (C' 23 k % 60) + c))) b4.1 b4.2
      have b7 := hP.1.2.2.2.2 _ b3.1 b3.2.1
      refine i_bipush dX11_pairs_164 (by decide) ?_
      refine i_aload_n dX11_pairs_166 rfl ?_
      refine i_const dX11_pairs_167 ?_
      refine i_iload_n dX11_pairs_168 rfl ?_
      refine i_iload dX11_pairs_169 rfl ?_
      refine t_callV (As := [_, _, _]) dX11_pairs_171 cfX11_goes imX11_goes seX11_goes lX11_231 rfl rfl rfl (Nat.le_of_ble_eq_true rfl) ?_
      refine k_goes (w := C 0) hw (by omega) (by omega) (by omega) (RK.v ?_)
      refine i_mul dX11_pairs_174 ?_
      refine i_aload_n dX11_pairs_175 rfl ?_
      refine i_const dX11_pairs_176 ?_
      refine i_iload dX11_pairs_177 rfl ?_
      refine i_iload dX11_pairs_179 rfl ?_
      refine t_callV (As := [_, _, _]) dX11_pairs_181 cfX11_goes imX11_goes seX11_goes lX11_231 rfl rfl rfl (Nat.le_of_ble_eq_true rfl) ?_
      refine k_goes (w := C 0) hw (by omega) (by omega) (by omega) (RK.v ?_)
      refine i_add dX11_pairs_184 ?_
      refine i_istore dX11_pairs_185 (L' := [some _, some _, some _, some _, some _, some _, some _]) (by decide) rfl ?_
      refine i_aload_n dX11_pairs_187 rfl ?_
      refine t_getA dX11_pairs_188 fX11_63.o rfl ?_
      refine i_iload dX11_pairs_191 rfl ?_
      refine t_iald (N := 3600) dX11_pairs_193 (by decide) (by decide) rfl (by omega) rfl ?_
      refine i_const dX11_pairs_194 ?_
      refine i_icmp_ne (tgt := 251) dX11_pairs_195 (by decide) (by omega) (by omega) (fun c195 => ?_) (fun c195 => ?_)
      · -- jumps
        refine i_iinc dX11_pairs_251 rfl (L' := [some _, some _, some _, some _, some _, some _, some _]) (by decide) rfl ?_
        refine i_goto (tgt := 157) dX11_pairs_254 (by decide) ?_
        refine RW.wk (L' := [some _, some _, some _, some _, some _, some _, none]) (p_subL.at (by repeat (first | exact subL_nil | refine subL_s ?_ | refine subL_n ?_))) ?_
        refine ih _ ?_ (c + 1) e cd _ rfl (by omega) (by omega) hk hC ⟨hP.1.skip hk (Or.inr ⟨b4, by assumption⟩), hP.2⟩ ⟨rfl, rfl⟩ h27 h28
        omega
      · -- on
        have b8 := hP.1.lt b4.1 b4.2 (by assumption)
        refine i_aload_n dX11_pairs_198 rfl ?_
        refine t_getA dX11_pairs_199 fX11_63.o rfl ?_
        refine i_iload dX11_pairs_202 rfl ?_
        refine i_aload_n dX11_pairs_204 rfl ?_
        refine t_getA dX11_pairs_205 fX11_63.o rfl ?_
        refine i_aload_n dX11_pairs_208 rfl ?_
        refine t_getA dX11_pairs_209 fX11_54.o rfl ?_
        refine i_iload_n dX11_pairs_212 rfl ?_
        refine t_iald (N := 3600) dX11_pairs_213 (by decide) (by decide) rfl (by omega) rfl ?_
        refine t_iald (N := 3600) dX11_pairs_214 (by decide) (by decide) rfl (by omega) rfl ?_
        refine i_const dX11_pairs_215 ?_
        refine i_add dX11_pairs_216 ?_
        refine t_iast (N := 3600) dX11_pairs_217 (by decide) (by decide) rfl (by omega) ?_
        refine i_aload_n dX11_pairs_218 rfl ?_
        refine t_getA dX11_pairs_219 fX11_57.o rfl ?_
        refine i_iload dX11_pairs_222 rfl ?_
        refine i_aload_n dX11_pairs_224 rfl ?_
        refine t_getA dX11_pairs_225 fX11_54.o rfl ?_
        refine i_iload_n dX11_pairs_228 rfl ?_
        refine t_iald (N := 3600) (v := C' 23 k) dX11_pairs_229 (by decide) (by decide) rfl (by omega) rfl ?_
        refine t_iast (N := 3600) dX11_pairs_230 (by decide) (by decide) rfl (by omega) ?_
        refine i_aload_n dX11_pairs_231 rfl ?_
        refine t_getA dX11_pairs_232 fX11_60.o rfl ?_
        refine i_iload dX11_pairs_235 rfl ?_
        refine i_iload dX11_pairs_237 rfl ?_
        refine t_iast (N := 3600) dX11_pairs_239 (by decide) (by decide) rfl (by omega) ?_
        refine i_aload_n dX11_pairs_240 rfl ?_
        refine t_getA dX11_pairs_241 fX11_54.o rfl ?_
        refine i_iload_n dX11_pairs_244 rfl ?_
        refine i_iload dX11_pairs_245 rfl ?_
        refine t_iast (N := 3600) dX11_pairs_247 (by decide) (by decide) rfl (by omega) ?_
        refine i_iinc dX11_pairs_248 rfl (L' := [some _, some _, some _, some _, some _, some _, some _]) (by decide) rfl ?_
        refine i_iinc dX11_pairs_251 rfl (L' := [some _, some _, some _, some _, some _, some _, some _]) (by decide) rfl ?_
        refine i_goto (tgt := 157) dX11_pairs_254 (by decide) ?_
        refine RW.wk (L' := [some _, some _, some _, some _, some _, some _, none]) (p_subL.at (by repeat (first | exact subL_nil | refine subL_s ?_ | refine subL_n ?_))) ?_
        obtain ⟨cd', a1, a2, a3⟩ := hP.1.add hk (by omega) trivial b4 (by assumption) (Q' := zu (C' 23) e (wNx2 (C 0) 0 1 (C' 23 k) c)) (F' := zu (C' 26) (wNx2 (C 0) 0 1 (C' 23 k) c) (C' 26 (C' 23 k) + 1)) (fun _ => rfl) (fun _ => rfl)
        have hne : ∀ i, 0 ≤ i → i < e → C' 23 i ≠ wNx2 (C 0) 0 1 (C' 23 k) c := fun i i0 i1 q => by have q2 := hP.1.2.2.1 i i0 i1; rw [q] at q2; have q3 : C' 26 (wNx2 (C 0) 0 1 (C' 23 k) c) = -1 := c195; omega
        refine ih _ ?_ (c + 1) (e + 1) cd' _ rfl (by omega) (by omega) (by omega) ((((hC.cu (by decide)).cu (by decide)).cu (by decide)).cu (by decide)) ⟨a1.kp rfl rfl, fun i i0 i1 => ?_, ?_⟩ ?_ ?_ ?_
        · omega
        · show wVal (C 0) 0 1 (zu (C' 23) e (wNx2 (C 0) 0 1 (C' 23 k) c) i)
          by_cases z : i = e
          · rw [z, zu_at]; exact b5
          · rw [zu_ne z]; exact hP.2.1 i i0 (by omega)
        · exact hP.2.2.add (by omega) b2.2.1 hk h1 (by omega) hne a2 a3
        · show C' 23 k / 60 = zu (C' 23) e _ k / 60 ∧ C' 23 k % 60 = zu (C' 23) e _ k % 60
          rw [zu_ne (by omega)]; exact ⟨rfl, rfl⟩
        · exact h27.add (by omega) (fun _ => rfl) a2
        · exact h28.add (by omega) (fun _ => rfl) a2
theorem k_pa_l3  (hO : wOK (C 0)) (hp : ∀ V' C', sV [27, 28] V V' → sC [23, 24, 25, 26] C C' → ∀ e cd, wPr (C 0) V' C' e e 0 cd → ((V' 27 = -1 ∧ zNo (wNx2 (C 0) 0 1) zTr 0 (wG0 (C 0))) ∨ (0 ≤ V' 27 ∧ ∃ i, 0 ≤ i ∧ i < e ∧ V' 27 = C' 23 i ∧ zMin (wNx2 (C 0) 0 1) zTr 0 (wG0 (C 0)) (cd i))) → ((V' 28 = -1 ∧ zNo (wNx2 (C 0) 0 1) zTr 0 (wG1 (C 0) 0 1)) ∨ (0 ≤ V' 28 ∧ ∃ i, 0 ≤ i ∧ i < e ∧ V' 28 = C' 23 i ∧ zMin (wNx2 (C 0) 0 1) zTr 0 (wG1 (C 0) 0 1) (cd i))) → P (.inl (some (.int (iI e)))) (V', C', J)) : ∀ (zz : Nat) (k e : Int) (cd : Int → Nat) (V' : Nat → Int) (C' : Nat → Int → Int), zz = (3600 - k).toNat → (sV [27, 28] V V') → (sC [23, 24, 25, 26] C C') → (wPr (C 0) V' C' e k 0 cd) → (wHit (wNx2 (C 0) 0 1) zTr 0 (wG0 (C 0)) (C' 23) (V' 27) e k cd) → (wHit (wNx2 (C 0) 0 1) zTr 0 (wG1 (C 0) 0 1) (C' 23) (V' 28) e k cd) → RW G mX11_pairs (m_I Y h0) P (d + 2) 0 0 57 [some (.ref (Y 38)), some (.int (iI e)), some (.int (iI k)), none, none, none, none] [] (V', C', J) := by
  intro zz
  induction zz using Nat.strongRecOn with
  | _ zz ih =>
    intro k e cd V' C' hzz hV hC hP h27 h28
    have hw : C' 0 = C 0 := hC 0 (by decide)
    have b2 := hP.1.rm
    have b3 := fun z => hP.2.1 k b2.2.1 z
    have m0 := hO.sts (s := 0) (by decide)
    have m1 := hO.sts (s := 1) (by decide)
    have v27 := h27.rg (fun i i0 i1 => ⟨(hP.2.1 i i0 i1).1, (hP.2.1 i i0 i1).2.1⟩)
    have v28 := h28.rg (fun i i0 i1 => ⟨(hP.2.1 i i0 i1).1, (hP.2.1 i i0 i1).2.1⟩)
    refine i_iload_n dX11_pairs_57 rfl ?_
    refine i_iload_n dX11_pairs_58 rfl ?_
    refine i_icmp_ge (tgt := 263) dX11_pairs_59 (by decide) (by omega) (by omega) (fun c59 => ?_) (fun c59 => ?_)
    · -- jumps
      refine i_iload_n dX11_pairs_263 rfl ?_
      refine i_ireturn dX11_pairs_264 rfl rfl ?_
      obtain rfl : k = e := by omega
      exact hp _ _ hV hC _ cd hP (h27.fin hP.1.1 (fun i i0 i1 => (hP.2.1 i i0 i1).1)) (h28.fin hP.1.1 (fun i i0 i1 => (hP.2.1 i i0 i1).1))
    · -- on
      have b3 := b3 (by omega)
      have b4 := b3
      unfold wVal at b4
      refine i_aload_n dX11_pairs_62 rfl ?_
      refine t_getA dX11_pairs_63 fX11_54.o rfl ?_
      refine i_iload_n dX11_pairs_66 rfl ?_
      refine t_iald (N := 3600) dX11_pairs_67 (by decide) (by decide) rfl (by omega) rfl ?_
      refine i_bipush dX11_pairs_68 (by decide) ?_
      refine i_div dX11_pairs_70 (by omega) (by omega) ?_
      refine i_istore_n dX11_pairs_71 (L' := [some _, some _, some _, some _, none, none, none]) (by decide) rfl ?_
      refine i_aload_n dX11_pairs_72 rfl ?_
      refine t_getA dX11_pairs_73 fX11_54.o rfl ?_
      refine i_iload_n dX11_pairs_76 rfl ?_
      refine t_iald (N := 3600) dX11_pairs_77 (by decide) (by decide) rfl (by omega) rfl ?_
      refine i_bipush dX11_pairs_78 (by decide) ?_
      refine i_rem dX11_pairs_80 (by omega) (by omega) ?_
      refine i_istore dX11_pairs_81 (L' := [some _, some _, some _, some _, some _, none, none]) (by decide) rfl ?_
      refine i_aload_n dX11_pairs_83 rfl ?_
      refine t_getI dX11_pairs_84 fX11_276 (by decide) rfl ?_
      refine i_const dX11_pairs_87 ?_
      refine i_icmp_ne (tgt := 117) dX11_pairs_88 (by decide) (by omega) (by omega) (fun c88 => ?_) (fun c88 => ?_)
      · -- jumps
        refine i_aload_n dX11_pairs_117 rfl ?_
        refine t_getI dX11_pairs_118 fX11_279 (by decide) rfl ?_
        refine i_const dX11_pairs_121 ?_
        refine i_icmp_ne (tgt := 154) dX11_pairs_122 (by decide) (by omega) (by omega) (fun c122 => ?_) (fun c122 => ?_)
        · -- jumps
          refine i_const dX11_pairs_154 ?_
          refine i_istore dX11_pairs_155 (L' := [some _, some _, some _, some _, some _, some _, none]) (by decide) rfl ?_
          have h27' : wHit (wNx2 (C 0) 0 1) zTr 0 (wG0 (C 0)) (C' 23) (V' 27) e (k + 1) cd := h27.next (fun q => by first | (intro z; exact z (by assumption)) | (exfalso; omega))
          have h28' : wHit (wNx2 (C 0) 0 1) zTr 0 (wG1 (C 0) 0 1) (C' 23) (V' 28) e (k + 1) cd := h28.next (fun q => by first | (rintro ⟨z1, z2⟩; contradiction) | (exfalso; omega))
          refine k_pa_l2 hO (fun e2 cd2 C2 hk2 hC2 hP2 h272 h282 => ?_) _ 0 e cd _ rfl (by omega) (by omega) (show k < e by omega) hC hP ⟨rfl, rfl⟩ h27' h28'
          refine i_iinc dX11_pairs_257 rfl (L' := [some _, some _, some _, none, none, none, none]) (by decide) rfl ?_
          refine i_goto (tgt := 57) dX11_pairs_260 (by decide) ?_
          have b6 := hP2.1.rm
          refine ih _ ?_ (k + 1) e2 cd2 _ _ rfl hV hC2 ⟨hP2.1.next hk2, hP2.2⟩ h272 h282
          omega
        · -- on
          refine i_aload_n dX11_pairs_125 rfl ?_
          refine i_const dX11_pairs_126 ?_
          refine i_iload_n dX11_pairs_127 rfl ?_
          refine t_callV (As := [_, _]) dX11_pairs_128 cfX11_accepts imX11_accepts seX11_accepts lX11_257 rfl rfl rfl (Nat.le_of_ble_eq_true rfl) ?_
          refine k_accepts (w := C 0) hw (by omega) (by omega) (hO.1 _ (by omega)) (RK.v ?_)
          refine i_ifeq_b (tgt := 154) dX11_pairs_131 (by decide) (fun c131 => ?_) (fun c131 => ?_)
          · -- jumps
            refine i_const dX11_pairs_154 ?_
            refine i_istore dX11_pairs_155 (L' := [some _, some _, some _, some _, some _, some _, none]) (by decide) rfl ?_
            have h27' : wHit (wNx2 (C 0) 0 1) zTr 0 (wG0 (C 0)) (C' 23) (V' 27) e (k + 1) cd := h27.next (fun q => by first | (intro z; exact z (by assumption)) | (exfalso; omega))
            have h28' : wHit (wNx2 (C 0) 0 1) zTr 0 (wG1 (C 0) 0 1) (C' 23) (V' 28) e (k + 1) cd := h28.next (fun q => by first | (rintro ⟨z1, z2⟩; contradiction) | (exfalso; omega))
            refine k_pa_l2 hO (fun e2 cd2 C2 hk2 hC2 hP2 h272 h282 => ?_) _ 0 e cd _ rfl (by omega) (by omega) (show k < e by omega) hC hP ⟨rfl, rfl⟩ h27' h28'
            refine i_iinc dX11_pairs_257 rfl (L' := [some _, some _, some _, none, none, none, none]) (by decide) rfl ?_
            refine i_goto (tgt := 57) dX11_pairs_260 (by decide) ?_
            have b6 := hP2.1.rm
            refine ih _ ?_ (k + 1) e2 cd2 _ _ rfl hV hC2 ⟨hP2.1.next hk2, hP2.2⟩ h272 h282
            omega
          · -- on
            refine i_aload_n dX11_pairs_134 rfl ?_
            refine i_const dX11_pairs_135 ?_
            refine i_iload dX11_pairs_136 rfl ?_
            refine t_callV (As := [_, _]) dX11_pairs_138 cfX11_accepts imX11_accepts seX11_accepts lX11_257 rfl rfl rfl (Nat.le_of_ble_eq_true rfl) ?_
            refine k_accepts (w := C 0) hw (by omega) (by omega) (hO.1 _ (by omega)) (RK.v ?_)
            refine i_ifeq_b (tgt := 154) dX11_pairs_141 (by decide) (fun c141 => ?_) (fun c141 => ?_)
            · -- jumps
              refine i_const dX11_pairs_154 ?_
              refine i_istore dX11_pairs_155 (L' := [some _, some _, some _, some _, some _, some _, none]) (by decide) rfl ?_
              have h27' : wHit (wNx2 (C 0) 0 1) zTr 0 (wG0 (C 0)) (C' 23) (V' 27) e (k + 1) cd := h27.next (fun q => by first | (intro z; exact z (by assumption)) | (exfalso; omega))
              have h28' : wHit (wNx2 (C 0) 0 1) zTr 0 (wG1 (C 0) 0 1) (C' 23) (V' 28) e (k + 1) cd := h28.next (fun q => by first | (rintro ⟨z1, z2⟩; contradiction) | (exfalso; omega))
              refine k_pa_l2 hO (fun e2 cd2 C2 hk2 hC2 hP2 h272 h282 => ?_) _ 0 e cd _ rfl (by omega) (by omega) (show k < e by omega) hC hP ⟨rfl, rfl⟩ h27' h28'
              refine i_iinc dX11_pairs_257 rfl (L' := [some _, some _, some _, none, none, none, none]) (by decide) rfl ?_
              refine i_goto (tgt := 57) dX11_pairs_260 (by decide) ?_
              have b6 := hP2.1.rm
              refine ih _ ?_ (k + 1) e2 cd2 _ _ rfl hV hC2 ⟨hP2.1.next hk2, hP2.2⟩ h272 h282
              omega
            · -- on
              refine i_aload_n dX11_pairs_144 rfl ?_
              refine i_aload_n dX11_pairs_145 rfl ?_
              refine t_getA dX11_pairs_146 fX11_54.o rfl ?_
              refine i_iload_n dX11_pairs_149 rfl ?_
              refine t_iald (N := 3600) dX11_pairs_150 (by decide) (by decide) rfl (by omega) rfl ?_
              refine t_put dX11_pairs_151 fX11_279 (by decide) rfl rfl ?_
              refine i_const dX11_pairs_154 ?_
              refine i_istore dX11_pairs_155 (L' := [some _, some _, some _, some _, some _, some _, none]) (by decide) rfl ?_
              have h27' : wHit (wNx2 (C 0) 0 1) zTr 0 (wG0 (C 0)) (C' 23) (V' 27) e (k + 1) cd := h27.next (fun q => by first | (intro z; exact z (by assumption)) | (exfalso; omega))
              have h28' : wHit (wNx2 (C 0) 0 1) zTr 0 (wG1 (C 0) 0 1) (C' 23) (C' 23 k) e (k + 1) cd := wHit.hit (by have q := h28; rw [show V' 28 = -1 by assumption] at q; exact q) hP.1.1 (show k < e by omega) (fun i i0 i1 => (hP.2.1 i i0 i1).1) ⟨by assumption, by assumption⟩
              refine k_pa_l2 hO (fun e2 cd2 C2 hk2 hC2 hP2 h272 h282 => ?_) _ 0 e cd _ rfl (by omega) (by omega) (show k < e by omega) hC hP ⟨rfl, rfl⟩ h27' h28'
              refine i_iinc dX11_pairs_257 rfl (L' := [some _, some _, some _, none, none, none, none]) (by decide) rfl ?_
              refine i_goto (tgt := 57) dX11_pairs_260 (by decide) ?_
              have b6 := hP2.1.rm
              refine ih _ ?_ (k + 1) e2 cd2 _ _ rfl (hV.vu (by decide)) hC2 ⟨hP2.1.next hk2, hP2.2⟩ h272 h282
              omega
      · -- on
        refine i_aload_n dX11_pairs_91 rfl ?_
        refine i_const dX11_pairs_92 ?_
        refine i_iload_n dX11_pairs_93 rfl ?_
        refine t_callV (As := [_, _]) dX11_pairs_94 cfX11_accepts imX11_accepts seX11_accepts lX11_257 rfl rfl rfl (Nat.le_of_ble_eq_true rfl) ?_
        refine k_accepts (w := C 0) hw (by omega) (by omega) (hO.1 _ (by omega)) (RK.v ?_)
        refine i_aload_n dX11_pairs_97 rfl ?_
        refine i_const dX11_pairs_98 ?_
        refine i_iload dX11_pairs_99 rfl ?_
        refine t_callV (As := [_, _]) dX11_pairs_101 cfX11_accepts imX11_accepts seX11_accepts lX11_257 rfl rfl rfl (Nat.le_of_ble_eq_true rfl) ?_
        refine k_accepts (w := C 0) hw (by omega) (by omega) (hO.1 _ (by omega)) (RK.v ?_)
        refine i_icmp_eq_bb (tgt := 117) dX11_pairs_104 (by decide) (fun c104 => ?_) (fun c104 => ?_)
        · -- jumps
          refine i_aload_n dX11_pairs_117 rfl ?_
          refine t_getI dX11_pairs_118 fX11_279 (by decide) rfl ?_
          refine i_const dX11_pairs_121 ?_
          refine i_icmp_ne (tgt := 154) dX11_pairs_122 (by decide) (by omega) (by omega) (fun c122 => ?_) (fun c122 => ?_)
          · -- jumps
            refine i_const dX11_pairs_154 ?_
            refine i_istore dX11_pairs_155 (L' := [some _, some _, some _, some _, some _, some _, none]) (by decide) rfl ?_
            have h27' : wHit (wNx2 (C 0) 0 1) zTr 0 (wG0 (C 0)) (C' 23) (V' 27) e (k + 1) cd := h27.next (fun q => by first | (intro z; exact z (by assumption)) | (exfalso; omega))
            have h28' : wHit (wNx2 (C 0) 0 1) zTr 0 (wG1 (C 0) 0 1) (C' 23) (V' 28) e (k + 1) cd := h28.next (fun q => by first | (rintro ⟨z1, z2⟩; contradiction) | (exfalso; omega))
            refine k_pa_l2 hO (fun e2 cd2 C2 hk2 hC2 hP2 h272 h282 => ?_) _ 0 e cd _ rfl (by omega) (by omega) (show k < e by omega) hC hP ⟨rfl, rfl⟩ h27' h28'
            refine i_iinc dX11_pairs_257 rfl (L' := [some _, some _, some _, none, none, none, none]) (by decide) rfl ?_
            refine i_goto (tgt := 57) dX11_pairs_260 (by decide) ?_
            have b6 := hP2.1.rm
            refine ih _ ?_ (k + 1) e2 cd2 _ _ rfl hV hC2 ⟨hP2.1.next hk2, hP2.2⟩ h272 h282
            omega
          · -- on
            refine i_aload_n dX11_pairs_125 rfl ?_
            refine i_const dX11_pairs_126 ?_
            refine i_iload_n dX11_pairs_127 rfl ?_
            refine t_callV (As := [_, _]) dX11_pairs_128 cfX11_accepts imX11_accepts seX11_accepts lX11_257 rfl rfl rfl (Nat.le_of_ble_eq_true rfl) ?_
            refine k_accepts (w := C 0) hw (by omega) (by omega) (hO.1 _ (by omega)) (RK.v ?_)
            refine i_ifeq_b (tgt := 154) dX11_pairs_131 (by decide) (fun c131 => ?_) (fun c131 => ?_)
            · -- jumps
              refine i_const dX11_pairs_154 ?_
              refine i_istore dX11_pairs_155 (L' := [some _, some _, some _, some _, some _, some _, none]) (by decide) rfl ?_
              have h27' : wHit (wNx2 (C 0) 0 1) zTr 0 (wG0 (C 0)) (C' 23) (V' 27) e (k + 1) cd := h27.next (fun q => by first | (intro z; exact z (by assumption)) | (exfalso; omega))
              have h28' : wHit (wNx2 (C 0) 0 1) zTr 0 (wG1 (C 0) 0 1) (C' 23) (V' 28) e (k + 1) cd := h28.next (fun q => by first | (rintro ⟨z1, z2⟩; contradiction) | (exfalso; omega))
              refine k_pa_l2 hO (fun e2 cd2 C2 hk2 hC2 hP2 h272 h282 => ?_) _ 0 e cd _ rfl (by omega) (by omega) (show k < e by omega) hC hP ⟨rfl, rfl⟩ h27' h28'
              refine i_iinc dX11_pairs_257 rfl (L' := [some _, some _, some _, none, none, none, none]) (by decide) rfl ?_
              refine i_goto (tgt := 57) dX11_pairs_260 (by decide) ?_
              have b6 := hP2.1.rm
              refine ih _ ?_ (k + 1) e2 cd2 _ _ rfl hV hC2 ⟨hP2.1.next hk2, hP2.2⟩ h272 h282
              omega
            · -- on
              refine i_aload_n dX11_pairs_134 rfl ?_
              refine i_const dX11_pairs_135 ?_
              refine i_iload dX11_pairs_136 rfl ?_
              refine t_callV (As := [_, _]) dX11_pairs_138 cfX11_accepts imX11_accepts seX11_accepts lX11_257 rfl rfl rfl (Nat.le_of_ble_eq_true rfl) ?_
              refine k_accepts (w := C 0) hw (by omega) (by omega) (hO.1 _ (by omega)) (RK.v ?_)
              refine i_ifeq_b (tgt := 154) dX11_pairs_141 (by decide) (fun c141 => ?_) (fun c141 => ?_)
              · -- jumps
                refine i_const dX11_pairs_154 ?_
                refine i_istore dX11_pairs_155 (L' := [some _, some _, some _, some _, some _, some _, none]) (by decide) rfl ?_
                have h27' : wHit (wNx2 (C 0) 0 1) zTr 0 (wG0 (C 0)) (C' 23) (V' 27) e (k + 1) cd := h27.next (fun q => by first | (intro z; exact z (by assumption)) | (exfalso; omega))
                have h28' : wHit (wNx2 (C 0) 0 1) zTr 0 (wG1 (C 0) 0 1) (C' 23) (V' 28) e (k + 1) cd := h28.next (fun q => by first | (rintro ⟨z1, z2⟩; contradiction) | (exfalso; omega))
                refine k_pa_l2 hO (fun e2 cd2 C2 hk2 hC2 hP2 h272 h282 => ?_) _ 0 e cd _ rfl (by omega) (by omega) (show k < e by omega) hC hP ⟨rfl, rfl⟩ h27' h28'
                refine i_iinc dX11_pairs_257 rfl (L' := [some _, some _, some _, none, none, none, none]) (by decide) rfl ?_
                refine i_goto (tgt := 57) dX11_pairs_260 (by decide) ?_
                have b6 := hP2.1.rm
                refine ih _ ?_ (k + 1) e2 cd2 _ _ rfl hV hC2 ⟨hP2.1.next hk2, hP2.2⟩ h272 h282
                omega
              · -- on
                refine i_aload_n dX11_pairs_144 rfl ?_
                refine i_aload_n dX11_pairs_145 rfl ?_
                refine t_getA dX11_pairs_146 fX11_54.o rfl ?_
                refine i_iload_n dX11_pairs_149 rfl ?_
                refine t_iald (N := 3600) dX11_pairs_150 (by decide) (by decide) rfl (by omega) rfl ?_
                refine t_put dX11_pairs_151 fX11_279 (by decide) rfl rfl ?_
                refine i_const dX11_pairs_154 ?_
                refine i_istore dX11_pairs_155 (L' := [some _, some _, some _, some _, some _, some _, none]) (by decide) rfl ?_
                have h27' : wHit (wNx2 (C 0) 0 1) zTr 0 (wG0 (C 0)) (C' 23) (V' 27) e (k + 1) cd := h27.next (fun q => by first | (intro z; exact z (by assumption)) | (exfalso; omega))
                have h28' : wHit (wNx2 (C 0) 0 1) zTr 0 (wG1 (C 0) 0 1) (C' 23) (C' 23 k) e (k + 1) cd := wHit.hit (by have q := h28; rw [show V' 28 = -1 by assumption] at q; exact q) hP.1.1 (show k < e by omega) (fun i i0 i1 => (hP.2.1 i i0 i1).1) ⟨by assumption, by assumption⟩
                refine k_pa_l2 hO (fun e2 cd2 C2 hk2 hC2 hP2 h272 h282 => ?_) _ 0 e cd _ rfl (by omega) (by omega) (show k < e by omega) hC hP ⟨rfl, rfl⟩ h27' h28'
                refine i_iinc dX11_pairs_257 rfl (L' := [some _, some _, some _, none, none, none, none]) (by decide) rfl ?_
                refine i_goto (tgt := 57) dX11_pairs_260 (by decide) ?_
                have b6 := hP2.1.rm
                refine ih _ ?_ (k + 1) e2 cd2 _ _ rfl (hV.vu (by decide)) hC2 ⟨hP2.1.next hk2, hP2.2⟩ h272 h282
                omega
        · -- on
          refine i_aload_n dX11_pairs_107 rfl ?_
          refine i_aload_n dX11_pairs_108 rfl ?_
          refine t_getA dX11_pairs_109 fX11_54.o rfl ?_
          refine i_iload_n dX11_pairs_112 rfl ?_
          refine t_iald (N := 3600) dX11_pairs_113 (by decide) (by decide) rfl (by omega) rfl ?_
          refine t_put dX11_pairs_114 fX11_276 (by decide) rfl rfl ?_
          refine i_aload_n dX11_pairs_117 rfl ?_
          refine t_getI (v := V' 28) dX11_pairs_118 fX11_279 (by decide) rfl ?_
          refine i_const dX11_pairs_121 ?_
          refine i_icmp_ne (tgt := 154) dX11_pairs_122 (by decide) (by omega) (by omega) (fun c122 => ?_) (fun c122 => ?_)
          · -- jumps
            refine i_const dX11_pairs_154 ?_
            refine i_istore dX11_pairs_155 (L' := [some _, some _, some _, some _, some _, some _, none]) (by decide) rfl ?_
            have h27' : wHit (wNx2 (C 0) 0 1) zTr 0 (wG0 (C 0)) (C' 23) (C' 23 k) e (k + 1) cd := wHit.hit (by have q := h27; rw [show V' 27 = -1 by assumption] at q; exact q) hP.1.1 (show k < e by omega) (fun i i0 i1 => (hP.2.1 i i0 i1).1) (by assumption)
            have h28' : wHit (wNx2 (C 0) 0 1) zTr 0 (wG1 (C 0) 0 1) (C' 23) (V' 28) e (k + 1) cd := h28.next (fun q => by first | (rintro ⟨z1, z2⟩; contradiction) | (exfalso; omega))
            refine k_pa_l2 hO (fun e2 cd2 C2 hk2 hC2 hP2 h272 h282 => ?_) _ 0 e cd _ rfl (by omega) (by omega) (show k < e by omega) hC hP ⟨rfl, rfl⟩ h27' h28'
            refine i_iinc dX11_pairs_257 rfl (L' := [some _, some _, some _, none, none, none, none]) (by decide) rfl ?_
            refine i_goto (tgt := 57) dX11_pairs_260 (by decide) ?_
            have b6 := hP2.1.rm
            refine ih _ ?_ (k + 1) e2 cd2 _ _ rfl (hV.vu (by decide)) hC2 ⟨hP2.1.next hk2, hP2.2⟩ h272 h282
            omega
          · -- on
            refine i_aload_n dX11_pairs_125 rfl ?_
            refine i_const dX11_pairs_126 ?_
            refine i_iload_n dX11_pairs_127 rfl ?_
            refine t_callV (As := [_, _]) dX11_pairs_128 cfX11_accepts imX11_accepts seX11_accepts lX11_257 rfl rfl rfl (Nat.le_of_ble_eq_true rfl) ?_
            refine k_accepts (w := C 0) hw (by omega) (by omega) (hO.1 _ (by omega)) (RK.v ?_)
            refine i_ifeq_b (tgt := 154) dX11_pairs_131 (by decide) (fun c131 => ?_) (fun c131 => ?_)
            · -- jumps
              refine i_const dX11_pairs_154 ?_
              refine i_istore dX11_pairs_155 (L' := [some _, some _, some _, some _, some _, some _, none]) (by decide) rfl ?_
              have h27' : wHit (wNx2 (C 0) 0 1) zTr 0 (wG0 (C 0)) (C' 23) (C' 23 k) e (k + 1) cd := wHit.hit (by have q := h27; rw [show V' 27 = -1 by assumption] at q; exact q) hP.1.1 (show k < e by omega) (fun i i0 i1 => (hP.2.1 i i0 i1).1) (by assumption)
              have h28' : wHit (wNx2 (C 0) 0 1) zTr 0 (wG1 (C 0) 0 1) (C' 23) (V' 28) e (k + 1) cd := h28.next (fun q => by first | (rintro ⟨z1, z2⟩; contradiction) | (exfalso; omega))
              refine k_pa_l2 hO (fun e2 cd2 C2 hk2 hC2 hP2 h272 h282 => ?_) _ 0 e cd _ rfl (by omega) (by omega) (show k < e by omega) hC hP ⟨rfl, rfl⟩ h27' h28'
              refine i_iinc dX11_pairs_257 rfl (L' := [some _, some _, some _, none, none, none, none]) (by decide) rfl ?_
              refine i_goto (tgt := 57) dX11_pairs_260 (by decide) ?_
              have b6 := hP2.1.rm
              refine ih _ ?_ (k + 1) e2 cd2 _ _ rfl (hV.vu (by decide)) hC2 ⟨hP2.1.next hk2, hP2.2⟩ h272 h282
              omega
            · -- on
              refine i_aload_n dX11_pairs_134 rfl ?_
              refine i_const dX11_pairs_135 ?_
              refine i_iload dX11_pairs_136 rfl ?_
              refine t_callV (As := [_, _]) dX11_pairs_138 cfX11_accepts imX11_accepts seX11_accepts lX11_257 rfl rfl rfl (Nat.le_of_ble_eq_true rfl) ?_
              refine k_accepts (w := C 0) hw (by omega) (by omega) (hO.1 _ (by omega)) (RK.v ?_)
              refine i_ifeq_b (tgt := 154) dX11_pairs_141 (by decide) (fun c141 => ?_) (fun c141 => ?_)
              · -- jumps
                refine i_const dX11_pairs_154 ?_
                refine i_istore dX11_pairs_155 (L' := [some _, some _, some _, some _, some _, some _, none]) (by decide) rfl ?_
                have h27' : wHit (wNx2 (C 0) 0 1) zTr 0 (wG0 (C 0)) (C' 23) (C' 23 k) e (k + 1) cd := wHit.hit (by have q := h27; rw [show V' 27 = -1 by assumption] at q; exact q) hP.1.1 (show k < e by omega) (fun i i0 i1 => (hP.2.1 i i0 i1).1) (by assumption)
                have h28' : wHit (wNx2 (C 0) 0 1) zTr 0 (wG1 (C 0) 0 1) (C' 23) (V' 28) e (k + 1) cd := h28.next (fun q => by first | (rintro ⟨z1, z2⟩; contradiction) | (exfalso; omega))
                refine k_pa_l2 hO (fun e2 cd2 C2 hk2 hC2 hP2 h272 h282 => ?_) _ 0 e cd _ rfl (by omega) (by omega) (show k < e by omega) hC hP ⟨rfl, rfl⟩ h27' h28'
                refine i_iinc dX11_pairs_257 rfl (L' := [some _, some _, some _, none, none, none, none]) (by decide) rfl ?_
                refine i_goto (tgt := 57) dX11_pairs_260 (by decide) ?_
                have b6 := hP2.1.rm
                refine ih _ ?_ (k + 1) e2 cd2 _ _ rfl (hV.vu (by decide)) hC2 ⟨hP2.1.next hk2, hP2.2⟩ h272 h282
                omega
              · -- on
                refine i_aload_n dX11_pairs_144 rfl ?_
                refine i_aload_n dX11_pairs_145 rfl ?_
                refine t_getA dX11_pairs_146 fX11_54.o rfl ?_
                refine i_iload_n dX11_pairs_149 rfl ?_
                refine t_iald (N := 3600) dX11_pairs_150 (by decide) (by decide) rfl (by omega) rfl ?_
                refine t_put dX11_pairs_151 fX11_279 (by decide) rfl rfl ?_
                refine i_const dX11_pairs_154 ?_
                refine i_istore dX11_pairs_155 (L' := [some _, some _, some _, some _, some _, some _, none]) (by decide) rfl ?_
                have h27' : wHit (wNx2 (C 0) 0 1) zTr 0 (wG0 (C 0)) (C' 23) (C' 23 k) e (k + 1) cd := wHit.hit (by have q := h27; rw [show V' 27 = -1 by assumption] at q; exact q) hP.1.1 (show k < e by omega) (fun i i0 i1 => (hP.2.1 i i0 i1).1) (by assumption)
                have h28' : wHit (wNx2 (C 0) 0 1) zTr 0 (wG1 (C 0) 0 1) (C' 23) (C' 23 k) e (k + 1) cd := wHit.hit (by have q := h28; rw [show V' 28 = -1 by assumption] at q; exact q) hP.1.1 (show k < e by omega) (fun i i0 i1 => (hP.2.1 i i0 i1).1) ⟨by assumption, by assumption⟩
                refine k_pa_l2 hO (fun e2 cd2 C2 hk2 hC2 hP2 h272 h282 => ?_) _ 0 e cd _ rfl (by omega) (by omega) (show k < e by omega) hC hP ⟨rfl, rfl⟩ h27' h28'
                refine i_iinc dX11_pairs_257 rfl (L' := [some _, some _, some _, none, none, none, none]) (by decide) rfl ?_
                refine i_goto (tgt := 57) dX11_pairs_260 (by decide) ?_
                have b6 := hP2.1.rm
                refine ih _ ?_ (k + 1) e2 cd2 _ _ rfl ((hV.vu (by decide)).vu (by decide)) hC2 ⟨hP2.1.next hk2, hP2.2⟩ h272 h282
                omega
theorem k_pairs  (hO : wOK (C 0)) (hp : ∀ V' C', sV [27, 28] V V' → sC [23, 24, 25, 26] C C' → ∀ e cd, wPr (C 0) V' C' e e 0 cd → ((V' 27 = -1 ∧ zNo (wNx2 (C 0) 0 1) zTr 0 (wG0 (C 0))) ∨ (0 ≤ V' 27 ∧ ∃ i, 0 ≤ i ∧ i < e ∧ V' 27 = C' 23 i ∧ zMin (wNx2 (C 0) 0 1) zTr 0 (wG0 (C 0)) (cd i))) → ((V' 28 = -1 ∧ zNo (wNx2 (C 0) 0 1) zTr 0 (wG1 (C 0) 0 1)) ∨ (0 ≤ V' 28 ∧ ∃ i, 0 ≤ i ∧ i < e ∧ V' 28 = C' 23 i ∧ zMin (wNx2 (C 0) 0 1) zTr 0 (wG1 (C 0) 0 1) (cd i))) → P (.inl (some (.int (iI e)))) (V', C', J)) : RM G mX11_pairs (m_I Y h0) [.ref (Y 38)] (d + 2) 0 0 P (V, C, J) := by
  refine RM.of (L := [some (.ref (Y 38)), none, none, none, none, none, none]) cfX11_pairs rfl (Nat.le_of_ble_eq_true rfl) ?_
  refine i_const dX11_pairs_0 ?_
  refine i_istore_n dX11_pairs_1 (L' := [some _, some _, none, none, none, none, none]) (by decide) rfl ?_
  refine k_pa_l1 (fun C2 hC2 hI2 => ?_) _ 0 _ rfl (by omega) (by omega) sC.rfl (fun y y0 y1 => by omega)
  refine i_aload_n dX11_pairs_22 rfl ?_
  refine i_const dX11_pairs_23 ?_
  refine t_put dX11_pairs_24 fX11_276 (by decide) rfl rfl ?_
  refine i_aload_n dX11_pairs_27 rfl ?_
  refine i_const dX11_pairs_28 ?_
  refine t_put dX11_pairs_29 fX11_279 (by decide) rfl rfl ?_
  refine i_aload_n dX11_pairs_32 rfl ?_
  refine t_getA dX11_pairs_33 fX11_63.o rfl ?_
  refine i_const dX11_pairs_36 ?_
  refine i_const dX11_pairs_37 ?_
  refine t_iast (N := 3600) dX11_pairs_38 (by decide) (by decide) rfl (by omega) ?_
  refine i_aload_n dX11_pairs_39 rfl ?_
  refine t_getA dX11_pairs_40 fX11_57.o rfl ?_
  refine i_const dX11_pairs_43 ?_
  refine i_const dX11_pairs_44 ?_
  refine t_iast (N := 3600) dX11_pairs_45 (by decide) (by decide) rfl (by omega) ?_
  refine i_aload_n dX11_pairs_46 rfl ?_
  refine t_getA dX11_pairs_47 fX11_54.o rfl ?_
  refine i_const dX11_pairs_50 ?_
  refine i_const dX11_pairs_51 ?_
  refine t_iast (N := 3600) dX11_pairs_52 (by decide) (by decide) rfl (by omega) ?_
  refine i_const dX11_pairs_53 ?_
  refine i_istore_n dX11_pairs_54 (L' := [some _, some _, none, none, none, none, none]) (by decide) rfl ?_
  refine i_const dX11_pairs_55 ?_
  refine i_istore_n dX11_pairs_56 (L' := [some _, some _, some _, none, none, none, none]) (by decide) rfl ?_
  have m0 := hO.sts (s := 0) (by decide)
  have m1 := hO.sts (s := 1) (by decide)
  refine k_pa_l3 hO hp _ 0 1 (fun _ => 0) _ _ rfl ((sV.rfl.vu (by decide)).vu (by decide)) (((hC2.cu (by decide)).cu (by decide)).cu (by decide)) ⟨wQ.init (by decide) (by show zu (C2 23) 0 0 0 = 0; exact zu_at) (fun y y0 y1 => ?_), fun i i0 i1 => ?_, ?_, fun i i0 i1 => by omega⟩ (Or.inl ⟨rfl, fun i i0 i1 => by omega⟩) (Or.inl ⟨rfl, fun i i0 i1 => by omega⟩)
  · show zu (C2 26) 0 0 y = _
    by_cases z : y = 0
    · rw [z, zu_at, if_pos rfl]
    · rw [zu_ne z, if_neg z]; exact hI2 y y0 y1
  · obtain rfl : i = 0 := by omega
    show wVal (C 0) 0 1 (zu (C2 23) 0 0 0)
    rw [zu_at]; unfold wVal; omega
  · show zu (C2 24) 0 (-1) (zu (C2 23) 0 0 0) = -1
    rw [zu_at, zu_at]
end M23
