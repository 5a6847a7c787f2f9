/-! ===== the reference: what is reached from a node ===== -/
/-- a search from a: F marks with m what is found, T holds k of these whose edges are still to be gone; x are the labels; of those that ex names the edges are on the way -/
def zDf (N : Int) (E : Int → Int → Prop) (f16 : Int → Int) (a m : Int) (F T : Int → Int) (k x p : Int) (ex : Int → Prop) : Prop :=
  ((0 ≤ k ∧ 0 ≤ p ∧ k + p = zsum (fun y => zb (F y = m)) N.toNat) ∧ (0 ≤ a ∧ a < N ∧ F a = m)) ∧ (∀ i, 0 ≤ i → i < k → 0 ≤ T i ∧ T i < N ∧ F (T i) = m) ∧ (∀ y, 0 ≤ y → y < N → F y = m → zR E a y) ∧ (∀ y, 0 ≤ y → y < N → F y = m → (∃ i, (0 ≤ i ∧ i < k) ∧ T i = y) ∨ ((∀ z, E y z → F z = m ∨ ex y) ∧ (1 ≤ f16 y → zt x (f16 y)))) ∧ ((0 ≤ x ∧ x < 33554432) ∧ ∀ q, 0 ≤ q → zt x q → ∃ y, (0 ≤ y ∧ y < N) ∧ F y = m ∧ f16 y = q ∧ 1 ≤ q) ∧ ∀ y, 0 ≤ y → y < N → 0 ≤ F y ∧ F y ≤ m
section DFS
variable {N : Int} {E : Int → Int → Prop} {f16 : Int → Int} {a m : Int} {F T F0 T0 : Int → Int} {k x p : Int} {ex : Int → Prop}
theorem zu_m {f : Int → Int} {i m y : Int} (h : f y = m) : zu f i m y = m := by
  by_cases z : y = i
  · rw [z, zu_at]
  · rw [zu_ne z]; exact h
theorem zsum_00 : ∀ n : Nat, zsum (fun _ => 0) n = 0
  | 0 => rfl
  | n + 1 => by
    show zsum (fun _ => 0) n + 0 = 0
    rw [zsum_00 n]; rfl
theorem zDf.init (ha : 0 ≤ a ∧ a < N) (hm : 1 ≤ m) (h0 : ∀ y, 0 ≤ y → y < N → 0 ≤ F0 y ∧ F0 y < m) : zDf N E f16 a m (zu F0 a m) (zu T0 0 a) 1 0 0 (fun _ => False) := by
  have hF : ∀ y, 0 ≤ y → y < N → zu F0 a m y = m → y = a := fun y y0 y1 q => by
    by_cases z : y = a
    · exact z
    · rw [zu_ne z] at q
      have := h0 y y0 y1; omega
  refine ⟨⟨⟨by decide, by decide, ?_⟩, ha.1, ha.2, zu_at⟩, fun i i0 i1 => ?_, fun y y0 y1 q => ?_, fun y y0 y1 q => ?_, ⟨by decide, fun q q0 z => absurd z zt_0⟩, fun y y0 y1 => ?_⟩
  · have e : zsum (fun y => zb (zu F0 a m y = m)) N.toNat = zsum (fun y => zb (zu (fun _ => m - 1) a m y = m)) N.toNat := zsum_cg _ (fun j j0 j1 => by
      by_cases z : j = a
      · rw [z, zu_at, zu_at]
      · have := h0 j j0 (by omega)
        rw [zu_ne z, zu_ne z, zb_f (by omega), zb_f (by omega)])
    rw [e, zsum_up (f := fun y => zb (zu (fun _ => m - 1) a m y = m)) (g := fun _ => 0) ha.1 _ (by omega) (fun j hj => by
      show zb (zu (fun _ => m - 1) a m j = m) = 0
      rw [zu_ne hj, zb_f (by omega)]), zsum_00]
    show 1 + 0 = 0 + (zb (zu (fun _ => m - 1) a m a = m) - 0)
    rw [zu_at, zb_t rfl]; rfl
  · obtain rfl : i = 0 := by omega
    rw [zu_at]; exact ⟨ha.1, ha.2, zu_at⟩
  · rw [hF y y0 y1 q]; exact zR.rfl
  · exact Or.inl ⟨0, by omega, by rw [zu_at, hF y y0 y1 q]⟩
  · by_cases z : y = a
    · rw [z, zu_at]; omega
    · rw [zu_ne z]
      have := h0 y y0 y1; omega
theorem zDf.le (h : zDf N E f16 a m F T k x p ex) : k + p ≤ N := by
  have := @zsum_rg (fun y => zb (F y = m)) N.toNat (fun j _ _ => zb_01)
  have h1 := h.1
  omega
theorem zDf.pop (h : zDf N E f16 a m F T k x p (fun _ => False)) {k1 : Int} (hk1 : k1 = k - 1) (hk : 0 < k) {x' : Int} (hx : x' = zo x (if 1 ≤ f16 (T k1) then zp (f16 (T k1)) else 0)) (hl : f16 (T k1) ≤ 24) : zDf N E f16 a m F T k1 x' (p + 1) (fun y => y = T k1) := by
  obtain ⟨⟨h1, h2⟩, h3, h4, h5, h6, h7⟩ := h
  have ht := h3 k1 (by omega) (by omega)
  have hz : ∀ q, zt x q → zt x' q := fun q z => by rw [hx, zt_zo]; exact Or.inl z
  refine ⟨⟨⟨by omega, by omega, by omega⟩, h2⟩, fun i i0 i1 => h3 i i0 (by omega), h4, fun y y0 y1 q => ?_, ⟨?_, fun q q0 z => ?_⟩, h7⟩
  · rcases h5 y y0 y1 q with ⟨i, hi, e⟩ | ⟨k1, k2⟩
    · by_cases z : i = k1
      · rw [z] at e
        refine Or.inr ⟨fun _ _ => Or.inr e.symm, fun l => ?_⟩
        rw [hx, zt_zo, e, if_pos l]
        exact Or.inr ((zt_zp (by omega) (by omega)).mpr rfl)
      · exact Or.inl ⟨i, by omega, e⟩
    · exact Or.inr ⟨fun z e => (k1 z e).elim Or.inl (fun c => c.elim), fun l => hz _ (k2 l)⟩
  · rw [hx]
    refine zo_rg h6.1 ?_
    split
    · exact zp_rg hl
    · decide
  · rw [hx, zt_zo] at z
    rcases z with z | z
    · exact h6.2 q q0 z
    · by_cases c : 1 ≤ f16 (T k1)
      · rw [if_pos c, zt_zp (by omega) q0] at z
        exact ⟨T k1, ⟨ht.1, ht.2.1⟩, ht.2.2, z.symm, by omega⟩
      · rw [if_neg c] at z
        exact absurd z zt_0
theorem zDf.push {y0 z : Int} (h : zDf N E f16 a m F T k x p (fun y => y = y0)) (hy : (0 ≤ y0 ∧ y0 < N) ∧ F y0 = m) (hz : 0 ≤ z ∧ z < N) (he : E y0 z) (hn : F z ≠ m) : zDf N E f16 a m (zu F z m) (zu T k z) (k + 1) x p (fun y => y = y0) := by
  obtain ⟨⟨h1, h2⟩, h3, h4, h5, h6, h7⟩ := h
  have hr := h4 y0 hy.1.1 hy.1.2 hy.2
  have hy7 := h7 y0 hy.1.1 hy.1.2
  refine ⟨⟨⟨by omega, by omega, ?_⟩, h2.1, h2.2.1, zu_m h2.2.2⟩, fun i i0 i1 => ?_, fun y y0 y1 q => ?_, fun y y0 y1 q => ?_, ⟨h6.1, fun q q0 zq => ?_⟩, fun y y0 y1 => ?_⟩
  · rw [zsum_up (f := fun y => zb (zu F z m y = m)) (g := fun y => zb (F y = m)) hz.1 _ (by omega) (fun j hj => by simp only [zu_ne hj]), ← h1.2.2]
    simp only [zu_at]
    rw [zb_t trivial, zb_f hn]; omega
  · by_cases c : i = k
    · rw [c, zu_at]; exact ⟨hz.1, hz.2, zu_at⟩
    · rw [zu_ne c]
      have := h3 i i0 (by omega)
      exact ⟨this.1, this.2.1, zu_m this.2.2⟩
  · by_cases c : y = z
    · rw [c]; exact hr.tr (zR.one he)
    · rw [zu_ne c] at q
      exact h4 y y0 y1 q
  · by_cases c : y = z
    · exact Or.inl ⟨k, by omega, by rw [zu_at, c]⟩
    · rw [zu_ne c] at q
      rcases h5 y y0 y1 q with ⟨i, hi, e⟩ | ⟨k1, k2⟩
      · exact Or.inl ⟨i, by omega, by rw [zu_ne (by omega)]; exact e⟩
      · exact Or.inr ⟨fun z' e => (k1 z' e).elim (fun q => Or.inl (zu_m q)) Or.inr, k2⟩
  · obtain ⟨y, k1, k2, k3⟩ := h6.2 q q0 zq
    exact ⟨y, k1, zu_m k2, k3⟩
  · by_cases c : y = z
    · rw [c, zu_at]; omega
    · rw [zu_ne c]; exact h7 y y0 y1
theorem zDf.don {y0 : Int} (h : zDf N E f16 a m F T k x p (fun y => y = y0)) (hd : ∀ z, E y0 z → F z = m) : zDf N E f16 a m F T k x p (fun _ => False) := by
  obtain ⟨h1, h3, h4, h5, h6, h7⟩ := h
  refine ⟨h1, h3, h4, fun y y0' y1 q => ?_, h6, h7⟩
  rcases h5 y y0' y1 q with k | ⟨k1, k2⟩
  · exact Or.inl k
  · refine Or.inr ⟨fun z e => ?_, k2⟩
    rcases k1 z e with c | c
    · exact Or.inl c
    · rw [c] at e; exact Or.inl (hd z e)
/-- nothing is left: all that is reached is found -/
theorem zDf.end (h : zDf N E f16 a m F T 0 x p (fun _ => False)) (hb : zBd E N) : (∀ y, 0 ≤ y → y < N → (F y = m ↔ zR E a y)) ∧ ∀ q, 0 ≤ q → (zt x q ↔ ∃ y, (0 ≤ y ∧ y < N) ∧ zR E a y ∧ f16 y = q ∧ 1 ≤ q) := by
  obtain ⟨⟨h1, h2⟩, h3, h4, h5, h6, h7⟩ := h
  have hc : ∀ y, zR E a y → (0 ≤ y ∧ y < N) ∧ F y = m := fun y r => r (fun y => (0 ≤ y ∧ y < N) ∧ F y = m) ⟨⟨h2.1, h2.2.1⟩, h2.2.2⟩ (fun u v e s => by
    have b := hb u v e
    refine ⟨b.2, ?_⟩
    rcases h5 u s.1.1 s.1.2 s.2 with ⟨i, hi, _⟩ | ⟨k1, _⟩
    · omega
    · exact (k1 v e).elim id (fun c => c.elim))
  refine ⟨fun y y0 y1 => ⟨h4 y y0 y1, fun r => (hc y r).2⟩, fun q q0 => ⟨fun z => ?_, ?_⟩⟩
  · obtain ⟨y, k1, k2, k3⟩ := h6.2 q q0 z
    exact ⟨y, k1, h4 y k1.1 k1.2 k2, k3⟩
  · rintro ⟨y, k1, k2, rfl, k4⟩
    rcases h5 y k1.1 k1.2 (hc y k2).2 with ⟨i, hi, _⟩ | ⟨_, k5⟩
    · omega
    · exact k5 k4
/-- the edges of y0 behind e lead to what is found -/
def zEd (src f15 F : Int → Int) (m y0 M e : Int) : Prop := (e = -1 ∨ ((0 ≤ e ∧ e < M) ∧ src e = y0)) ∧ ∀ e', e < e' → 0 ≤ e' → e' < M → src e' = y0 → F (f15 e') = m
theorem zEd.init {src f15 : Int → Int} {y0 M : Int} (hM : 0 ≤ M) : zEd src f15 F m y0 M (zMx src y0 M.toNat) := by
  rcases zMx_c src y0 M.toNat with ⟨k1, k2⟩ | ⟨k1, k2, k3, k4⟩
  · exact ⟨Or.inl k1, fun e' e0 e1 e2 z => absurd z (k2 e' e1 (by omega))⟩
  · exact ⟨Or.inr ⟨by omega, k3⟩, fun e' e0 e1 e2 z => absurd z (k4 e' e0 (by omega))⟩
theorem zEd.next {src f15 : Int → Int} {y0 M e : Int} (h : zEd src f15 F m y0 M e) (he : 0 ≤ e ∧ e < M) (hF : F (f15 e) = m) : zEd src f15 F m y0 M (zMx src y0 e.toNat) ∧ -1 ≤ zMx src y0 e.toNat ∧ zMx src y0 e.toNat < e := by
  rcases zMx_c src y0 e.toNat with ⟨k1, k2⟩ | ⟨k1, k2, k3, k4⟩
  · refine ⟨⟨Or.inl k1, fun e' e0 e1 e2 z => ?_⟩, by omega, by omega⟩
    by_cases c : e' < e
    · exact absurd z (k2 e' e1 (by omega))
    · by_cases c2 : e' = e
      · rw [c2]; exact hF
      · exact h.2 e' (by omega) e1 e2 z
  · refine ⟨⟨Or.inr ⟨by omega, k3⟩, fun e' e0 e1 e2 z => ?_⟩, by omega, by omega⟩
    by_cases c : e' < e
    · exact absurd z (k4 e' e0 (by omega))
    · by_cases c2 : e' = e
      · rw [c2]; exact hF
      · exact h.2 e' (by omega) e1 e2 z
theorem zEd.zu {src f15 : Int → Int} {y0 M e z : Int} (h : zEd src f15 F m y0 M e) : zEd src f15 (zu F z m) m y0 M e := ⟨h.1, fun e' e0 e1 e2 q => zu_m (h.2 e' e0 e1 e2 q)⟩
end DFS
/-- the graph's rows, with the edges' sources -/
def mSr (N M : Int) (f13 f14 f15 : Int → Int) (E : Int → Int → Prop) (src : Int → Int) : Prop := (0 ≤ N ∧ 0 ≤ M) ∧ (∀ e, 0 ≤ e → e < M → (0 ≤ src e ∧ src e < N) ∧ (0 ≤ f15 e ∧ f15 e < N) ∧ f14 e = zMx src (src e) e.toNat) ∧ (∀ a, 0 ≤ a → a < N → f13 a = zMx src a M.toNat) ∧ ∀ x y, E x y ↔ ∃ e, (0 ≤ e ∧ e < M) ∧ src e = x ∧ f15 e = y
section M33
variable {G : p_G} {Y : Nat → Nat} {h0 : p_H} {P : (Option Value) ⊕ String → m_X → Prop} {d : Nat} {V : Nat → Int} {C : Nat → Int → Int} {J : Int → Int}
variable {N M a : Int} {E : Int → Int → Prop} {src : Int → Int}
theorem k_rc_l2 {x y p : Int} (hS : mSr N M (C 13) (C 14) (C 15) E src) (hNM : N < 1400 ∧ M < 2800) (hV : (0 ≤ V 22 ∧ V 22 ≤ 100) ∧ (0 ≤ a ∧ a < N)) (hL : ∀ y, 0 ≤ y → y < N → 0 ≤ C 16 y ∧ C 16 y ≤ 24) (kk : ∀ k C', sC [17, 18] C C' → zDf N E (C 16) a (V 22) (C' 17) (C' 18) k x p (fun _ => False) → RW G mX11_reaches (m_I Y h0) P (d) 0 0 150 [some (.ref (Y 38)), some (.int (iI a)), some (.int (iI x)), some (.int (iI k)), none, none] [] (V, C', J)) : ∀ (zz : Nat) (k : Int) (e : Int) (C' : Nat → Int → Int), zz = (e + 1).toNat → (sC [17, 18] C C') → (zDf N E (C 16) a (V 22) (C' 17) (C' 18) k x p (fun z => z = y)) → ((0 ≤ y ∧ y < N) ∧ C' 17 y = V 22) → (zEd src (C 15) (C' 17) (V 22) y M e) → RW G mX11_reaches (m_I Y h0) P (d) 0 0 81 [some (.ref (Y 38)), some (.int (iI a)), some (.int (iI x)), some (.int (iI k)), some (.int (iI y)), some (.int (iI e))] [] (V, C', J) := by
  intro zz
  induction zz using Nat.strongRecOn with
  | _ zz ih =>
    intro k e C' hzz hC hD hy hE
    have h13 : C' 13 = C 13 := hC 13 (by decide)
    have h14 : C' 14 = C 14 := hC 14 (by decide)
    have h15 : C' 15 = C 15 := hC 15 (by decide)
    have h16 : C' 16 = C 16 := hC 16 (by decide)
    have hle := hD.le
    have hkp := hD.1.1
    have he := hE.1
    refine i_iload dX11_reaches_81 rfl ?_
    refine i_const dX11_reaches_83 ?_
    refine i_icmp_eq (tgt := 150) dX11_reaches_84 (by decide) (by omega) (by omega) (fun c84 => ?_) (fun c84 => ?_)
    · -- jumps
      refine RW.wk (L' := [some _, some _, some _, some _, none, none]) (p_subL.at (by repeat (first | exact subL_nil | refine subL_s ?_ | refine subL_n ?_))) ?_
      refine kk _ _ hC (hD.don (fun z e' => ?_))
      obtain ⟨e2, q1, q2, q3⟩ := (hS.2.2.2 y z).mp e'
      rw [← q3]; exact hE.2 e2 (by omega) q1.1 q1.2 q2
    · -- on
      have se := hS.2.1 e (by omega) (by omega)
      have h15e : C 15 e = C' 15 e := (congrFun h15 e).symm
      have z14 : C' 14 e = zMx src y e.toNat := by rw [h14, se.2.2, show src e = y by omega]
      have hnn := hE.1
      have z17 := hD.2.2.2.2.2 (C' 15 e) (by omega) (by omega)
      have hez : E y (C' 15 e) := (hS.2.2.2 _ _).mpr ⟨e, by omega, by omega, h15e⟩
      have zlt := zMx_c src y e.toNat
      refine i_aload_n dX11_reaches_87 rfl ?_
      refine t_getA dX11_reaches_88 fX11_45.o rfl ?_
      refine i_aload_n dX11_reaches_91 rfl ?_
      refine t_getA dX11_reaches_92 fX11_39.o rfl ?_
      refine i_iload dX11_reaches_95 rfl ?_
      refine t_iald (N := 2800) dX11_reaches_97 (by decide) (by decide) rfl (by omega) rfl ?_
      refine t_iald (N := 1400) dX11_reaches_98 (by decide) (by decide) rfl (by omega) rfl ?_
      refine i_aload_n dX11_reaches_99 rfl ?_
      refine t_getI dX11_reaches_100 fX11_176 (by decide) rfl ?_
      refine i_icmp_eq (tgt := 138) dX11_reaches_103 (by decide) (by omega) (by omega) (fun c103 => ?_) (fun c103 => ?_)
      · -- jumps
        refine i_aload_n dX11_reaches_138 rfl ?_
        refine t_getA dX11_reaches_139 fX11_36.o rfl ?_
        refine i_iload dX11_reaches_142 rfl ?_
        refine t_iald (N := 2800) dX11_reaches_144 (by decide) (by decide) rfl (by omega) rfl ?_
        refine i_istore dX11_reaches_145 (L' := [some _, some _, some _, some _, some _, some _]) (by decide) rfl ?_
        refine i_goto (tgt := 81) dX11_reaches_147 (by decide) ?_
        skip
        have hn := hE.next (by omega) (by rw [h15e]; omega)
        refine ih _ ?_ k (C' 14 e) _ rfl hC hD hy (by rw [z14]; exact hn.1)
        omega
      · -- on
        refine i_aload_n dX11_reaches_106 rfl ?_
        refine t_getA dX11_reaches_107 fX11_45.o rfl ?_
        refine i_aload_n dX11_reaches_110 rfl ?_
        refine t_getA dX11_reaches_111 fX11_39.o rfl ?_
        refine i_iload dX11_reaches_114 rfl ?_
        refine t_iald (N := 2800) dX11_reaches_116 (by decide) (by decide) rfl (by omega) rfl ?_
        refine i_aload_n dX11_reaches_117 rfl ?_
        refine t_getI dX11_reaches_118 fX11_176 (by decide) rfl ?_
        refine t_iast (N := 1400) dX11_reaches_121 (by decide) (by decide) rfl (by omega) ?_
        refine i_aload_n dX11_reaches_122 rfl ?_
        refine t_getA dX11_reaches_123 fX11_48.o rfl ?_
        refine i_iload_n dX11_reaches_126 rfl ?_
        refine i_aload_n dX11_reaches_127 rfl ?_
        refine t_getA dX11_reaches_128 fX11_39.o rfl ?_
        refine i_iload dX11_reaches_131 rfl ?_
        refine t_iald (N := 2800) (v := C' 15 e) dX11_reaches_133 (by decide) (by decide) rfl (by omega) rfl ?_
        refine t_iast (N := 1400) dX11_reaches_134 (by decide) (by decide) rfl (by omega) ?_
        refine i_iinc dX11_reaches_135 rfl (L' := [some _, some _, some _, some _, some _, some _]) (by decide) rfl ?_
        refine i_aload_n dX11_reaches_138 rfl ?_
        refine t_getA dX11_reaches_139 fX11_36.o rfl ?_
        refine i_iload dX11_reaches_142 rfl ?_
        refine t_iald (N := 2800) (v := C' 14 e) dX11_reaches_144 (by decide) (by decide) rfl (by omega) rfl ?_
        refine i_istore dX11_reaches_145 (L' := [some _, some _, some _, some _, some _, some _]) (by decide) rfl ?_
        refine i_goto (tgt := 81) dX11_reaches_147 (by decide) ?_
        skip
        have hD2 := hD.push ⟨by omega, hy.2⟩ (z := C' 15 e) (by omega) hez (by omega)
        have hn := (hE.zu (z := C' 15 e)).next (by omega) (by rw [h15e, zu_at])
        refine ih _ ?_ (k + 1) (C' 14 e) _ rfl ((hC.cu (by decide)).cu (by decide)) hD2 ⟨hy.1, zu_m hy.2⟩ (by rw [z14]; exact hn.1)
        omega
theorem k_rc_l1  (hS : mSr N M (C 13) (C 14) (C 15) E src) (hNM : N < 1400 ∧ M < 2800) (hV : (0 ≤ V 22 ∧ V 22 ≤ 100) ∧ (0 ≤ a ∧ a < N)) (hL : ∀ y, 0 ≤ y → y < N → 0 ≤ C 16 y ∧ C 16 y ≤ 24) (hp : ∀ x C', sC [17, 18] C C' → (0 ≤ x ∧ x < 33554432) → ((∀ y, 0 ≤ y → y < N → (C' 17 y = V 22 ↔ zR E a y)) ∧ ∀ q, 0 ≤ q → (zt x q ↔ ∃ y, (0 ≤ y ∧ y < N) ∧ zR E a y ∧ C 16 y = q ∧ 1 ≤ q)) → (∀ y, 0 ≤ y → y < N → 0 ≤ C' 17 y ∧ C' 17 y ≤ V 22) → P (.inl (some (.int (iI x)))) (V, C', J)) : ∀ (zz : Nat) (k : Int) (x : Int) (p : Int) (C' : Nat → Int → Int), zz = (N - p).toNat → (sC [17, 18] C C') → (zDf N E (C 16) a (V 22) (C' 17) (C' 18) k x p (fun _ => False)) → RW G mX11_reaches (m_I Y h0) P (d) 0 0 31 [some (.ref (Y 38)), some (.int (iI a)), some (.int (iI x)), some (.int (iI k)), none, none] [] (V, C', J) := by
  intro zz
  induction zz using Nat.strongRecOn with
  | _ zz ih =>
    intro k x p C' hzz hC hD
    have h13 : C' 13 = C 13 := hC 13 (by decide)
    have h14 : C' 14 = C 14 := hC 14 (by decide)
    have h15 : C' 15 = C 15 := hC 15 (by decide)
    have h16 : C' 16 = C 16 := hC 16 (by decide)
    have hle := hD.le
    have hkp := hD.1.1
    have hx := hD.2.2.2.2.1.1
    refine i_iload_n dX11_reaches_31 rfl ?_
    refine i_if_le (tgt := 153) dX11_reaches_32 (by decide) (by omega) (fun c32 => ?_) (fun c32 => ?_)
    · -- jumps
      refine i_iload_n dX11_reaches_153 rfl ?_
      refine i_ireturn dX11_reaches_154 rfl rfl ?_
      obtain rfl : k = 0 := by omega
      exact hp _ _ hC hD.2.2.2.2.1.1 (hD.end (fun x y e => by obtain ⟨e2, q1, rfl, rfl⟩ := (hS.2.2.2 x y).mp e; have := hS.2.1 e2 q1.1 q1.2; exact ⟨this.1, this.2.1⟩) ) hD.2.2.2.2.2
    · -- on
      have h18 := hD.2.1 (k + (-1)) (by omega) (by omega)
      have z16 : C' 16 (C' 18 (k + (-1))) = C 16 (C' 18 (k + (-1))) := congrFun h16 _
      have z13 : C' 13 (C' 18 (k + (-1))) = zMx src (C' 18 (k + (-1))) M.toNat := by rw [h13]; exact hS.2.2.1 _ h18.1 h18.2.1
      have l16 := hL (C' 18 (k + (-1))) h18.1 h18.2.1
      refine i_iinc dX11_reaches_35 rfl (L' := [some _, some _, some _, some _, none, none]) (by decide) rfl ?_
      refine i_aload_n dX11_reaches_38 rfl ?_
      refine t_getA dX11_reaches_39 fX11_48.o rfl ?_
      refine i_iload_n dX11_reaches_42 rfl ?_
      refine t_iald (N := 1400) dX11_reaches_43 (by decide) (by decide) rfl (by omega) rfl ?_
      refine i_istore dX11_reaches_44 (L' := [some _, some _, some _, some _, some _, none]) (by decide) rfl ?_
      refine i_iload_n dX11_reaches_46 rfl ?_
      refine i_aload_n dX11_reaches_47 rfl ?_
      refine t_getA dX11_reaches_48 fX11_42.o rfl ?_
      refine i_iload dX11_reaches_51 rfl ?_
      refine t_iald (N := 1400) dX11_reaches_53 (by decide) (by decide) rfl (by omega) rfl ?_
      refine i_if_le (tgt := 69) dX11_reaches_54 (by decide) (by omega) (fun c54 => ?_) (fun c54 => ?_)
      · -- jumps
        refine i_const dX11_reaches_69 ?_
        refine i_or dX11_reaches_70 (by omega) (by omega) ?_
        refine i_istore_n dX11_reaches_71 (L' := [some _, some _, some _, some _, some _, none]) (by decide) rfl ?_
        refine i_aload_n dX11_reaches_72 rfl ?_
        refine t_getA dX11_reaches_73 fX11_33.o rfl ?_
        refine i_iload dX11_reaches_76 rfl ?_
        refine t_iald (N := 1400) dX11_reaches_78 (by decide) (by decide) rfl (by omega) rfl ?_
        refine i_istore dX11_reaches_79 (L' := [some _, some _, some _, some _, some _, some _]) (by decide) rfl ?_
        refine k_rc_l2 hS hNM hV hL (fun k2 C2 hC2 hD2 => ?_) _ _ _ _ rfl hC (hD.pop (k1 := k + (-1)) (by omega) (by omega) (by first | (rw [if_pos (by omega), z16]; done) | (rw [if_neg (by omega)]; done)) (by omega)) ⟨by omega, by omega⟩ (by rw [z13]; exact zEd.init hS.1.2)
        refine i_goto (tgt := 31) dX11_reaches_150 (by decide) ?_
        have hle2 := hD2.le
        have hkp2 := hD2.1.1
        refine ih _ ?_ _ _ (p + 1) _ rfl hC2 hD2
        omega
      · -- on
        refine i_const dX11_reaches_57 ?_
        refine i_aload_n dX11_reaches_58 rfl ?_
        refine t_getA dX11_reaches_59 fX11_42.o rfl ?_
        refine i_iload dX11_reaches_62 rfl ?_
        refine t_iald (N := 1400) dX11_reaches_64 (by decide) (by decide) rfl (by omega) rfl ?_
        refine i_shl dX11_reaches_65 (iI_shl1 (by omega)) ?_
        have b9 := @zp_rg (C' 16 (C' 18 (k + (-1)))) (by omega)
        refine i_goto (tgt := 70) dX11_reaches_66 (by decide) ?_
        refine i_or dX11_reaches_70 (by omega) (by omega) ?_
        refine i_istore_n dX11_reaches_71 (L' := [some _, some _, some _, some _, some _, none]) (by decide) rfl ?_
        refine i_aload_n dX11_reaches_72 rfl ?_
        refine t_getA dX11_reaches_73 fX11_33.o rfl ?_
        refine i_iload dX11_reaches_76 rfl ?_
        refine t_iald (N := 1400) dX11_reaches_78 (by decide) (by decide) rfl (by omega) rfl ?_
        refine i_istore dX11_reaches_79 (L' := [some _, some _, some _, some _, some _, some _]) (by decide) rfl ?_
        refine k_rc_l2 hS hNM hV hL (fun k2 C2 hC2 hD2 => ?_) _ _ _ _ rfl hC (hD.pop (k1 := k + (-1)) (by omega) (by omega) (by first | (rw [if_pos (by omega), z16]; done) | (rw [if_neg (by omega)]; done)) (by omega)) ⟨by omega, by omega⟩ (by rw [z13]; exact zEd.init hS.1.2)
        refine i_goto (tgt := 31) dX11_reaches_150 (by decide) ?_
        have hle2 := hD2.le
        have hkp2 := hD2.1.1
        refine ih _ ?_ _ _ (p + 1) _ rfl hC2 hD2
        omega
theorem k_reaches  (hS : mSr N M (C 13) (C 14) (C 15) E src) (hNM : N < 1400 ∧ M < 2800) (hV : (0 ≤ V 22 ∧ V 22 ≤ 99) ∧ (0 ≤ a ∧ a < N)) (hL : ∀ y, 0 ≤ y → y < N → 0 ≤ C 16 y ∧ C 16 y ≤ 24) (hF : ∀ y, 0 ≤ y → y < N → 0 ≤ C 17 y ∧ C 17 y ≤ V 22) (hp : ∀ x C', sC [17, 18] C C' → (0 ≤ x ∧ x < 33554432) → ((∀ y, 0 ≤ y → y < N → (C' 17 y = V 22 + 1 ↔ zR E a y)) ∧ ∀ q, 0 ≤ q → (zt x q ↔ ∃ y, (0 ≤ y ∧ y < N) ∧ zR E a y ∧ C 16 y = q ∧ 1 ≤ q)) → (∀ y, 0 ≤ y → y < N → 0 ≤ C' 17 y ∧ C' 17 y ≤ V 22 + 1) → P (.inl (some (.int (iI x)))) (vu V 22 (V 22 + 1), C', J)) : RM G mX11_reaches (m_I Y h0) [.ref (Y 38), .int (iI a)] (d) 0 0 P (V, C, J) := by
  refine RM.of (L := [some (.ref (Y 38)), some (.int (iI a)), none, none, none, none]) cfX11_reaches rfl (Nat.le_of_ble_eq_true rfl) ?_
  refine i_aload_n dX11_reaches_0 rfl ?_
  refine i_dup dX11_reaches_1 rfl ?_
  refine t_getI dX11_reaches_2 fX11_176 (by decide) rfl ?_
  refine i_const dX11_reaches_5 ?_
  refine i_add dX11_reaches_6 ?_
  refine t_put dX11_reaches_7 fX11_176 (by decide) rfl rfl ?_
  refine i_const dX11_reaches_10 ?_
  refine i_istore_n dX11_reaches_11 (L' := [some _, some _, some _, none, none, none]) (by decide) rfl ?_
  refine i_const dX11_reaches_12 ?_
  refine i_istore_n dX11_reaches_13 (L' := [some _, some _, some _, some _, none, none]) (by decide) rfl ?_
  refine i_aload_n dX11_reaches_14 rfl ?_
  refine t_getA dX11_reaches_15 fX11_48.o rfl ?_
  refine i_const dX11_reaches_18 ?_
  refine i_iload_n dX11_reaches_19 rfl ?_
  refine t_iast (N := 1400) dX11_reaches_20 (by decide) (by decide) rfl (by omega) ?_
  refine i_aload_n dX11_reaches_21 rfl ?_
  refine t_getA dX11_reaches_22 fX11_45.o rfl ?_
  refine i_iload_n dX11_reaches_25 rfl ?_
  refine i_aload_n dX11_reaches_26 rfl ?_
  refine t_getI (v := V 22 + 1) dX11_reaches_27 fX11_176 (by decide) rfl ?_
  refine t_iast (N := 1400) dX11_reaches_30 (by decide) (by decide) rfl (by omega) ?_
  refine RW.gen (fun V1 hV1 C1 hC1 J1 hJ1 => ?_)
  subst hJ1
  have v22 : V1 22 = V 22 + 1 := by rw [hV1]; rfl
  have c17 : C1 17 = zu (C 17) a (V 22 + 1) := by rw [hC1]; rfl
  have c18 : C1 18 = zu (C 18) 0 a := by rw [hC1]; rfl
  have c13 : C1 13 = C 13 := by rw [hC1]; rfl
  have c14 : C1 14 = C 14 := by rw [hC1]; rfl
  have c15 : C1 15 = C 15 := by rw [hC1]; rfl
  have c16 : C1 16 = C 16 := by rw [hC1]; rfl
  have sc : sC [17, 18] C C1 := by rw [hC1]; repeat' (first | exact sC.rfl | refine sC.cu ?_ (by decide))
  rw [← hV1] at hp
  clear hC1
  refine k_rc_l1 (V := V1) (C := C1) (N := N) (M := M) (a := a) (E := E) (src := src) (by rw [c13, c14, c15]; exact hS) hNM (by omega) (by rw [c16]; exact hL) (fun x C' q1 q2 q3 q4 => hp x C' (sc.tr q1 (fun _ z => z)) q2 (by rw [← v22, ← c16]; exact q3) (by rw [← v22]; exact q4)) _ 1 0 0 C1 rfl sC.rfl (by rw [c17, c18, v22]; exact zDf.init hV.2 (by omega) (fun y y0 y1 => by have := hF y y0 y1; omega))
end M33
