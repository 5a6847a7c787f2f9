/-! ===== the law: its start ===== -/
theorem wBeg.all {w : Int → Int} (h : wBeg w) : wAll w := by
  obtain ⟨⟨w1, w2⟩, w952, wg, w983, w984⟩ := h
  have i1 := zIv.got (sz := 8) (by decide) zT1_rn
  have i2 := zIv.got (sz := 10) (by decide) zT2_rn
  refine ⟨⟨fun s hs => ?_, by omega, fun k k0 k1 => absurd k1 (by omega), fun c b c0 c1 hb => Or.inr (wg _ (by omega) (by omega)), Or.inl w983⟩, fun s hs => ?_⟩
  · rcases hs with rfl | rfl
    · exact wNew.wP i1.1 i1.2.1 zT1_dn w1 i1.2.2
    · exact wNew.wP i2.1 i2.2.1 zT2_dn w2 i2.2.2
  · rcases hs with rfl | rfl
    · exact ⟨wNew.wX i1.1 i1.2.1 zT1_dn w1, wNew.wY i1.1 i1.2.1 zT1_dn w1⟩
    · exact ⟨wNew.wX i2.1 i2.2.1 zT2_dn w2, wNew.wY i2.1 i2.2.1 zT2_dn w2⟩
theorem lSm.beg {V Vm : Nat → Int} {C Cm : Nat → Int → Int} {J : c_J} (hc : cBeg V C J) (hm : mBeg Vm Cm) : lSm V C J Vm Cm := by
  obtain ⟨⟨a0, a1, a2, a3, a4⟩, ⟨b10, b11, b12, b13⟩, hC, hN⟩ := hc
  obtain ⟨hw, m4, m5, m7, m8, m9, m11, m12⟩ := hm
  have h12 : ∀ y, C 12 y = 0 := fun y => by rw [hC 12 (by decide)]
  exact ⟨⟨hN _ hw, hw.all⟩, ⟨⟨by omega, ⟨by omega, by omega, by omega⟩, fun i i0 i1 => absurd i1 (by omega)⟩, fun i i0 i1 => absurd i1 (by omega)⟩, ⟨by omega, Or.inl a0, fun y => absurd y (by omega)⟩, ⟨by omega, by omega, fun j j0 j1 => absurd j1 (by omega)⟩, ⟨by omega, by omega⟩, ⟨by omega, by omega, fun j j0 j1 => absurd j1 (by omega)⟩, ⟨by omega, fun y _ _ => Or.inl (h12 y), fun i i0 i1 => absurd i1 (by omega), fun y _ _ h1 => absurd (h1.symm.trans (h12 y)) (by decide)⟩⟩
section C7a
variable {Yc Ym : Nat → Nat} {o1 o2 : Nat} {X : c_X} {Xm : m_X} {hx h h' : p_H} {f : Nat → Int64} {f' : Nat → UInt64}
theorem lHp.beg (h1 : c_I Yc hx X h) (hF : ∀ q, q ∈ lF Ym o1 o2 → h q = none) (ho : ∀ q, q ∉ lF Ym o1 o2 → h' q = h q) (hm : m_At Ym Xm h') (e1 : h' o1 = some (e_L f)) (e2 : h' o2 = some (e_D f')) (hd : ∀ j ∈ m_ix, Ym j ≠ o1 ∧ Ym j ≠ o2) (he : o1 ≠ o2) : lHp Yc Ym o1 o2 X Xm h' := by
  obtain ⟨⟨a1, a2⟩, b, -⟩ := h1
  have hn : ∀ {q : Nat} {e : p_E}, h q = some e → q ∉ lF Ym o1 o2 := fun {q e} hq z => by
    rw [hF q z] at hq
    cases hq
  refine ⟨⟨⟨fun i hi => (ho _ (hn (a1 i hi))).trans (a1 i hi), a2⟩, fun a p ha => ?_, fun q q0 q1 => ?_⟩, fun q hq i hi z => hn (a1 i hi) (z ▸ hq), hm, ⟨⟨f, e1⟩, f', e2⟩, hd, he⟩
  · obtain ⟨k1, k2, k3⟩ := b a p ha
    exact ⟨(ho _ (hn k1)).trans k1, fun k hk => (ho _ (hn (k2 k hk))).trans (k2 k hk), k3⟩
  · have qF : q ∈ lF Ym o1 o2 := Decidable.byContradiction (fun z => q0 (by unfold rs; exact if_neg z))
    refine ⟨(if_pos qF).symm, fun a p ha => ?_⟩
    obtain ⟨k1, k2, k3⟩ := b a p ha
    exact ⟨fun z => hn k1 (z ▸ qF), fun k hk z => hn (k2 k hk) (z ▸ qF)⟩
end C7a
section C7
variable {G : p_G} {P : p_Zt} {b N : Nat} {xs : Nat → Int32}
theorem l_start (hB : p_Beg G) (hX : p_Scr G b N xs) (hN : N ≤ 3072) (hF : ∀ k n h L, SL G mL_law P 100 k n h 3444 L []) : SL G mL_law P 100 3766 322908 (fun _ => none) 0 [some (.ref b), none, none, none, none, none, none, none, none, none] [] := by
  obtain ⟨hK, hZn, hZ, ⟨a1, v1, s1, r1⟩, ⟨a2, v2, s2, r2⟩, ⟨a3, v3, s3, r3⟩, a4, v4, s4, r4⟩ := hB
  refine y_new (k := 3765) (n := 322895) (N := 13) dL_law_0 nL_8 (fun x hx => ?_)
  refine y_dup dL_law_3 rfl ?_
  refine y_callI (As := []) (mc := 158) (ms := 21719) (k' := 3607) (n' := 301176) (d' := 99) dL_law_4 cfX10_init rfl rfl imX10_init lL_157 rfl rfl (Nat.le_of_ble_eq_true rfl) rfl rfl ?_
  refine q_ctor (d := 93) hK s1 s2 r1 r2 (p_up_eq.trans rfl) (fun Yc V C J hY hc h2 hI => ?_)
  subst hY
  refine (show SL G mL_law P 100 3607 301176 h2 7 [some (.ref b), none, none, none, none, none, none, none, none, none] [.ref (Yc 0)] from ?_)
  refine y_astore_n (L' := [some (.ref b), some (.ref (Yc 0)), none, none, none, none, none, none, none, none]) dL_law_7 (by decide) rfl ?_
  refine y_new (k := 3606) (n := 301138) (N := 38) dL_law_8 nL_158 (fun m hm => ?_)
  refine y_dup dL_law_11 rfl ?_
  refine y_callI (As := []) (mc := 20) (ms := 48720) (k' := 3586) (n' := 252418) (d' := 99) dL_law_12 cfX11_init rfl rfl imX11_init lL_160 rfl rfl (Nat.le_of_ble_eq_true rfl) rfl rfl ?_
  refine k_init (d := 12) hK s3 s4 r3 r4 (p_up_eq.trans rfl) (fun Ym Vm Cm hYm hfr hmb h4 hI4 => ?_)
  subst hYm
  refine (show SL G mL_law P 100 3586 252418 h4 15 [some (.ref b), some (.ref (Yc 0)), none, none, none, none, none, none, none, none] [.ref (Ym 38)] from ?_)
  refine y_astore_n (L' := [some (.ref b), some (.ref (Yc 0)), some (.ref (Ym 38)), none, none, none, none, none, none, none]) dL_law_15 (by decide) rfl ?_
  refine y_iconst (v := 1) dL_law_16 rfl ?_
  refine y_newaJ (N := 1) (k := 3585) (n := 252417) dL_law_17 (by decide) (by decide) (by decide) (fun o1 ho1 => ?_)
  refine y_astore_n (L' := [some (.ref b), some (.ref (Yc 0)), some (.ref (Ym 38)), some (.ref o1), none, none, none, none, none, none]) dL_law_19 (by decide) rfl ?_
  refine y_iconst (v := 1) dL_law_20 rfl ?_
  refine y_newaD (N := 1) (k := 3584) (n := 252416) dL_law_21 (by decide) (by decide) (by decide) (fun o2 ho2 => ?_)
  refine y_astore (L' := [some (.ref b), some (.ref (Yc 0)), some (.ref (Ym 38)), some (.ref o1), some (.ref o2), none, none, none, none, none]) dL_law_23 (by decide) rfl ?_
  refine y_iconst (v := iI 0) dL_law_25 rfl ?_
  refine y_istore (L' := lL b (Yc 0) (Ym 38) o1 o2 0) dL_law_26 (by decide) rfl ?_
  have he : o2 ≠ o1 := fun z => by
    rw [z, p_up_eq] at ho2
    cases ho2
  have ho2' : h4 o2 = none := by rw [p_up_ne he] at ho2; exact ho2
  have hd : ∀ j ∈ m_ix, Ym j ≠ o1 ∧ Ym j ≠ o2 := fun j hj => by
    have q := hI4.1.1 j hj
    refine ⟨fun z => ?_, fun z => ?_⟩
    · rw [z, ho1] at q
      cases q
    · rw [z, ho2'] at q
      cases q
  have hold : ∀ q, (∀ j, j ∈ m_ix → q ≠ Ym j) → h4 q = h2 q := fun q hq => (hI4.2 q hq).trans (p_up_ne (hq 38 (by decide)))
  have hfree : ∀ q, q ∈ lF Ym o1 o2 → h2 q = none := fun q hq => by
    rcases lF_c hq with rfl | rfl | ⟨j, hj, rfl⟩
    · rw [← hold _ (fun j hj z => (hd j hj).1 z.symm)]; exact ho1
    · rw [← hold _ (fun j hj z => (hd j hj).2 z.symm)]; exact ho2'
    · by_cases z : j = 38
      · rw [z]; exact hm
      · have y := hfr j hj z
        rw [p_up_ne (fun e => z (hI4.1.2 j hj 38 (by decide) e))] at y
        exact y
  have hout : ∀ q, q ∉ lF Ym o1 o2 → p_up (p_up h4 o1 (e_L (fun _ => 0))) o2 (e_D (fun _ => 0)) q = h2 q := fun q hq => by
    rw [p_up_ne (fun z => hq (by rw [z]; exact lF_2)), p_up_ne (fun z => hq (by rw [z]; exact lF_1))]
    exact hold q (fun j hj z => hq (by rw [z]; exact lF_m hj))
  have hL : lHp Yc Ym o1 o2 (V, C, J) (Vm, Cm, fun _ => 0) (p_up (p_up h4 o1 (e_L (fun _ => 0))) o2 (e_D (fun _ => 0))) := lHp.beg hI hfree hout ⟨fun j hj => by rw [p_up_ne (hd j hj).2, p_up_ne (hd j hj).1]; exact hI4.1.1 j hj, hI4.1.2⟩ (by rw [p_up_ne (fun z => he z.symm), p_up_eq]) p_up_eq hd (fun z => he z.symm)
  exact l_loop hZ hZn hX hN hF 512 0 (V, C, J) (Vm, Cm, fun _ => 0) _ (by decide) (by decide) (by omega) hL (lSm.beg hc hmb)
end C7
