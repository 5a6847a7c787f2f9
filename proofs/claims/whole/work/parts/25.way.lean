/-! ===== the reference: ways written, both home ===== -/
section M25
variable {G : p_G} {Y : Nat → Nat} {h0 : p_H} {P : (Option Value) ⊕ String → m_X → Prop} {d : Nat} {V : Nat → Int} {C : Nat → Int → Int} {J : Int → Int}
theorem k_wy_l1 {x e i : Int} {cd : Int → Nat} (hB : wCh (C 23) (C 24) (C 25) e cd) (hQ : ∀ i, 0 ≤ i → i < e → 0 ≤ C 23 i ∧ C 23 i < 3600) (he : e ≤ 3600) (hc0 : cd 0 = 0) (hi : 0 ≤ i ∧ i < e) (kk : ∀ m y C', m = (zln (cd i) : Int) → m ≤ i → sC [37] C C' → (∀ mm, 0 ≤ mm → mm < m → C' 37 mm = zdig (cd i) mm.toNat) → RW G mX11_writeWay (m_I Y h0) P (d) 0 0 46 [some (.ref (Y 38)), some (.int (iI x)), some (.int (iI m)), some (.int (iI y))] [] (V, C', J)) : ∀ (zz : Nat) (j m y : Int) (C' : Nat → Int → Int), zz = (j).toNat → (0 ≤ j) → (j < e) → (0 ≤ m) → (m + j ≤ i) → (y = C 23 j) → (sC [37] C C') → ((zln (cd i) : Int) = m + zln (cd j)) → (∀ mm : Nat, zdig (cd j) mm = zdig (cd i) (mm + m.toNat)) → (∀ mm, 0 ≤ mm → mm < m → C' 37 mm = zdig (cd i) mm.toNat) → RW G mX11_writeWay (m_I Y h0) P (d) 0 0 11 [some (.ref (Y 38)), some (.int (iI x)), some (.int (iI m)), some (.int (iI y))] [] (V, C', J) := by
  intro zz
  induction zz using Nat.strongRecOn with
  | _ zz ih =>
    intro j m y C' hzz h1 h2 h3 h4 hy hC hl hd hk
    have b1 := hQ j h1 h2
    have e24 : C' 24 y = C 24 y := congrFun (hC 24 (by decide)) y
    have b3 : -1 ≤ C 24 y ∧ C 24 y < 3600 := by
      by_cases z : j = 0
      · rw [hy, z, hB.1]; decide
      · obtain ⟨j', j0, j1, j2, _⟩ := hB.2 j (by omega) h2
        have := hQ j' j0 (by omega); rw [hy, j2]; omega
    refine i_aload_n dX11_writeWay_11 rfl ?_
    refine t_getA dX11_writeWay_12 fX11_57.o rfl ?_
    refine i_iload_n dX11_writeWay_15 rfl ?_
    refine t_iald (N := 3600) dX11_writeWay_16 (by decide) (by decide) rfl (by omega) rfl ?_
    refine i_const dX11_writeWay_17 ?_
    refine i_icmp_eq (tgt := 46) dX11_writeWay_18 (by decide) (by omega) (by omega) (fun c18 => ?_) (fun c18 => ?_)
    · -- jumps
      have j00 : j = 0 := by
        refine Decidable.byContradiction (fun z => ?_)
        obtain ⟨j', j0, j1, j2, _⟩ := hB.2 j (by omega) h2
        have := hQ j' j0 (by omega); rw [← hy] at j2; omega
      rw [j00, hc0, zln_0] at hl
      exact kk m y _ (by omega) (by omega) hC hk
    · -- on
      have j00 : 0 < j := by
        refine Decidable.byContradiction (fun z => ?_)
        have z0 : j = 0 := by omega
        rw [z0] at hy; rw [hy, hB.1] at e24; rw [← hy] at e24; omega
      obtain ⟨j', j0, j1, j2, j3, j4, j5⟩ := hB.2 j j00 h2
      rw [← hy] at j3 j4 j5
      have ecd : cd j = 6 * cd j' + (C 25 y).toNat + 1 := by omega
      refine i_aload_n dX11_writeWay_21 rfl ?_
      refine t_getA dX11_writeWay_22 fX11_74.o rfl ?_
      refine i_iload_n dX11_writeWay_25 rfl ?_
      refine i_aload_n dX11_writeWay_26 rfl ?_
      refine t_getA dX11_writeWay_27 fX11_60.o rfl ?_
      refine i_iload_n dX11_writeWay_30 rfl ?_
      refine t_iald (N := 3600) dX11_writeWay_31 (by decide) (by decide) rfl (by omega) rfl ?_
      refine t_iast (N := 3600) dX11_writeWay_32 (by decide) (by decide) rfl (by omega) ?_
      refine i_iinc dX11_writeWay_33 rfl (L' := [some _, some _, some _, some _]) (by decide) rfl ?_
      refine i_aload_n dX11_writeWay_36 rfl ?_
      refine t_getA dX11_writeWay_37 fX11_57.o rfl ?_
      refine i_iload_n dX11_writeWay_40 rfl ?_
      refine t_iald (N := 3600) (v := C' 24 y) dX11_writeWay_41 (by decide) (by decide) rfl (by omega) rfl ?_
      refine i_istore_n dX11_writeWay_42 (L' := [some _, some _, some _, some _]) (by decide) rfl ?_
      refine i_goto (tgt := 11) dX11_writeWay_43 (by decide) ?_
      refine ih _ ?_ j' (m + 1) _ _ rfl (by omega) (by omega) (by omega) (by omega) ?_ (hC.cu (by decide)) ?_ (fun mm => ?_) (fun mm m0 m1 => ?_)
      · omega
      · rw [show C' 24 y = C 24 y from congrFun (hC 24 (by decide)) y, hy]; exact j2
      · rw [hl, ecd, zln_s (by omega)]; omega
      · have q := hd (mm + 1); rw [ecd, zdig_s (by omega)] at q; rw [q]; congr 1; omega
      · show zu (C' 37) m _ mm = _
        by_cases z : mm = m
        · have q := hd 0; rw [ecd, zdig_0 (by omega)] at q; rw [z, zu_at, show C' 25 y = C 25 y from congrFun (hC 25 (by decide)) y, show m.toNat = 0 + m.toNat by omega, ← q]; omega
        · rw [zu_ne z]; exact hk mm m0 (by omega)
theorem k_wy_l2 {x m : Int} (hm : 0 ≤ m ∧ m ≤ 3600) (hb : ∀ i, 0 ≤ i → i < m → 0 ≤ C 37 i ∧ C 37 i < 6) (hp : ∀ V' C', V' 11 = m → sV [11] V V' → sC [10] C C' → (∀ i, 0 ≤ i → i < m → C' 10 i = 97 + C 37 (m - 1 - i)) → P (.inl (some (.int (iI m)))) (V', C', J)) : ∀ (zz : Nat) (k : Int) (V' : Nat → Int) (C' : Nat → Int → Int), zz = (k + 1).toNat → (-1 ≤ k) → (k < m) → (V' 11 = m - 1 - k) → (sV [11] V V') → (sC [10] C C') → (∀ i, 0 ≤ i → i < m - 1 - k → C' 10 i = 97 + C 37 (m - 1 - i)) → RW G mX11_writeWay (m_I Y h0) P (d) 0 0 55 [some (.ref (Y 38)), some (.int (iI x)), some (.int (iI m)), some (.int (iI k))] [] (V', C', J) := by
  intro zz
  induction zz using Nat.strongRecOn with
  | _ zz ih =>
    intro k V' C' hzz h1 h2 h11 hV hC hI
    have hw : C' 0 = C 0 := hC 0 (by decide)
    have e37 : C' 37 k = C 37 k := congrFun (hC 37 (by decide)) k
    refine i_iload_n dX11_writeWay_55 rfl ?_
    refine i_if_lt (tgt := 94) dX11_writeWay_56 (by decide) (by omega) (fun c56 => ?_) (fun c56 => ?_)
    · -- jumps
      refine i_aload_n dX11_writeWay_94 rfl ?_
      refine t_getI dX11_writeWay_95 fX11_295 (by decide) rfl ?_
      refine i_ireturn dX11_writeWay_98 rfl rfl ?_
      obtain rfl : k = -1 := by omega
      have e : V' 11 = m := by omega
      rw [e]
      exact hp _ _ e hV hC (fun i i0 i1 => hI i i0 (by omega))
    · -- on
      have b5 := hb k (by omega) (by omega)
      refine i_aload_n dX11_writeWay_59 rfl ?_
      refine t_getA dX11_writeWay_60 fX11_29.o rfl ?_
      refine i_aload_n dX11_writeWay_63 rfl ?_
      refine t_getI dX11_writeWay_64 fX11_295 (by decide) rfl ?_
      refine i_bipush dX11_writeWay_67 (by decide) ?_
      refine i_aload_n dX11_writeWay_69 rfl ?_
      refine t_getA dX11_writeWay_70 fX11_74.o rfl ?_
      refine i_iload_n dX11_writeWay_73 rfl ?_
      refine t_iald (N := 3600) dX11_writeWay_74 (by decide) (by decide) rfl (by omega) rfl ?_
      refine i_add dX11_writeWay_75 ?_
      refine i_i2c dX11_writeWay_76 (iI_i2c (by omega)) ?_
      refine t_cast dX11_writeWay_77 (iI_char (by omega)) (by omega) ?_
      refine i_aload_n dX11_writeWay_78 rfl ?_
      refine i_dup dX11_writeWay_79 rfl ?_
      refine t_getI dX11_writeWay_80 fX11_295 (by decide) rfl ?_
      refine i_const dX11_writeWay_83 ?_
      refine i_add dX11_writeWay_84 ?_
      refine t_put dX11_writeWay_85 fX11_295 (by decide) rfl rfl ?_
      refine i_iinc dX11_writeWay_88 rfl (L' := [some _, some _, some _, some _]) (by decide) rfl ?_
      refine i_goto (tgt := 55) dX11_writeWay_91 (by decide) ?_
      refine ih _ ?_ (k + (-1)) _ _ rfl (by omega) (by omega) ?_ (hV.vu (by decide)) (hC.cu (by decide)) (fun i i0 i1 => ?_)
      · omega
      · show V' 11 + 1 = _; omega
      · show zu (C' 10) (V' 11) _ i = _
        by_cases z : i = V' 11
        · rw [z, zu_at, show C' 37 k = C 37 k from congrFun (hC 37 (by decide)) k, show m - 1 - V' 11 = k by omega]
        · rw [zu_ne z]; exact hI i i0 (by omega)
theorem zdig_rg : ∀ (m n : Nat), 0 ≤ zdig n m ∧ zdig n m < 6
  | 0, n => by
    show 0 ≤ (((n - 1) % 6 : Nat) : Int) ∧ (((n - 1) % 6 : Nat) : Int) < 6
    omega
  | m + 1, n => zdig_rg m ((n - 1) / 6)
theorem k_writeWay {x e i : Int} {cd : Int → Nat} (hB : wCh (C 23) (C 24) (C 25) e cd) (hQ : ∀ i, 0 ≤ i → i < e → 0 ≤ C 23 i ∧ C 23 i < 3600) (he : e ≤ 3600) (hc0 : cd 0 = 0) (hrx : -1 ≤ x ∧ x < 3600) (hx : x ≠ -1 → 0 ≤ i ∧ i < e ∧ x = C 23 i) (hpn : x = -1 → P (.inl (some (.int (iI (-1))))) (V, C, J)) (hp : x ≠ -1 → ∀ V' C', V' 11 = (zln (cd i) : Int) → sV [11] V V' → sC [10, 37] C C' → zWrt (cd i) (C' 10) → P (.inl (some (.int (iI (zln (cd i) : Int))))) (V', C', J)) : RM G mX11_writeWay (m_I Y h0) [.ref (Y 38), .int (iI x)] (d) 0 0 P (V, C, J) := by
  refine RM.of (L := [some (.ref (Y 38)), some (.int (iI x)), none, none]) cfX11_writeWay rfl (Nat.le_of_ble_eq_true rfl) ?_
  refine i_iload_n dX11_writeWay_0 rfl ?_
  refine i_const dX11_writeWay_1 ?_
  refine i_icmp_ne (tgt := 7) dX11_writeWay_2 (by decide) (by omega) (by omega) (fun c2 => ?_) (fun c2 => ?_)
  · -- jumps
    refine i_const dX11_writeWay_7 ?_
    refine i_istore_n dX11_writeWay_8 (L' := [some _, some _, some _, none]) (by decide) rfl ?_
    refine i_iload_n dX11_writeWay_9 rfl ?_
    refine i_istore_n dX11_writeWay_10 (L' := [some _, some _, some _, some _]) (by decide) rfl ?_
    have hx9 := hx (by omega)
    obtain ⟨i0, i1, hx2⟩ := hx9
    refine k_wy_l1 (i := i) hB hQ he hc0 ⟨i0, i1⟩ (fun m1 y1 Ca hm1 hm2 hCa hk1 => ?_) _ i 0 _ _ rfl i0 i1 (by omega) (by omega) hx2 sC.rfl (by omega) (fun mm => rfl) (fun mm m0 m1 => by omega)
    refine i_aload_n dX11_writeWay_46 rfl ?_
    refine i_const dX11_writeWay_47 ?_
    refine t_put dX11_writeWay_48 fX11_295 (by decide) rfl rfl ?_
    refine i_iload_n dX11_writeWay_51 rfl ?_
    refine i_const dX11_writeWay_52 ?_
    refine i_sub dX11_writeWay_53 ?_
    refine i_istore_n dX11_writeWay_54 (L' := [some _, some _, some _, some _]) (by decide) rfl ?_
    refine RW.gen (fun V1 hV1 C1 hC1 J1 hJ1 => ?_)
    have sv1 : sV [11] V V1 := by rw [hV1]; repeat' (first | exact sV.rfl | refine sV.vu ?_ (by decide))
    have v1_11 : V1 11 = 0 := by rw [hV1]; rfl
    have sc1 : sC [] (Ca) C1 := by rw [hC1]; repeat' (first | exact sC.rfl | refine sC.cu ?_ (by decide))
    subst hJ1
    clear hV1 hC1
    have e37 : ∀ mm, 0 ≤ mm → mm < m1 → C1 37 mm = zdig (cd i) mm.toNat := fun mm a b => (congrFun (sc1 37 (by decide)) mm).trans (hk1 mm a b)
    refine k_wy_l2 (by omega) (fun mm m0 m2 => by rw [e37 mm m0 m2]; exact zdig_rg _ _) (fun V2 C2 g1 g2 g3 g4 => ?_) _ (m1 - 1) _ _ rfl (by omega) (by omega) ?_ sV.rfl sC.rfl (fun i i0 i1 => by omega)
    · rw [hm1] at g1 ⊢; exact hp (by omega) _ _ g1 (sV.t2 sv1 g2 (by decide) (by decide)) (sC.t2 hCa (sC.t2 (U := [10, 37]) sc1 g3 (by decide) (by decide)) (by decide) (by decide)) (fun ii a b => by rw [g4 ii a (by omega), e37 _ (by omega) (by omega), hm1])
    · rw [v1_11]; omega
  · -- on
    refine i_const dX11_writeWay_5 ?_
    refine i_ireturn dX11_writeWay_6 rfl rfl ?_
    exact hpn (by omega)
theorem wFin_ex {v e : Int} {Q : Int → Int} {A : Prop} {B : Int → Prop} (h : (v = -1 ∧ A) ∨ (0 ≤ v ∧ ∃ i, 0 ≤ i ∧ i < e ∧ v = Q i ∧ B i)) : ∃ i, v ≠ -1 → (0 ≤ i ∧ i < e ∧ v = Q i) ∧ B i := by
  rcases h with ⟨q, _⟩ | ⟨q0, i, i0, i1, q, q2⟩
  · exact ⟨0, fun z => absurd q z⟩
  · exact ⟨i, fun _ => ⟨⟨i0, i1, q⟩, q2⟩⟩
theorem k_writeDifference  (hO : wOK (C 0)) (hpn : ∀ V' C', V' 12 = 0 → sV [12, 27, 28] V V' → sC [23, 24, 25, 26] C C' → zNo (wNx2 (C 0) 0 1) zTr 0 (wG0 (C 0)) → P (.inl (some (.int (iI (-1))))) (V', C', J)) (hp0 : ∀ V' C', V' 12 = 0 → sV [11, 12, 27, 28] V V' → sC [10, 23, 24, 25, 26, 37] C C' → ∀ n, zMin (wNx2 (C 0) 0 1) zTr 0 (wG0 (C 0)) n → V' 11 = (zln n : Int) → zWrt n (C' 10) → P (.inl (some (.int (iI (zln n : Int))))) (V', C', J)) : RM G mX11_writeDifference (m_I Y h0) [.ref (Y 38)] (d + 3) 0 0 P (V, C, J) := by
  refine RM.of (L := [some (.ref (Y 38))]) cfX11_writeDifference rfl (Nat.le_of_ble_eq_true rfl) ?_
  refine i_aload_n dX11_writeDifference_0 rfl ?_
  refine i_const dX11_writeDifference_1 ?_
  refine t_put dX11_writeDifference_2 fX11_95 (by decide) rfl rfl ?_
  refine i_aload_n dX11_writeDifference_5 rfl ?_
  refine t_callV (As := []) dX11_writeDifference_6 cfX11_pairs imX11_pairs seX11_pairs lX11_282 rfl rfl rfl (Nat.le_of_ble_eq_true rfl) ?_
  refine k_pairs hO (fun V1 C1 hV1 hC1 e1 cd1 hP1 h27 h28 => RK.v ?_)
  have rm := hP1.1.rm
  have v27 := wFin_rg h27 hP1.2.1
  have v28 := wFin_rg h28 hP1.2.1
  refine i_pop dX11_writeDifference_9 rfl ?_
  refine i_aload_n dX11_writeDifference_10 rfl ?_
  refine i_aload_n dX11_writeDifference_11 rfl ?_
  refine t_getI dX11_writeDifference_12 fX11_276 (by decide) rfl ?_
  refine t_callV (As := [_]) dX11_writeDifference_15 cfX11_writeWay imX11_writeWay seX11_writeWay lX11_298 rfl rfl rfl (Nat.le_of_ble_eq_true rfl) ?_
  obtain ⟨i, hi⟩ := wFin_ex h27
  refine k_writeWay (i := i) (cd := cd1) hP1.2.2 (fun i i0 i1 => hP1.1.2.1 i i0 i1) (by omega) hP1.1.1.2.1.2 v27 (fun q => (hi q).1) (fun q => RK.v ?_) (fun q V' C' g1 g2 g3 g4 => RK.v ?_)
  · -- case
    refine i_ireturn dX11_writeDifference_18 rfl rfl ?_
    exact hpn _ _ ((hV1 12 (by decide)).trans rfl) (sV.t2 (sV.rfl.vu (S := [12]) (by decide)) hV1 (by decide) (by decide)) hC1 (h27.resolve_right (fun z => by omega)).2
  · -- case
    refine i_ireturn dX11_writeDifference_18 rfl rfl ?_
    have x3 := (hi q).2
    exact hp0 _ _ ((g2 12 (by decide)).trans ((hV1 12 (by decide)).trans rfl)) (sV.t2 (sV.t2 (U := [12, 27, 28]) (sV.rfl.vu (S := [12]) (by decide)) hV1 (by decide) (by decide)) g2 (by decide) (by decide)) (sC.t2 hC1 g3 (by decide) (by decide)) _ x3 g1 g4
theorem k_writeSharedWord  (hO : wOK (C 0)) (hpn : ∀ V' C', V' 12 = 0 → sV [12, 27, 28] V V' → sC [23, 24, 25, 26] C C' → zNo (wNx2 (C 0) 0 1) zTr 0 (wG1 (C 0) 0 1) → P (.inl (some (.int (iI (-1))))) (V', C', J)) (hp0 : ∀ V' C', V' 12 = 0 → sV [11, 12, 27, 28] V V' → sC [10, 23, 24, 25, 26, 37] C C' → ∀ n, zMin (wNx2 (C 0) 0 1) zTr 0 (wG1 (C 0) 0 1) n → V' 11 = (zln n : Int) → zWrt n (C' 10) → P (.inl (some (.int (iI (zln n : Int))))) (V', C', J)) : RM G mX11_writeSharedWord (m_I Y h0) [.ref (Y 38)] (d + 3) 0 0 P (V, C, J) := by
  refine RM.of (L := [some (.ref (Y 38))]) cfX11_writeSharedWord rfl (Nat.le_of_ble_eq_true rfl) ?_
  refine i_aload_n dX11_writeSharedWord_0 rfl ?_
  refine i_const dX11_writeSharedWord_1 ?_
  refine t_put dX11_writeSharedWord_2 fX11_95 (by decide) rfl rfl ?_
  refine i_aload_n dX11_writeSharedWord_5 rfl ?_
  refine t_callV (As := []) dX11_writeSharedWord_6 cfX11_pairs imX11_pairs seX11_pairs lX11_282 rfl rfl rfl (Nat.le_of_ble_eq_true rfl) ?_
  refine k_pairs hO (fun V1 C1 hV1 hC1 e1 cd1 hP1 h27 h28 => RK.v ?_)
  have rm := hP1.1.rm
  have v27 := wFin_rg h27 hP1.2.1
  have v28 := wFin_rg h28 hP1.2.1
  refine i_pop dX11_writeSharedWord_9 rfl ?_
  refine i_aload_n dX11_writeSharedWord_10 rfl ?_
  refine i_aload_n dX11_writeSharedWord_11 rfl ?_
  refine t_getI dX11_writeSharedWord_12 fX11_279 (by decide) rfl ?_
  refine t_callV (As := [_]) dX11_writeSharedWord_15 cfX11_writeWay imX11_writeWay seX11_writeWay lX11_298 rfl rfl rfl (Nat.le_of_ble_eq_true rfl) ?_
  obtain ⟨i, hi⟩ := wFin_ex h28
  refine k_writeWay (i := i) (cd := cd1) hP1.2.2 (fun i i0 i1 => hP1.1.2.1 i i0 i1) (by omega) hP1.1.1.2.1.2 v28 (fun q => (hi q).1) (fun q => RK.v ?_) (fun q V' C' g1 g2 g3 g4 => RK.v ?_)
  · -- case
    refine i_ireturn dX11_writeSharedWord_18 rfl rfl ?_
    exact hpn _ _ ((hV1 12 (by decide)).trans rfl) (sV.t2 (sV.rfl.vu (S := [12]) (by decide)) hV1 (by decide) (by decide)) hC1 (h28.resolve_right (fun z => by omega)).2
  · -- case
    refine i_ireturn dX11_writeSharedWord_18 rfl rfl ?_
    have x3 := (hi q).2
    exact hp0 _ _ ((g2 12 (by decide)).trans ((hV1 12 (by decide)).trans rfl)) (sV.t2 (sV.t2 (U := [12, 27, 28]) (sV.rfl.vu (S := [12]) (by decide)) hV1 (by decide) (by decide)) g2 (by decide) (by decide)) (sC.t2 hC1 g3 (by decide) (by decide)) _ x3 g1 g4
end M25
