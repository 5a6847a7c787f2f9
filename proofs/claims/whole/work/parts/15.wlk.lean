/-! ===== the reference: the night, walks along words ===== -/
section M15
variable {G : p_G} {Y : Nat → Nat} {h0 : p_H} {P : (Option Value) ⊕ String → m_X → Prop} {d : Nat} {V : Nat → Int} {C : Nat → Int → Int} {J : Int → Int}
theorem k_night_l {w : Int → Int} {a : Int} (hw : C 0 = w) (hO : wOK w) (hp : P (.inl (some (.int (iI (wOpen w))))) (V, C, J)) : ∀ (zz : Nat) (k x : Int), zz = (6 - k).toNat → (0 ≤ k) → (k ≤ 6) → (x = zsum (fun c => zb (w (971 + 2 * c + w 983) = 1)) k.toNat) → RW G mX11_setNight (m_I Y h0) P (d + 1) 0 0 34 [some (.ref (Y 38)), some (.int (iI a)), some (.int (iI x)), some (.int (iI k))] [] (V, C, J) := by
  intro zz
  induction zz using Nat.strongRecOn with
  | _ zz ih =>
    intro k x hzz h1 h2 hx
    refine i_iload_n dX11_setNight_34 rfl ?_
    refine i_bipush dX11_setNight_35 (by decide) ?_
    refine i_icmp_ge (tgt := 62) dX11_setNight_37 (by decide) (by omega) (by omega) (fun c37 => ?_) (fun c37 => ?_)
    · -- jumps
      refine i_iload_n dX11_setNight_62 rfl ?_
      refine i_ireturn dX11_setNight_63 rfl rfl ?_
      obtain rfl : k = 6 := by omega
      rw [hx]; exact hp
    · -- on
      refine i_iload_n dX11_setNight_40 rfl ?_
      refine i_aload_n dX11_setNight_41 rfl ?_
      refine i_iload_n dX11_setNight_42 rfl ?_
      refine t_callV (As := [_]) dX11_setNight_43 cfX11_passes imX11_passes seX11_passes lX11_237 rfl rfl rfl (Nat.le_of_ble_eq_true rfl) ?_
      refine k_passes (w := w) hw (by omega) hO (RK.v ?_)
      refine i_ifeq_b (tgt := 53) dX11_setNight_46 (by decide) (fun c46 => ?_) (fun c46 => ?_)
      · -- jumps
        refine i_const dX11_setNight_53 ?_
        refine i_add dX11_setNight_54 ?_
        refine i_istore_n dX11_setNight_55 (L' := [some _, some _, some _, some _]) (by decide) rfl ?_
        refine i_iinc dX11_setNight_56 rfl (L' := [some _, some _, some _, some _]) (by decide) rfl ?_
        refine i_goto (tgt := 34) dX11_setNight_59 (by decide) ?_
        refine ih _ ?_ (k + 1) _ rfl (by omega) (by omega) ?_
        · omega
        rw [zsum_s h1, hx]
        first | (rw [zb_t (by assumption)]) | (rw [zb_f (by assumption)])
      · -- on
        refine i_const dX11_setNight_49 ?_
        refine i_goto (tgt := 54) dX11_setNight_50 (by decide) ?_
        refine i_add dX11_setNight_54 ?_
        refine i_istore_n dX11_setNight_55 (L' := [some _, some _, some _, some _]) (by decide) rfl ?_
        refine i_iinc dX11_setNight_56 rfl (L' := [some _, some _, some _, some _]) (by decide) rfl ?_
        refine i_goto (tgt := 34) dX11_setNight_59 (by decide) ?_
        refine ih _ ?_ (k + 1) _ rfl (by omega) (by omega) ?_
        · omega
        rw [zsum_s h1, hx]
        first | (rw [zb_t (by assumption)]) | (rw [zb_f (by assumption)])
theorem k_setNight {a : Int} (hO : wOK (C 0)) (h4 : 0 ≤ V 4 ∧ V 4 ≤ 8)  (ha : a = 0 ∨ a = 1)  (hp0 : True → ∀ V' C' J', mCh V V' C C' (zu (C 0) 983 a) (V 7) → P (.inl (some (.int (iI (wOpen (zu (C 0) 983 a)))))) (V', C', J')) : RM G mX11_setNight (m_I Y h0) [.ref (Y 38), .int (iI a)] (d + 1) 0 0 P (V, C, J) := by
  refine RM.of (L := [some (.ref (Y 38)), some (.int (iI a)), none, none]) cfX11_setNight rfl (Nat.le_of_ble_eq_true rfl) ?_
  refine i_aload_n dX11_setNight_0 rfl ?_
  refine i_const dX11_setNight_1 ?_
  refine t_put dX11_setNight_2 fX11_95 (by decide) rfl rfl ?_
  refine i_aload_n dX11_setNight_5 rfl ?_
  refine t_callV (As := []) dX11_setNight_6 cfX11_begins imX11_begins seX11_begins lX11_216 rfl rfl rfl (Nat.le_of_ble_eq_true rfl) ?_
  refine k_begins (fun C1 hC1 hf1 => RK.n0 ?_)
  have hw1 : C1 0 = C 0 := hC1 0 (by decide)
  refine i_aload_n dX11_setNight_9 rfl ?_
  refine t_getA dX11_setNight_10 fX11_7.o rfl ?_
  refine i_sipush dX11_setNight_13 (by decide) ?_
  refine i_iload_n dX11_setNight_16 rfl ?_
  refine i_if_eq (tgt := 24) dX11_setNight_17 (by decide) (by omega) (fun c17 => ?_) (fun c17 => ?_)
  · -- jumps
    refine i_const dX11_setNight_24 ?_
    refine t_iast (N := 985) dX11_setNight_25 (by decide) (by decide) rfl (by omega) ?_
    refine i_aload_n dX11_setNight_26 rfl ?_
    refine t_callV (As := []) dX11_setNight_27 cfX11_remember imX11_remember seX11_remember lX11_222 rfl rfl rfl (Nat.le_of_ble_eq_true rfl) ?_
    refine k_remember (w0 := C 0) hf1 h4 (fun V2 C2 hR2 => RK.n0 ?_)
    refine i_const dX11_setNight_30 ?_
    refine i_istore_n dX11_setNight_31 (L' := [some _, some _, some _, none]) (by decide) rfl ?_
    refine i_const dX11_setNight_32 ?_
    refine i_istore_n dX11_setNight_33 (L' := [some _, some _, some _, some _]) (by decide) rfl ?_
    obtain rfl : a = 0 := by omega
    have ew : C2 0 = zu (C 0) 983 0 := (show C2 0 = zu (C1 0) 983 0 from (hR2.2.1 0 (by decide))).trans (by rw [hw1])
    refine k_night_l ew (hO.zn (by omega)) ?_ _ 0 0 rfl (by omega) (by omega) rfl
    refine hp0 trivial _ _ _ (mCh.of hR2 hC1 (sC.rfl.cu (by decide)) (fun j _ _ => ?_) (by repeat' (first | exact sV.rfl | refine sV.vu ?_ (by decide))) rfl rfl)
    show zu (C1 0) 983 0 j = _
    rw [hw1]
  · -- on
    refine i_const dX11_setNight_20 ?_
    refine i_goto (tgt := 25) dX11_setNight_21 (by decide) ?_
    refine t_iast (N := 985) dX11_setNight_25 (by decide) (by decide) rfl (by omega) ?_
    refine i_aload_n dX11_setNight_26 rfl ?_
    refine t_callV (As := []) dX11_setNight_27 cfX11_remember imX11_remember seX11_remember lX11_222 rfl rfl rfl (Nat.le_of_ble_eq_true rfl) ?_
    refine k_remember (w0 := C 0) hf1 h4 (fun V3 C3 hR3 => RK.n0 ?_)
    refine i_const dX11_setNight_30 ?_
    refine i_istore_n dX11_setNight_31 (L' := [some _, some _, some _, none]) (by decide) rfl ?_
    refine i_const dX11_setNight_32 ?_
    refine i_istore_n dX11_setNight_33 (L' := [some _, some _, some _, some _]) (by decide) rfl ?_
    obtain rfl : a = 1 := by omega
    have ew : C3 0 = zu (C 0) 983 1 := (show C3 0 = zu (C1 0) 983 1 from (hR3.2.1 0 (by decide))).trans (by rw [hw1])
    refine k_night_l ew (hO.zn (by omega)) ?_ _ 0 0 rfl (by omega) (by omega) rfl
    refine hp0 trivial _ _ _ (mCh.of hR3 hC1 (sC.rfl.cu (by decide)) (fun j _ _ => ?_) (by repeat' (first | exact sV.rfl | refine sV.vu ?_ (by decide))) rfl rfl)
    show zu (C1 0) 983 1 j = _
    rw [hw1]
theorem k_walk_l {p : Int} (hO : wOK (C 0)) (hp : 0 ≤ p ∧ p < C 0 952) (h7 : 0 ≤ V 7 ∧ V 7 ≤ 200) (hby : ∀ i, 0 ≤ i → i < V 7 → 0 ≤ C 6 i ∧ C 6 i < 256) (kk : ∀ k C', 0 ≤ k → k ≤ V 7 → (∀ i, 0 ≤ i → i < k → wCan (C 0) (C 6) i) → ¬ (k < V 7 ∧ wCan (C 0) (C 6) k) → sC [0] C C' → C' 0 = wWalk (C 0) (C 6) p k.toNat → RW G mX11_walkWord (m_I Y h0) P (d + 3) 0 0 88 [some (.ref (Y 38)), some (.int (iI p)), some (.int (iI k))] [] (V, C', J)) : ∀ (zz : Nat) (k : Int) (C' : Nat → Int → Int), zz = (V 7 - k).toNat → (0 ≤ k) → (k ≤ V 7) → (∀ i, 0 ≤ i → i < k → wCan (C 0) (C 6) i) → (sC [0] C C' ∧ C' 0 = wWalk (C 0) (C 6) p k.toNat) → RW G mX11_walkWord (m_I Y h0) P (d + 3) 0 0 28 [some (.ref (Y 38)), some (.int (iI p)), some (.int (iI k))] [] (V, C', J) := by
  intro zz
  induction zz using Nat.strongRecOn with
  | _ zz ih =>
    intro k C' hzz h1 h2 hc hI
    have b1 := hO.2.1
    have q6 : C' 6 = C 6 := hI.1 6 (by decide)
    have q5 : C' 6 k = C 6 k := congrFun q6 k
    have nb := hO.nght
    have q7 : k < V 7 → 0 ≤ C' 6 k ∧ C' 6 k < 256 := fun h => by rw [q6]; exact hby k h1 h
    have hO2 := wWalk_ok (b := C 6) hO hp k.toNat (fun i i0 i1 => hc i i0 (by omega))
    refine i_iload_n dX11_walkWord_28 rfl ?_
    refine i_aload_n dX11_walkWord_29 rfl ?_
    refine t_getI dX11_walkWord_30 fX11_89 (by decide) rfl ?_
    refine i_icmp_ge (tgt := 88) dX11_walkWord_33 (by decide) (by omega) (by omega) (fun c33 => ?_) (fun c33 => ?_)
    · -- jumps
      refine kk k _ h1 h2 hc ?_ hI.1 hI.2
      rintro ⟨z1, z2⟩
      unfold wCan at z2
      first | (exact absurd z1 (by omega)) | (rw [wWalk_lo (by omega) _ 983 (by omega), wWalk_lo (by omega) _ _ (by omega), q6] at c64; omega) | omega
    · -- on
      refine i_aload_n dX11_walkWord_36 rfl ?_
      refine t_getA dX11_walkWord_37 fX11_22.o rfl ?_
      refine i_iload_n dX11_walkWord_40 rfl ?_
      refine t_iald (N := 200) dX11_walkWord_41 (by decide) (by decide) rfl (by omega) rfl ?_
      refine i_bipush dX11_walkWord_42 (by decide) ?_
      refine i_sub dX11_walkWord_44 ?_
      refine t_callS (As := [_]) dX11_walkWord_45 cfX11_isStreet stX11_isStreet lX11_234 rfl rfl (Nat.le_of_ble_eq_true rfl) ?_
      refine k_isStreet (by omega) (RK.v ?_)
      refine i_ifeq_b (tgt := 88) dX11_walkWord_48 (by decide) (fun c48 => ?_) (fun c48 => ?_)
      · -- jumps
        refine kk k _ h1 h2 hc ?_ hI.1 hI.2
        rintro ⟨z1, z2⟩
        unfold wCan at z2
        first | (exact absurd z1 (by omega)) | (rw [wWalk_lo (by omega) _ 983 (by omega), wWalk_lo (by omega) _ _ (by omega), q6] at c64; omega) | omega
      · -- on
        refine i_aload_n dX11_walkWord_51 rfl ?_
        refine i_aload_n dX11_walkWord_52 rfl ?_
        refine t_getA dX11_walkWord_53 fX11_22.o rfl ?_
        refine i_iload_n dX11_walkWord_56 rfl ?_
        refine t_iald (N := 200) dX11_walkWord_57 (by decide) (by decide) rfl (by omega) rfl ?_
        refine i_bipush dX11_walkWord_58 (by decide) ?_
        refine i_sub dX11_walkWord_60 ?_
        refine t_callV (As := [_]) dX11_walkWord_61 cfX11_passes imX11_passes seX11_passes lX11_237 rfl rfl rfl (Nat.le_of_ble_eq_true rfl) ?_
        refine k_passes (w := wWalk (C 0) (C 6) p k.toNat) hI.2 (by omega) hO2 (RK.v ?_)
        refine i_ifeq_b (tgt := 88) dX11_walkWord_64 (by decide) (fun c64 => ?_) (fun c64 => ?_)
        · -- jumps
          refine kk k _ h1 h2 hc ?_ hI.1 hI.2
          rintro ⟨z1, z2⟩
          unfold wCan at z2
          first | (exact absurd z1 (by omega)) | (rw [wWalk_lo (by omega) _ 983 (by omega), wWalk_lo (by omega) _ _ (by omega), q6] at c64; omega) | omega
        · -- on
          have hcan : wCan (C 0) (C 6) k := by
            unfold wCan
            rw [wWalk_lo (by omega) _ 983 (by omega), wWalk_lo (by omega) _ _ (by omega), q6] at c64
            omega
          have q0 : 0 ≤ p ∧ p < wWalk (C 0) (C 6) p k.toNat 952 := by rw [wWalk_lo (by omega) _ _ (by omega)]; exact hp
          refine i_aload_n dX11_walkWord_67 rfl ?_
          refine i_iload_n dX11_walkWord_68 rfl ?_
          refine i_aload_n dX11_walkWord_69 rfl ?_
          refine t_getA dX11_walkWord_70 fX11_22.o rfl ?_
          refine i_iload_n dX11_walkWord_73 rfl ?_
          refine t_iald (N := 200) dX11_walkWord_74 (by decide) (by decide) rfl (by omega) rfl ?_
          refine i_bipush dX11_walkWord_75 (by decide) ?_
          refine i_sub dX11_walkWord_77 ?_
          refine t_callV (As := [_, _]) dX11_walkWord_78 cfX11_steps imX11_steps seX11_steps lX11_240 rfl rfl rfl (Nat.le_of_ble_eq_true rfl) ?_
          refine k_steps (by rw [hI.2]; exact hO2) (by rw [hI.2]; omega) (by omega) (fun C1 hC1 hg1 => RK.v ?_)
          rw [hI.2] at hg1
          refine RW.ti (y := (wWalk (C 0) (C 6) p k.toNat) (476 * (wWalk (C 0) (C 6) p k.toNat) (953 + 3 * p + 0) + (116 + 6 * (wWalk (C 0) (C 6) p k.toNat) (953 + 3 * p + 1) + (C' 6 k - 97)))) (by rw [hI.2]) ?_
          refine i_pop dX11_walkWord_81 rfl ?_
          refine i_iinc dX11_walkWord_82 rfl (L' := [some _, some _, some _]) (by decide) rfl ?_
          refine i_goto (tgt := 28) dX11_walkWord_85 (by decide) ?_
          refine ih _ ?_ (k + 1) _ rfl (by omega) (by omega) (fun i i0 i1 => ?_) ⟨sC.t2 hI.1 hC1 (by decide) (by decide), ?_⟩
          · omega
          · by_cases e : i = k
            · rw [e]; exact hcan
            · exact hc i i0 (by omega)
          · rw [hg1, wWalk_s h1, q6]
theorem k_walkWord {p : Int} (hO : wOK (C 0)) (h4 : 0 ≤ V 4 ∧ V 4 ≤ 8) (h_p : -2147483648 ≤ p ∧ p < 2147483648) (h7 : 0 ≤ V 7 ∧ V 7 ≤ 200) (hby : ∀ i, 0 ≤ i → i < V 7 → 0 ≤ C 6 i ∧ C 6 i < 256) (hp1 : ¬ (0 ≤ p ∧ p < C 0 952) → P (.inl (some (.int (iI 0)))) (vu V 12 1, C, J)) (hp0 : 0 ≤ p ∧ p < C 0 952 → ∀ k, 0 ≤ k → k ≤ V 7 → (∀ i, 0 ≤ i → i < k → wCan (C 0) (C 6) i) → ¬ (k < V 7 ∧ wCan (C 0) (C 6) k) → ∀ V' C' J', mCh V V' C C' (wWalk (C 0) (C 6) p k.toNat) 0 → P (.inl (some (.int (iI k)))) (V', C', J')) : RM G mX11_walkWord (m_I Y h0) [.ref (Y 38), .int (iI p)] (d + 3) 0 0 P (V, C, J) := by
  refine RM.of (L := [some (.ref (Y 38)), some (.int (iI p)), none]) cfX11_walkWord rfl (Nat.le_of_ble_eq_true rfl) ?_
  refine i_aload_n dX11_walkWord_0 rfl ?_
  refine i_aload_n dX11_walkWord_1 rfl ?_
  refine i_iload_n dX11_walkWord_2 rfl ?_
  refine t_callV (As := [_]) dX11_walkWord_3 cfX11_isWalker imX11_isWalker seX11_isWalker lX11_228 rfl rfl rfl (Nat.le_of_ble_eq_true rfl) ?_
  refine k_isWalker (w := C 0) rfl (by omega) hO (RK.v ?_)
  refine i_ifne_b (tgt := 13) dX11_walkWord_6 (by decide) (fun c6 => ?_) (fun c6 => ?_)
  · -- jumps
    refine i_const dX11_walkWord_13 ?_
    refine t_callV (As := [_]) dX11_walkWord_14 cfX11_throwsOne imX11_throwsOne seX11_throwsOne lX11_209 rfl rfl rfl (Nat.le_of_ble_eq_true rfl) ?_
    refine k_throwsOne (by first | exact zb_or | omega) (RK.v ?_)
    refine i_if_eq (tgt := 22) dX11_walkWord_17 (by decide) (by decide) (fun c17 => ?_) (fun c17 => by omega)
    refine i_aload_n dX11_walkWord_22 rfl ?_
    refine t_callV (As := []) dX11_walkWord_23 cfX11_begins imX11_begins seX11_begins lX11_216 rfl rfl rfl (Nat.le_of_ble_eq_true rfl) ?_
    refine k_begins (fun C1 hC1 hf1 => RK.n0 ?_)
    have hw1 : C1 0 = C 0 := hC1 0 (by decide)
    refine i_const dX11_walkWord_26 ?_
    refine i_istore_n dX11_walkWord_27 (L' := [some _, some _, some _]) (by decide) rfl ?_
    refine RW.gen (fun V2 hV2 C2 hC2 J2 hJ2 => ?_)
    have sv2 : sV [12] V V2 := by rw [hV2]; repeat' (first | exact sV.rfl | refine sV.vu ?_ (by decide))
    have v2_12 : V2 12 = 0 := by rw [hV2]; rfl
    have sc2 : sC [] (C1) C2 := by rw [hC2]; repeat' (first | exact sC.rfl | refine sC.cu ?_ (by decide))
    subst hJ2
    clear hV2 hC2
    have ow : C2 0 = C 0 := (sc2 0 (by decide)).trans hw1
    have o6 : C2 6 = C 6 := (sc2 6 (by decide)).trans (hC1 6 (by decide))
    have o7 : V2 7 = V 7 := sv2 7 (by decide)
    refine k_walk_l (by rw [ow]; exact hO) (by rw [ow]; omega) (by rw [o7]; exact h7) (by rw [o6, o7]; exact hby) (fun k3 C3 g1 g2 g3 g4 g5 g6 => ?_) _ 0 _ rfl (by omega) (by omega) (fun i i0 i1 => by omega) ⟨sC.rfl, rfl⟩
    rw [ow, o6, o7] at g4
    rw [ow, o6] at g6 g3
    rw [o7] at g2
    have h42 : 0 ≤ V2 4 ∧ V2 4 ≤ 8 := by rw [sv2 4 (by decide)]; exact h4
    refine i_aload_n dX11_walkWord_88 rfl ?_
    refine i_const dX11_walkWord_89 ?_
    refine t_put dX11_walkWord_90 fX11_89 (by decide) rfl rfl ?_
    refine i_aload_n dX11_walkWord_93 rfl ?_
    refine t_callV (As := []) dX11_walkWord_94 cfX11_remember imX11_remember seX11_remember lX11_222 rfl rfl rfl (Nat.le_of_ble_eq_true rfl) ?_
    refine k_remember (w0 := C 0) (fun j a b => (congrFun (g5 1 (by decide)) j).trans ((congrFun (sc2 1 (by decide)) j).trans (hf1 j a b))) h42 (fun V4 C4 hR4 => RK.n0 ?_)
    refine i_iload_n dX11_walkWord_97 rfl ?_
    refine i_ireturn dX11_walkWord_98 rfl rfl ?_
    refine hp0 ⟨by omega, by omega⟩ k3 g1 g2 g3 g4 _ _ _ (mCh.of hR4 hC1 (sC.t2 sc2 g5 (by decide) (by decide)) (fun j _ _ => congrFun g6 j) (sV.t2 sv2 (sV.rfl.vu (S := [7]) (by decide)) (by decide) (by decide)) rfl v2_12)
  · -- on
    refine i_const dX11_walkWord_9 ?_
    refine i_goto (tgt := 14) dX11_walkWord_10 (by decide) ?_
    refine t_callV (As := [_]) dX11_walkWord_14 cfX11_throwsOne imX11_throwsOne seX11_throwsOne lX11_209 rfl rfl rfl (Nat.le_of_ble_eq_true rfl) ?_
    refine k_throwsOne (by first | exact zb_or | omega) (RK.v ?_)
    refine i_if_eq (tgt := 22) dX11_walkWord_17 (by decide) (by decide) (fun c17 => by omega) (fun c17 => ?_)
    refine i_const dX11_walkWord_20 ?_
    refine i_ireturn dX11_walkWord_21 rfl rfl ?_
    exact hp1 (by omega)
end M15
