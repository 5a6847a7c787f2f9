/-! ===== the reference: the two patterns compared, both home, ways written ===== -/
/-- the length of the least word that leads to G; -1 -/
def zLen (nx : Int → Int → Int) (al : Int → Prop) (s0 : Int) (G : Int → Prop) (r : Int) : Prop := (∃ n, zMin nx al s0 G n ∧ r = (zln n : Int)) ∨ (zNo nx al s0 G ∧ r = -1)
theorem wFin_rg {w : Int → Int} {v e : Int} {Q : Int → Int} {A : Prop} {B : Int → Prop} (h : (v = -1 ∧ A) ∨ (0 ≤ v ∧ ∃ i, 0 ≤ i ∧ i < e ∧ v = Q i ∧ B i)) (hQ : ∀ i, 0 ≤ i → i < e → wVal w 0 1 (Q i)) : -1 ≤ v ∧ v < 3600 := by
  rcases h with ⟨q, _⟩ | ⟨q0, i, i0, i1, q, _⟩
  · omega
  · have := hQ i i0 i1
    unfold wVal at this
    omega
/-- how many pairs words reach -/
noncomputable def wCnt (w : Int → Int) : Int := zsum (fun y => zc (∃ n, zal zTr n ∧ zrun (wNx2 w 0 1) 0 n = y)) 3600
/-- a pair that tells that a pattern isn't a part of the other -/
abbrev wG2 (w : Int → Int) (s : Int) : Int → Prop := fun y => if s = 0 then wAcc w 0 (y / 60) ∧ ¬ wAcc w 1 (y % 60) else wAcc w 1 (y % 60) ∧ ¬ wAcc w 0 (y / 60)
theorem zsum_add {f g h : Int → Int} : ∀ n : Nat, (∀ j : Int, 0 ≤ j → j < n → f j + g j = h j) → zsum f n + zsum g n = zsum h n
  | 0, _ => rfl
  | n + 1, q => by
    have h1 := zsum_add n (fun j a b => q j a (by omega))
    have h2 := q n (by omega) (by omega)
    show zsum f n + f n + (zsum g n + g n) = zsum h n + h n
    omega
theorem wPr.cnt {w : Int → Int} {V : Nat → Int} {C : Nat → Int → Int} {e : Int} {cd : Int → Nat} (h : wPr w V C e e 0 cd) : e = wCnt w := by
  have h1 := h.1.2.2.2.1
  have h2 : zsum (fun y => zc (∃ n, zal zTr n ∧ zrun (wNx2 w 0 1) 0 n = y)) 3600 + zsum (fun y => zb (C 26 y = -1)) 3600 = zsum (fun _ => 1) 3600 := by
    refine zsum_add 3600 (fun y y0 y1 => ?_)
    have q := h.1.1.re y
    by_cases z : C 26 y = -1
    · rw [zb_t z, zc_f (fun p => (q.mpr p).2 z)]; rfl
    · rw [zb_f z, zc_t (q.mp ⟨⟨y0, y1⟩, z⟩)]; rfl
  rw [zsum_1 (f := fun _ => 1) 3600 (fun _ _ _ => rfl)] at h2
  have h3 : zun (C 26) 3600 = zsum (fun y => zb (C 26 y = -1)) 3600 := rfl
  rw [h3] at h1
  unfold wCnt
  omega
/-- the letters of a word, from the last -/
def zdig : Nat → Nat → Int
  | n, 0 => (((n - 1) % 6 : Nat) : Int)
  | n, m + 1 => zdig ((n - 1) / 6) m
theorem zdig_0 {n c : Nat} (h : c < 6) : zdig (6 * n + c + 1) 0 = (c : Int) := by
  show (((6 * n + c + 1 - 1) % 6 : Nat) : Int) = _
  omega
theorem zdig_s {n c m : Nat} (h : c < 6) : zdig (6 * n + c + 1) (m + 1) = zdig n m := by
  show zdig ((6 * n + c + 1 - 1) / 6) m = _
  rw [show (6 * n + c + 1 - 1) / 6 = n by omega]
/-- the report of a word -/
def zWrt (n : Nat) (r : Int → Int) : Prop := ∀ i, 0 ≤ i → i < (zln n : Int) → r i = 97 + zdig n ((zln n : Int) - 1 - i).toNat
section M24
variable {G : p_G} {Y : Nat → Nat} {h0 : p_H} {P : (Option Value) ⊕ String → m_X → Prop} {d : Nat} {V : Nat → Int} {C : Nat → Int → Int} {J : Int → Int}
theorem k_differenceLength  (hO : wOK (C 0)) (hp0 : ∀ V' C', V' 12 = 0 → sV [12, 27, 28] V V' → sC [23, 24, 25, 26] C C' → ∀ r, zLen (wNx2 (C 0) 0 1) zTr 0 (wG0 (C 0)) r → r ≤ 3600 → P (.inl (some (.int (iI r)))) (V', C', J)) : RM G mX11_differenceLength (m_I Y h0) [.ref (Y 38)] (d + 3) 0 0 P (V, C, J) := by
  refine RM.of (L := [some (.ref (Y 38))]) cfX11_differenceLength rfl (Nat.le_of_ble_eq_true rfl) ?_
  refine i_aload_n dX11_differenceLength_0 rfl ?_
  refine i_const dX11_differenceLength_1 ?_
  refine t_put dX11_differenceLength_2 fX11_95 (by decide) rfl rfl ?_
  refine i_aload_n dX11_differenceLength_5 rfl ?_
  refine t_callV (As := []) dX11_differenceLength_6 cfX11_pairs imX11_pairs seX11_pairs lX11_282 rfl rfl rfl (Nat.le_of_ble_eq_true rfl) ?_
  refine k_pairs hO (fun V1 C1 hV1 hC1 e1 cd1 hP1 h27 h28 => RK.v ?_)
  have rm := hP1.1.rm
  have v27 := wFin_rg h27 hP1.2.1
  have v28 := wFin_rg h28 hP1.2.1
  refine i_pop dX11_differenceLength_9 rfl ?_
  refine i_aload_n dX11_differenceLength_10 rfl ?_
  refine t_getI dX11_differenceLength_11 fX11_276 (by decide) rfl ?_
  refine i_const dX11_differenceLength_14 ?_
  refine i_icmp_ne (tgt := 22) dX11_differenceLength_15 (by decide) (by omega) (by omega) (fun c15 => ?_) (fun c15 => ?_)
  · -- jumps
    refine i_aload_n dX11_differenceLength_22 rfl ?_
    refine t_getA dX11_differenceLength_23 fX11_63.o rfl ?_
    refine i_aload_n dX11_differenceLength_26 rfl ?_
    refine t_getI dX11_differenceLength_27 fX11_276 (by decide) rfl ?_
    have b5 := hP1.1.2.2.2.2 (V1 27) (by omega) (by omega)
    refine t_iald (N := 3600) dX11_differenceLength_30 (by decide) (by decide) rfl (by omega) rfl ?_
    refine i_ireturn dX11_differenceLength_31 rfl rfl ?_
    obtain ⟨q0, i, i0, i1, q, q2⟩ := h27.resolve_left (fun q => by omega)
    have q3 := hP1.1.2.2.1 i i0 i1
    exact hp0 _ _ ((hV1 12 (by decide)).trans rfl) (sV.t2 (sV.rfl.vu (S := [12]) (by decide)) hV1 (by decide) (by decide)) hC1 _ (Or.inl ⟨cd1 i, q2, by rw [q]; exact q3⟩) (by omega)
  · -- on
    refine i_const dX11_differenceLength_18 ?_
    refine i_goto (tgt := 31) dX11_differenceLength_19 (by decide) ?_
    refine i_ireturn dX11_differenceLength_31 rfl rfl ?_
    exact hp0 _ _ ((hV1 12 (by decide)).trans rfl) (sV.t2 (sV.rfl.vu (S := [12]) (by decide)) hV1 (by decide) (by decide)) hC1 _ (Or.inr ⟨(h27.resolve_right (fun q => by omega)).2, rfl⟩) (by decide)
theorem k_sharedLength  (hO : wOK (C 0)) (hp0 : ∀ V' C', V' 12 = 0 → sV [12, 27, 28] V V' → sC [23, 24, 25, 26] C C' → ∀ r, zLen (wNx2 (C 0) 0 1) zTr 0 (wG1 (C 0) 0 1) r → r ≤ 3600 → P (.inl (some (.int (iI r)))) (V', C', J)) : RM G mX11_sharedLength (m_I Y h0) [.ref (Y 38)] (d + 3) 0 0 P (V, C, J) := by
  refine RM.of (L := [some (.ref (Y 38))]) cfX11_sharedLength rfl (Nat.le_of_ble_eq_true rfl) ?_
  refine i_aload_n dX11_sharedLength_0 rfl ?_
  refine i_const dX11_sharedLength_1 ?_
  refine t_put dX11_sharedLength_2 fX11_95 (by decide) rfl rfl ?_
  refine i_aload_n dX11_sharedLength_5 rfl ?_
  refine t_callV (As := []) dX11_sharedLength_6 cfX11_pairs imX11_pairs seX11_pairs lX11_282 rfl rfl rfl (Nat.le_of_ble_eq_true rfl) ?_
  refine k_pairs hO (fun V1 C1 hV1 hC1 e1 cd1 hP1 h27 h28 => RK.v ?_)
  have rm := hP1.1.rm
  have v27 := wFin_rg h27 hP1.2.1
  have v28 := wFin_rg h28 hP1.2.1
  refine i_pop dX11_sharedLength_9 rfl ?_
  refine i_aload_n dX11_sharedLength_10 rfl ?_
  refine t_getI dX11_sharedLength_11 fX11_279 (by decide) rfl ?_
  refine i_const dX11_sharedLength_14 ?_
  refine i_icmp_ne (tgt := 22) dX11_sharedLength_15 (by decide) (by omega) (by omega) (fun c15 => ?_) (fun c15 => ?_)
  · -- jumps
    refine i_aload_n dX11_sharedLength_22 rfl ?_
    refine t_getA dX11_sharedLength_23 fX11_63.o rfl ?_
    refine i_aload_n dX11_sharedLength_26 rfl ?_
    refine t_getI dX11_sharedLength_27 fX11_279 (by decide) rfl ?_
    have b5 := hP1.1.2.2.2.2 (V1 28) (by omega) (by omega)
    refine t_iald (N := 3600) dX11_sharedLength_30 (by decide) (by decide) rfl (by omega) rfl ?_
    refine i_ireturn dX11_sharedLength_31 rfl rfl ?_
    obtain ⟨q0, i, i0, i1, q, q2⟩ := h28.resolve_left (fun q => by omega)
    have q3 := hP1.1.2.2.1 i i0 i1
    exact hp0 _ _ ((hV1 12 (by decide)).trans rfl) (sV.t2 (sV.rfl.vu (S := [12]) (by decide)) hV1 (by decide) (by decide)) hC1 _ (Or.inl ⟨cd1 i, q2, by rw [q]; exact q3⟩) (by omega)
  · -- on
    refine i_const dX11_sharedLength_18 ?_
    refine i_goto (tgt := 31) dX11_sharedLength_19 (by decide) ?_
    refine i_ireturn dX11_sharedLength_31 rfl rfl ?_
    exact hp0 _ _ ((hV1 12 (by decide)).trans rfl) (sV.t2 (sV.rfl.vu (S := [12]) (by decide)) hV1 (by decide) (by decide)) hC1 _ (Or.inr ⟨(h28.resolve_right (fun q => by omega)).2, rfl⟩) (by decide)
theorem k_reachablePairs  (hO : wOK (C 0)) (hp0 : ∀ V' C', V' 12 = 0 → sV [12, 27, 28] V V' → sC [23, 24, 25, 26] C C' → P (.inl (some (.int (iI (wCnt (C 0)))))) (V', C', J)) : RM G mX11_reachablePairs (m_I Y h0) [.ref (Y 38)] (d + 3) 0 0 P (V, C, J) := by
  refine RM.of (L := [some (.ref (Y 38))]) cfX11_reachablePairs rfl (Nat.le_of_ble_eq_true rfl) ?_
  refine i_aload_n dX11_reachablePairs_0 rfl ?_
  refine i_const dX11_reachablePairs_1 ?_
  refine t_put dX11_reachablePairs_2 fX11_95 (by decide) rfl rfl ?_
  refine i_aload_n dX11_reachablePairs_5 rfl ?_
  refine t_callV (As := []) dX11_reachablePairs_6 cfX11_pairs imX11_pairs seX11_pairs lX11_282 rfl rfl rfl (Nat.le_of_ble_eq_true rfl) ?_
  refine k_pairs hO (fun V1 C1 hV1 hC1 e1 cd1 hP1 h27 h28 => RK.v ?_)
  have rm := hP1.1.rm
  have v27 := wFin_rg h27 hP1.2.1
  have v28 := wFin_rg h28 hP1.2.1
  refine i_ireturn dX11_reachablePairs_9 rfl rfl ?_
  have q := hP1.cnt
  rw [q]
  exact hp0 _ _ ((hV1 12 (by decide)).trans rfl) (sV.t2 (sV.rfl.vu (S := [12]) (by decide)) hV1 (by decide) (by decide)) hC1
theorem k_su_l {s e : Int} {w : Int → Int} {cd : Int → Nat} {seen : Int → Prop} (hw : C 0 = w) (hO : wOK w) (hs : s = 0 ∨ s = 1) (he : e ≤ 3600) (hB : zBfs (wNx2 w 0 1) zTr 0 (C 23) e e 0 cd seen) (hV : ∀ i, 0 ≤ i → i < e → wVal w 0 1 (C 23 i)) (hp : P (.inl (some (.int (iI (zc (zNo (wNx2 w 0 1) zTr 0 (wG2 w s)))))))  (V, C, J)) : ∀ (zz : Nat) (k : Int), zz = (e - k).toNat → (0 ≤ k) → (k ≤ e) → (∀ i, 0 ≤ i → i < k → ¬ (wG2 w s) (C 23 i)) → RW G mX11_isSubset (m_I Y h0) P (d + 2) 0 0 28 [some (.ref (Y 38)), some (.int (iI s)), some (.int (iI e)), some (.int (iI k)), none, none] [] (V, C, J) := by
  intro zz
  induction zz using Nat.strongRecOn with
  | _ zz ih =>
    intro k hzz h1 h2 hI
    have m0 := hO.sts (s := 0) (by decide)
    have m1 := hO.sts (s := 1) (by decide)
    refine i_iload_n dX11_isSubset_28 rfl ?_
    refine i_iload_n dX11_isSubset_29 rfl ?_
    refine i_icmp_ge (tgt := 100) dX11_isSubset_30 (by decide) (by omega) (by omega) (fun c30 => ?_) (fun c30 => ?_)
    · -- jumps
      refine i_const dX11_isSubset_100 ?_
      refine i_ireturn dX11_isSubset_101 rfl rfl ?_
      obtain rfl : k = e := by omega
      rw [zc_t (hB.no hI)] at hp; exact hp
    · -- on
      have b4 := hV k h1 (by omega)
      unfold wVal at b4
      refine i_aload_n dX11_isSubset_33 rfl ?_
      refine i_const dX11_isSubset_34 ?_
      refine i_aload_n dX11_isSubset_35 rfl ?_
      refine t_getA dX11_isSubset_36 fX11_54.o rfl ?_
      refine i_iload_n dX11_isSubset_39 rfl ?_
      refine t_iald (N := 3600) dX11_isSubset_40 (by decide) (by decide) rfl (by omega) rfl ?_
      refine i_bipush dX11_isSubset_41 (by decide) ?_
      refine i_div dX11_isSubset_43 (by omega) (by omega) ?_
      refine t_callV (As := [_, _]) dX11_isSubset_44 cfX11_accepts imX11_accepts seX11_accepts lX11_257 rfl rfl rfl (Nat.le_of_ble_eq_true rfl) ?_
      refine k_accepts (w := w) hw (by omega) (by omega) (hO.1 _ (by omega)) (RK.v ?_)
      refine i_istore dX11_isSubset_47 (L' := [some _, some _, some _, some _, some _, none]) (by decide) rfl ?_
      refine i_aload_n dX11_isSubset_49 rfl ?_
      refine i_const dX11_isSubset_50 ?_
      refine i_aload_n dX11_isSubset_51 rfl ?_
      refine t_getA dX11_isSubset_52 fX11_54.o rfl ?_
      refine i_iload_n dX11_isSubset_55 rfl ?_
      refine t_iald (N := 3600) dX11_isSubset_56 (by decide) (by decide) rfl (by omega) rfl ?_
      refine i_bipush dX11_isSubset_57 (by decide) ?_
      refine i_rem dX11_isSubset_59 (by omega) (by omega) ?_
      refine t_callV (As := [_, _]) dX11_isSubset_60 cfX11_accepts imX11_accepts seX11_accepts lX11_257 rfl rfl rfl (Nat.le_of_ble_eq_true rfl) ?_
      refine k_accepts (w := w) hw (by omega) (by omega) (hO.1 _ (by omega)) (RK.v ?_)
      refine i_istore dX11_isSubset_63 (L' := [some _, some _, some _, some _, some _, some _]) (by decide) rfl ?_
      refine i_iload_n dX11_isSubset_65 rfl ?_
      refine i_if_ne (tgt := 82) dX11_isSubset_66 (by decide) (by omega) (fun c66 => ?_) (fun c66 => ?_)
      · -- jumps
        refine i_iload dX11_isSubset_82 rfl ?_
        refine i_ifeq_b (tgt := 94) dX11_isSubset_84 (by decide) (fun c84 => ?_) (fun c84 => ?_)
        · -- jumps
          refine i_iinc dX11_isSubset_94 rfl (L' := [some _, some _, some _, some _, some _, some _]) (by decide) rfl ?_
          refine i_goto (tgt := 28) dX11_isSubset_97 (by decide) ?_
          refine RW.wk (L' := [some _, some _, some _, some _, none, none]) (p_subL.at (by repeat (first | exact subL_nil | refine subL_s ?_ | refine subL_n ?_))) ?_
          refine ih _ ?_ (k + 1) rfl (by omega) (by omega) (fun i i0 i1 => ?_)
          · omega
          by_cases z : i = k
          · rw [z]; show ¬ (if s = 0 then _ else _); first | (rw [if_pos (by assumption)]; rintro ⟨z1, z2⟩; contradiction) | (rw [if_neg (by assumption)]; rintro ⟨z1, z2⟩; contradiction)
          · exact hI i i0 (by omega)
        · -- on
          refine i_iload dX11_isSubset_87 rfl ?_
          refine i_ifne_b (tgt := 94) dX11_isSubset_89 (by decide) (fun c89 => ?_) (fun c89 => ?_)
          · -- jumps
            refine i_iinc dX11_isSubset_94 rfl (L' := [some _, some _, some _, some _, some _, some _]) (by decide) rfl ?_
            refine i_goto (tgt := 28) dX11_isSubset_97 (by decide) ?_
            refine RW.wk (L' := [some _, some _, some _, some _, none, none]) (p_subL.at (by repeat (first | exact subL_nil | refine subL_s ?_ | refine subL_n ?_))) ?_
            refine ih _ ?_ (k + 1) rfl (by omega) (by omega) (fun i i0 i1 => ?_)
            · omega
            by_cases z : i = k
            · rw [z]; show ¬ (if s = 0 then _ else _); first | (rw [if_pos (by assumption)]; rintro ⟨z1, z2⟩; contradiction) | (rw [if_neg (by assumption)]; rintro ⟨z1, z2⟩; contradiction)
            · exact hI i i0 (by omega)
          · -- on
            refine i_const dX11_isSubset_92 ?_
            refine i_ireturn dX11_isSubset_93 rfl rfl ?_
            rw [zc_f (fun y => y (cd k) (hB.2.2.1 k h1 (by omega)).2 (by rw [(hB.2.2.1 k h1 (by omega)).1]; show (if s = 0 then _ else _); first | (rw [if_pos (by assumption)]; constructor <;> assumption) | (rw [if_neg (by assumption)]; constructor <;> assumption)))] at hp; exact hp
      · -- on
        refine i_iload dX11_isSubset_69 rfl ?_
        refine i_ifeq_b (tgt := 94) dX11_isSubset_71 (by decide) (fun c71 => ?_) (fun c71 => ?_)
        · -- jumps
          refine i_iinc dX11_isSubset_94 rfl (L' := [some _, some _, some _, some _, some _, some _]) (by decide) rfl ?_
          refine i_goto (tgt := 28) dX11_isSubset_97 (by decide) ?_
          refine RW.wk (L' := [some _, some _, some _, some _, none, none]) (p_subL.at (by repeat (first | exact subL_nil | refine subL_s ?_ | refine subL_n ?_))) ?_
          refine ih _ ?_ (k + 1) rfl (by omega) (by omega) (fun i i0 i1 => ?_)
          · omega
          by_cases z : i = k
          · rw [z]; show ¬ (if s = 0 then _ else _); first | (rw [if_pos (by assumption)]; rintro ⟨z1, z2⟩; contradiction) | (rw [if_neg (by assumption)]; rintro ⟨z1, z2⟩; contradiction)
          · exact hI i i0 (by omega)
        · -- on
          refine i_iload dX11_isSubset_74 rfl ?_
          refine i_ifne_b (tgt := 94) dX11_isSubset_76 (by decide) (fun c76 => ?_) (fun c76 => ?_)
          · -- jumps
            refine i_iinc dX11_isSubset_94 rfl (L' := [some _, some _, some _, some _, some _, some _]) (by decide) rfl ?_
            refine i_goto (tgt := 28) dX11_isSubset_97 (by decide) ?_
            refine RW.wk (L' := [some _, some _, some _, some _, none, none]) (p_subL.at (by repeat (first | exact subL_nil | refine subL_s ?_ | refine subL_n ?_))) ?_
            refine ih _ ?_ (k + 1) rfl (by omega) (by omega) (fun i i0 i1 => ?_)
            · omega
            by_cases z : i = k
            · rw [z]; show ¬ (if s = 0 then _ else _); first | (rw [if_pos (by assumption)]; rintro ⟨z1, z2⟩; contradiction) | (rw [if_neg (by assumption)]; rintro ⟨z1, z2⟩; contradiction)
            · exact hI i i0 (by omega)
          · -- on
            refine i_goto (tgt := 92) dX11_isSubset_79 (by decide) ?_
            refine i_const dX11_isSubset_92 ?_
            refine i_ireturn dX11_isSubset_93 rfl rfl ?_
            rw [zc_f (fun y => y (cd k) (hB.2.2.1 k h1 (by omega)).2 (by rw [(hB.2.2.1 k h1 (by omega)).1]; show (if s = 0 then _ else _); first | (rw [if_pos (by assumption)]; constructor <;> assumption) | (rw [if_neg (by assumption)]; constructor <;> assumption)))] at hp; exact hp
theorem k_isSubset {s : Int} (hO : wOK (C 0)) (h_s : -2147483648 ≤ s ∧ s < 2147483648) (hp1 : ¬ (s = 0 ∨ s = 1) → P (.inl (some (.int (iI 0)))) (vu V 12 1, C, J)) (hp0 : s = 0 ∨ s = 1 → ∀ V' C', V' 12 = 0 → sV [12, 27, 28] V V' → sC [23, 24, 25, 26] C C' → P (.inl (some (.int (iI (zc (zNo (wNx2 (C 0) 0 1) zTr 0 (wG2 (C 0) s))))))) (V', C', J)) : RM G mX11_isSubset (m_I Y h0) [.ref (Y 38), .int (iI s)] (d + 3) 0 0 P (V, C, J) := by
  refine RM.of (L := [some (.ref (Y 38)), some (.int (iI s)), none, none, none, none]) cfX11_isSubset rfl (Nat.le_of_ble_eq_true rfl) ?_
  refine i_aload_n dX11_isSubset_0 rfl ?_
  refine i_iload_n dX11_isSubset_1 rfl ?_
  refine t_callS (As := [_]) dX11_isSubset_2 cfX11_isSlot stX11_isSlot lX11_112 rfl rfl (Nat.le_of_ble_eq_true rfl) ?_
  refine k_isSlot (by omega) (RK.v ?_)
  refine i_ifne_b (tgt := 12) dX11_isSubset_5 (by decide) (fun c5 => ?_) (fun c5 => ?_)
  · -- jumps
    refine i_const dX11_isSubset_12 ?_
    refine t_callV (As := [_]) dX11_isSubset_13 cfX11_throwsOne imX11_throwsOne seX11_throwsOne lX11_209 rfl rfl rfl (Nat.le_of_ble_eq_true rfl) ?_
    refine k_throwsOne (by first | exact zb_or | omega) (RK.v ?_)
    refine i_if_eq (tgt := 21) dX11_isSubset_16 (by decide) (by decide) (fun c16 => ?_) (fun c16 => by omega)
    refine i_aload_n dX11_isSubset_21 rfl ?_
    refine t_callV (As := []) dX11_isSubset_22 cfX11_pairs imX11_pairs seX11_pairs lX11_282 rfl rfl rfl (Nat.le_of_ble_eq_true rfl) ?_
    refine k_pairs hO (fun V1 C1 hV1 hC1 e1 cd1 hP1 h27 h28 => RK.v ?_)
    have rm := hP1.1.rm
    have v27 := wFin_rg h27 hP1.2.1
    have v28 := wFin_rg h28 hP1.2.1
    refine i_istore_n dX11_isSubset_25 (L' := [some _, some _, some _, none, none, none]) (by decide) rfl ?_
    refine i_const dX11_isSubset_26 ?_
    refine i_istore_n dX11_isSubset_27 (L' := [some _, some _, some _, some _, none, none]) (by decide) rfl ?_
    exact k_su_l (w := C 0) (hC1 0 (by decide)) hO (by omega) (by omega) hP1.1.1 hP1.2.1 (hp0 (by omega) _ _ ((hV1 12 (by decide)).trans rfl) (sV.t2 (sV.rfl.vu (S := [12]) (by decide)) hV1 (by decide) (by decide)) hC1) _ 0 rfl (by omega) (by omega) (fun i i0 i1 => by omega)
  · -- on
    refine i_const dX11_isSubset_8 ?_
    refine i_goto (tgt := 13) dX11_isSubset_9 (by decide) ?_
    refine t_callV (As := [_]) dX11_isSubset_13 cfX11_throwsOne imX11_throwsOne seX11_throwsOne lX11_209 rfl rfl rfl (Nat.le_of_ble_eq_true rfl) ?_
    refine k_throwsOne (by first | exact zb_or | omega) (RK.v ?_)
    refine i_if_eq (tgt := 21) dX11_isSubset_16 (by decide) (by decide) (fun c16 => by omega) (fun c16 => ?_)
    refine i_const dX11_isSubset_19 ?_
    refine i_ireturn dX11_isSubset_20 rfl rfl ?_
    exact hp1 (by omega)
end M24
