/-! ===== the class: the search ===== -/
theorem i_tableIn {σ : Type} {G : p_G} {M : p_M} {I : σ → p_H → Prop} {P : (Option Value) ⊕ String → σ → Prop} {d k n pc : Nat} {L : p_LL} {st : List Value} {X : σ} {dflt lo hi : Int} {offs : Array Int} {len : Nat} {x : Int32} {off : Int} {tgt : Nat} (hd : decode M.2.1 pc = .ok (.tableswitch dflt lo hi offs, len)) (h1 : ¬ x.toInt < lo) (h2 : ¬ hi < x.toInt) (ho : offs[(x.toInt - lo).toNat]? = some off) (ht : (pc : Int) + off = (tgt : Int)) (kk : RW G M I P d k n tgt L st X) : RW G M I P d k n pc L (.int x :: st) X := RW.up (fun kk => r_tableIn hd h1 h2 ho ht kk) kk
theorem i_tableOut {σ : Type} {G : p_G} {M : p_M} {I : σ → p_H → Prop} {P : (Option Value) ⊕ String → σ → Prop} {d k n pc : Nat} {L : p_LL} {st : List Value} {X : σ} {dflt lo hi : Int} {offs : Array Int} {len : Nat} {x : Int32} {tgt : Nat} (hd : decode M.2.1 pc = .ok (.tableswitch dflt lo hi offs, len)) (h0 : x.toInt < lo ∨ hi < x.toInt) (ht : (pc : Int) + dflt = (tgt : Int)) (kk : RW G M I P d k n tgt L st X) : RW G M I P d k n pc L (.int x :: st) X := RW.up (fun kk => r_tableOut hd h0 ht kk) kk
theorem u_gen {G : p_G} {M : p_M} {I : c_X → p_H → Prop} {P : (Option Value) ⊕ String → c_X → Prop} {d k n pc : Nat} {L : p_LL} {st : List Value} {V : Nat → Int} {C : Nat → Int → Int} {J : c_J} (kk : ∀ V1, V1 = V → ∀ C1, C1 = C → RW G M I P d k n pc L st (V1, C1, J)) : RW G M I P d k n pc L st (V, C, J) := kk V rfl C rfl
/-- what a search looks for -/
def zGl (g : Int) (A B : Prop) : Prop := (g = 0 ∧ A ∧ B) ∨ (g = 1 ∧ ¬ (A ↔ B)) ∨ (g = 2 ∧ A ∧ ¬ B)
section C44
variable {G : p_G} {Y : Nat → Nat} {h0 : p_H} {P : (Option Value) ⊕ String → c_X → Prop} {d : Nat} {V : Nat → Int} {C : Nat → Int → Int} {J : c_J}
theorem q_meets0 {σ : Type} {I : σ → p_H → Prop} {P : (Option Value) ⊕ String → σ → Prop} {X : σ} {A B : Prop} [Decidable A] [Decidable B] (hp : P (.inl (some (.int (iI (zc (zGl 0 A B)))))) X) : RM G mX3_meets I [.int (iI 0), .int (iI (zb A)), .int (iI (zb B))] d 0 0 P X := by
  refine RM.of (L := [some (.int (iI 0)), some (.int (iI (zb A))), some (.int (iI (zb B)))]) cfX3_meets rfl (Nat.le_of_ble_eq_true rfl) ?_
  refine i_iload_n dX3_meets_0 rfl ?_
  refine i_tableIn (tgt := 28) (off := 27) dX3_meets_1 (by decide) (by decide) (by decide) (by decide) ?_
  refine i_iload_n dX3_meets_28 rfl ?_
  refine i_ifeq_b (tgt := 40) dX3_meets_29 (by decide) (fun c29 => ?_) (fun c29 => ?_)
  · -- jumps
    refine i_const dX3_meets_40 ?_
    refine i_ireturn dX3_meets_41 rfl rfl ?_
    have hq := hp
    by_cases hA : A <;> by_cases hB : B <;> first | contradiction | exact absurd (iff_of_true hA hB) (by assumption) | exact absurd (iff_of_false hA hB) (by assumption) | exact absurd ((by assumption : A ↔ B).mp hA) hB | exact absurd ((by assumption : A ↔ B).mpr hB) hA | (rw [zc_t (by simp [zGl, hA, hB])] at hq; exact hq) | (rw [zc_f (by simp [zGl, hA, hB])] at hq; exact hq)
  · -- on
    refine i_iload_n dX3_meets_32 rfl ?_
    refine i_ifeq_b (tgt := 40) dX3_meets_33 (by decide) (fun c33 => ?_) (fun c33 => ?_)
    · -- jumps
      refine i_const dX3_meets_40 ?_
      refine i_ireturn dX3_meets_41 rfl rfl ?_
      have hq := hp
      by_cases hA : A <;> by_cases hB : B <;> first | contradiction | exact absurd (iff_of_true hA hB) (by assumption) | exact absurd (iff_of_false hA hB) (by assumption) | exact absurd ((by assumption : A ↔ B).mp hA) hB | exact absurd ((by assumption : A ↔ B).mpr hB) hA | (rw [zc_t (by simp [zGl, hA, hB])] at hq; exact hq) | (rw [zc_f (by simp [zGl, hA, hB])] at hq; exact hq)
    · -- on
      refine i_const dX3_meets_36 ?_
      refine i_goto (tgt := 41) dX3_meets_37 (by decide) ?_
      refine i_ireturn dX3_meets_41 rfl rfl ?_
      have hq := hp
      by_cases hA : A <;> by_cases hB : B <;> first | contradiction | exact absurd (iff_of_true hA hB) (by assumption) | exact absurd (iff_of_false hA hB) (by assumption) | exact absurd ((by assumption : A ↔ B).mp hA) hB | exact absurd ((by assumption : A ↔ B).mpr hB) hA | (rw [zc_t (by simp [zGl, hA, hB])] at hq; exact hq) | (rw [zc_f (by simp [zGl, hA, hB])] at hq; exact hq)
theorem q_meets1 {σ : Type} {I : σ → p_H → Prop} {P : (Option Value) ⊕ String → σ → Prop} {X : σ} {A B : Prop} [Decidable A] [Decidable B] (hp : P (.inl (some (.int (iI (zc (zGl 1 A B)))))) X) : RM G mX3_meets I [.int (iI 1), .int (iI (zb A)), .int (iI (zb B))] d 0 0 P X := by
  refine RM.of (L := [some (.int (iI 1)), some (.int (iI (zb A))), some (.int (iI (zb B)))]) cfX3_meets rfl (Nat.le_of_ble_eq_true rfl) ?_
  refine i_iload_n dX3_meets_0 rfl ?_
  refine i_tableIn (tgt := 42) (off := 41) dX3_meets_1 (by decide) (by decide) (by decide) (by decide) ?_
  refine i_iload_n dX3_meets_42 rfl ?_
  refine i_iload_n dX3_meets_43 rfl ?_
  refine i_icmp_eq_bb (tgt := 51) dX3_meets_44 (by decide) (fun c44 => ?_) (fun c44 => ?_)
  · -- jumps
    refine i_const dX3_meets_51 ?_
    refine i_ireturn dX3_meets_52 rfl rfl ?_
    have hq := hp
    by_cases hA : A <;> by_cases hB : B <;> first | contradiction | exact absurd (iff_of_true hA hB) (by assumption) | exact absurd (iff_of_false hA hB) (by assumption) | exact absurd ((by assumption : A ↔ B).mp hA) hB | exact absurd ((by assumption : A ↔ B).mpr hB) hA | (rw [zc_t (by simp [zGl, hA, hB])] at hq; exact hq) | (rw [zc_f (by simp [zGl, hA, hB])] at hq; exact hq)
  · -- on
    refine i_const dX3_meets_47 ?_
    refine i_goto (tgt := 52) dX3_meets_48 (by decide) ?_
    refine i_ireturn dX3_meets_52 rfl rfl ?_
    have hq := hp
    by_cases hA : A <;> by_cases hB : B <;> first | contradiction | exact absurd (iff_of_true hA hB) (by assumption) | exact absurd (iff_of_false hA hB) (by assumption) | exact absurd ((by assumption : A ↔ B).mp hA) hB | exact absurd ((by assumption : A ↔ B).mpr hB) hA | (rw [zc_t (by simp [zGl, hA, hB])] at hq; exact hq) | (rw [zc_f (by simp [zGl, hA, hB])] at hq; exact hq)
theorem q_meets2 {σ : Type} {I : σ → p_H → Prop} {P : (Option Value) ⊕ String → σ → Prop} {X : σ} {A B : Prop} [Decidable A] [Decidable B] (hp : P (.inl (some (.int (iI (zc (zGl 2 A B)))))) X) : RM G mX3_meets I [.int (iI 2), .int (iI (zb A)), .int (iI (zb B))] d 0 0 P X := by
  refine RM.of (L := [some (.int (iI 2)), some (.int (iI (zb A))), some (.int (iI (zb B)))]) cfX3_meets rfl (Nat.le_of_ble_eq_true rfl) ?_
  refine i_iload_n dX3_meets_0 rfl ?_
  refine i_tableIn (tgt := 53) (off := 52) dX3_meets_1 (by decide) (by decide) (by decide) (by decide) ?_
  refine i_iload_n dX3_meets_53 rfl ?_
  refine i_ifeq_b (tgt := 65) dX3_meets_54 (by decide) (fun c54 => ?_) (fun c54 => ?_)
  · -- jumps
    refine i_const dX3_meets_65 ?_
    refine i_ireturn dX3_meets_66 rfl rfl ?_
    have hq := hp
    by_cases hA : A <;> by_cases hB : B <;> first | contradiction | exact absurd (iff_of_true hA hB) (by assumption) | exact absurd (iff_of_false hA hB) (by assumption) | exact absurd ((by assumption : A ↔ B).mp hA) hB | exact absurd ((by assumption : A ↔ B).mpr hB) hA | (rw [zc_t (by simp [zGl, hA, hB])] at hq; exact hq) | (rw [zc_f (by simp [zGl, hA, hB])] at hq; exact hq)
  · -- on
    refine i_iload_n dX3_meets_57 rfl ?_
    refine i_ifne_b (tgt := 65) dX3_meets_58 (by decide) (fun c58 => ?_) (fun c58 => ?_)
    · -- jumps
      refine i_const dX3_meets_65 ?_
      refine i_ireturn dX3_meets_66 rfl rfl ?_
      have hq := hp
      by_cases hA : A <;> by_cases hB : B <;> first | contradiction | exact absurd (iff_of_true hA hB) (by assumption) | exact absurd (iff_of_false hA hB) (by assumption) | exact absurd ((by assumption : A ↔ B).mp hA) hB | exact absurd ((by assumption : A ↔ B).mpr hB) hA | (rw [zc_t (by simp [zGl, hA, hB])] at hq; exact hq) | (rw [zc_f (by simp [zGl, hA, hB])] at hq; exact hq)
    · -- on
      refine i_const dX3_meets_61 ?_
      refine i_goto (tgt := 66) dX3_meets_62 (by decide) ?_
      refine i_ireturn dX3_meets_66 rfl rfl ?_
      have hq := hp
      by_cases hA : A <;> by_cases hB : B <;> first | contradiction | exact absurd (iff_of_true hA hB) (by assumption) | exact absurd (iff_of_false hA hB) (by assumption) | exact absurd ((by assumption : A ↔ B).mp hA) hB | exact absurd ((by assumption : A ↔ B).mpr hB) hA | (rw [zc_t (by simp [zGl, hA, hB])] at hq; exact hq) | (rw [zc_f (by simp [zGl, hA, hB])] at hq; exact hq)
theorem q_meets3 {σ : Type} {I : σ → p_H → Prop} {P : (Option Value) ⊕ String → σ → Prop} {X : σ} {A B : Prop} [Decidable A] [Decidable B] (hp : P (.inl (some (.int (iI (zc (zGl 3 A B)))))) X) : RM G mX3_meets I [.int (iI 3), .int (iI (zb A)), .int (iI (zb B))] d 0 0 P X := by
  refine RM.of (L := [some (.int (iI 3)), some (.int (iI (zb A))), some (.int (iI (zb B)))]) cfX3_meets rfl (Nat.le_of_ble_eq_true rfl) ?_
  refine i_iload_n dX3_meets_0 rfl ?_
  refine i_tableOut (tgt := 67) dX3_meets_1 (by decide) (by decide) ?_
  refine i_const dX3_meets_67 ?_
  refine i_ireturn dX3_meets_68 rfl rfl ?_
  have hq := hp
  by_cases hA : A <;> by_cases hB : B <;> first | contradiction | exact absurd (iff_of_true hA hB) (by assumption) | exact absurd (iff_of_false hA hB) (by assumption) | exact absurd ((by assumption : A ↔ B).mp hA) hB | exact absurd ((by assumption : A ↔ B).mpr hB) hA | (rw [zc_t (by simp [zGl, hA, hB])] at hq; exact hq) | (rw [zc_f (by simp [zGl, hA, hB])] at hq; exact hq)
theorem q_meets {σ : Type} {I : σ → p_H → Prop} {P : (Option Value) ⊕ String → σ → Prop} {X : σ} {A B : Prop} [Decidable A] [Decidable B] {g : Int} (hg : g = 0 ∨ g = 1 ∨ g = 2 ∨ g = 3) (hp : P (.inl (some (.int (iI (zc (zGl g A B)))))) X) : RM G mX3_meets I [.int (iI g), .int (iI (zb A)), .int (iI (zb B))] d 0 0 P X := by
  rcases hg with rfl | rfl | rfl | rfl
  · exact q_meets0 hp
  · exact q_meets1 hp
  · exact q_meets2 hp
  · exact q_meets3 hp
theorem q_pairOf {σ : Type} {I : σ → p_H → Prop} {P : (Option Value) ⊕ String → σ → Prop} {X : σ} {l r : Int} (hp : P (.inl (some (.int (iI (l * 60 + r))))) X) : RM G mX10_pairOf I [.int (iI l), .int (iI r)] d 0 0 P X := by
  refine RM.of (L := [some (.int (iI l)), some (.int (iI r))]) cfX10_pairOf rfl (Nat.le_of_ble_eq_true rfl) ?_
  refine i_iload_n dX10_pairOf_0 rfl ?_
  refine i_bipush dX10_pairOf_1 (by decide) ?_
  refine i_mul dX10_pairOf_3 ?_
  refine i_iload_n dX10_pairOf_4 rfl ?_
  refine i_add dX10_pairOf_5 ?_
  refine i_ireturn dX10_pairOf_6 rfl rfl ?_
  exact hp
theorem q_stepsTo {nx : Int → Int → Int} {al : Int → Prop} {s0 k c f : Int} {cd : Int → Nat} (h : cSr V C nx al s0 k c cd) (hf : f = -1 ∨ (0 ≤ f ∧ f < V 12)) (hp0 : f = -1 → P (.inl (some (.int (iI (-1))))) (V, C, J)) (hp1 : (0 ≤ f ∧ f < V 12) → P (.inl (some (.int (iI ((zln (cd f) : Int)))))) (V, C, J)) : RM G mX3_stepsTo (c_I Y h0) [.ref (Y 11), .int (iI f)] (d + 2) 0 0 P (V, C, J) := by
  refine RM.of (L := [some (.ref (Y 11)), some (.int (iI f)), none, none, none]) cfX3_stepsTo rfl (Nat.le_of_ble_eq_true rfl) ?_
  refine i_const dX3_stepsTo_0 ?_
  refine i_istore_n dX3_stepsTo_1 (L' := [some _, some _, some _, none, none]) (by decide) rfl ?_
  refine i_iload_n dX3_stepsTo_2 rfl ?_
  refine i_istore_n dX3_stepsTo_3 (L' := [some _, some _, some _, some _, none]) (by decide) rfl ?_
  refine i_const dX3_stepsTo_4 ?_
  refine i_istore dX3_stepsTo_5 (L' := [some _, some _, some _, some _, some _]) (by decide) rfl ?_
  refine RW.wk (L' := [some _, none, some _, some _, some _]) (p_subL.at (by repeat (first | exact subL_nil | refine subL_s ?_ | refine subL_n ?_))) ?_
  rcases hf with hf | hf
  · exact q_steps_l h (hp0 hf) _ 0 (-1) f rfl (by omega) (Or.inr ⟨hf, rfl⟩)
  · have hle := h.le
    exact q_steps_l h (hp1 hf) _ 0 (-1) f rfl (by omega) (Or.inl ⟨hf, by omega⟩)
variable {w : Int → Int} {a1 a2 : Nat} {p1 p2 : c_P} {t1 t2 op g s0 : Int}
theorem q_find_l2 {k l r : Int} (hp1 : J.2.2 a1 = some p1) (hr1 : cPt p1 w t1) (hp2 : J.2.2 a2 = some p2) (hr2 : cPt p2 w t2) (hO1 : wP w t1) (hO2 : wP w t2) (hX1 : wX w t1) (hX2 : wX w t2) (hop : 0 ≤ op ∧ op < 64) (hg : g = 0 ∨ g = 1 ∨ g = 2 ∨ g = 3) (kk : ∀ V' C' cd, sV [12] V V' → sC [12, 13, 14, 15] C C' → k < V' 12 → cSr V' C' (wNx2 w t1 t2) (fun c => zt op c) s0 k 6 cd → (∀ i, 0 ≤ i → i < k + 1 → ¬ (fun y => zGl g (wAcc w t1 (y / 60)) (wAcc w t2 (y % 60))) (C' 13 i)) → (∀ i, 0 ≤ i → i < V' 12 → C' 13 i / 60 < w (476 * t1 + 5) ∧ C' 13 i % 60 < w (476 * t2 + 5)) → RW G mX3_find (c_I Y h0) P (d + 2) 0 0 130 [some (.ref (Y 11)), some (.ref a1), some (.ref a2), none, some (.int (iI op)), some (.int (iI g)), some (.int (iI k)), none, none, none, none] [] (V', C', J)) : ∀ (zz : Nat) (c : Int) (V' : Nat → Int) (C' : Nat → Int → Int) (cd : Int → Nat), zz = (6 - c).toNat → (0 ≤ c ∧ c ≤ 6) → (sV [12] V V') → (sC [12, 13, 14, 15] C C') → (k < V' 12) → (cSr V' C' (wNx2 w t1 t2) (fun c => zt op c) s0 k c cd) → (∀ i, 0 ≤ i → i < k + 1 → ¬ (fun y => zGl g (wAcc w t1 (y / 60)) (wAcc w t2 (y % 60))) (C' 13 i)) → (∀ i, 0 ≤ i → i < V' 12 → C' 13 i / 60 < w (476 * t1 + 5) ∧ C' 13 i % 60 < w (476 * t2 + 5)) → (C' 13 k / 60 = l ∧ C' 13 k % 60 = r) → RW G mX3_find (c_I Y h0) P (d + 2) 0 0 80 [some (.ref (Y 11)), some (.ref a1), some (.ref a2), none, some (.int (iI op)), some (.int (iI g)), some (.int (iI k)), none, some (.int (iI l)), some (.int (iI r)), some (.int (iI c))] [] (V', C', J) := by
  intro zz
  induction zz using Nat.strongRecOn with
  | _ zz ih =>
    intro c V' C' cd hzz h1 hV hC hv hS hn hvl hlr
    have hle := hS.le
    have r13 := hS.2.2.1 k (by have := hS.1.1; omega) hv
    have v13 := hvl k (by have := hS.1.1; omega) hv
    have o1 := hO1.2.2.2.1
    have o2 := hO2.2.2.2.1
    have k0 := hS.1.1
    refine i_iload dX3_find_80 rfl ?_
    refine i_bipush dX3_find_82 (by decide) ?_
    refine i_icmp_ge (tgt := 130) dX3_find_84 (by decide) (by omega) (by omega) (fun c84 => ?_) (fun c84 => ?_)
    · -- jumps
      refine RW.wk (L' := [some _, some _, some _, none, some _, some _, some _, none, none, none, none]) (p_subL.at (by repeat (first | exact subL_nil | refine subL_s ?_ | refine subL_n ?_))) ?_
      obtain rfl : c = 6 := by omega
      exact kk _ _ cd hV hC hv hS hn hvl
    · -- on
      refine i_iload dX3_find_87 rfl ?_
      refine i_iload dX3_find_89 rfl ?_
      refine i_shr dX3_find_91 (iI_shr (by omega) (by omega)) ?_
      refine i_const dX3_find_92 ?_
      refine i_and dX3_find_93 (zs_nn) (by omega) ?_
      refine RW.ti zs_1 ?_
      skip
      refine i_ifeq_b (tgt := 124) dX3_find_94 (by decide) (fun c94 => ?_) (fun c94 => ?_)
      · -- jumps
        refine i_iinc dX3_find_124 rfl (L' := [some _, some _, some _, none, some _, some _, some _, none, some _, some _, some _]) (by decide) rfl ?_
        refine i_goto (tgt := 80) dX3_find_127 (by decide) ?_
        refine ih _ ?_ (c + 1) V' C' cd rfl (by omega) hV hC hv (hS.skip (by omega) (Or.inl (by assumption))) hn hvl hlr
        omega
      · -- on
        refine i_aload_n dX3_find_97 rfl ?_
        refine i_aload_n dX3_find_98 rfl ?_
        refine i_iload dX3_find_99 rfl ?_
        refine i_iload dX3_find_101 rfl ?_
        refine u_callP (mc := 0) (ms := 0) (As := [_, _]) hp1 dX3_find_103 cfX5_after imX5_after seX5_after lX3_46 rfl rfl rfl rfl (Nat.le_of_ble_eq_true rfl) (Nat.zero_add _).symm (Nat.zero_add _).symm ?_
        refine q_after hp1 hr1 hO1 (by omega) (by omega) (fun _ => RK.v ?_) (fun q9 => absurd ⟨⟨by omega, by omega⟩, by omega, by omega⟩ q9)
        refine i_aload_n dX3_find_106 rfl ?_
        refine i_iload dX3_find_107 rfl ?_
        refine i_iload dX3_find_109 rfl ?_
        refine u_callP (mc := 0) (ms := 0) (As := [_, _]) hp2 dX3_find_111 cfX5_after imX5_after seX5_after lX3_46 rfl rfl rfl rfl (Nat.le_of_ble_eq_true rfl) (Nat.zero_add _).symm (Nat.zero_add _).symm ?_
        refine q_after hp2 hr2 hO2 (by omega) (by omega) (fun _ => RK.v ?_) (fun q9 => absurd ⟨⟨by omega, by omega⟩, by omega, by omega⟩ q9)
        refine i_callSN (mc := 0) (ms := 0) (As := [_, _]) dX3_find_114 cfX10_pairOf stX10_pairOf lX3_50 rfl rfl (Nat.le_of_ble_eq_true rfl) (Nat.zero_add _).symm (Nat.zero_add _).symm ?_
        refine q_pairOf (RKN.v ?_)
        refine i_iload dX3_find_117 rfl ?_
        refine i_iload dX3_find_119 rfl ?_
        have n1 := hO1.2.2.2.2.2 l c (by omega) (by omega) (by omega) (by omega)
        have n2 := hO2.2.2.2.2.2 r c (by omega) (by omega) (by omega) (by omega)
        have hye : (w (476 * t1 + (116 + 6 * l + c))) * 60 + (w (476 * t2 + (116 + 6 * r + c))) = (wNx2 w t1 t2) (C' 13 k) c := by show _ = 60 * w (476 * t1 + (116 + 6 * (C' 13 k / 60) + c)) + w (476 * t2 + (116 + 6 * (C' 13 k % 60) + c)); rw [hlr.1, hlr.2]; omega
        have hyr2 : 0 ≤ (w (476 * t1 + (116 + 6 * l + c))) * 60 + (w (476 * t2 + (116 + 6 * r + c))) ∧ (w (476 * t1 + (116 + 6 * l + c))) * 60 + (w (476 * t2 + (116 + 6 * r + c))) < 3600 := by omega
        have hyr : 0 ≤ (wNx2 w t1 t2) (C' 13 k) c ∧ (wNx2 w t1 t2) (C' 13 k) c < 3600 := by rw [← hye]; exact hyr2
        refine u_callV (i := 11) (mc := 0) (ms := 0) (As := [_, _, _]) dX3_find_121 cfX3_add imX3_add seX3_add lX3_32 (by decide) rfl rfl rfl rfl rfl (Nat.le_of_ble_eq_true rfl) (Nat.zero_add _).symm (Nat.zero_add _).symm ?_
        refine q_add (by omega) (by omega) (fun q0 q1 => hS.2.1 _ q0 q1) (fun q1 => RK.n0 ?_) (fun q1 => RK.n0 ?_)
        · -- case
          refine i_iinc dX3_find_124 rfl (L' := [some _, some _, some _, none, some _, some _, some _, none, some _, some _, some _]) (by decide) rfl ?_
          refine i_goto (tgt := 80) dX3_find_127 (by decide) ?_
          refine ih _ ?_ (c + 1) V' C' cd rfl (by omega) hV hC hv (hS.skip (by omega) (Or.inr ⟨hyr, by rw [← hye]; have := hS.lt (y := (w (476 * t1 + (116 + 6 * l + c))) * 60 + (w (476 * t2 + (116 + 6 * r + c)))) (by omega); rcases hS.2.1 _ hyr2.1 hyr2.2 with z | z <;> omega⟩)) hn hvl hlr
          omega
        · -- case
          refine i_iinc dX3_find_124 rfl (L' := [some _, some _, some _, none, some _, some _, some _, none, some _, some _, some _]) (by decide) rfl ?_
          refine i_goto (tgt := 80) dX3_find_127 (by decide) ?_
          obtain ⟨cd2, hS2⟩ := hS.add (V' := vu V' 12 (V' 12 + 1)) (C' := cu (cu (cu (cu C' 12 (zu (C' 12) ((w (476 * t1 + (116 + 6 * l + c))) * 60 + (w (476 * t2 + (116 + 6 * r + c)))) 1)) 13 (zu (C' 13) (V' 12) ((w (476 * t1 + (116 + 6 * l + c))) * 60 + (w (476 * t2 + (116 + 6 * r + c)))))) 14 (zu (C' 14) (V' 12) k)) 15 (zu (C' 15) (V' 12) c)) (y := (w (476 * t1 + (116 + 6 * l + c))) * 60 + (w (476 * t2 + (116 + 6 * r + c)))) (by omega) (by omega) (by assumption) hye hyr2 (by omega) rfl rfl rfl rfl rfl
          refine ih _ ?_ (c + 1) _ _ cd2 rfl (by omega) (hV.vu (by decide)) ((((hC.cu (by decide)).cu (by decide)).cu (by decide)).cu (by decide)) (by show k < V' 12 + 1; omega) hS2 (fun i i0 i1 => ?_) (fun i i0 i1 => ?_) (by show zu (C' 13) (V' 12) _ k / 60 = l ∧ zu (C' 13) (V' 12) _ k % 60 = r; rw [zu_ne (by omega)]; exact hlr)
          · omega
          · show ¬ zGl g (wAcc w t1 (zu (C' 13) (V' 12) _ i / 60)) (wAcc w t2 (zu (C' 13) (V' 12) _ i % 60)); rw [zu_ne (by omega)]; exact hn i i0 i1
          · have i2 : i < V' 12 + 1 := i1
            show zu (C' 13) (V' 12) _ i / 60 < _ ∧ zu (C' 13) (V' 12) _ i % 60 < _
            by_cases zz : i = V' 12
            · rw [zz, zu_at]; omega
            · rw [zu_ne zz]; exact hvl i i0 (by omega)
theorem q_find_l1  (hp1 : J.2.2 a1 = some p1) (hr1 : cPt p1 w t1) (hp2 : J.2.2 a2 = some p2) (hr2 : cPt p2 w t2) (hO1 : wP w t1) (hO2 : wP w t2) (hX1 : wX w t1) (hX2 : wX w t2) (hop : 0 ≤ op ∧ op < 64) (hg : g = 0 ∨ g = 1 ∨ g = 2 ∨ g = 3) (hpH : ∀ V' C' k cd, cSr V' C' (wNx2 w t1 t2) (fun c => zt op c) s0 k 0 cd → (0 ≤ k ∧ k < V' 12) → zMin (wNx2 w t1 t2) (fun c => zt op c) s0 (fun y => zGl g (wAcc w t1 (y / 60)) (wAcc w t2 (y % 60))) (cd k) → sV [12] V V' → sC [12, 13, 14, 15] C C' → P (.inl (some (.int (iI k)))) (V', C', J)) (hpN : ∀ V' C' cd, cSr V' C' (wNx2 w t1 t2) (fun c => zt op c) s0 (V' 12) 0 cd → zNo (wNx2 w t1 t2) (fun c => zt op c) s0 (fun y => zGl g (wAcc w t1 (y / 60)) (wAcc w t2 (y % 60))) → sV [12] V V' → sC [12, 13, 14, 15] C C' → P (.inl (some (.int (iI (-1))))) (V', C', J)) : ∀ (zz : Nat) (k : Int) (V' : Nat → Int) (C' : Nat → Int → Int) (cd : Int → Nat), zz = (3600 - k).toNat → (0 ≤ k ∧ k ≤ V' 12) → (sV [12] V V') → (sC [12, 13, 14, 15] C C') → (cSr V' C' (wNx2 w t1 t2) (fun c => zt op c) s0 k 0 cd) → (∀ i, 0 ≤ i → i < k → ¬ (fun y => zGl g (wAcc w t1 (y / 60)) (wAcc w t2 (y % 60))) (C' 13 i)) → (∀ i, 0 ≤ i → i < V' 12 → C' 13 i / 60 < w (476 * t1 + 5) ∧ C' 13 i % 60 < w (476 * t2 + 5)) → RW G mX3_find (c_I Y h0) P (d + 2) 0 0 14 [some (.ref (Y 11)), some (.ref a1), some (.ref a2), none, some (.int (iI op)), some (.int (iI g)), some (.int (iI k)), none, none, none, none] [] (V', C', J) := by
  intro zz
  induction zz using Nat.strongRecOn with
  | _ zz ih =>
    intro k V' C' cd hzz h1 hV hC hS hn hvl
    have hle := hS.le
    have o1 := hO1.2.2.2.1
    have o2 := hO2.2.2.2.1
    refine i_iload dX3_find_14 rfl ?_
    refine i_sipush dX3_find_16 (by decide) ?_
    refine i_icmp_ge (tgt := 136) dX3_find_19 (by decide) (by omega) (by omega) (fun c19 => ?_) (fun c19 => ?_)
    · -- jumps
      refine i_const dX3_find_136 ?_
      refine i_ireturn dX3_find_137 rfl rfl ?_
      obtain rfl : k = V' 12 := by omega
      exact hpN _ _ cd hS (hS.1.no hn) hV hC
    · -- on
      refine i_iload dX3_find_22 rfl ?_
      refine i_aload_n dX3_find_24 rfl ?_
      refine u_get (i := 11) (vv := .int (iI (V' 12))) dX3_find_25 fX3_25 (by decide) rfl rfl ?_
      refine i_icmp_ge (tgt := 136) dX3_find_28 (by decide) (by omega) (by omega) (fun c28 => ?_) (fun c28 => ?_)
      · -- jumps
        refine i_const dX3_find_136 ?_
        refine i_ireturn dX3_find_137 rfl rfl ?_
        obtain rfl : k = V' 12 := by omega
        exact hpN _ _ cd hS (hS.1.no hn) hV hC
      · -- on
        have r13 := hS.2.2.1 k (by omega) (by omega)
        have v13 := hvl k (by omega) (by omega)
        refine i_aload_n dX3_find_31 rfl ?_
        refine u_get (i := 11) (vv := .ref (Y (13))) dX3_find_32 fX3_15.o (by decide) rfl rfl ?_
        refine i_iload dX3_find_35 rfl ?_
        refine u_iald (i := 13) (N := 3600) (v := C' 13 k) dX3_find_37 (by decide) rfl (by decide) (by omega) rfl ?_
        refine i_istore dX3_find_38 (L' := [some _, some _, some _, none, some _, some _, some _, some _, none, none, none]) (by decide) rfl ?_
        refine i_iload dX3_find_40 rfl ?_
        refine i_bipush dX3_find_42 (by decide) ?_
        refine i_div dX3_find_44 (by omega) (by omega) ?_
        refine i_istore dX3_find_45 (L' := [some _, some _, some _, none, some _, some _, some _, some _, some _, none, none]) (by decide) rfl ?_
        refine i_iload dX3_find_47 rfl ?_
        refine i_bipush dX3_find_49 (by decide) ?_
        refine i_rem dX3_find_51 (by omega) (by omega) ?_
        refine i_istore dX3_find_52 (L' := [some _, some _, some _, none, some _, some _, some _, some _, some _, some _, none]) (by decide) rfl ?_
        refine i_iload dX3_find_54 rfl ?_
        refine i_aload_n dX3_find_56 rfl ?_
        refine i_iload dX3_find_57 rfl ?_
        refine u_callP (mc := 0) (ms := 0) (As := [_]) hp1 dX3_find_59 cfX5_accepts imX5_accepts seX5_accepts lX3_36 rfl rfl rfl rfl (Nat.le_of_ble_eq_true rfl) (Nat.zero_add _).symm (Nat.zero_add _).symm ?_
        refine q_accepts hp1 hr1 hO1 hX1 (by omega) (fun _ => RK.v ?_) (fun q9 => absurd ⟨by omega, by omega⟩ q9)
        refine i_aload_n dX3_find_62 rfl ?_
        refine i_iload dX3_find_63 rfl ?_
        refine u_callP (mc := 0) (ms := 0) (As := [_]) hp2 dX3_find_65 cfX5_accepts imX5_accepts seX5_accepts lX3_36 rfl rfl rfl rfl (Nat.le_of_ble_eq_true rfl) (Nat.zero_add _).symm (Nat.zero_add _).symm ?_
        refine q_accepts hp2 hr2 hO2 hX2 (by omega) (fun _ => RK.v ?_) (fun q9 => absurd ⟨by omega, by omega⟩ q9)
        refine i_callS (mc := 0) (ms := 0) (As := [_, _, _]) dX3_find_68 cfX3_meets stX3_meets lX3_42 rfl rfl (Nat.le_of_ble_eq_true rfl) (Nat.zero_add _).symm (Nat.zero_add _).symm ?_
        refine q_meets hg (RK.v ?_)
        refine i_ifeq_c (tgt := 77) dX3_find_71 (by decide) (fun c71 => ?_) (fun c71 => ?_)
        · -- jumps
          refine i_const dX3_find_77 ?_
          refine i_istore dX3_find_78 (L' := [some _, some _, some _, none, some _, some _, some _, some _, some _, some _, some _]) (by decide) rfl ?_
          refine RW.wk (L' := [some _, some _, some _, none, some _, some _, some _, none, some _, some _, some _]) (p_subL.at (by repeat (first | exact subL_nil | refine subL_s ?_ | refine subL_n ?_))) ?_
          have hn2 : ∀ i, 0 ≤ i → i < k + 1 → ¬ (fun y => zGl g (wAcc w t1 (y / 60)) (wAcc w t2 (y % 60))) (C' 13 i) := fun i i0 i1 q => by
            by_cases zz : i = k
            · rw [zz] at q; exact c71 q
            · exact hn i i0 (by omega) q
          refine q_find_l2 (s0 := s0) (k := k) (l := C' 13 k / 60) (r := C' 13 k % 60) hp1 hr1 hp2 hr2 hO1 hO2 hX1 hX2 hop hg (fun V2 C2 cd2 hV2 hC2 hv2 hS2 hn3 hvl2 => ?_) _ 0 V' C' cd rfl (by omega) hV hC (by omega) hS hn2 hvl ⟨rfl, rfl⟩
          refine i_iinc dX3_find_130 rfl (L' := [some _, some _, some _, none, some _, some _, some _, none, none, none, none]) (by decide) rfl ?_
          refine i_goto (tgt := 14) dX3_find_133 (by decide) ?_
          refine ih _ ?_ (k + 1) V2 C2 cd2 rfl (by omega) hV2 hC2 (hS2.next hv2) hn3 hvl2
          omega
        · -- on
          refine i_iload dX3_find_74 rfl ?_
          refine i_ireturn dX3_find_76 rfl rfl ?_
          exact hpH _ _ k cd hS (by omega) (hS.1.hit (by omega) c71 hn) hV hC
theorem q_find  (hp1 : J.2.2 a1 = some p1) (hr1 : cPt p1 w t1) (hp2 : J.2.2 a2 = some p2) (hr2 : cPt p2 w t2) (hO1 : wP w t1) (hO2 : wP w t2) (hX1 : wX w t1) (hX2 : wX w t2) (hop : 0 ≤ op ∧ op < 64) (hg : g = 0 ∨ g = 1 ∨ g = 2 ∨ g = 3) (hSI : cSI V C) (hs : 0 ≤ s0 ∧ s0 < 3600) (hs2 : s0 / 60 < w (476 * t1 + 5)) (hs3 : s0 % 60 < w (476 * t2 + 5)) (hpH : ∀ V' C' k cd, cSr V' C' (wNx2 w t1 t2) (fun c => zt op c) s0 k 0 cd → (0 ≤ k ∧ k < V' 12) → zMin (wNx2 w t1 t2) (fun c => zt op c) s0 (fun y => zGl g (wAcc w t1 (y / 60)) (wAcc w t2 (y % 60))) (cd k) → sV [12] V V' → sC [12, 13, 14, 15] C C' → P (.inl (some (.int (iI k)))) (V', C', J)) (hpN : ∀ V' C' cd, cSr V' C' (wNx2 w t1 t2) (fun c => zt op c) s0 (V' 12) 0 cd → zNo (wNx2 w t1 t2) (fun c => zt op c) s0 (fun y => zGl g (wAcc w t1 (y / 60)) (wAcc w t2 (y % 60))) → sV [12] V V' → sC [12, 13, 14, 15] C C' → P (.inl (some (.int (iI (-1))))) (V', C', J)) : RM G mX3_find (c_I Y h0) [.ref (Y 11), .ref a1, .ref a2, .int (iI s0), .int (iI op), .int (iI g)] (d + 2) 0 0 P (V, C, J) := by
  refine RM.of (L := [some (.ref (Y 11)), some (.ref a1), some (.ref a2), some (.int (iI s0)), some (.int (iI op)), some (.int (iI g)), none, none, none, none, none]) cfX3_find rfl (Nat.le_of_ble_eq_true rfl) ?_
  refine i_aload_n dX3_find_0 rfl ?_
  refine u_callV (i := 11) (mc := 0) (ms := 0) (As := []) dX3_find_1 cfX3_forget imX3_forget seX3_forget lX3_29 (by decide) rfl rfl rfl rfl rfl (Nat.le_of_ble_eq_true rfl) (Nat.zero_add _).symm (Nat.zero_add _).symm ?_
  refine q_forget hSI (fun C1 hC1 hz1 => RK.n0 ?_)
  refine i_aload_n dX3_find_4 rfl ?_
  refine i_iload_n dX3_find_5 rfl ?_
  refine i_const dX3_find_6 ?_
  refine i_const dX3_find_7 ?_
  refine u_callV (i := 11) (mc := 0) (ms := 0) (As := [_, _, _]) dX3_find_8 cfX3_add imX3_add seX3_add lX3_32 (by decide) rfl rfl rfl rfl rfl (Nat.le_of_ble_eq_true rfl) (Nat.zero_add _).symm (Nat.zero_add _).symm ?_
  refine q_add (by show 0 ≤ (0 : Int) ∧ (0 : Int) ≤ 3600; decide) (by omega) (fun q0 q1 => Or.inl (hz1 _ q0 q1)) (fun q => absurd q (by have := hz1 s0 (by omega) (by omega); show ¬ (_ ∨ _ ∨ (3600 : Int) ≤ 0); omega)) (fun q => RK.n0 ?_)
  refine i_const dX3_find_11 ?_
  refine i_istore dX3_find_12 (L' := [some _, some _, some _, some _, some _, some _, some _, none, none, none, none]) (by decide) rfl ?_
  refine RW.wk (L' := [some _, some _, some _, none, some _, some _, some _, none, none, none, none]) (p_subL.at (by repeat (first | exact subL_nil | refine subL_s ?_ | refine subL_n ?_))) ?_
  refine u_gen (fun V5 hV5 C5 hC5 => ?_)
  have v12 : V5 12 = 1 := by rw [hV5]; rfl
  have c12 : C5 12 = zu (C1 12) s0 1 := by rw [hC5]; rfl
  have c13 : C5 13 = zu (C1 13) 0 s0 := by rw [hC5]; rfl
  have c14 : C5 14 = zu (C1 14) 0 (-1) := by rw [hC5]; rfl
  have c15 : C5 15 = zu (C1 15) 0 (-1) := by rw [hC5]; rfl
  have sv5 : sV [12] V V5 := by rw [hV5]; repeat' (first | exact sV.rfl | refine sV.vu ?_ (by decide))
  have sc5 : sC [12, 13, 14, 15] C1 C5 := by rw [hC5]; repeat' (first | exact sC.rfl | refine sC.cu ?_ (by decide))
  clear hV5 hC5
  refine q_find_l1 hp1 hr1 hp2 hr2 hO1 hO2 hX1 hX2 hop hg hpH hpN _ 0 V5 C5 (fun _ => 0) rfl ⟨by decide, by omega⟩ sv5 (hC1.t2 sc5 (U := [12, 13, 14, 15]) (by decide) (by decide)) (cSr.init (by omega) hz1 c12 (by rw [c13, zu_at]) (by rw [c14, zu_at]) (by rw [c15, zu_at]) v12) (fun i i0 i1 => by omega) (fun i i0 i1 => ?_)
  obtain rfl : i = 0 := by omega
  rw [c13, zu_at]; exact ⟨hs2, hs3⟩
end C44
