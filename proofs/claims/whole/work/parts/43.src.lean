/-! ===== the class: the rows of a search ===== -/
/-- between two searches -/
def cSI (V : Nat → Int) (C : Nat → Int → Int) : Prop := (0 ≤ V 12 ∧ V 12 ≤ 3600) ∧ (∀ y, 0 ≤ y → y < 3600 → C 12 y = 0 ∨ C 12 y = 1) ∧ (∀ i, 0 ≤ i → i < V 12 → 0 ≤ C 13 i ∧ C 13 i < 3600) ∧ ∀ y, 0 ≤ y → y < 3600 → C 12 y = 1 → ∃ i, (0 ≤ i ∧ i < V 12) ∧ C 13 i = y
/-- a search: pairs C 13, found from C 14 by C 15, marked in C 12; V 12 of them -/
def cSr (V : Nat → Int) (C : Nat → Int → Int) (nx : Int → Int → Int) (al : Int → Prop) (s0 k c : Int) (cd : Int → Nat) : Prop :=
  zBfs nx al s0 (C 13) (V 12) k c cd (fun y => (0 ≤ y ∧ y < 3600) ∧ C 12 y = 1) ∧ (∀ y, 0 ≤ y → y < 3600 → C 12 y = 0 ∨ C 12 y = 1) ∧ (∀ i, 0 ≤ i → i < V 12 → 0 ≤ C 13 i ∧ C 13 i < 3600) ∧ (V 12 = zsum (fun y => zb (C 12 y = 1)) 3600 ∧ C 14 0 = -1 ∧ C 15 0 = -1) ∧ ∀ i, 1 ≤ i → i < V 12 → (0 ≤ C 14 i ∧ C 14 i < i) ∧ (0 ≤ C 15 i ∧ C 15 i < 6) ∧ (cd i : Int) = 6 * (cd (C 14 i) : Int) + C 15 i + 1
section C43a
variable {V V' : Nat → Int} {C C' : Nat → Int → Int} {nx : Int → Int → Int} {al : Int → Prop} {s0 k c : Int} {cd : Int → Nat}
theorem cSr.SI (h : cSr V C nx al s0 k c cd) : cSI V C := by
  obtain ⟨h1, h2, h3, h4, h5⟩ := h
  have r := @zsum_rg (fun y => zb (C 12 y = 1)) 3600 (fun j _ _ => zb_01)
  refine ⟨⟨by have := h1.1; omega, by have := h4.1; omega⟩, h2, h3, fun y y0 y1 q => ?_⟩
  obtain ⟨i, i0, i1, e⟩ := (h1.2.2.2.2.2.2 y).mp ⟨⟨y0, y1⟩, q⟩
  exact ⟨i, ⟨i0, i1⟩, e⟩
theorem cSr.le (h : cSr V C nx al s0 k c cd) : 1 ≤ V 12 ∧ V 12 ≤ 3600 := by
  have r := @zsum_rg (fun y => zb (C 12 y = 1)) 3600 (fun j _ _ => zb_01)
  have := h.2.2.2.1.1
  have := h.1.1
  omega
/-- room for one that isn't marked -/
theorem zs_up {f : Int → Int} {y : Int} (hy : 0 ≤ y ∧ y < 3600) (hn : f y ≠ 1) : zsum (fun j => zb (zu f y 1 j = 1)) 3600 = zsum (fun j => zb (f j = 1)) 3600 + 1 := by
  rw [zsum_up (f := fun j => zb (zu f y 1 j = 1)) (g := fun j => zb (f j = 1)) hy.1 _ (by omega) (fun j hj => by simp only [zu_ne hj])]
  simp only [zu_at]
  rw [zb_t trivial, zb_f hn]; omega
theorem cSr.lt (h : cSr V C nx al s0 k c cd) {y : Int} (hy : 0 ≤ y ∧ y < 3600) (hn : C 12 y ≠ 1) : V 12 < 3600 := by
  have e := h.2.2.2.1.1
  have u := zs_up hy hn
  have r := @zsum_rg (fun j => zb (zu (C 12) y 1 j = 1)) 3600 (fun j _ _ => zb_01)
  omega
theorem cSr.init (hs : 0 ≤ s0 ∧ s0 < 3600) (hz : ∀ y, 0 ≤ y → y < 3600 → C 12 y = 0) (h12 : C' 12 = zu (C 12) s0 1) (h13 : C' 13 0 = s0) (h14 : C' 14 0 = -1) (h15 : C' 15 0 = -1) (hV : V 12 = 1) : cSr V C' nx al s0 0 0 (fun _ => 0) := by
  have e : ∀ y, 0 ≤ y → y < 3600 → (C' 12 y = 1 ↔ y = s0) := fun y y0 y1 => by
    rw [h12]
    by_cases z : y = s0
    · rw [z, zu_at]; exact iff_of_true rfl rfl
    · rw [zu_ne z, hz y y0 y1]; exact iff_of_false (by decide) z
  refine ⟨?_, fun y y0 y1 => ?_, fun i i0 i1 => ?_, ⟨?_, h14, h15⟩, fun i i0 i1 => by omega⟩
  · rw [hV]
    refine zBfs.init h13 (fun y => ?_)
    constructor
    · rintro ⟨hy, q⟩; exact (e y hy.1 hy.2).mp q
    · rintro rfl; exact ⟨hs, (e y hs.1 hs.2).mpr rfl⟩
  · rw [h12]
    by_cases z : y = s0
    · rw [z, zu_at]; exact Or.inr rfl
    · rw [zu_ne z, hz y y0 y1]; exact Or.inl rfl
  · obtain rfl : i = 0 := by omega
    rw [h13]; exact hs
  · rw [hV, h12, zs_up hs (by rw [hz s0 hs.1 hs.2]; decide)]
    rw [zsum_cg (g := fun _ => 0) 3600 (fun j j0 j1 => by rw [hz j j0 (by omega), zb_f (by decide)]), zsum_00]
    rfl
theorem cSr.skip (h : cSr V C nx al s0 k c cd) (hk : k < V 12) (hs : ¬ al c ∨ ((0 ≤ nx (C 13 k) c ∧ nx (C 13 k) c < 3600) ∧ C 12 (nx (C 13 k) c) = 1)) : cSr V C nx al s0 k (c + 1) cd := ⟨h.1.skip hk hs, h.2⟩
theorem cSr.next (h : cSr V C nx al s0 k 6 cd) (hk : k < V 12) : cSr V C nx al s0 (k + 1) 0 cd := ⟨h.1.next hk, h.2⟩
theorem cSr.add {y : Int} (h : cSr V C nx al s0 k c cd) (hk : k < V 12) (hc : 0 ≤ c ∧ c < 6) (ha : al c) (hy : y = nx (C 13 k) c) (hr : 0 ≤ y ∧ y < 3600) (hn : C 12 y ≠ 1) (h12 : C' 12 = zu (C 12) y 1) (h13 : C' 13 = zu (C 13) (V 12) y) (h14 : C' 14 = zu (C 14) (V 12) k) (h15 : C' 15 = zu (C 15) (V 12) c) (hV : V' 12 = V 12 + 1) : ∃ cd', cSr V' C' nx al s0 k (c + 1) cd' := by
  obtain ⟨h1, h2, h3, h4, h5⟩ := id h
  have hk0 := h1.1
  obtain ⟨cd', a1, a2, a3⟩ := h1.add hk hc.2 ha (fun q => hn (by rw [hy]; exact q.2)) (q' := C' 13) (seen' := fun j => (0 ≤ j ∧ j < 3600) ∧ C' 12 j = 1) (fun j => by rw [h13, hy]) (fun j => by
    rw [h12, ← hy]
    by_cases z : j = y
    · rw [z, zu_at]; exact iff_of_true ⟨hr, rfl⟩ (Or.inr rfl)
    · rw [zu_ne z]; exact ⟨Or.inl, fun q => q.elim id (fun q => absurd q z)⟩)
  refine ⟨cd', by rw [hV]; exact a1, fun j j0 j1 => ?_, fun i i0 i1 => ?_, ⟨?_, ?_, ?_⟩, fun i i0 i1 => ?_⟩
  · rw [h12]
    by_cases z : j = y
    · rw [z, zu_at]; exact Or.inr rfl
    · rw [zu_ne z]; exact h2 j j0 j1
  · rw [h13]
    by_cases z : i = V 12
    · rw [z, zu_at]; exact hr
    · rw [zu_ne z]; exact h3 i i0 (by omega)
  · rw [h12, zs_up hr hn, hV, h4.1]
  · rw [h14, zu_ne (by omega)]; exact h4.2.1
  · rw [h15, zu_ne (by omega)]; exact h4.2.2
  · rw [h14, h15]
    by_cases z : i = V 12
    · rw [z, zu_at, zu_at, a2 k (by omega)]
      exact ⟨by omega, hc, a3⟩
    · rw [zu_ne z, zu_ne z]
      have q := h5 i i0 (by omega)
      rw [a2 i z, a2 (C 14 i) (by omega)]
      exact q
end C43a
section C43
variable {G : p_G} {Y : Nat → Nat} {h0 : p_H} {P : (Option Value) ⊕ String → c_X → Prop} {d : Nat} {V : Nat → Int} {C : Nat → Int → Int} {J : c_J}
theorem q_forget_l  (hS : cSI V C) (hp : ∀ C', sC [12] C C' → (∀ y, 0 ≤ y → y < 3600 → C' 12 y = 0) → P (.inl none) (vu V 12 0, C', J)) : ∀ (zz : Nat) (i : Int) (C' : Nat → Int → Int), zz = (V 12 - i).toNat → (0 ≤ i) → (i ≤ V 12) → (sC [12] C C') → (∀ y, 0 ≤ y → y < 3600 → (C' 12 y = 0 ∨ C' 12 y = 1) ∧ (C' 12 y = 1 → ∃ i', (i ≤ i' ∧ i' < V 12) ∧ C 13 i' = y)) → RW G mX3_forget (c_I Y h0) P (d + 1) 0 0 2 [some (.ref (Y 11)), some (.int (iI i))] [] (V, C', J) := by
  intro zz
  induction zz using Nat.strongRecOn with
  | _ zz ih =>
    intro i C' hzz h1 h2 hC hI
    have b := hS.1
    have h13 : C' 13 = C 13 := hC 13 (by decide)
    refine i_iload_n dX3_forget_2 rfl ?_
    refine i_sipush dX3_forget_3 (by decide) ?_
    refine i_icmp_ge (tgt := 50) dX3_forget_6 (by decide) (by omega) (by omega) (fun c6 => ?_) (fun c6 => ?_)
    · -- jumps
      refine i_aload_n dX3_forget_50 rfl ?_
      refine i_const dX3_forget_51 ?_
      refine u_put (i := 11) (kV := 12) dX3_forget_52 fX3_25 (by decide) rfl rfl rfl (Nat.le_of_ble_eq_true rfl) rfl rfl ?_
      refine i_return dX3_forget_55 rfl ?_
      refine hp _ hC (fun y y0 y1 => ?_)
      rcases (hI y y0 y1).1 with q | q
      · exact q
      · obtain ⟨i', k1, k2⟩ := (hI y y0 y1).2 q; omega
    · -- on
      refine i_iload_n dX3_forget_9 rfl ?_
      refine i_aload_n dX3_forget_10 rfl ?_
      refine u_get (i := 11) (vv := .int (iI (V 12))) dX3_forget_11 fX3_25 (by decide) rfl rfl ?_
      refine i_icmp_ge (tgt := 50) dX3_forget_14 (by decide) (by omega) (by omega) (fun c14 => ?_) (fun c14 => ?_)
      · -- jumps
        refine i_aload_n dX3_forget_50 rfl ?_
        refine i_const dX3_forget_51 ?_
        refine u_put (i := 11) (kV := 12) dX3_forget_52 fX3_25 (by decide) rfl rfl rfl (Nat.le_of_ble_eq_true rfl) rfl rfl ?_
        refine i_return dX3_forget_55 rfl ?_
        refine hp _ hC (fun y y0 y1 => ?_)
        rcases (hI y y0 y1).1 with q | q
        · exact q
        · obtain ⟨i', k1, k2⟩ := (hI y y0 y1).2 q; omega
      · -- on
        have r := hS.2.2.1 i h1 (by omega)
        have e13 := congrFun h13 i
        refine i_aload_n dX3_forget_17 rfl ?_
        refine u_get (i := 11) (vv := .ref (Y (13))) dX3_forget_18 fX3_15.o (by decide) rfl rfl ?_
        refine i_iload_n dX3_forget_21 rfl ?_
        refine u_iald (i := 13) (N := 3600) (v := C' 13 i) dX3_forget_22 (by decide) rfl (by decide) (by omega) rfl ?_
        refine i_sipush dX3_forget_23 (by decide) ?_
        refine i_callSN (mc := 0) (ms := 0) (As := [_, _]) dX3_forget_26 cfX10_isIndex stX10_isIndex lX3_53 rfl rfl (Nat.le_of_ble_eq_true rfl) (Nat.zero_add _).symm (Nat.zero_add _).symm ?_
        refine q_isIndex (by omega) (by omega) (RKN.v ?_)
        refine i_ifeq_b (tgt := 44) dX3_forget_29 (by decide) (fun c29 => ?_) (fun c29 => ?_)
        · -- jumps
          refine i_iinc dX3_forget_44 rfl (L' := [some _, some _]) (by decide) rfl ?_
          refine i_goto (tgt := 2) dX3_forget_47 (by decide) ?_
          exfalso; omega
        · -- on
          refine i_aload_n dX3_forget_32 rfl ?_
          refine u_get (i := 11) (vv := .ref (Y (12))) dX3_forget_33 fX3_9.o (by decide) rfl rfl ?_
          refine i_aload_n dX3_forget_36 rfl ?_
          refine u_get (i := 11) (vv := .ref (Y (13))) dX3_forget_37 fX3_15.o (by decide) rfl rfl ?_
          refine i_iload_n dX3_forget_40 rfl ?_
          refine u_iald (i := 13) (N := 3600) (v := C' 13 i) dX3_forget_41 (by decide) rfl (by decide) (by omega) rfl ?_
          refine i_const dX3_forget_42 ?_
          refine u_zast dX3_forget_43 (by first | exact zb_or | omega) (by omega) ?_
          refine i_iinc dX3_forget_44 rfl (L' := [some _, some _]) (by decide) rfl ?_
          refine i_goto (tgt := 2) dX3_forget_47 (by decide) ?_
          refine ih _ ?_ (i + 1) _ rfl (by omega) (by omega) (hC.cu (by decide)) (fun y y0 y1 => ?_)
          · omega
          show (zu (C' 12) (C' 13 i) 0 y = 0 ∨ zu (C' 12) (C' 13 i) 0 y = 1) ∧ (zu (C' 12) (C' 13 i) 0 y = 1 → _)
          by_cases c : y = C' 13 i
          · rw [c, zu_at]; exact ⟨Or.inl rfl, fun q => absurd q (by decide)⟩
          · rw [zu_ne c]; refine ⟨(hI y y0 y1).1, fun q => ?_⟩
            obtain ⟨i', k1, k2⟩ := (hI y y0 y1).2 q
            exact ⟨i', by have : i' ≠ i := (fun e => c (by rw [← k2, e, h13])); omega, k2⟩
theorem q_forget  (hS : cSI V C) (hp : ∀ C', sC [12] C C' → (∀ y, 0 ≤ y → y < 3600 → C' 12 y = 0) → P (.inl none) (vu V 12 0, C', J)) : RM G mX3_forget (c_I Y h0) [.ref (Y 11)] (d + 1) 0 0 P (V, C, J) := by
  refine RM.of (L := [some (.ref (Y 11)), none]) cfX3_forget rfl (Nat.le_of_ble_eq_true rfl) ?_
  refine i_const dX3_forget_0 ?_
  refine i_istore_n dX3_forget_1 (L' := [some _, some _]) (by decide) rfl ?_
  exact q_forget_l hS hp _ 0 C rfl (by omega) (by have := hS.1; omega) sC.rfl (fun y y0 y1 => ⟨hS.2.1 y y0 y1, fun q => by obtain ⟨i, k1, k2⟩ := hS.2.2.2 y y0 y1 q; exact ⟨i, k1, k2⟩⟩)
theorem q_add {y o c : Int} (h12 : 0 ≤ V 12 ∧ V 12 ≤ 3600) (hy : -2147483648 ≤ y ∧ y < 2147483648) (hz : 0 ≤ y → y < 3600 → C 12 y = 0 ∨ C 12 y = 1) (hp0 : ¬ (0 ≤ y ∧ y < 3600) ∨ C 12 y = 1 ∨ 3600 ≤ V 12 → P (.inl none) (V, C, J)) (hp1 : (0 ≤ y ∧ y < 3600) ∧ C 12 y = 0 ∧ V 12 < 3600 → P (.inl none) (vu V 12 (V 12 + 1), cu (cu (cu (cu C 12 (zu (C 12) y 1)) 13 (zu (C 13) (V 12) y)) 14 (zu (C 14) (V 12) o)) 15 (zu (C 15) (V 12) c), J)) : RM G mX3_add (c_I Y h0) [.ref (Y 11), .int (iI y), .int (iI o), .int (iI c)] (d + 1) 0 0 P (V, C, J) := by
  refine RM.of (L := [some (.ref (Y 11)), some (.int (iI y)), some (.int (iI o)), some (.int (iI c))]) cfX3_add rfl (Nat.le_of_ble_eq_true rfl) ?_
  refine i_iload_n dX3_add_0 rfl ?_
  refine i_sipush dX3_add_1 (by decide) ?_
  refine i_callSN (mc := 0) (ms := 0) (As := [_, _]) dX3_add_4 cfX10_isIndex stX10_isIndex lX3_53 rfl rfl (Nat.le_of_ble_eq_true rfl) (Nat.zero_add _).symm (Nat.zero_add _).symm ?_
  refine q_isIndex (by omega) (by omega) (RKN.v ?_)
  refine i_ifeq_b (tgt := 32) dX3_add_7 (by decide) (fun c7 => ?_) (fun c7 => ?_)
  · -- jumps
    refine i_return dX3_add_32 rfl ?_
    exact hp0 (by omega)
  · -- on
    have z12 := hz (by omega) (by omega)
    refine i_aload_n dX3_add_10 rfl ?_
    refine u_get (i := 11) (vv := .ref (Y (12))) dX3_add_11 fX3_9.o (by decide) rfl rfl ?_
    refine i_iload_n dX3_add_14 rfl ?_
    refine u_zald (v := C 12 y) dX3_add_15 (by omega) rfl ?_
    refine i_if_ne (tgt := 32) dX3_add_16 (by decide) (by omega) (fun c16 => ?_) (fun c16 => ?_)
    · -- jumps
      refine i_return dX3_add_32 rfl ?_
      exact hp0 (by omega)
    · -- on
      refine i_aload_n dX3_add_19 rfl ?_
      refine u_get (i := 11) (vv := .int (iI (V 12))) dX3_add_20 fX3_25 (by decide) rfl rfl ?_
      refine i_sipush dX3_add_23 (by decide) ?_
      refine i_callSN (mc := 0) (ms := 0) (As := [_, _]) dX3_add_26 cfX10_isIndex stX10_isIndex lX3_53 rfl rfl (Nat.le_of_ble_eq_true rfl) (Nat.zero_add _).symm (Nat.zero_add _).symm ?_
      refine q_isIndex (by omega) (by omega) (RKN.v ?_)
      refine i_ifne_b (tgt := 33) dX3_add_29 (by decide) (fun c29 => ?_) (fun c29 => ?_)
      · -- jumps
        refine i_aload_n dX3_add_33 rfl ?_
        refine u_get (i := 11) (vv := .ref (Y (12))) dX3_add_34 fX3_9.o (by decide) rfl rfl ?_
        refine i_iload_n dX3_add_37 rfl ?_
        refine i_const dX3_add_38 ?_
        refine u_zast dX3_add_39 (by first | exact zb_or | omega) (by omega) ?_
        refine i_aload_n dX3_add_40 rfl ?_
        refine u_get (i := 11) (vv := .ref (Y (13))) dX3_add_41 fX3_15.o (by decide) rfl rfl ?_
        refine i_aload_n dX3_add_44 rfl ?_
        refine u_get (i := 11) (vv := .int (iI (V 12))) dX3_add_45 fX3_25 (by decide) rfl rfl ?_
        refine i_iload_n dX3_add_48 rfl ?_
        refine u_iast (i := 13) (N := 3600) dX3_add_49 (by decide) rfl (by decide) (by omega) rfl ?_
        refine i_aload_n dX3_add_50 rfl ?_
        refine u_get (i := 11) (vv := .ref (Y (14))) dX3_add_51 fX3_19.o (by decide) rfl rfl ?_
        refine i_aload_n dX3_add_54 rfl ?_
        refine u_get (i := 11) (vv := .int (iI (V 12))) dX3_add_55 fX3_25 (by decide) rfl rfl ?_
        refine i_iload_n dX3_add_58 rfl ?_
        refine u_iast (i := 14) (N := 3600) dX3_add_59 (by decide) rfl (by decide) (by omega) rfl ?_
        refine i_aload_n dX3_add_60 rfl ?_
        refine u_get (i := 11) (vv := .ref (Y (15))) dX3_add_61 fX3_22.o (by decide) rfl rfl ?_
        refine i_aload_n dX3_add_64 rfl ?_
        refine u_get (i := 11) (vv := .int (iI (V 12))) dX3_add_65 fX3_25 (by decide) rfl rfl ?_
        refine i_iload_n dX3_add_68 rfl ?_
        refine u_iast (i := 15) (N := 3600) dX3_add_69 (by decide) rfl (by decide) (by omega) rfl ?_
        refine i_aload_n dX3_add_70 rfl ?_
        refine i_dup dX3_add_71 rfl ?_
        refine u_get (i := 11) (vv := .int (iI (V 12))) dX3_add_72 fX3_25 (by decide) rfl rfl ?_
        refine i_const dX3_add_75 ?_
        refine i_add dX3_add_76 ?_
        refine u_put (i := 11) (kV := 12) dX3_add_77 fX3_25 (by decide) rfl rfl rfl (Nat.le_of_ble_eq_true rfl) rfl rfl ?_
        refine i_return dX3_add_80 rfl ?_
        exact hp1 ⟨by omega, by omega, by omega⟩
      · -- on
        refine i_return dX3_add_32 rfl ?_
        exact hp0 (by omega)
theorem q_streetInto {i : Int} (hi : 0 ≤ i ∧ i < 3600) (hp : P (.inl (some (.int (iI (C 15 i))))) (V, C, J)) : RM G mX3_streetInto (c_I Y h0) [.ref (Y 11), .int (iI i)] (d + 1) 0 0 P (V, C, J) := by
  refine RM.of (L := [some (.ref (Y 11)), some (.int (iI i))]) cfX3_streetInto rfl (Nat.le_of_ble_eq_true rfl) ?_
  refine i_iload_n dX3_streetInto_0 rfl ?_
  refine i_aload_n dX3_streetInto_1 rfl ?_
  refine u_get (i := 11) (vv := .ref (Y (15))) dX3_streetInto_2 fX3_22.o (by decide) rfl rfl ?_
  refine u_alen (N := 3600) dX3_streetInto_5 (by decide) rfl (by decide) rfl ?_
  refine i_callSN (mc := 0) (ms := 0) (As := [_, _]) dX3_streetInto_6 cfX10_isIndex stX10_isIndex lX3_53 rfl rfl (Nat.le_of_ble_eq_true rfl) (Nat.zero_add _).symm (Nat.zero_add _).symm ?_
  refine q_isIndex (by omega) (by omega) (RKN.v ?_)
  refine i_ifeq_b (tgt := 21) dX3_streetInto_9 (by decide) (fun c9 => ?_) (fun c9 => ?_)
  · -- jumps
    refine i_const dX3_streetInto_21 ?_
    refine i_ireturn dX3_streetInto_22 rfl rfl ?_
    first | exact hp | (exfalso; omega)
  · -- on
    refine i_aload_n dX3_streetInto_12 rfl ?_
    refine u_get (i := 11) (vv := .ref (Y (15))) dX3_streetInto_13 fX3_22.o (by decide) rfl rfl ?_
    refine i_iload_n dX3_streetInto_16 rfl ?_
    refine u_iald (i := 15) (N := 3600) (v := C 15 i) dX3_streetInto_17 (by decide) rfl (by decide) (by omega) rfl ?_
    refine i_goto (tgt := 22) dX3_streetInto_18 (by decide) ?_
    refine i_ireturn dX3_streetInto_22 rfl rfl ?_
    first | exact hp | (exfalso; omega)
theorem q_before {i : Int} (hi : 0 ≤ i ∧ i < 3600) (hp : P (.inl (some (.int (iI (C 14 i))))) (V, C, J)) : RM G mX3_before (c_I Y h0) [.ref (Y 11), .int (iI i)] (d + 1) 0 0 P (V, C, J) := by
  refine RM.of (L := [some (.ref (Y 11)), some (.int (iI i))]) cfX3_before rfl (Nat.le_of_ble_eq_true rfl) ?_
  refine i_iload_n dX3_before_0 rfl ?_
  refine i_aload_n dX3_before_1 rfl ?_
  refine u_get (i := 11) (vv := .ref (Y (14))) dX3_before_2 fX3_19.o (by decide) rfl rfl ?_
  refine u_alen (N := 3600) dX3_before_5 (by decide) rfl (by decide) rfl ?_
  refine i_callSN (mc := 0) (ms := 0) (As := [_, _]) dX3_before_6 cfX10_isIndex stX10_isIndex lX3_53 rfl rfl (Nat.le_of_ble_eq_true rfl) (Nat.zero_add _).symm (Nat.zero_add _).symm ?_
  refine q_isIndex (by omega) (by omega) (RKN.v ?_)
  refine i_ifeq_b (tgt := 21) dX3_before_9 (by decide) (fun c9 => ?_) (fun c9 => ?_)
  · -- jumps
    refine i_const dX3_before_21 ?_
    refine i_ireturn dX3_before_22 rfl rfl ?_
    first | exact hp | (exfalso; omega)
  · -- on
    refine i_aload_n dX3_before_12 rfl ?_
    refine u_get (i := 11) (vv := .ref (Y (14))) dX3_before_13 fX3_19.o (by decide) rfl rfl ?_
    refine i_iload_n dX3_before_16 rfl ?_
    refine u_iald (i := 14) (N := 3600) (v := C 14 i) dX3_before_17 (by decide) rfl (by decide) (by omega) rfl ?_
    refine i_goto (tgt := 22) dX3_before_18 (by decide) ?_
    refine i_ireturn dX3_before_22 rfl rfl ?_
    first | exact hp | (exfalso; omega)
/-- the steps of the way back -/
theorem cSr.ln {V : Nat → Int} {C : Nat → Int → Int} {nx : Int → Int → Int} {al : Int → Prop} {s0 k c : Int} {cd : Int → Nat} (h : cSr V C nx al s0 k c cd) {i : Int} (h0 : 1 ≤ i) (h1 : i < V 12) : zln (cd i) = zln (cd (C 14 i)) + 1 := by
  have q := h.2.2.2.2 i h0 h1
  have e : cd i = 6 * cd (C 14 i) + (C 15 i).toNat + 1 := by omega
  rw [e]
  exact zln_s (by omega)
theorem q_steps_l {nx : Int → Int → Int} {al : Int → Prop} {s0 k c n : Int} {cd : Int → Nat} (h : cSr V C nx al s0 k c cd) (hp : P (.inl (some (.int (iI n)))) (V, C, J)) : ∀ (zz : Nat) (b : Int) (m : Int) (i : Int), zz = (3600 - b).toNat → (0 ≤ b ∧ m = b - 1 ∧ b + i ≤ 3599) → (((0 ≤ i ∧ i < V 12) ∧ n = m + 1 + zln (cd i)) ∨ (i = -1 ∧ n = m)) → RW G mX3_stepsTo (c_I Y h0) P (d + 2) 0 0 7 [some (.ref (Y 11)), none, some (.int (iI m)), some (.int (iI i)), some (.int (iI b))] [] (V, C, J) := by
  intro zz
  induction zz using Nat.strongRecOn with
  | _ zz ih =>
    intro b m i hzz h1 hI
    have hle := h.le
    refine i_iload dX3_stepsTo_7 rfl ?_
    refine i_sipush dX3_stepsTo_9 (by decide) ?_
    refine i_icmp_ge (tgt := 35) dX3_stepsTo_12 (by decide) (by omega) (by omega) (fun c12 => ?_) (fun c12 => ?_)
    · -- jumps
      refine i_iload_n dX3_stepsTo_35 rfl ?_
      refine i_ireturn dX3_stepsTo_36 rfl rfl ?_
      rcases hI with ⟨k1, k2⟩ | ⟨k1, k2⟩
      · exfalso; omega
      · rw [k2] at hp; exact hp
    · -- on
      refine i_iload_n dX3_stepsTo_15 rfl ?_
      refine i_const dX3_stepsTo_16 ?_
      refine i_icmp_eq (tgt := 35) dX3_stepsTo_17 (by decide) (by omega) (by omega) (fun c17 => ?_) (fun c17 => ?_)
      · -- jumps
        refine i_iload_n dX3_stepsTo_35 rfl ?_
        refine i_ireturn dX3_stepsTo_36 rfl rfl ?_
        rcases hI with ⟨k1, k2⟩ | ⟨k1, k2⟩
        · exfalso; omega
        · rw [k2] at hp; exact hp
      · -- on
        refine i_iinc dX3_stepsTo_20 rfl (L' := [some _, none, some _, some _, some _]) (by decide) rfl ?_
        refine i_aload_n dX3_stepsTo_23 rfl ?_
        refine i_iload_n dX3_stepsTo_24 rfl ?_
        refine u_callV (i := 11) (mc := 0) (ms := 0) (As := [_]) dX3_stepsTo_25 cfX3_before imX3_before seX3_before lX3_57 (by decide) rfl rfl rfl rfl rfl (Nat.le_of_ble_eq_true rfl) (Nat.zero_add _).symm (Nat.zero_add _).symm ?_
        refine q_before (by omega) (RK.v ?_)
        refine i_istore_n dX3_stepsTo_28 (L' := [some _, none, some _, some _, some _]) (by decide) rfl ?_
        refine i_iinc dX3_stepsTo_29 rfl (L' := [some _, none, some _, some _, some _]) (by decide) rfl ?_
        refine i_goto (tgt := 7) dX3_stepsTo_32 (by decide) ?_
        by_cases q0 : i = 0
        · have e14 : C 14 i = -1 := by rw [q0]; exact h.2.2.2.1.2.1
          refine ih _ ?_ (b + 1) (m + 1) (C 14 i) rfl (by omega) (Or.inr ⟨e14, ?_⟩)
          · omega
          · rcases hI with ⟨k1, k2⟩ | k1; · rw [q0, h.1.2.1.2, zln_0] at k2; omega
            · omega
        · have k5 := h.2.2.2.2 i (by omega) (by omega)
          have k6 := h.ln (i := i) (by omega) (by omega)
          refine ih _ ?_ (b + 1) (m + 1) (C 14 i) rfl (by omega) (Or.inl ⟨by omega, ?_⟩)
          · omega
          · rcases hI with ⟨k1, k2⟩ | k1 <;> omega
end C43
