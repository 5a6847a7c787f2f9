/-! ===== the class: the dead state, walkers and words counted ===== -/
section C53
variable {G : p_G} {Y : Nat → Nat} {h0 : p_H} {P : (Option Value) ⊕ String → c_X → Prop} {d : Nat} {V : Nat → Int} {C : Nat → Int → Int} {J : c_J}
variable {w : Int → Int}
theorem q_wordCount {s n : Int} (hZ : p_Zs G) (hN : cNow V C J w) (hO : wOK w) (hX : ∀ s, s = 0 ∨ s = 1 → wX w s) (h_s : -2147483648 ≤ s ∧ s < 2147483648) (h_n : -2147483648 ≤ n ∧ n < 2147483648) (hp1 : ¬ (s = 0 ∨ s = 1) → P (.inr "java/lang/IndexOutOfBoundsException") (V, C, J)) (hp2 : (s = 0 ∨ s = 1) ∧ ¬ (0 ≤ n ∧ n ≤ 20) → P (.inr "java/lang/IllegalArgumentException") (V, C, J)) (hp : (s = 0 ∨ s = 1) ∧ (0 ≤ n ∧ n ≤ 20) → ∀ J', J'.2 = J.2 → P (.inl (some (.long (lI (wCW w s n.toNat 0))))) (V, C, J')) : RM G mX10_wordCount (c_I Y h0) [.ref (Y 0), .int (iI s), .int (iI n)] (d + 8) 2 12 P (V, C, J) := by
  refine RM.of (L := [some (.ref (Y 0)), some (.int (iI s)), some (.int (iI n)), none]) cfX10_wordCount rfl (Nat.le_of_ble_eq_true rfl) ?_
  refine i_aload_n dX10_wordCount_0 rfl ?_
  refine i_iload_n dX10_wordCount_1 rfl ?_
  refine u_callV (i := 0) (mc := 1) (ms := 6) (k' := 1) (n' := 6) (As := [_]) dX10_wordCount_2 cfX10_checkedPattern imX10_checkedPattern seX10_checkedPattern lX10_212 (by decide) rfl rfl rfl rfl rfl (Nat.le_of_ble_eq_true rfl) rfl rfl ?_
  refine q_checkedPattern hZ hN hO (by omega) (fun g1 a1 p1 hy1 hr1 => RK.v ?_) (fun g1 => RK.x ?_)
  · -- case
    refine i_astore_n dX10_wordCount_5 (L' := [some _, some _, some _, some _]) (by decide) rfl ?_
    refine i_iload_n dX10_wordCount_6 rfl ?_
    refine i_callS (mc := 1) (ms := 6) (k' := 0) (n' := 0) (As := [_]) dX10_wordCount_7 cfX10_checkWordLength stX10_checkWordLength lX10_275 rfl rfl (Nat.le_of_ble_eq_true rfl) rfl rfl ?_
    refine q_checkWordLength hZ  (by omega) (fun g2 => RK.n0 ?_) (fun g2 => RK.x ?_)
    · -- case
      have o5 := hO.sts g1
      refine i_aload_n dX10_wordCount_10 rfl ?_
      refine u_get (i := 0) (vv := .ref (Y (16))) dX10_wordCount_11 fX10_80.o (by decide) rfl rfl ?_
      refine i_aload_n dX10_wordCount_14 rfl ?_
      refine i_iload_n dX10_wordCount_15 rfl ?_
      refine u_callV (i := 16) (mc := 0) (ms := 0) (As := [_, _]) dX10_wordCount_16 cfX8_fill imX8_fill seX8_fill lX10_278 (by decide) rfl rfl rfl rfl rfl (Nat.le_of_ble_eq_true rfl) (Nat.zero_add _).symm (Nat.zero_add _).symm ?_
      refine q_fill hy1 hr1 (hO.1 _ g1) (hX _ g1) (by omega) (fun J3 hJ3 hct3 => RK.n0 ?_)
      refine i_aload_n dX10_wordCount_19 rfl ?_
      refine u_get (i := 0) (vv := .ref (Y (16))) dX10_wordCount_20 fX10_80.o (by decide) rfl rfl ?_
      refine i_const dX10_wordCount_23 ?_
      refine i_iload_n dX10_wordCount_24 rfl ?_
      refine u_callV (i := 16) (mc := 0) (ms := 0) (As := [_, _]) dX10_wordCount_25 cfX8_from imX8_from seX8_from lX10_281 (by decide) rfl rfl rfl rfl rfl (Nat.le_of_ble_eq_true rfl) (Nat.zero_add _).symm (Nat.zero_add _).symm ?_
      refine q_from (x := wCW w s (n).toNat (0)) (by omega) (by omega) (hct3 _ (by omega) (by omega) _ (by omega) (by omega)) (RK.v ?_)
      refine i_lreturn dX10_wordCount_28 rfl ?_
      exact hp (by omega) _ hJ3
    · -- case
      exact hp2 (by omega)
  · -- case
    exact hp1 (by omega)
theorem wRun_rg {w b : Int → Int} {s : Int} (hO : wP w s) : ∀ n : Nat, (∀ i : Int, 0 ≤ i → i < n → bStr b i) → 0 ≤ wRun w b s n ∧ wRun w b s n < w (476 * s + 5)
  | 0, _ => by
    have := hO.2.2.2.1
    show 0 ≤ (0 : Int) ∧ (0 : Int) < _
    omega
  | n + 1, h => by
    have ih := wRun_rg hO n (fun i i0 i1 => h i i0 (by omega))
    have hb : 0 ≤ b n - 97 ∧ b n - 97 ≤ 5 := h n (by omega) (by omega)
    exact hO.2.2.2.2.2 _ _ ih.1 ih.2 (by omega) (by omega)
theorem q_sai_l {a : Nat} {p : c_P} {s : Int} (hN : cNow V C J w) (hO : wOK w) (hs : s = 0 ∨ s = 1) (hp : J.2.2 a = some p) (hr : cPt p w s) (h4 : 0 ≤ V 4 ∧ V 4 ≤ 200) (hB : ∀ j, 0 ≤ j → j < V 4 → 0 ≤ C 2 j ∧ C 2 j < 256) (hq1 : (∀ i, 0 ≤ i → i < V 4 → bStr (C 2) i) → P (.inl (some (.int (iI (wRun w (C 2) s (V 4).toNat))))) (V, C, J)) (hq0 : ¬ (∀ i, 0 ≤ i → i < V 4 → bStr (C 2) i) → P (.inl (some (.int (iI (-1))))) (V, C, J)) : ∀ (zz : Nat) (k : Int) (t : Int), zz = (V 4 - k).toNat → (0 ≤ k ∧ k ≤ V 4) → (((∀ i, 0 ≤ i → i < k → bStr (C 2) i) ∧ t = wRun w (C 2) s k.toNat) ∨ (¬ (∀ i, 0 ≤ i → i < k → bStr (C 2) i) ∧ t = -1)) → RW G mX10_stateAfterInput (c_I Y h0) P (d + 3) 0 0 4 [some (.ref (Y 0)), some (.ref a), some (.int (iI t)), some (.int (iI k))] [] (V, C, J) := by
  intro zz
  induction zz using Nat.strongRecOn with
  | _ zz ih =>
    intro k t hzz h1 hI
    have o5 := hO.sts hs
    have hrn : (∀ i, 0 ≤ i → i < k → bStr (C 2) i) → 0 ≤ wRun w (C 2) s k.toNat ∧ wRun w (C 2) s k.toNat < w (476 * s + 5) := fun h => wRun_rg (hO.1 s hs) k.toNat (fun i i0 i1 => h i i0 (by omega))
    refine i_iload_n dX10_stateAfterInput_4 rfl ?_
    refine i_aload_n dX10_stateAfterInput_5 rfl ?_
    refine u_get (i := 0) (vv := .ref (Y (1))) dX10_stateAfterInput_6 fX10_36.o (by decide) rfl rfl ?_
    refine u_callV (i := 1) (mc := 0) (ms := 0) (As := []) dX10_stateAfterInput_9 cfX1_size imX1_size seX1_size lX10_95 (by decide) rfl rfl rfl rfl rfl (Nat.le_of_ble_eq_true rfl) (Nat.zero_add _).symm (Nat.zero_add _).symm ?_
    refine q_size1 (RK.v ?_)
    refine i_icmp_ge (tgt := 35) dX10_stateAfterInput_12 (by decide) (by omega) (by omega) (fun c12 => ?_) (fun c12 => ?_)
    · -- jumps
      refine i_iload_n dX10_stateAfterInput_35 rfl ?_
      refine i_ireturn dX10_stateAfterInput_36 rfl rfl ?_
      obtain rfl : k = V 4 := by omega
      rcases hI with hI9 | hI9
      · rw [hI9.2]; exact hq1 hI9.1
      · rw [hI9.2]; exact hq0 hI9.1
    · -- on
      refine i_aload_n dX10_stateAfterInput_15 rfl ?_
      refine i_iload_n dX10_stateAfterInput_16 rfl ?_
      refine i_aload_n dX10_stateAfterInput_17 rfl ?_
      refine u_get (i := 0) (vv := .ref (Y (1))) dX10_stateAfterInput_18 fX10_36.o (by decide) rfl rfl ?_
      refine i_iload_n dX10_stateAfterInput_21 rfl ?_
      refine u_callV (i := 1) (mc := 0) (ms := 0) (As := [_]) dX10_stateAfterInput_22 cfX1_street imX1_street seX1_street lX10_171 (by decide) rfl rfl rfl rfl rfl (Nat.le_of_ble_eq_true rfl) (Nat.zero_add _).symm (Nat.zero_add _).symm ?_
      have hb := hB k (by omega) (by omega)
      refine q_street h4 hB (by omega) (RK.v ?_)
      refine u_callP (mc := 0) (ms := 0) (As := [_, _]) hp dX10_stateAfterInput_25 cfX5_after imX5_after seX5_after lX10_243 rfl rfl rfl rfl (Nat.le_of_ble_eq_true rfl) (Nat.zero_add _).symm (Nat.zero_add _).symm ?_
      by_cases h9 : (∀ i, 0 ≤ i → i < k + 1 → bStr (C 2) i)
      · rcases hI with hI9 | hI9
        · have hb9 : bStr (C 2) k := h9 k (by omega) (by omega)
          have r9 := hrn hI9.1
          have hb8 : 0 ≤ C 2 k - 97 ∧ C 2 k - 97 ≤ 5 := hb9
          rw [if_pos hb8]
          refine q_after hp hr (hO.1 _ hs) (by omega) (by omega) (fun _ => RK.v ?_) (fun q9 => absurd ⟨⟨by omega, by omega⟩, by omega, by omega⟩ q9)
          refine i_istore_n dX10_stateAfterInput_28 (L' := [some _, some _, some _, some _]) (by decide) rfl ?_
          refine i_iinc dX10_stateAfterInput_29 rfl (L' := [some _, some _, some _, some _]) (by decide) rfl ?_
          refine i_goto (tgt := 4) dX10_stateAfterInput_32 (by decide) ?_
          refine ih _ ?_ (k + 1) _ rfl (by omega) (Or.inl ⟨fun i i0 i1 => ?_, ?_⟩)
          · omega
          · by_cases zz : i = k
            · rw [zz]; exact hb9
            · exact hI9.1 i i0 (by omega)
          · rw [wRun_s h1.1, ← hI9.2]
        · exact absurd (fun i i0 i1 => h9 i i0 (by omega)) hI9.1
      · have hbad : ¬ (∀ i, 0 ≤ i → i < k + 1 → bStr (C 2) i) := h9
        have q8 : ¬ ((0 ≤ t ∧ t < w (476 * s + 5)) ∧ 0 ≤ (if 0 ≤ C 2 k - 97 ∧ C 2 k - 97 ≤ 5 then C 2 k - 97 else -1) ∧ (if 0 ≤ C 2 k - 97 ∧ C 2 k - 97 ≤ 5 then C 2 k - 97 else -1) < 6) := fun q => by
          rcases hI with hI9 | hI9
          · have r9 := hrn hI9.1
            by_cases c9 : 0 ≤ C 2 k - 97 ∧ C 2 k - 97 ≤ 5
            · refine h9 (fun i i0 i1 => ?_)
              by_cases zz : i = k
              · rw [zz]; exact c9
              · exact hI9.1 i i0 (by omega)
            · rw [if_neg c9] at q; omega
          · omega
        refine q_after hp hr (hO.1 _ hs) (by rcases hI with hI9 | hI9 <;> first | omega | (have := hrn hI9.1; omega)) (by split <;> omega) (fun q => absurd q q8) (fun _ => RK.v ?_)
        refine i_istore_n dX10_stateAfterInput_28 (L' := [some _, some _, some _, some _]) (by decide) rfl ?_
        refine i_iinc dX10_stateAfterInput_29 rfl (L' := [some _, some _, some _, some _]) (by decide) rfl ?_
        refine i_goto (tgt := 4) dX10_stateAfterInput_32 (by decide) ?_
        refine ih _ ?_ (k + 1) _ rfl (by omega) (Or.inr ⟨hbad, rfl⟩)
        omega
theorem q_stateAfterInput {a : Nat} {p : c_P} {s : Int} (hN : cNow V C J w) (hO : wOK w) (hs : s = 0 ∨ s = 1) (hp : J.2.2 a = some p) (hr : cPt p w s) (h4 : 0 ≤ V 4 ∧ V 4 ≤ 200) (hB : ∀ j, 0 ≤ j → j < V 4 → 0 ≤ C 2 j ∧ C 2 j < 256) (hq1 : (∀ i, 0 ≤ i → i < V 4 → bStr (C 2) i) → P (.inl (some (.int (iI (wRun w (C 2) s (V 4).toNat))))) (V, C, J)) (hq0 : ¬ (∀ i, 0 ≤ i → i < V 4 → bStr (C 2) i) → P (.inl (some (.int (iI (-1))))) (V, C, J)) : RM G mX10_stateAfterInput (c_I Y h0) [.ref (Y 0), .ref a] (d + 3) 0 0 P (V, C, J) := by
  refine RM.of (L := [some (.ref (Y 0)), some (.ref a), none, none]) cfX10_stateAfterInput rfl (Nat.le_of_ble_eq_true rfl) ?_
  refine i_const dX10_stateAfterInput_0 ?_
  refine i_istore_n dX10_stateAfterInput_1 (L' := [some _, some _, some _, none]) (by decide) rfl ?_
  refine i_const dX10_stateAfterInput_2 ?_
  refine i_istore_n dX10_stateAfterInput_3 (L' := [some _, some _, some _, some _]) (by decide) rfl ?_
  exact q_sai_l hN hO hs hp hr h4 hB hq1 hq0 _ 0 0 rfl ⟨by decide, h4.1⟩ (Or.inl ⟨fun i i0 i1 => by omega, rfl⟩)
theorem q_acceptsInput {s : Int} (hZ : p_Zs G) (hN : cNow V C J w) (hO : wOK w) (hX : ∀ s, s = 0 ∨ s = 1 → wX w s) (h4 : 0 ≤ V 4 ∧ V 4 ≤ 200) (hB : ∀ j, 0 ≤ j → j < V 4 → 0 ≤ C 2 j ∧ C 2 j < 256) (h_s : -2147483648 ≤ s ∧ s < 2147483648) (hp1 : ¬ (s = 0 ∨ s = 1) → P (.inr "java/lang/IndexOutOfBoundsException") (V, C, J)) (hp : s = 0 ∨ s = 1 → P (.inl (some (.int (iI (zc ((∀ i, 0 ≤ i → i < V 4 → bStr (C 2) i) ∧ wAcc w s (wRun w (C 2) s (V 4).toNat))))))) (V, C, J)) : RM G mX10_acceptsInput (c_I Y h0) [.ref (Y 0), .int (iI s)] (d + 8) 1 6 P (V, C, J) := by
  refine RM.of (L := [some (.ref (Y 0)), some (.int (iI s)), none]) cfX10_acceptsInput rfl (Nat.le_of_ble_eq_true rfl) ?_
  refine i_aload_n dX10_acceptsInput_0 rfl ?_
  refine i_iload_n dX10_acceptsInput_1 rfl ?_
  refine u_callV (i := 0) (mc := 1) (ms := 6) (k' := 0) (n' := 0) (As := [_]) dX10_acceptsInput_2 cfX10_checkedPattern imX10_checkedPattern seX10_checkedPattern lX10_212 (by decide) rfl rfl rfl rfl rfl (Nat.le_of_ble_eq_true rfl) rfl rfl ?_
  refine q_checkedPattern hZ hN hO (by omega) (fun g1 a1 p1 hy1 hr1 => RK.v ?_) (fun g1 => RK.x ?_)
  · -- case
    refine i_astore_n dX10_acceptsInput_5 (L' := [some _, some _, some _]) (by decide) rfl ?_
    refine i_aload_n dX10_acceptsInput_6 rfl ?_
    refine i_aload_n dX10_acceptsInput_7 rfl ?_
    refine i_aload_n dX10_acceptsInput_8 rfl ?_
    refine u_callV (i := 0) (mc := 0) (ms := 0) (As := [_]) dX10_acceptsInput_9 cfX10_stateAfterInput imX10_stateAfterInput seX10_stateAfterInput lX10_271 (by decide) rfl rfl rfl rfl rfl (Nat.le_of_ble_eq_true rfl) (Nat.zero_add _).symm (Nat.zero_add _).symm ?_
    refine q_stateAfterInput hN hO g1 hy1 hr1 h4 hB (fun hA => RK.v ?_) (fun hA => RK.v ?_)
    · -- case
      refine u_callP (mc := 0) (ms := 0) (As := [_]) hy1 dX10_acceptsInput_12 cfX5_accepts imX5_accepts seX5_accepts lX10_247 rfl rfl rfl rfl (Nat.le_of_ble_eq_true rfl) (Nat.zero_add _).symm (Nat.zero_add _).symm ?_
      have r9 := wRun_rg (hO.1 _ g1) (V 4).toNat (fun i i0 i1 => hA i i0 (by omega))
      have o5 := hO.sts g1
      refine q_accepts hy1 hr1 (hO.1 _ g1) (hX _ g1) (by omega) (fun _ => RK.v ?_) (fun q9 => absurd r9 q9)
      refine i_ireturn dX10_acceptsInput_15 rfl (zb_nar (by first | exact zb_or | omega)) ?_
      have hq := hp (by omega)
      by_cases hW : wAcc w s (wRun w (C 2) s (V 4).toNat)
      · rw [zc_t ⟨hA, hW⟩] at hq; rw [zb_t hW]; exact hq
      · rw [zc_f (fun z => hW z.2)] at hq; rw [zb_f hW]; exact hq
    · -- case
      refine u_callP (mc := 0) (ms := 0) (As := [_]) hy1 dX10_acceptsInput_12 cfX5_accepts imX5_accepts seX5_accepts lX10_247 rfl rfl rfl rfl (Nat.le_of_ble_eq_true rfl) (Nat.zero_add _).symm (Nat.zero_add _).symm ?_
      refine q_accepts hy1 hr1 (hO.1 _ g1) (hX _ g1) (by omega) (fun q9 => absurd q9.1 (by omega)) (fun _ => RK.v ?_)
      refine i_ireturn dX10_acceptsInput_15 rfl rfl ?_
      have hq := hp (by omega)
      rw [zc_f (fun z => hA z.1)] at hq; exact hq
  · -- case
    exact hp1 (by omega)
end C53
