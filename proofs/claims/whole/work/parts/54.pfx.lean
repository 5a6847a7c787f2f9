/-! ===== the class: pairs counted, words with a prefix ===== -/
theorem cSr.cnt {V : Nat → Int} {C : Nat → Int → Int} {w : Int → Int} {cd : Int → Nat} (h : cSr V C (wNx2 w 0 1) (fun c => zt 63 c) 0 (V 12) 0 cd) : V 12 = wCnt w := by
  rw [h.2.2.2.1.1]
  unfold wCnt
  refine zsum_cg _ (fun y y0 y1 => ?_)
  have hr := h.1.re y
  have e : (C 12 y = 1) ↔ ∃ n, zal zTr n ∧ zrun (wNx2 w 0 1) 0 n = y := by
    constructor
    · intro q
      obtain ⟨n, a, b⟩ := hr.mp ⟨⟨y0, by omega⟩, q⟩
      exact ⟨n, (zal_cg (fun c c0 c1 => iff_of_true (z63 c0 c1) trivial) n).mp a, b⟩
    · rintro ⟨n, a, b⟩
      exact (hr.mpr ⟨n, (zal_cg (fun c c0 c1 => iff_of_true (z63 c0 c1) trivial) n).mpr a, b⟩).2
  by_cases q : C 12 y = 1
  · rw [zb_t q, zc_t (e.mp q)]
  · rw [zb_f q, zc_f (fun z => q (e.mpr z))]
section C54
variable {G : p_G} {Y : Nat → Nat} {h0 : p_H} {P : (Option Value) ⊕ String → c_X → Prop} {d : Nat} {V : Nat → Int} {C : Nat → Int → Int} {J : c_J}
variable {w : Int → Int}
theorem q_reachablePairs  (hN : cNow V C J w) (hO : wOK w) (hX : ∀ s, s = 0 ∨ s = 1 → wX w s) (hSI : cSI V C) (hp : ∀ V' C', cSI V' C' → sV [12] V V' → sC [12, 13, 14, 15] C C' → P (.inl (some (.int (iI (wCnt w))))) (V', C', J)) : RM G mX10_reachablePairs (c_I Y h0) [.ref (Y 0)] (d + 4) 0 0 P (V, C, J) := by
  refine RM.of (L := [some (.ref (Y 0))]) cfX10_reachablePairs rfl (Nat.le_of_ble_eq_true rfl) ?_
  refine i_aload_n dX10_reachablePairs_0 rfl ?_
  refine i_const dX10_reachablePairs_1 ?_
  refine u_callV (i := 0) (mc := 0) (ms := 0) (As := [_]) dX10_reachablePairs_2 cfX10_compareBoth imX10_compareBoth seX10_compareBoth lX10_292 (by decide) rfl rfl rfl rfl rfl (Nat.le_of_ble_eq_true rfl) (Nat.zero_add _).symm (Nat.zero_add _).symm ?_
  refine q_compareBoth hN hO hX hSI (by decide) (fun V1 C1 k1 cd1 hS1 hk1 hm1 hv1 hc1 => RK.v ?_) (fun V1 C1 cd1 hS1 hm1 hv1 hc1 => RK.v ?_)
  · -- case
    refine i_pop dX10_reachablePairs_5 rfl ?_
    refine i_aload_n dX10_reachablePairs_6 rfl ?_
    refine u_get (i := 0) (vv := .ref (Y (11))) dX10_reachablePairs_7 fX10_73.o (by decide) rfl rfl ?_
    refine u_callV (i := 11) (mc := 0) (ms := 0) (As := []) dX10_reachablePairs_10 cfX3_size imX3_size seX3_size lX10_295 (by decide) rfl rfl rfl rfl rfl (Nat.le_of_ble_eq_true rfl) (Nat.zero_add _).symm (Nat.zero_add _).symm ?_
    refine q_size3 (RK.v ?_)
    refine i_ireturn dX10_reachablePairs_13 rfl rfl ?_
    exact absurd hm1.2.1 zGl_3
  · -- case
    refine i_pop dX10_reachablePairs_5 rfl ?_
    refine i_aload_n dX10_reachablePairs_6 rfl ?_
    refine u_get (i := 0) (vv := .ref (Y (11))) dX10_reachablePairs_7 fX10_73.o (by decide) rfl rfl ?_
    refine u_callV (i := 11) (mc := 0) (ms := 0) (As := []) dX10_reachablePairs_10 cfX3_size imX3_size seX3_size lX10_295 (by decide) rfl rfl rfl rfl rfl (Nat.le_of_ble_eq_true rfl) (Nat.zero_add _).symm (Nat.zero_add _).symm ?_
    refine q_size3 (RK.v ?_)
    refine i_ireturn dX10_reachablePairs_13 rfl rfl ?_
    rw [hS1.cnt]; exact hp _ _ hS1.SI hv1 hc1
theorem q_wordCountWithPrefix {s n : Int} (hZ : p_Zs G) (hN : cNow V C J w) (hO : wOK w) (hX : ∀ s, s = 0 ∨ s = 1 → wX w s) (h4 : 0 ≤ V 4 ∧ V 4 ≤ 200) (hB : ∀ j, 0 ≤ j → j < V 4 → 0 ≤ C 2 j ∧ C 2 j < 256) (h_s : -2147483648 ≤ s ∧ s < 2147483648) (h_n : -2147483648 ≤ n ∧ n < 2147483648) (hp1 : ¬ (s = 0 ∨ s = 1) → P (.inr "java/lang/IndexOutOfBoundsException") (V, C, J)) (hp2 : (s = 0 ∨ s = 1) ∧ ¬ (0 ≤ n ∧ n ≤ 20) → P (.inr "java/lang/IllegalArgumentException") (V, C, J)) (hp : (s = 0 ∨ s = 1) ∧ (0 ≤ n ∧ n ≤ 20) → ∀ J', J'.2 = J.2 → P (.inl (some (.long (lI (wPre w (C 2) s (V 4) n))))) (V, C, J')) : RM G mX10_wordCountWithPrefix (c_I Y h0) [.ref (Y 0), .int (iI s), .int (iI n)] (d + 8) 2 12 P (V, C, J) := by
  refine RM.of (L := [some (.ref (Y 0)), some (.int (iI s)), some (.int (iI n)), none, none, none]) cfX10_wordCountWithPrefix rfl (Nat.le_of_ble_eq_true rfl) ?_
  refine i_aload_n dX10_wordCountWithPrefix_0 rfl ?_
  refine i_iload_n dX10_wordCountWithPrefix_1 rfl ?_
  refine u_callV (i := 0) (mc := 1) (ms := 6) (k' := 1) (n' := 6) (As := [_]) dX10_wordCountWithPrefix_2 cfX10_checkedPattern imX10_checkedPattern seX10_checkedPattern lX10_212 (by decide) rfl rfl rfl rfl rfl (Nat.le_of_ble_eq_true rfl) rfl rfl ?_
  refine q_checkedPattern hZ hN hO (by omega) (fun g1 a1 p1 hy1 hr1 => RK.v ?_) (fun g1 => RK.x ?_)
  · -- case
    refine i_astore_n dX10_wordCountWithPrefix_5 (L' := [some _, some _, some _, some _, none, none]) (by decide) rfl ?_
    refine i_iload_n dX10_wordCountWithPrefix_6 rfl ?_
    refine i_callS (mc := 1) (ms := 6) (k' := 0) (n' := 0) (As := [_]) dX10_wordCountWithPrefix_7 cfX10_checkWordLength stX10_checkWordLength lX10_275 rfl rfl (Nat.le_of_ble_eq_true rfl) rfl rfl ?_
    refine q_checkWordLength hZ  (by omega) (fun g2 => RK.n0 ?_) (fun g2 => RK.x ?_)
    · -- case
      refine i_iload_n dX10_wordCountWithPrefix_10 rfl ?_
      refine i_aload_n dX10_wordCountWithPrefix_11 rfl ?_
      refine u_get (i := 0) (vv := .ref (Y (1))) dX10_wordCountWithPrefix_12 fX10_36.o (by decide) rfl rfl ?_
      refine u_callV (i := 1) (mc := 0) (ms := 0) (As := []) dX10_wordCountWithPrefix_15 cfX1_size imX1_size seX1_size lX10_95 (by decide) rfl rfl rfl rfl rfl (Nat.le_of_ble_eq_true rfl) (Nat.zero_add _).symm (Nat.zero_add _).symm ?_
      refine q_size1 (RK.v ?_)
      refine i_sub dX10_wordCountWithPrefix_18 ?_
      refine i_istore dX10_wordCountWithPrefix_19 (L' := [some _, some _, some _, some _, some _, none]) (by decide) rfl ?_
      refine i_aload_n dX10_wordCountWithPrefix_21 rfl ?_
      refine i_aload_n dX10_wordCountWithPrefix_22 rfl ?_
      refine u_callV (i := 0) (mc := 0) (ms := 0) (As := [_]) dX10_wordCountWithPrefix_23 cfX10_stateAfterInput imX10_stateAfterInput seX10_stateAfterInput lX10_271 (by decide) rfl rfl rfl rfl rfl (Nat.le_of_ble_eq_true rfl) (Nat.zero_add _).symm (Nat.zero_add _).symm ?_
      refine q_stateAfterInput hN hO g1 hy1 hr1 h4 hB (fun hA => RK.v ?_) (fun hA => RK.v ?_)
      · -- case
        refine i_istore dX10_wordCountWithPrefix_26 (L' := [some _, some _, some _, some _, some _, some _]) (by decide) rfl ?_
        have r9 := wRun_rg (hO.1 _ g1) (V 4).toNat (fun i i0 i1 => hA i i0 (by omega))
        have o5 := hO.sts g1
        refine i_iload dX10_wordCountWithPrefix_28 rfl ?_
        refine i_if_lt (tgt := 39) dX10_wordCountWithPrefix_30 (by decide) (by omega) (fun c30 => ?_) (fun c30 => ?_)
        · -- jumps
          refine i_lconst dX10_wordCountWithPrefix_39 (z := 0) (by decide) ?_
          refine i_lreturn dX10_wordCountWithPrefix_40 rfl ?_
          have hq := hp (by omega) _ rfl
          unfold wPre at hq
          rw [zc_f (fun z => by first | omega | exact hA z.2), Int.zero_mul] at hq; exact hq
        · -- on
          refine i_iload dX10_wordCountWithPrefix_33 rfl ?_
          refine i_const dX10_wordCountWithPrefix_35 ?_
          refine i_icmp_ne (tgt := 41) dX10_wordCountWithPrefix_36 (by decide) (by omega) (by omega) (fun c36 => ?_) (fun c36 => ?_)
          · -- jumps
            refine i_aload_n dX10_wordCountWithPrefix_41 rfl ?_
            refine u_get (i := 0) (vv := .ref (Y (16))) dX10_wordCountWithPrefix_42 fX10_80.o (by decide) rfl rfl ?_
            refine i_aload_n dX10_wordCountWithPrefix_45 rfl ?_
            refine i_iload dX10_wordCountWithPrefix_46 rfl ?_
            refine u_callV (i := 16) (mc := 0) (ms := 0) (As := [_, _]) dX10_wordCountWithPrefix_48 cfX8_fill imX8_fill seX8_fill lX10_278 (by decide) rfl rfl rfl rfl rfl (Nat.le_of_ble_eq_true rfl) (Nat.zero_add _).symm (Nat.zero_add _).symm ?_
            refine q_fill hy1 hr1 (hO.1 _ g1) (hX _ g1) (by omega) (fun J4 hJ4 hct4 => RK.n0 ?_)
            refine i_aload_n dX10_wordCountWithPrefix_51 rfl ?_
            refine u_get (i := 0) (vv := .ref (Y (16))) dX10_wordCountWithPrefix_52 fX10_80.o (by decide) rfl rfl ?_
            refine i_iload dX10_wordCountWithPrefix_55 rfl ?_
            refine i_iload dX10_wordCountWithPrefix_57 rfl ?_
            refine u_callV (i := 16) (mc := 0) (ms := 0) (As := [_, _]) dX10_wordCountWithPrefix_59 cfX8_from imX8_from seX8_from lX10_281 (by decide) rfl rfl rfl rfl rfl (Nat.le_of_ble_eq_true rfl) (Nat.zero_add _).symm (Nat.zero_add _).symm ?_
            refine q_from (x := wCW w s (n - (V 4)).toNat (wRun w (C 2) s (V 4).toNat)) (by omega) (by omega) (hct4 _ (by omega) (by omega) _ (by omega) (by omega)) (RK.v ?_)
            refine i_lreturn dX10_wordCountWithPrefix_62 rfl ?_
            have hq := hp (by omega) _ hJ4
            unfold wPre at hq
            rw [zc_t ⟨by omega, hA⟩, Int.one_mul] at hq; exact hq
          · -- on
            refine i_lconst dX10_wordCountWithPrefix_39 (z := 0) (by decide) ?_
            refine i_lreturn dX10_wordCountWithPrefix_40 rfl ?_
            have hq := hp (by omega) _ rfl
            unfold wPre at hq
            rw [zc_f (fun z => by first | omega | exact hA z.2), Int.zero_mul] at hq; exact hq
      · -- case
        refine i_istore dX10_wordCountWithPrefix_26 (L' := [some _, some _, some _, some _, some _, some _]) (by decide) rfl ?_
        have o5 := hO.sts g1
        refine i_iload dX10_wordCountWithPrefix_28 rfl ?_
        refine i_if_lt (tgt := 39) dX10_wordCountWithPrefix_30 (by decide) (by omega) (fun c30 => ?_) (fun c30 => ?_)
        · -- jumps
          refine i_lconst dX10_wordCountWithPrefix_39 (z := 0) (by decide) ?_
          refine i_lreturn dX10_wordCountWithPrefix_40 rfl ?_
          have hq := hp (by omega) _ rfl
          unfold wPre at hq
          rw [zc_f (fun z => by first | omega | exact hA z.2), Int.zero_mul] at hq; exact hq
        · -- on
          refine i_iload dX10_wordCountWithPrefix_33 rfl ?_
          refine i_const dX10_wordCountWithPrefix_35 ?_
          refine i_icmp_ne (tgt := 41) dX10_wordCountWithPrefix_36 (by decide) (by decide) (by decide) (fun c36 => by omega) (fun c36 => ?_)
          refine i_lconst dX10_wordCountWithPrefix_39 (z := 0) (by decide) ?_
          refine i_lreturn dX10_wordCountWithPrefix_40 rfl ?_
          have hq := hp (by omega) _ rfl
          unfold wPre at hq
          rw [zc_f (fun z => by first | omega | exact hA z.2), Int.zero_mul] at hq; exact hq
    · -- case
      exact hp2 (by omega)
  · -- case
    exact hp1 (by omega)
end C54
