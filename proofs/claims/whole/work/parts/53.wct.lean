/-! ===== the class: the dead state, walkers and words counted ===== -/
section C53
variable {G : p_G} {Y : Nat → Nat} {h0 : p_H} {P : (Option Value) ⊕ String → c_X → Prop} {d : Nat} {V : Nat → Int} {C : Nat → Int → Int} {J : c_J}
variable {w : Int → Int}
theorem q_deadState {s : Int} (hZ : p_Zs G) (hN : cNow V C J w) (hO : wOK w) (hX : ∀ s, s = 0 ∨ s = 1 → wX w s) (h_s : -2147483648 ≤ s ∧ s < 2147483648) (hp1 : ¬ (s = 0 ∨ s = 1) → P (.inr "java/lang/IndexOutOfBoundsException") (V, C, J)) (hp : s = 0 ∨ s = 1 → ∀ r, wDead w s r → P (.inl (some (.int (iI r)))) (V, C, J)) : RM G mX10_deadState (c_I Y h0) [.ref (Y 0), .int (iI s)] (d + 8) 1 6 P (V, C, J) := by
  refine RM.of (L := [some (.ref (Y 0)), some (.int (iI s))]) cfX10_deadState rfl (Nat.le_of_ble_eq_true rfl) ?_
  refine i_aload_n dX10_deadState_0 rfl ?_
  refine i_iload_n dX10_deadState_1 rfl ?_
  refine u_callV (i := 0) (mc := 1) (ms := 6) (k' := 0) (n' := 0) (As := [_]) dX10_deadState_2 cfX10_checkedPattern imX10_checkedPattern seX10_checkedPattern lX10_212 (by decide) rfl rfl rfl rfl rfl (Nat.le_of_ble_eq_true rfl) rfl rfl ?_
  refine q_checkedPattern hZ hN hO (by omega) (fun g1 a1 p1 hy1 hr1 => RK.v ?_) (fun g1 => RK.x ?_)
  · -- case
    refine u_callP (mc := 0) (ms := 0) (As := []) hy1 dX10_deadState_5 cfX5_emptySetState imX5_emptySetState seX5_emptySetState lX10_253 rfl rfl rfl rfl (Nat.le_of_ble_eq_true rfl) (Nat.zero_add _).symm (Nat.zero_add _).symm ?_
    refine q_emptySetState hy1 hr1 (hO.1 _ g1) (hX _ g1) (fun r2 hd2 => RK.v ?_)
    refine i_ireturn dX10_deadState_8 rfl rfl ?_
    exact hp (by omega) _ hd2
  · -- case
    exact hp1 (by omega)
theorem q_wis_l {s t : Int} (hN : cNow V C J w) (hO : wOK w) (hs : s = 0 ∨ s = 1) (ht : -2147483648 ≤ t ∧ t < 2147483648) (hp : P (.inl (some (.int (iI (wIn w s t))))) (V, C, J))  : ∀ (zz : Nat) (k : Int) (x : Int), zz = (w 952 - k).toNat → (0 ≤ k ∧ k ≤ w 952) → (x = zsum (fun k => zb (w (953 + 3 * k + 0) = s ∧ w (953 + 3 * k + 1) = t)) k.toNat) → RW G mX10_walkersInState (c_I Y h0) P (d + 2) 0 0 14 [some (.ref (Y 0)), some (.int (iI s)), some (.int (iI t)), some (.int (iI x)), some (.int (iI k))] [] (V, C, J) := by
  intro zz
  induction zz using Nat.strongRecOn with
  | _ zz ih =>
    intro k x hzz h1 hx
    have n1 := hN.n
    have b0 := hO.2.1
    have b1 : k < w 952 → _ := fun h => hO.wk h1.1 h
    have b3 : k < w 952 → w (953 + 3 * k + 1) < 61 := fun h => by have := hO.sts (b1 h).1; have := b1 h; omega
    refine i_iload dX10_walkersInState_14 rfl ?_
    refine i_aload_n dX10_walkersInState_16 rfl ?_
    refine u_get (i := 0) (vv := .ref (Y (30))) dX10_walkersInState_17 fX10_49.o (by decide) rfl rfl ?_
    refine u_get (i := 30) (vv := .int (iI (V 21))) dX10_walkersInState_20 fX10_135 (by decide) rfl rfl ?_
    refine i_icmp_ge (tgt := 61) dX10_walkersInState_23 (by decide) (by omega) (by omega) (fun c23 => ?_) (fun c23 => ?_)
    · -- jumps
      refine i_iload_n dX10_walkersInState_61 rfl ?_
      refine i_ireturn dX10_walkersInState_62 rfl rfl ?_
      obtain rfl : k = w 952 := by omega
      rw [hx]; exact hp
    · -- on
      refine i_aload_n dX10_walkersInState_26 rfl ?_
      refine u_get (i := 0) (vv := .ref (Y (30))) dX10_walkersInState_27 fX10_49.o (by decide) rfl rfl ?_
      refine i_iload dX10_walkersInState_30 rfl ?_
      refine u_callV (i := 30) (mc := 0) (ms := 0) (As := [_]) dX10_walkersInState_32 cfX9_slotOf imX9_slotOf seX9_slotOf lX10_296 (by decide) rfl rfl rfl rfl rfl (Nat.le_of_ble_eq_true rfl) (Nat.zero_add _).symm (Nat.zero_add _).symm ?_
      refine q_slotOf hN hO (by omega) (RK.v ?_)
      refine i_iload_n dX10_walkersInState_35 rfl ?_
      refine i_icmp_ne (tgt := 55) dX10_walkersInState_36 (by decide) (by omega) (by omega) (fun c36 => ?_) (fun c36 => ?_)
      · -- jumps
        refine i_iinc dX10_walkersInState_55 rfl (L' := [some _, some _, some _, some _, some _]) (by decide) rfl ?_
        refine i_goto (tgt := 14) dX10_walkersInState_58 (by decide) ?_
        refine ih _ ?_ (k + 1) _ rfl (by omega) ?_
        · omega
        rw [zsum_s h1.1, ← hx]
        first | (rw [zb_t (by omega)]; done) | (rw [zb_f (by omega)]; omega)
      · -- on
        refine i_aload_n dX10_walkersInState_39 rfl ?_
        refine u_get (i := 0) (vv := .ref (Y (30))) dX10_walkersInState_40 fX10_49.o (by decide) rfl rfl ?_
        refine i_iload dX10_walkersInState_43 rfl ?_
        refine u_callV (i := 30) (mc := 0) (ms := 0) (As := [_]) dX10_walkersInState_45 cfX9_stateOf imX9_stateOf seX9_stateOf lX10_168 (by decide) rfl rfl rfl rfl rfl (Nat.le_of_ble_eq_true rfl) (Nat.zero_add _).symm (Nat.zero_add _).symm ?_
        refine q_stateOf hN hO (by omega) (RK.v ?_)
        refine i_iload_n dX10_walkersInState_48 rfl ?_
        refine i_icmp_ne (tgt := 55) dX10_walkersInState_49 (by decide) (by omega) (by omega) (fun c49 => ?_) (fun c49 => ?_)
        · -- jumps
          refine i_iinc dX10_walkersInState_55 rfl (L' := [some _, some _, some _, some _, some _]) (by decide) rfl ?_
          refine i_goto (tgt := 14) dX10_walkersInState_58 (by decide) ?_
          refine ih _ ?_ (k + 1) _ rfl (by omega) ?_
          · omega
          rw [zsum_s h1.1, ← hx]
          first | (rw [zb_t (by omega)]; done) | (rw [zb_f (by omega)]; omega)
        · -- on
          refine i_iinc dX10_walkersInState_52 rfl (L' := [some _, some _, some _, some _, some _]) (by decide) rfl ?_
          refine i_iinc dX10_walkersInState_55 rfl (L' := [some _, some _, some _, some _, some _]) (by decide) rfl ?_
          refine i_goto (tgt := 14) dX10_walkersInState_58 (by decide) ?_
          refine ih _ ?_ (k + 1) _ rfl (by omega) ?_
          · omega
          rw [zsum_s h1.1, ← hx]
          first | (rw [zb_t (by omega)]; done) | (rw [zb_f (by omega)]; omega)
theorem q_walkersInState {s t : Int} (hZ : p_Zs G) (hN : cNow V C J w) (hO : wOK w) (h_s : -2147483648 ≤ s ∧ s < 2147483648) (h_t : -2147483648 ≤ t ∧ t < 2147483648) (hp1 : ¬ ((s = 0 ∨ s = 1) ∧ 0 ≤ t ∧ t < w (476 * s + 5)) → P (.inr "java/lang/IndexOutOfBoundsException") (V, C, J)) (hp : (s = 0 ∨ s = 1) ∧ 0 ≤ t ∧ t < w (476 * s + 5) → P (.inl (some (.int (iI (wIn w s t))))) (V, C, J)) : RM G mX10_walkersInState (c_I Y h0) [.ref (Y 0), .int (iI s), .int (iI t)] (d + 8) 2 12 P (V, C, J) := by
  refine RM.of (L := [some (.ref (Y 0)), some (.int (iI s)), some (.int (iI t)), none, none]) cfX10_walkersInState rfl (Nat.le_of_ble_eq_true rfl) ?_
  refine i_aload_n dX10_walkersInState_0 rfl ?_
  refine i_iload_n dX10_walkersInState_1 rfl ?_
  refine u_callV (i := 0) (mc := 1) (ms := 6) (k' := 1) (n' := 6) (As := [_]) dX10_walkersInState_2 cfX10_checkedPattern imX10_checkedPattern seX10_checkedPattern lX10_212 (by decide) rfl rfl rfl rfl rfl (Nat.le_of_ble_eq_true rfl) rfl rfl ?_
  refine q_checkedPattern hZ hN hO (by omega) (fun g1 a1 p1 hy1 hr1 => RK.v ?_) (fun g1 => RK.x ?_)
  · -- case
    refine i_iload_n dX10_walkersInState_5 rfl ?_
    refine i_callS (mc := 1) (ms := 6) (k' := 0) (n' := 0) (As := [_, _]) dX10_walkersInState_6 cfX10_checkState stX10_checkState lX10_240 rfl rfl (Nat.le_of_ble_eq_true rfl) rfl rfl ?_
    refine q_checkState hZ hy1 hr1 (hO.1 _ (by omega)) (by omega) (fun g2 => RK.n0 ?_) (fun g2 => RK.x ?_)
    · -- case
      refine i_const dX10_walkersInState_9 ?_
      refine i_istore_n dX10_walkersInState_10 (L' := [some _, some _, some _, some _, none]) (by decide) rfl ?_
      refine i_const dX10_walkersInState_11 ?_
      refine i_istore dX10_walkersInState_12 (L' := [some _, some _, some _, some _, some _]) (by decide) rfl ?_
      exact q_wis_l hN hO (by omega) (by omega) (hp (by omega)) _ 0 0 rfl ⟨by decide, hO.2.1.1⟩ rfl
    · -- case
      exact hp1 (by omega)
  · -- case
    exact hp1 (by omega)
theorem q_hs_l  (hN : cNow V C J w) (hO : wOK w) (hX : ∀ s, s = 0 ∨ s = 1 → wX w s) (hn0 : ¬ w 952 = 0) (hp : P (.inl (some (.float (if w 952 = 0 then FP.fconst0 else FP.fdiv (FP.i2f (iI (wHm w (w 952)))) (FP.i2f (iI (w 952))))))) (V, C, J))  : ∀ (zz : Nat) (k : Int) (x : Int), zz = (w 952 - k).toNat → (0 ≤ k ∧ k ≤ w 952) → (x = wHm w k) → RW G mX10_homeShare (c_I Y h0) P (d + 3) 0 0 16 [some (.ref (Y 0)), some (.int (iI x)), some (.int (iI k))] [] (V, C, J) := by
  intro zz
  induction zz using Nat.strongRecOn with
  | _ zz ih =>
    intro k x hzz h1 hx
    have n1 := hN.n
    have b0 := hO.2.1
    have b1 : k < w 952 → _ := fun h => hO.wk h1.1 h
    have b2 := @wHm_rg w k h1.1
    refine i_iload_n dX10_homeShare_16 rfl ?_
    refine i_aload_n dX10_homeShare_17 rfl ?_
    refine u_get (i := 0) (vv := .ref (Y (30))) dX10_homeShare_18 fX10_49.o (by decide) rfl rfl ?_
    refine u_get (i := 30) (vv := .int (iI (V 21))) dX10_homeShare_21 fX10_135 (by decide) rfl rfl ?_
    refine i_icmp_ge (tgt := 58) dX10_homeShare_24 (by decide) (by omega) (by omega) (fun c24 => ?_) (fun c24 => ?_)
    · -- jumps
      refine i_iload_n dX10_homeShare_58 rfl ?_
      refine i_i2f dX10_homeShare_59 ?_
      refine i_aload_n dX10_homeShare_60 rfl ?_
      refine u_get (i := 0) (vv := .ref (Y (30))) dX10_homeShare_61 fX10_49.o (by decide) rfl rfl ?_
      refine u_get (i := 30) (vv := .int (iI (V 21))) dX10_homeShare_64 fX10_135 (by decide) rfl rfl ?_
      refine i_i2f dX10_homeShare_67 ?_
      refine i_fdiv dX10_homeShare_68 (by rw [n1.2.1]; exact fq_share (by omega) (by omega)) ?_
      refine i_freturn dX10_homeShare_69 rfl ?_
      obtain rfl : k = w 952 := by omega
      rw [if_neg hn0, ← hx] at hp
      rw [n1.2.1]; exact hp
    · -- on
      have b4 := b1 (by omega)
      have b5 := hO.sts b4.1
      refine i_aload_n dX10_homeShare_27 rfl ?_
      refine u_get (i := 0) (vv := .ref (Y (30))) dX10_homeShare_28 fX10_49.o (by decide) rfl rfl ?_
      refine i_iload_n dX10_homeShare_31 rfl ?_
      refine u_callV (i := 30) (mc := 0) (ms := 0) (As := [_]) dX10_homeShare_32 cfX9_patternOfWalker imX9_patternOfWalker seX9_patternOfWalker lX10_308 (by decide) rfl rfl rfl rfl rfl (Nat.le_of_ble_eq_true rfl) (Nat.zero_add _).symm (Nat.zero_add _).symm ?_
      refine q_patternOfWalker hN hO (by omega) (fun a1 p1 hy1 hr1 => RK.v ?_)
      refine i_aload_n dX10_homeShare_35 rfl ?_
      refine u_get (i := 0) (vv := .ref (Y (30))) dX10_homeShare_36 fX10_49.o (by decide) rfl rfl ?_
      refine i_iload_n dX10_homeShare_39 rfl ?_
      refine u_callV (i := 30) (mc := 0) (ms := 0) (As := [_]) dX10_homeShare_40 cfX9_stateOf imX9_stateOf seX9_stateOf lX10_168 (by decide) rfl rfl rfl rfl rfl (Nat.le_of_ble_eq_true rfl) (Nat.zero_add _).symm (Nat.zero_add _).symm ?_
      refine q_stateOf hN hO (by omega) (RK.v ?_)
      refine u_callP (mc := 0) (ms := 0) (As := [_]) hy1 dX10_homeShare_43 cfX5_accepts imX5_accepts seX5_accepts lX10_247 rfl rfl rfl rfl (Nat.le_of_ble_eq_true rfl) (Nat.zero_add _).symm (Nat.zero_add _).symm ?_
      refine q_accepts hy1 hr1 (hO.1 _ b4.1) (hX _ b4.1) (by omega) (fun _ => RK.v ?_) (fun q9 => absurd ⟨by omega, by omega⟩ q9)
      refine i_ifeq_b (tgt := 52) dX10_homeShare_46 (by decide) (fun c46 => ?_) (fun c46 => ?_)
      · -- jumps
        refine i_iinc dX10_homeShare_52 rfl (L' := [some _, some _, some _]) (by decide) rfl ?_
        refine i_goto (tgt := 16) dX10_homeShare_55 (by decide) ?_
        refine ih _ ?_ (k + 1) _ rfl (by omega) ?_
        · omega
        rw [wHm_s h1.1, hx]
        first | (rw [zb_t (by assumption)]; done) | (rw [zb_f (by assumption)]; omega)
      · -- on
        refine i_iinc dX10_homeShare_49 rfl (L' := [some _, some _, some _]) (by decide) rfl ?_
        refine i_iinc dX10_homeShare_52 rfl (L' := [some _, some _, some _]) (by decide) rfl ?_
        refine i_goto (tgt := 16) dX10_homeShare_55 (by decide) ?_
        refine ih _ ?_ (k + 1) _ rfl (by omega) ?_
        · omega
        rw [wHm_s h1.1, hx]
        first | (rw [zb_t (by assumption)]; done) | (rw [zb_f (by assumption)]; omega)
theorem q_homeShare  (hN : cNow V C J w) (hO : wOK w) (hX : ∀ s, s = 0 ∨ s = 1 → wX w s) (hp : P (.inl (some (.float (if w 952 = 0 then FP.fconst0 else FP.fdiv (FP.i2f (iI (wHm w (w 952)))) (FP.i2f (iI (w 952))))))) (V, C, J)) : RM G mX10_homeShare (c_I Y h0) [.ref (Y 0)] (d + 3) 0 0 P (V, C, J) := by
  refine RM.of (L := [some (.ref (Y 0)), none, none]) cfX10_homeShare rfl (Nat.le_of_ble_eq_true rfl) ?_
  have n1 := hN.n
  have b0 := hO.2.1
  refine i_aload_n dX10_homeShare_0 rfl ?_
  refine u_get (i := 0) (vv := .ref (Y (30))) dX10_homeShare_1 fX10_49.o (by decide) rfl rfl ?_
  refine u_get (i := 30) (vv := .int (iI (V 21))) dX10_homeShare_4 fX10_135 (by decide) rfl rfl ?_
  refine i_if_ne (tgt := 12) dX10_homeShare_7 (by decide) (by omega) (fun c7 => ?_) (fun c7 => ?_)
  · -- jumps
    refine i_const dX10_homeShare_12 ?_
    refine i_istore_n dX10_homeShare_13 (L' := [some _, some _, none]) (by decide) rfl ?_
    refine i_const dX10_homeShare_14 ?_
    refine i_istore_n dX10_homeShare_15 (L' := [some _, some _, some _]) (by decide) rfl ?_
    exact q_hs_l hN hO hX (by omega) hp _ 0 0 rfl (by omega) rfl
  · -- on
    refine i_fconst0 dX10_homeShare_10 ?_
    refine i_freturn dX10_homeShare_11 rfl ?_
    rw [if_pos (by omega)] at hp
    exact hp
theorem q_wordCount {s n : Int} (hZ : p_Zs G) (hN : cNow V C J w) (hO : wOK w) (hX : ∀ s, s = 0 ∨ s = 1 → wX w s) (h_s : -2147483648 ≤ s ∧ s < 2147483648) (h_n : -2147483648 ≤ n ∧ n < 2147483648) (hp1 : ¬ (s = 0 ∨ s = 1) → P (.inr "java/lang/IndexOutOfBoundsException") (V, C, J)) (hp2 : (s = 0 ∨ s = 1) ∧ ¬ (0 ≤ n ∧ n ≤ 20) → P (.inr "java/lang/IllegalArgumentException") (V, C, J)) (hp : (s = 0 ∨ s = 1) ∧ (0 ≤ n ∧ n ≤ 20) → ∀ J', J'.2 = J.2 → P (.inl (some (.long (lI (wCW w s n.toNat 0))))) (V, C, J')) : RM G mX10_wordCount (c_I Y h0) [.ref (Y 0), .int (iI s), .int (iI n)] (d + 8) 2 12 P (V, C, J) := by
  refine RM.of (L := [some (.ref (Y 0)), some (.int (iI s)), some (.int (iI n)), none]) cfX10_wordCount rfl (Nat.le_of_ble_eq_true rfl) ?_
  refine i_aload_n dX10_wordCount_0 rfl ?_
  refine i_iload_n dX10_wordCount_1 rfl ?_
  refine u_callV (i := 0) (mc := 1) (ms := 6) (k' := 1) (n' := 6) (As := [_]) dX10_wordCount_2 cfX10_checkedPattern imX10_checkedPattern seX10_checkedPattern lX10_212 (by decide) rfl rfl rfl rfl rfl (Nat.le_of_ble_eq_true rfl) rfl rfl ?_
  refine q_checkedPattern hZ hN hO (by omega) (fun g1 a1 p1 hy1 hr1 => RK.v ?_) (fun g1 => RK.x ?_)
  · -- case
    refine i_astore_n dX10_wordCount_5 (L' := [some _, some _, some _, some _]) (by decide) rfl ?_
    refine i_iload_n dX10_wordCount_6 rfl ?_
    refine i_callS (mc := 1) (ms := 6) (k' := 0) (n' := 0) (As := [_]) dX10_wordCount_7 cfX10_checkWordLength stX10_checkWordLength lX10_275 rfl rfl (Nat.le_of_ble_eq_true rfl) rfl rfl ?_
    refine q_checkWordLength hZ  (by omega) (fun g2 => RK.n0 ?_) (fun g2 => RK.x ?_)
    · -- case
      have o5 := hO.sts g1
      refine i_aload_n dX10_wordCount_10 rfl ?_
      refine u_get (i := 0) (vv := .ref (Y (16))) dX10_wordCount_11 fX10_80.o (by decide) rfl rfl ?_
      refine i_aload_n dX10_wordCount_14 rfl ?_
      refine i_iload_n dX10_wordCount_15 rfl ?_
      refine u_callV (i := 16) (mc := 0) (ms := 0) (As := [_, _]) dX10_wordCount_16 cfX8_fill imX8_fill seX8_fill lX10_278 (by decide) rfl rfl rfl rfl rfl (Nat.le_of_ble_eq_true rfl) (Nat.zero_add _).symm (Nat.zero_add _).symm ?_
      refine q_fill hy1 hr1 (hO.1 _ g1) (hX _ g1) (by omega) (fun J3 hJ3 hct3 => RK.n0 ?_)
      refine i_aload_n dX10_wordCount_19 rfl ?_
      refine u_get (i := 0) (vv := .ref (Y (16))) dX10_wordCount_20 fX10_80.o (by decide) rfl rfl ?_
      refine i_const dX10_wordCount_23 ?_
      refine i_iload_n dX10_wordCount_24 rfl ?_
      refine u_callV (i := 16) (mc := 0) (ms := 0) (As := [_, _]) dX10_wordCount_25 cfX8_from imX8_from seX8_from lX10_281 (by decide) rfl rfl rfl rfl rfl (Nat.le_of_ble_eq_true rfl) (Nat.zero_add _).symm (Nat.zero_add _).symm ?_
      refine q_from (x := wCW w s (n).toNat (0)) (by omega) (by omega) (hct3 _ (by omega) (by omega) _ (by omega) (by omega)) (RK.v ?_)
      refine i_lreturn dX10_wordCount_28 rfl ?_
      exact hp (by omega) _ hJ3
    · -- case
      exact hp2 (by omega)
  · -- case
    exact hp1 (by omega)
theorem wRun_rg {w b : Int → Int} {s : Int} (hO : wP w s) : ∀ n : Nat, (∀ i : Int, 0 ≤ i → i < n → bStr b i) → 0 ≤ wRun w b s n ∧ wRun w b s n < w (476 * s + 5)
  | 0, _ => by
    have := hO.2.2.2.1
    show 0 ≤ (0 : Int) ∧ (0 : Int) < _
    omega
  | n + 1, h => by
    have ih := wRun_rg hO n (fun i i0 i1 => h i i0 (by omega))
    have hb : 0 ≤ b n - 97 ∧ b n - 97 ≤ 5 := h n (by omega) (by omega)
    exact hO.2.2.2.2.2 _ _ ih.1 ih.2 (by omega) (by omega)
theorem q_sai_l {a : Nat} {p : c_P} {s : Int} (hN : cNow V C J w) (hO : wOK w) (hs : s = 0 ∨ s = 1) (hp : J.2.2 a = some p) (hr : cPt p w s) (h4 : 0 ≤ V 4 ∧ V 4 ≤ 200) (hB : ∀ j, 0 ≤ j → j < V 4 → 0 ≤ C 2 j ∧ C 2 j < 256) (hq1 : (∀ i, 0 ≤ i → i < V 4 → bStr (C 2) i) → P (.inl (some (.int (iI (wRun w (C 2) s (V 4).toNat))))) (V, C, J)) (hq0 : ¬ (∀ i, 0 ≤ i → i < V 4 → bStr (C 2) i) → P (.inl (some (.int (iI (-1))))) (V, C, J)) : ∀ (zz : Nat) (k : Int) (t : Int), zz = (V 4 - k).toNat → (0 ≤ k ∧ k ≤ V 4) → (((∀ i, 0 ≤ i → i < k → bStr (C 2) i) ∧ t = wRun w (C 2) s k.toNat) ∨ (¬ (∀ i, 0 ≤ i → i < k → bStr (C 2) i) ∧ t = -1)) → RW G mX10_stateAfterInput (c_I Y h0) P (d + 3) 0 0 4 [some (.ref (Y 0)), some (.ref a), some (.int (iI t)), some (.int (iI k))] [] (V, C, J) := by
  intro zz
  induction zz using Nat.strongRecOn with
  | _ zz ih =>
    intro k t hzz h1 hI
    have o5 := hO.sts hs
    have hrn : (∀ i, 0 ≤ i → i < k → bStr (C 2) i) → 0 ≤ wRun w (C 2) s k.toNat ∧ wRun w (C 2) s k.toNat < w (476 * s + 5) := fun h => wRun_rg (hO.1 s hs) k.toNat (fun i i0 i1 => h i i0 (by omega))
    refine i_iload_n dX10_stateAfterInput_4 rfl ?_
    refine i_aload_n dX10_stateAfterInput_5 rfl ?_
    refine u_get (i := 0) (vv := .ref (Y (1))) dX10_stateAfterInput_6 fX10_36.o (by decide) rfl rfl ?_
    refine u_callV (i := 1) (mc := 0) (ms := 0) (As := []) dX10_stateAfterInput_9 cfX1_size imX1_size seX1_size lX10_95 (by decide) rfl rfl rfl rfl rfl (Nat.le_of_ble_eq_true rfl) (Nat.zero_add _).symm (Nat.zero_add _).symm ?_
    refine q_size1 (RK.v ?_)
    refine i_icmp_ge (tgt := 35) dX10_stateAfterInput_12 (by decide) (by omega) (by omega) (fun c12 => ?_) (fun c12 => ?_)
    · -- jumps
      refine i_iload_n dX10_stateAfterInput_35 rfl ?_
      refine i_ireturn dX10_stateAfterInput_36 rfl rfl ?_
      obtain rfl : k = V 4 := by omega
      rcases hI with hI9 | hI9
      · rw [hI9.2]; exact hq1 hI9.1
      · rw [hI9.2]; exact hq0 hI9.1
    · -- on
      refine i_aload_n dX10_stateAfterInput_15 rfl ?_
      refine i_iload_n dX10_stateAfterInput_16 rfl ?_
      refine i_aload_n dX10_stateAfterInput_17 rfl ?_
      refine u_get (i := 0) (vv := .ref (Y (1))) dX10_stateAfterInput_18 fX10_36.o (by decide) rfl rfl ?_
      refine i_iload_n dX10_stateAfterInput_21 rfl ?_
      refine u_callV (i := 1) (mc := 0) (ms := 0) (As := [_]) dX10_stateAfterInput_22 cfX1_street imX1_street seX1_street lX10_171 (by decide) rfl rfl rfl rfl rfl (Nat.le_of_ble_eq_true rfl) (Nat.zero_add _).symm (Nat.zero_add _).symm ?_
      have hb := hB k (by omega) (by omega)
      refine q_street h4 hB (by omega) (RK.v ?_)
      refine u_callP (mc := 0) (ms := 0) (As := [_, _]) hp dX10_stateAfterInput_25 cfX5_after imX5_after seX5_after lX10_243 rfl rfl rfl rfl (Nat.le_of_ble_eq_true rfl) (Nat.zero_add _).symm (Nat.zero_add _).symm ?_
      by_cases h9 : (∀ i, 0 ≤ i → i < k + 1 → bStr (C 2) i)
      · rcases hI with hI9 | hI9
        · have hb9 : bStr (C 2) k := h9 k (by omega) (by omega)
          have r9 := hrn hI9.1
          have hb8 : 0 ≤ C 2 k - 97 ∧ C 2 k - 97 ≤ 5 := hb9
          rw [if_pos hb8]
          refine q_after hp hr (hO.1 _ hs) (by omega) (by omega) (fun _ => RK.v ?_) (fun q9 => absurd ⟨⟨by omega, by omega⟩, by omega, by omega⟩ q9)
          refine i_istore_n dX10_stateAfterInput_28 (L' := [some _, some _, some _, some _]) (by decide) rfl ?_
          refine i_iinc dX10_stateAfterInput_29 rfl (L' := [some _, some _, some _, some _]) (by decide) rfl ?_
          refine i_goto (tgt := 4) dX10_stateAfterInput_32 (by decide) ?_
          refine ih _ ?_ (k + 1) _ rfl (by omega) (Or.inl ⟨fun i i0 i1 => ?_, ?_⟩)
          · omega
          · by_cases zz : i = k
            · rw [zz]; exact hb9
            · exact hI9.1 i i0 (by omega)
          · rw [wRun_s h1.1, ← hI9.2]
        · exact absurd (fun i i0 i1 => h9 i i0 (by omega)) hI9.1
      · have hbad : ¬ (∀ i, 0 ≤ i → i < k + 1 → bStr (C 2) i) := h9
        have q8 : ¬ ((0 ≤ t ∧ t < w (476 * s + 5)) ∧ 0 ≤ (if 0 ≤ C 2 k - 97 ∧ C 2 k - 97 ≤ 5 then C 2 k - 97 else -1) ∧ (if 0 ≤ C 2 k - 97 ∧ C 2 k - 97 ≤ 5 then C 2 k - 97 else -1) < 6) := fun q => by
          rcases hI with hI9 | hI9
          · have r9 := hrn hI9.1
            by_cases c9 : 0 ≤ C 2 k - 97 ∧ C 2 k - 97 ≤ 5
            · refine h9 (fun i i0 i1 => ?_)
              by_cases zz : i = k
              · rw [zz]; exact c9
              · exact hI9.1 i i0 (by omega)
            · rw [if_neg c9] at q; omega
          · omega
        refine q_after hp hr (hO.1 _ hs) (by rcases hI with hI9 | hI9 <;> first | omega | (have := hrn hI9.1; omega)) (by split <;> omega) (fun q => absurd q q8) (fun _ => RK.v ?_)
        refine i_istore_n dX10_stateAfterInput_28 (L' := [some _, some _, some _, some _]) (by decide) rfl ?_
        refine i_iinc dX10_stateAfterInput_29 rfl (L' := [some _, some _, some _, some _]) (by decide) rfl ?_
        refine i_goto (tgt := 4) dX10_stateAfterInput_32 (by decide) ?_
        refine ih _ ?_ (k + 1) _ rfl (by omega) (Or.inr ⟨hbad, rfl⟩)
        omega
theorem q_stateAfterInput {a : Nat} {p : c_P} {s : Int} (hN : cNow V C J w) (hO : wOK w) (hs : s = 0 ∨ s = 1) (hp : J.2.2 a = some p) (hr : cPt p w s) (h4 : 0 ≤ V 4 ∧ V 4 ≤ 200) (hB : ∀ j, 0 ≤ j → j < V 4 → 0 ≤ C 2 j ∧ C 2 j < 256) (hq1 : (∀ i, 0 ≤ i → i < V 4 → bStr (C 2) i) → P (.inl (some (.int (iI (wRun w (C 2) s (V 4).toNat))))) (V, C, J)) (hq0 : ¬ (∀ i, 0 ≤ i → i < V 4 → bStr (C 2) i) → P (.inl (some (.int (iI (-1))))) (V, C, J)) : RM G mX10_stateAfterInput (c_I Y h0) [.ref (Y 0), .ref a] (d + 3) 0 0 P (V, C, J) := by
  refine RM.of (L := [some (.ref (Y 0)), some (.ref a), none, none]) cfX10_stateAfterInput rfl (Nat.le_of_ble_eq_true rfl) ?_
  refine i_const dX10_stateAfterInput_0 ?_
  refine i_istore_n dX10_stateAfterInput_1 (L' := [some _, some _, some _, none]) (by decide) rfl ?_
  refine i_const dX10_stateAfterInput_2 ?_
  refine i_istore_n dX10_stateAfterInput_3 (L' := [some _, some _, some _, some _]) (by decide) rfl ?_
  exact q_sai_l hN hO hs hp hr h4 hB hq1 hq0 _ 0 0 rfl ⟨by decide, h4.1⟩ (Or.inl ⟨fun i i0 i1 => by omega, rfl⟩)
theorem q_acceptsInput {s : Int} (hZ : p_Zs G) (hN : cNow V C J w) (hO : wOK w) (hX : ∀ s, s = 0 ∨ s = 1 → wX w s) (h4 : 0 ≤ V 4 ∧ V 4 ≤ 200) (hB : ∀ j, 0 ≤ j → j < V 4 → 0 ≤ C 2 j ∧ C 2 j < 256) (h_s : -2147483648 ≤ s ∧ s < 2147483648) (hp1 : ¬ (s = 0 ∨ s = 1) → P (.inr "java/lang/IndexOutOfBoundsException") (V, C, J)) (hp : s = 0 ∨ s = 1 → P (.inl (some (.int (iI (zc ((∀ i, 0 ≤ i → i < V 4 → bStr (C 2) i) ∧ wAcc w s (wRun w (C 2) s (V 4).toNat))))))) (V, C, J)) : RM G mX10_acceptsInput (c_I Y h0) [.ref (Y 0), .int (iI s)] (d + 8) 1 6 P (V, C, J) := by
  refine RM.of (L := [some (.ref (Y 0)), some (.int (iI s)), none]) cfX10_acceptsInput rfl (Nat.le_of_ble_eq_true rfl) ?_
  refine i_aload_n dX10_acceptsInput_0 rfl ?_
  refine i_iload_n dX10_acceptsInput_1 rfl ?_
  refine u_callV (i := 0) (mc := 1) (ms := 6) (k' := 0) (n' := 0) (As := [_]) dX10_acceptsInput_2 cfX10_checkedPattern imX10_checkedPattern seX10_checkedPattern lX10_212 (by decide) rfl rfl rfl rfl rfl (Nat.le_of_ble_eq_true rfl) rfl rfl ?_
  refine q_checkedPattern hZ hN hO (by omega) (fun g1 a1 p1 hy1 hr1 => RK.v ?_) (fun g1 => RK.x ?_)
  · -- case
    refine i_astore_n dX10_acceptsInput_5 (L' := [some _, some _, some _]) (by decide) rfl ?_
    refine i_aload_n dX10_acceptsInput_6 rfl ?_
    refine i_aload_n dX10_acceptsInput_7 rfl ?_
    refine i_aload_n dX10_acceptsInput_8 rfl ?_
    refine u_callV (i := 0) (mc := 0) (ms := 0) (As := [_]) dX10_acceptsInput_9 cfX10_stateAfterInput imX10_stateAfterInput seX10_stateAfterInput lX10_271 (by decide) rfl rfl rfl rfl rfl (Nat.le_of_ble_eq_true rfl) (Nat.zero_add _).symm (Nat.zero_add _).symm ?_
    refine q_stateAfterInput hN hO g1 hy1 hr1 h4 hB (fun hA => RK.v ?_) (fun hA => RK.v ?_)
    · -- case
      refine u_callP (mc := 0) (ms := 0) (As := [_]) hy1 dX10_acceptsInput_12 cfX5_accepts imX5_accepts seX5_accepts lX10_247 rfl rfl rfl rfl (Nat.le_of_ble_eq_true rfl) (Nat.zero_add _).symm (Nat.zero_add _).symm ?_
      have r9 := wRun_rg (hO.1 _ g1) (V 4).toNat (fun i i0 i1 => hA i i0 (by omega))
      have o5 := hO.sts g1
      refine q_accepts hy1 hr1 (hO.1 _ g1) (hX _ g1) (by omega) (fun _ => RK.v ?_) (fun q9 => absurd r9 q9)
      refine i_ireturn dX10_acceptsInput_15 rfl (zb_nar (by first | exact zb_or | omega)) ?_
      have hq := hp (by omega)
      by_cases hW : wAcc w s (wRun w (C 2) s (V 4).toNat)
      · rw [zc_t ⟨hA, hW⟩] at hq; rw [zb_t hW]; exact hq
      · rw [zc_f (fun z => hW z.2)] at hq; rw [zb_f hW]; exact hq
    · -- case
      refine u_callP (mc := 0) (ms := 0) (As := [_]) hy1 dX10_acceptsInput_12 cfX5_accepts imX5_accepts seX5_accepts lX10_247 rfl rfl rfl rfl (Nat.le_of_ble_eq_true rfl) (Nat.zero_add _).symm (Nat.zero_add _).symm ?_
      refine q_accepts hy1 hr1 (hO.1 _ g1) (hX _ g1) (by omega) (fun q9 => absurd q9.1 (by omega)) (fun _ => RK.v ?_)
      refine i_ireturn dX10_acceptsInput_15 rfl rfl ?_
      have hq := hp (by omega)
      rw [zc_f (fun z => hA z.1)] at hq; exact hq
  · -- case
    exact hp1 (by omega)
end C53
