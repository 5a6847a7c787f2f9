/-! ===== the class: its comparisons ===== -/
theorem zal_cg {al al' : Int → Prop} (h : ∀ c, 0 ≤ c → c < 6 → (al c ↔ al' c)) (n : Nat) : zal al n ↔ zal al' n := by
  refine zind (Q := fun n => zal al n ↔ zal al' n) ?_ (fun m c hc ih => ?_) n
  · exact iff_of_true zal_0 zal_0
  · rw [zal_s hc, zal_s hc, ih, h c (by omega) (by omega)]
theorem zMin.cg {nx : Int → Int → Int} {al al' : Int → Prop} {s0 : Int} {K K' : Int → Prop} {n : Nat} (hm : zMin nx al s0 K n) (h : ∀ c, 0 ≤ c → c < 6 → (al c ↔ al' c)) (hg : ∀ y, K y ↔ K' y) : zMin nx al' s0 K' n := ⟨(zal_cg h n).mp hm.1, (hg _).mp hm.2.1, fun m a b => hm.2.2 m ((zal_cg h m).mpr a) ((hg _).mpr b)⟩
theorem zNo.cg {nx : Int → Int → Int} {al al' : Int → Prop} {s0 : Int} {K K' : Int → Prop} (hm : zNo nx al s0 K) (h : ∀ c, 0 ≤ c → c < 6 → (al c ↔ al' c)) (hg : ∀ y, K y ↔ K' y) : zNo nx al' s0 K' := fun m a b => hm m ((zal_cg h m).mpr a) ((hg _).mpr b)
theorem z63n : ∀ c, c < 6 → (63 : Nat).testBit c = true := by decide
theorem z63 {c : Int} (h0 : 0 ≤ c) (h1 : c < 6) : zt 63 c := z63n c.toNat (by omega)
theorem zGl_0 {A B : Prop} : zGl 0 A B ↔ A ∧ B := ⟨fun z => z.elim (fun z => z.2) (fun z => z.elim (fun z => absurd z.1 (by decide)) (fun z => absurd z.1 (by decide))), fun z => Or.inl ⟨rfl, z⟩⟩
theorem zGl_1 {A B : Prop} : zGl 1 A B ↔ ¬ (A ↔ B) := ⟨fun z => z.elim (fun z => absurd z.1 (by decide)) (fun z => z.elim (fun z => z.2) (fun z => absurd z.1 (by decide))), fun z => Or.inr (Or.inl ⟨rfl, z⟩)⟩
theorem zGl_3 {A B : Prop} : ¬ zGl 3 A B := fun z => z.elim (fun z => absurd z.1 (by decide)) (fun z => z.elim (fun z => absurd z.1 (by decide)) (fun z => absurd z.1 (by decide)))
section C51
variable {G : p_G} {Y : Nat → Nat} {h0 : p_H} {P : (Option Value) ⊕ String → c_X → Prop} {d : Nat} {V : Nat → Int} {C : Nat → Int → Int} {J : c_J}
variable {w : Int → Int}
theorem q_compareBoth {g : Int} (hN : cNow V C J w) (hO : wOK w) (hX : ∀ s, s = 0 ∨ s = 1 → wX w s) (hSI : cSI V C) (hg : g = 0 ∨ g = 1 ∨ g = 2 ∨ g = 3) (hpH : ∀ V' C' k cd, cSr V' C' (wNx2 w 0 1) (fun c => zt 63 c) 0 k 0 cd → (0 ≤ k ∧ k < V' 12) → zMin (wNx2 w 0 1) (fun c => zt 63 c) 0 (fun y => zGl g (wAcc w 0 (y / 60)) (wAcc w 1 (y % 60))) (cd k) → sV [12] V V' → sC [12, 13, 14, 15] C C' → P (.inl (some (.int (iI k)))) (V', C', J)) (hpN : ∀ V' C' cd, cSr V' C' (wNx2 w 0 1) (fun c => zt 63 c) 0 (V' 12) 0 cd → zNo (wNx2 w 0 1) (fun c => zt 63 c) 0 (fun y => zGl g (wAcc w 0 (y / 60)) (wAcc w 1 (y % 60))) → sV [12] V V' → sC [12, 13, 14, 15] C C' → P (.inl (some (.int (iI (-1))))) (V', C', J)) : RM G mX10_compareBoth (c_I Y h0) [.ref (Y 0), .int (iI g)] (d + 3) 0 0 P (V, C, J) := by
  refine RM.of (L := [some (.ref (Y 0)), some (.int (iI g))]) cfX10_compareBoth rfl (Nat.le_of_ble_eq_true rfl) ?_
  have o0 := hO.sts (s := 0) (Or.inl rfl)
  have o1 := hO.sts (s := 1) (Or.inr rfl)
  refine i_aload_n dX10_compareBoth_0 rfl ?_
  refine u_get (i := 0) (vv := .ref (Y (11))) dX10_compareBoth_1 fX10_73.o (by decide) rfl rfl ?_
  refine i_aload_n dX10_compareBoth_4 rfl ?_
  refine u_get (i := 0) (vv := .ref (Y (30))) dX10_compareBoth_5 fX10_49.o (by decide) rfl rfl ?_
  refine i_const dX10_compareBoth_8 ?_
  refine u_callV (i := 30) (mc := 0) (ms := 0) (As := [_]) dX10_compareBoth_9 cfX9_pattern imX9_pattern seX9_pattern lX10_124 (by decide) rfl rfl rfl rfl rfl (Nat.le_of_ble_eq_true rfl) (Nat.zero_add _).symm (Nat.zero_add _).symm ?_
  refine q_pattern (w := w) hN (by omega) (fun a1 p1 ha1 hp1 hr1 => RK.v ?_)
  refine i_aload_n dX10_compareBoth_12 rfl ?_
  refine u_get (i := 0) (vv := .ref (Y (30))) dX10_compareBoth_13 fX10_49.o (by decide) rfl rfl ?_
  refine i_const dX10_compareBoth_16 ?_
  refine u_callV (i := 30) (mc := 0) (ms := 0) (As := [_]) dX10_compareBoth_17 cfX9_pattern imX9_pattern seX9_pattern lX10_124 (by decide) rfl rfl rfl rfl rfl (Nat.le_of_ble_eq_true rfl) (Nat.zero_add _).symm (Nat.zero_add _).symm ?_
  refine q_pattern (w := w) hN (by omega) (fun a2 p2 ha2 hp2 hr2 => RK.v ?_)
  refine i_const dX10_compareBoth_20 ?_
  refine i_bipush dX10_compareBoth_21 (by decide) ?_
  refine i_iload_n dX10_compareBoth_23 rfl ?_
  refine u_callV (i := 11) (mc := 0) (ms := 0) (As := [_, _, _, _, _]) dX10_compareBoth_24 cfX3_find imX3_find seX3_find lX10_288 (by decide) rfl rfl rfl rfl rfl (Nat.le_of_ble_eq_true rfl) (Nat.zero_add _).symm (Nat.zero_add _).symm ?_
  refine q_find hp1 hr1 hp2 hr2 (hO.1 _ (Or.inl rfl)) (hO.1 _ (Or.inr rfl)) (hX _ (Or.inl rfl)) (hX _ (Or.inr rfl)) (by decide) hg hSI (by decide) (by show (0 : Int) < _; omega) (by show (0 : Int) < _; omega) (fun V3 C3 k3 cd3 hS3 hk3 hm3 hv3 hc3 => RK.v ?_) (fun V3 C3 cd3 hS3 hm3 hv3 hc3 => RK.v ?_)
  · -- case
    refine i_ireturn dX10_compareBoth_27 rfl rfl ?_
    exact hpH _ _ _ _ hS3 hk3 hm3 hv3 hc3
  · -- case
    refine i_ireturn dX10_compareBoth_27 rfl rfl ?_
    exact hpN _ _ _ hS3 hm3 hv3 hc3
theorem q_differenceLength  (hN : cNow V C J w) (hO : wOK w) (hX : ∀ s, s = 0 ∨ s = 1 → wX w s) (hSI : cSI V C) (hp : ∀ r V' C', zLen (wNx2 w 0 1) zTr 0 (wG0 w) r → cSI V' C' → sV [12] V V' → sC [12, 13, 14, 15] C C' → P (.inl (some (.int (iI r)))) (V', C', J)) : RM G mX10_differenceLength (c_I Y h0) [.ref (Y 0)] (d + 4) 0 0 P (V, C, J) := by
  refine RM.of (L := [some (.ref (Y 0))]) cfX10_differenceLength rfl (Nat.le_of_ble_eq_true rfl) ?_
  refine i_aload_n dX10_differenceLength_0 rfl ?_
  refine u_get (i := 0) (vv := .ref (Y (11))) dX10_differenceLength_1 fX10_73.o (by decide) rfl rfl ?_
  refine i_aload_n dX10_differenceLength_4 rfl ?_
  refine i_const dX10_differenceLength_5 ?_
  refine u_callV (i := 0) (mc := 0) (ms := 0) (As := [_]) dX10_differenceLength_6 cfX10_compareBoth imX10_compareBoth seX10_compareBoth lX10_292 (by decide) rfl rfl rfl rfl rfl (Nat.le_of_ble_eq_true rfl) (Nat.zero_add _).symm (Nat.zero_add _).symm ?_
  refine q_compareBoth hN hO hX hSI (by decide) (fun V1 C1 k1 cd1 hS1 hk1 hm1 hv1 hc1 => RK.v ?_) (fun V1 C1 cd1 hS1 hm1 hv1 hc1 => RK.v ?_)
  · -- case
    refine u_callV (i := 11) (mc := 0) (ms := 0) (As := [_]) dX10_differenceLength_9 cfX3_stepsTo imX3_stepsTo seX3_stepsTo lX10_260 (by decide) rfl rfl rfl rfl rfl (Nat.le_of_ble_eq_true rfl) (Nat.zero_add _).symm (Nat.zero_add _).symm ?_
    refine q_stepsTo hS1 (Or.inr hk1) (fun q => absurd q (by omega)) (fun _ => RK.v ?_)
    refine i_ireturn dX10_differenceLength_12 rfl rfl ?_
    exact hp _ _ _ (Or.inl ⟨_, hm1.cg (fun c c0 c1 => iff_of_true (z63 c0 c1) trivial) (fun y => zGl_1), rfl⟩) hS1.SI hv1 hc1
  · -- case
    refine u_callV (i := 11) (mc := 0) (ms := 0) (As := [_]) dX10_differenceLength_9 cfX3_stepsTo imX3_stepsTo seX3_stepsTo lX10_260 (by decide) rfl rfl rfl rfl rfl (Nat.le_of_ble_eq_true rfl) (Nat.zero_add _).symm (Nat.zero_add _).symm ?_
    refine q_stepsTo hS1 (Or.inl rfl) (fun _ => RK.v ?_) (fun q => absurd q (by omega))
    refine i_ireturn dX10_differenceLength_12 rfl rfl ?_
    exact hp _ _ _ (Or.inr ⟨hm1.cg (fun c c0 c1 => iff_of_true (z63 c0 c1) trivial) (fun y => zGl_1), rfl⟩) hS1.SI hv1 hc1
theorem q_sharedLength  (hN : cNow V C J w) (hO : wOK w) (hX : ∀ s, s = 0 ∨ s = 1 → wX w s) (hSI : cSI V C) (hp : ∀ r V' C', zLen (wNx2 w 0 1) zTr 0 (wG1 w 0 1) r → cSI V' C' → sV [12] V V' → sC [12, 13, 14, 15] C C' → P (.inl (some (.int (iI r)))) (V', C', J)) : RM G mX10_sharedLength (c_I Y h0) [.ref (Y 0)] (d + 4) 0 0 P (V, C, J) := by
  refine RM.of (L := [some (.ref (Y 0))]) cfX10_sharedLength rfl (Nat.le_of_ble_eq_true rfl) ?_
  refine i_aload_n dX10_sharedLength_0 rfl ?_
  refine u_get (i := 0) (vv := .ref (Y (11))) dX10_sharedLength_1 fX10_73.o (by decide) rfl rfl ?_
  refine i_aload_n dX10_sharedLength_4 rfl ?_
  refine i_const dX10_sharedLength_5 ?_
  refine u_callV (i := 0) (mc := 0) (ms := 0) (As := [_]) dX10_sharedLength_6 cfX10_compareBoth imX10_compareBoth seX10_compareBoth lX10_292 (by decide) rfl rfl rfl rfl rfl (Nat.le_of_ble_eq_true rfl) (Nat.zero_add _).symm (Nat.zero_add _).symm ?_
  refine q_compareBoth hN hO hX hSI (by decide) (fun V1 C1 k1 cd1 hS1 hk1 hm1 hv1 hc1 => RK.v ?_) (fun V1 C1 cd1 hS1 hm1 hv1 hc1 => RK.v ?_)
  · -- case
    refine u_callV (i := 11) (mc := 0) (ms := 0) (As := [_]) dX10_sharedLength_9 cfX3_stepsTo imX3_stepsTo seX3_stepsTo lX10_260 (by decide) rfl rfl rfl rfl rfl (Nat.le_of_ble_eq_true rfl) (Nat.zero_add _).symm (Nat.zero_add _).symm ?_
    refine q_stepsTo hS1 (Or.inr hk1) (fun q => absurd q (by omega)) (fun _ => RK.v ?_)
    refine i_ireturn dX10_sharedLength_12 rfl rfl ?_
    exact hp _ _ _ (Or.inl ⟨_, hm1.cg (fun c c0 c1 => iff_of_true (z63 c0 c1) trivial) (fun y => zGl_0), rfl⟩) hS1.SI hv1 hc1
  · -- case
    refine u_callV (i := 11) (mc := 0) (ms := 0) (As := [_]) dX10_sharedLength_9 cfX3_stepsTo imX3_stepsTo seX3_stepsTo lX10_260 (by decide) rfl rfl rfl rfl rfl (Nat.le_of_ble_eq_true rfl) (Nat.zero_add _).symm (Nat.zero_add _).symm ?_
    refine q_stepsTo hS1 (Or.inl rfl) (fun _ => RK.v ?_) (fun q => absurd q (by omega))
    refine i_ireturn dX10_sharedLength_12 rfl rfl ?_
    exact hp _ _ _ (Or.inr ⟨hm1.cg (fun c c0 c1 => iff_of_true (z63 c0 c1) trivial) (fun y => zGl_0), rfl⟩) hS1.SI hv1 hc1
theorem q_meetingSteps {k l : Int} (hZ : p_Zs G) (hN : cNow V C J w) (hO : wOK w) (hX : ∀ s, s = 0 ∨ s = 1 → wX w s) (hSI : cSI V C) (hk : -2147483648 ≤ k ∧ k < 2147483648) (hl : -2147483648 ≤ l ∧ l < 2147483648) (hp1 : ¬ ((0 ≤ k ∧ k < w 952) ∧ (0 ≤ l ∧ l < w 952)) → P (.inr "java/lang/IndexOutOfBoundsException") (V, C, J)) (hp : (0 ≤ k ∧ k < w 952) ∧ (0 ≤ l ∧ l < w 952) → ∀ r V' C', zLen (wNx2 w (w (953 + 3 * k + 0)) (w (953 + 3 * l + 0))) (wAl w 1) (60 * w (953 + 3 * k + 1) + w (953 + 3 * l + 1)) (wG1 w (w (953 + 3 * k + 0)) (w (953 + 3 * l + 0))) r → cSI V' C' → sV [12] V V' → sC [12, 13, 14, 15] C C' → P (.inl (some (.int (iI r)))) (V', C', J)) : RM G mX10_meetingSteps (c_I Y h0) [.ref (Y 0), .int (iI k), .int (iI l)] (d + 7) 2 12 P (V, C, J) := by
  refine RM.of (L := [some (.ref (Y 0)), some (.int (iI k)), some (.int (iI l)), none]) cfX10_meetingSteps rfl (Nat.le_of_ble_eq_true rfl) ?_
  refine i_aload_n dX10_meetingSteps_0 rfl ?_
  refine i_iload_n dX10_meetingSteps_1 rfl ?_
  refine u_callV (i := 0) (mc := 1) (ms := 6) (k' := 1) (n' := 6) (As := [_]) dX10_meetingSteps_2 cfX10_checkWalker imX10_checkWalker seX10_checkWalker lX10_146 (by decide) rfl rfl rfl rfl rfl (Nat.le_of_ble_eq_true rfl) rfl rfl ?_
  refine q_checkWalker hZ hN hO (by omega) (fun g1 => RK.n0 ?_) (fun g1 => RK.x ?_)
  · -- case
    refine i_aload_n dX10_meetingSteps_5 rfl ?_
    refine i_iload_n dX10_meetingSteps_6 rfl ?_
    refine u_callV (i := 0) (mc := 1) (ms := 6) (k' := 0) (n' := 0) (As := [_]) dX10_meetingSteps_7 cfX10_checkWalker imX10_checkWalker seX10_checkWalker lX10_146 (by decide) rfl rfl rfl rfl rfl (Nat.le_of_ble_eq_true rfl) rfl rfl ?_
    refine q_checkWalker hZ hN hO (by omega) (fun g2 => RK.n0 ?_) (fun g2 => RK.x ?_)
    · -- case
      have b1 := hO.wk (k := k) (by omega) (by omega)
      have b2 := hO.wk (k := l) (by omega) (by omega)
      have b3 := hO.sts b1.1
      have b4 := hO.sts b2.1
      refine i_aload_n dX10_meetingSteps_10 rfl ?_
      refine u_get (i := 0) (vv := .ref (Y (30))) dX10_meetingSteps_11 fX10_49.o (by decide) rfl rfl ?_
      refine i_iload_n dX10_meetingSteps_14 rfl ?_
      refine u_callV (i := 30) (mc := 0) (ms := 0) (As := [_]) dX10_meetingSteps_15 cfX9_stateOf imX9_stateOf seX9_stateOf lX10_168 (by decide) rfl rfl rfl rfl rfl (Nat.le_of_ble_eq_true rfl) (Nat.zero_add _).symm (Nat.zero_add _).symm ?_
      refine q_stateOf hN hO (by omega) (RK.v ?_)
      refine i_aload_n dX10_meetingSteps_18 rfl ?_
      refine u_get (i := 0) (vv := .ref (Y (30))) dX10_meetingSteps_19 fX10_49.o (by decide) rfl rfl ?_
      refine i_iload_n dX10_meetingSteps_22 rfl ?_
      refine u_callV (i := 30) (mc := 0) (ms := 0) (As := [_]) dX10_meetingSteps_23 cfX9_stateOf imX9_stateOf seX9_stateOf lX10_168 (by decide) rfl rfl rfl rfl rfl (Nat.le_of_ble_eq_true rfl) (Nat.zero_add _).symm (Nat.zero_add _).symm ?_
      refine q_stateOf hN hO (by omega) (RK.v ?_)
      refine i_callS (mc := 0) (ms := 0) (As := [_, _]) dX10_meetingSteps_26 cfX10_pairOf stX10_pairOf lX10_305 rfl rfl (Nat.le_of_ble_eq_true rfl) (Nat.zero_add _).symm (Nat.zero_add _).symm ?_
      refine q_pairOf (RK.v ?_)
      refine RW.ti (show (w (953 + 3 * k + 1)) * 60 + (w (953 + 3 * l + 1)) = 60 * (w (953 + 3 * k + 1)) + (w (953 + 3 * l + 1)) by omega) ?_
      refine i_istore_n dX10_meetingSteps_29 (L' := [some _, some _, some _, some _]) (by decide) rfl ?_
      refine i_aload_n dX10_meetingSteps_30 rfl ?_
      refine u_get (i := 0) (vv := .ref (Y (11))) dX10_meetingSteps_31 fX10_73.o (by decide) rfl rfl ?_
      refine i_aload_n dX10_meetingSteps_34 rfl ?_
      refine u_get (i := 0) (vv := .ref (Y (11))) dX10_meetingSteps_35 fX10_73.o (by decide) rfl rfl ?_
      refine i_aload_n dX10_meetingSteps_38 rfl ?_
      refine u_get (i := 0) (vv := .ref (Y (30))) dX10_meetingSteps_39 fX10_49.o (by decide) rfl rfl ?_
      refine i_iload_n dX10_meetingSteps_42 rfl ?_
      refine u_callV (i := 30) (mc := 0) (ms := 0) (As := [_]) dX10_meetingSteps_43 cfX9_patternOfWalker imX9_patternOfWalker seX9_patternOfWalker lX10_308 (by decide) rfl rfl rfl rfl rfl (Nat.le_of_ble_eq_true rfl) (Nat.zero_add _).symm (Nat.zero_add _).symm ?_
      refine q_patternOfWalker hN hO (by omega) (fun a3 p3 hy3 hr3 => RK.v ?_)
      refine i_aload_n dX10_meetingSteps_46 rfl ?_
      refine u_get (i := 0) (vv := .ref (Y (30))) dX10_meetingSteps_47 fX10_49.o (by decide) rfl rfl ?_
      refine i_iload_n dX10_meetingSteps_50 rfl ?_
      refine u_callV (i := 30) (mc := 0) (ms := 0) (As := [_]) dX10_meetingSteps_51 cfX9_patternOfWalker imX9_patternOfWalker seX9_patternOfWalker lX10_308 (by decide) rfl rfl rfl rfl rfl (Nat.le_of_ble_eq_true rfl) (Nat.zero_add _).symm (Nat.zero_add _).symm ?_
      refine q_patternOfWalker hN hO (by omega) (fun a4 p4 hy4 hr4 => RK.v ?_)
      refine i_iload_n dX10_meetingSteps_54 rfl ?_
      refine i_aload_n dX10_meetingSteps_55 rfl ?_
      refine u_get (i := 0) (vv := .ref (Y (30))) dX10_meetingSteps_56 fX10_49.o (by decide) rfl rfl ?_
      refine u_callV (i := 30) (mc := 0) (ms := 0) (As := []) dX10_meetingSteps_59 cfX9_openStreets imX9_openStreets seX9_openStreets lX10_185 (by decide) rfl rfl rfl rfl rfl (Nat.le_of_ble_eq_true rfl) (Nat.zero_add _).symm (Nat.zero_add _).symm ?_
      refine q_openStreets hN hO (fun m5 hm5 hg5 => RK.v ?_)
      refine i_const dX10_meetingSteps_62 ?_
      refine u_callV (i := 11) (mc := 0) (ms := 0) (As := [_, _, _, _, _]) dX10_meetingSteps_63 cfX3_find imX3_find seX3_find lX10_288 (by decide) rfl rfl rfl rfl rfl (Nat.le_of_ble_eq_true rfl) (Nat.zero_add _).symm (Nat.zero_add _).symm ?_
      refine q_find hy3 hr3 hy4 hr4 (hO.1 _ b1.1) (hO.1 _ b2.1) (hX _ b1.1) (hX _ b2.1) hm5 (Or.inl rfl) hSI (by omega) (by omega) (by omega) (fun V6 C6 k6 cd6 hS6 hk6 hm6 hv6 hc6 => RK.v ?_) (fun V6 C6 cd6 hS6 hm6 hv6 hc6 => RK.v ?_)
      · -- case
        refine u_callV (i := 11) (mc := 0) (ms := 0) (As := [_]) dX10_meetingSteps_66 cfX3_stepsTo imX3_stepsTo seX3_stepsTo lX10_260 (by decide) rfl rfl rfl rfl rfl (Nat.le_of_ble_eq_true rfl) (Nat.zero_add _).symm (Nat.zero_add _).symm ?_
        refine q_stepsTo hS6 (Or.inr hk6) (fun q => absurd q (by omega)) (fun _ => RK.v ?_)
        refine i_ireturn dX10_meetingSteps_69 rfl rfl ?_
        exact hp (by omega) _ _ _ (Or.inl ⟨_, hm6.cg (fun c c0 c1 => (hg5 c c0 c1).trans ⟨Or.inr, fun z => z.elim (fun z => absurd z (by decide)) id⟩) (fun y => zGl_0), rfl⟩) hS6.SI hv6 hc6
      · -- case
        refine u_callV (i := 11) (mc := 0) (ms := 0) (As := [_]) dX10_meetingSteps_66 cfX3_stepsTo imX3_stepsTo seX3_stepsTo lX10_260 (by decide) rfl rfl rfl rfl rfl (Nat.le_of_ble_eq_true rfl) (Nat.zero_add _).symm (Nat.zero_add _).symm ?_
        refine q_stepsTo hS6 (Or.inl rfl) (fun _ => RK.v ?_) (fun q => absurd q (by omega))
        refine i_ireturn dX10_meetingSteps_69 rfl rfl ?_
        exact hp (by omega) _ _ _ (Or.inr ⟨hm6.cg (fun c c0 c1 => (hg5 c c0 c1).trans ⟨Or.inr, fun z => z.elim (fun z => absurd z (by decide)) id⟩) (fun y => zGl_0), rfl⟩) hS6.SI hv6 hc6
    · -- case
      exact hp1 (by omega)
  · -- case
    exact hp1 (by omega)
end C51
