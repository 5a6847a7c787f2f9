/-! ===== the class: distances ===== -/
theorem zrun_dd {w : Int → Int} {s t : Int} (hO : wP w s) (ht : 0 ≤ t ∧ t < w (476 * s + 5)) (n : Nat) : (0 ≤ zrun (wGo w s) t n ∧ zrun (wGo w s) t n < w (476 * s + 5)) ∧ zrun (wNx2 w s s) (60 * t + t) n = 60 * zrun (wGo w s) t n + zrun (wGo w s) t n := by
  have o5 := hO.2.2.2.1
  refine zind (Q := fun n => (0 ≤ zrun (wGo w s) t n ∧ zrun (wGo w s) t n < w (476 * s + 5)) ∧ zrun (wNx2 w s s) (60 * t + t) n = 60 * zrun (wGo w s) t n + zrun (wGo w s) t n) ?_ (fun m c hc ih => ?_) n
  · rw [zrun_0, zrun_0]; exact ⟨ht, rfl⟩
  · rw [zrun_s hc, zrun_s hc, ih.2]
    obtain ⟨z, hz⟩ : ∃ z, z = zrun (wGo w s) t m := ⟨_, rfl⟩
    rw [← hz] at ih ⊢
    have q := hO.2.2.2.2.2 z (c : Int) ih.1.1 ih.1.2 (by omega) (by omega)
    refine ⟨q, ?_⟩
    show 60 * w (476 * s + (116 + 6 * ((60 * z + z) / 60) + (c : Int))) + w (476 * s + (116 + 6 * ((60 * z + z) % 60) + (c : Int))) = 60 * w (476 * s + (116 + 6 * z + (c : Int))) + w (476 * s + (116 + 6 * z + (c : Int)))
    rw [show (60 * z + z) / 60 = z by omega, show (60 * z + z) % 60 = z by omega]
theorem zG_dd {w : Int → Int} {s t : Int} (hO : wP w s) (ht : 0 ≤ t ∧ t < w (476 * s + 5)) (n : Nat) : zGl 0 (wAcc w s (zrun (wNx2 w s s) (60 * t + t) n / 60)) (wAcc w s (zrun (wNx2 w s s) (60 * t + t) n % 60)) ↔ wAcc w s (zrun (wGo w s) t n) := by
  have o5 := hO.2.2.2.1
  obtain ⟨h1, h2⟩ := zrun_dd hO ht n
  rw [zGl_0, h2, show (60 * zrun (wGo w s) t n + zrun (wGo w s) t n) / 60 = zrun (wGo w s) t n by omega, show (60 * zrun (wGo w s) t n + zrun (wGo w s) t n) % 60 = zrun (wGo w s) t n by omega]
  exact ⟨fun z => z.1, fun z => ⟨z, z⟩⟩
theorem zMin.dd {w : Int → Int} {s t : Int} {al al' : Int → Prop} {n : Nat} (hm : zMin (wNx2 w s s) al (60 * t + t) (fun y => zGl 0 (wAcc w s (y / 60)) (wAcc w s (y % 60))) n) (hO : wP w s) (ht : 0 ≤ t ∧ t < w (476 * s + 5)) (h : ∀ c, 0 ≤ c → c < 6 → (al c ↔ al' c)) : zMin (wGo w s) al' t (wAcc w s) n := ⟨(zal_cg h n).mp hm.1, (zG_dd hO ht n).mp hm.2.1, fun m a b => hm.2.2 m ((zal_cg h m).mpr a) ((zG_dd hO ht m).mpr b)⟩
theorem zNo.dd {w : Int → Int} {s t : Int} {al al' : Int → Prop} (hm : zNo (wNx2 w s s) al (60 * t + t) (fun y => zGl 0 (wAcc w s (y / 60)) (wAcc w s (y % 60)))) (hO : wP w s) (ht : 0 ≤ t ∧ t < w (476 * s + 5)) (h : ∀ c, 0 ≤ c → c < 6 → (al c ↔ al' c)) : zNo (wGo w s) al' t (wAcc w s) := fun m a b => hm m ((zal_cg h m).mpr a) ((zG_dd hO ht m).mpr b)
section C52
variable {G : p_G} {Y : Nat → Nat} {h0 : p_H} {P : (Option Value) ⊕ String → c_X → Prop} {d : Nat} {V : Nat → Int} {C : Nat → Int → Int} {J : c_J}
variable {w : Int → Int}
theorem q_findAcceptance {a : Nat} {p : c_P} {s t op : Int} (hN : cNow V C J w) (hO : wOK w) (hX : ∀ s, s = 0 ∨ s = 1 → wX w s) (hSI : cSI V C) (hp : J.2.2 a = some p) (hr : cPt p w s) (hs : s = 0 ∨ s = 1) (ht : 0 ≤ t ∧ t < w (476 * s + 5)) (hop : 0 ≤ op ∧ op < 64) (hpH : ∀ V' C' k cd, cSr V' C' (wNx2 w s s) (fun c => zt op c) (60 * t + t) k 0 cd → (0 ≤ k ∧ k < V' 12) → zMin (wNx2 w s s) (fun c => zt op c) (60 * t + t) (fun y => zGl 0 (wAcc w s (y / 60)) (wAcc w s (y % 60))) (cd k) → sV [12] V V' → sC [12, 13, 14, 15] C C' → P (.inl (some (.int (iI k)))) (V', C', J)) (hpN : ∀ V' C' cd, cSr V' C' (wNx2 w s s) (fun c => zt op c) (60 * t + t) (V' 12) 0 cd → zNo (wNx2 w s s) (fun c => zt op c) (60 * t + t) (fun y => zGl 0 (wAcc w s (y / 60)) (wAcc w s (y % 60))) → sV [12] V V' → sC [12, 13, 14, 15] C C' → P (.inl (some (.int (iI (-1))))) (V', C', J)) : RM G mX10_findAcceptance (c_I Y h0) [.ref (Y 0), .ref a, .int (iI t), .int (iI op)] (d + 3) 0 0 P (V, C, J) := by
  refine RM.of (L := [some (.ref (Y 0)), some (.ref a), some (.int (iI t)), some (.int (iI op))]) cfX10_findAcceptance rfl (Nat.le_of_ble_eq_true rfl) ?_
  have o5 := hO.sts hs
  refine i_aload_n dX10_findAcceptance_0 rfl ?_
  refine u_get (i := 0) (vv := .ref (Y (11))) dX10_findAcceptance_1 fX10_73.o (by decide) rfl rfl ?_
  refine i_aload_n dX10_findAcceptance_4 rfl ?_
  refine i_aload_n dX10_findAcceptance_5 rfl ?_
  refine i_iload_n dX10_findAcceptance_6 rfl ?_
  refine i_iload_n dX10_findAcceptance_7 rfl ?_
  refine i_callS (mc := 0) (ms := 0) (As := [_, _]) dX10_findAcceptance_8 cfX10_pairOf stX10_pairOf lX10_305 rfl rfl (Nat.le_of_ble_eq_true rfl) (Nat.zero_add _).symm (Nat.zero_add _).symm ?_
  refine q_pairOf (RK.v ?_)
  refine RW.ti (show t * 60 + t = 60 * t + t by omega) ?_
  refine i_iload_n dX10_findAcceptance_11 rfl ?_
  refine i_const dX10_findAcceptance_12 ?_
  refine u_callV (i := 11) (mc := 0) (ms := 0) (As := [_, _, _, _, _]) dX10_findAcceptance_13 cfX3_find imX3_find seX3_find lX10_288 (by decide) rfl rfl rfl rfl rfl (Nat.le_of_ble_eq_true rfl) (Nat.zero_add _).symm (Nat.zero_add _).symm ?_
  refine q_find hp hr hp hr (hO.1 s hs) (hO.1 s hs) (hX s hs) (hX s hs) hop (Or.inl rfl) hSI (by omega) (by omega) (by omega) (fun V1 C1 k1 cd1 hS1 hk1 hm1 hv1 hc1 => RK.v ?_) (fun V1 C1 cd1 hS1 hm1 hv1 hc1 => RK.v ?_)
  · -- case
    refine i_ireturn dX10_findAcceptance_16 rfl rfl ?_
    exact hpH _ _ _ _ hS1 hk1 hm1 hv1 hc1
  · -- case
    refine i_ireturn dX10_findAcceptance_16 rfl rfl ?_
    exact hpN _ _ _ hS1 hm1 hv1 hc1
theorem q_distanceToAccepting {s t : Int} (hZ : p_Zs G) (hN : cNow V C J w) (hO : wOK w) (hX : ∀ s, s = 0 ∨ s = 1 → wX w s) (hSI : cSI V C) (h_s : -2147483648 ≤ s ∧ s < 2147483648) (h_t : -2147483648 ≤ t ∧ t < 2147483648) (hp1 : ¬ ((s = 0 ∨ s = 1) ∧ 0 ≤ t ∧ t < w (476 * s + 5)) → P (.inr "java/lang/IndexOutOfBoundsException") (V, C, J)) (hp : (s = 0 ∨ s = 1) ∧ 0 ≤ t ∧ t < w (476 * s + 5) → ∀ r V' C', wDist w s t 0 r → cSI V' C' → sV [12] V V' → sC [12, 13, 14, 15] C C' → P (.inl (some (.int (iI r)))) (V', C', J)) : RM G mX10_distanceToAccepting (c_I Y h0) [.ref (Y 0), .int (iI s), .int (iI t)] (d + 8) 2 12 P (V, C, J) := by
  refine RM.of (L := [some (.ref (Y 0)), some (.int (iI s)), some (.int (iI t)), none]) cfX10_distanceToAccepting rfl (Nat.le_of_ble_eq_true rfl) ?_
  refine i_aload_n dX10_distanceToAccepting_0 rfl ?_
  refine i_iload_n dX10_distanceToAccepting_1 rfl ?_
  refine u_callV (i := 0) (mc := 1) (ms := 6) (k' := 1) (n' := 6) (As := [_]) dX10_distanceToAccepting_2 cfX10_checkedPattern imX10_checkedPattern seX10_checkedPattern lX10_212 (by decide) rfl rfl rfl rfl rfl (Nat.le_of_ble_eq_true rfl) rfl rfl ?_
  refine q_checkedPattern hZ hN hO (by omega) (fun g1 a1 p1 hy1 hr1 => RK.v ?_) (fun g1 => RK.x ?_)
  · -- case
    refine i_astore_n dX10_distanceToAccepting_5 (L' := [some _, some _, some _, some _]) (by decide) rfl ?_
    refine i_aload_n dX10_distanceToAccepting_6 rfl ?_
    refine i_iload_n dX10_distanceToAccepting_7 rfl ?_
    refine i_callS (mc := 1) (ms := 6) (k' := 0) (n' := 0) (As := [_, _]) dX10_distanceToAccepting_8 cfX10_checkState stX10_checkState lX10_240 rfl rfl (Nat.le_of_ble_eq_true rfl) rfl rfl ?_
    refine q_checkState hZ hy1 hr1 (hO.1 _ (by omega)) (by omega) (fun g2 => RK.n0 ?_) (fun g2 => RK.x ?_)
    · -- case
      refine i_aload_n dX10_distanceToAccepting_11 rfl ?_
      refine u_get (i := 0) (vv := .ref (Y (11))) dX10_distanceToAccepting_12 fX10_73.o (by decide) rfl rfl ?_
      refine i_aload_n dX10_distanceToAccepting_15 rfl ?_
      refine i_aload_n dX10_distanceToAccepting_16 rfl ?_
      refine i_iload_n dX10_distanceToAccepting_17 rfl ?_
      refine i_bipush dX10_distanceToAccepting_18 (by decide) ?_
      refine u_callV (i := 0) (mc := 0) (ms := 0) (As := [_, _, _]) dX10_distanceToAccepting_20 cfX10_findAcceptance imX10_findAcceptance seX10_findAcceptance lX10_256 (by decide) rfl rfl rfl rfl rfl (Nat.le_of_ble_eq_true rfl) (Nat.zero_add _).symm (Nat.zero_add _).symm ?_
      refine q_findAcceptance (t := t) hN hO hX hSI hy1 hr1 g1 (by omega) (by decide) (fun V3 C3 k3 cd3 hS3 hk3 hm3 hv3 hc3 => RK.v ?_) (fun V3 C3 cd3 hS3 hm3 hv3 hc3 => RK.v ?_)
      · -- case
        refine u_callV (i := 11) (mc := 0) (ms := 0) (As := [_]) dX10_distanceToAccepting_23 cfX3_stepsTo imX3_stepsTo seX3_stepsTo lX10_260 (by decide) rfl rfl rfl rfl rfl (Nat.le_of_ble_eq_true rfl) (Nat.zero_add _).symm (Nat.zero_add _).symm ?_
        refine q_stepsTo hS3 (Or.inr hk3) (fun q => absurd q (by omega)) (fun _ => RK.v ?_)
        refine i_ireturn dX10_distanceToAccepting_26 rfl rfl ?_
        exact hp (by omega) _ _ _ (Or.inl ⟨_, hm3.dd (hO.1 _ g1) (by omega) (fun c c0 c1 => iff_of_true (z63 c0 c1) (Or.inl rfl)), rfl⟩) hS3.SI hv3 hc3
      · -- case
        refine u_callV (i := 11) (mc := 0) (ms := 0) (As := [_]) dX10_distanceToAccepting_23 cfX3_stepsTo imX3_stepsTo seX3_stepsTo lX10_260 (by decide) rfl rfl rfl rfl rfl (Nat.le_of_ble_eq_true rfl) (Nat.zero_add _).symm (Nat.zero_add _).symm ?_
        refine q_stepsTo hS3 (Or.inl rfl) (fun _ => RK.v ?_) (fun q => absurd q (by omega))
        refine i_ireturn dX10_distanceToAccepting_26 rfl rfl ?_
        exact hp (by omega) _ _ _ (Or.inr ⟨hm3.dd (hO.1 _ g1) (by omega) (fun c c0 c1 => iff_of_true (z63 c0 c1) (Or.inl rfl)), rfl⟩) hS3.SI hv3 hc3
    · -- case
      exact hp1 (by omega)
  · -- case
    exact hp1 (by omega)
theorem q_shortestLength {s : Int} (hZ : p_Zs G) (hN : cNow V C J w) (hO : wOK w) (hX : ∀ s, s = 0 ∨ s = 1 → wX w s) (hSI : cSI V C) (h_s : -2147483648 ≤ s ∧ s < 2147483648) (hp1 : ¬ (s = 0 ∨ s = 1) → P (.inr "java/lang/IndexOutOfBoundsException") (V, C, J)) (hp : s = 0 ∨ s = 1 → ∀ r V' C', wDist w s 0 0 r → cSI V' C' → sV [12] V V' → sC [12, 13, 14, 15] C C' → P (.inl (some (.int (iI r)))) (V', C', J)) : RM G mX10_shortestLength (c_I Y h0) [.ref (Y 0), .int (iI s)] (d + 8) 1 6 P (V, C, J) := by
  refine RM.of (L := [some (.ref (Y 0)), some (.int (iI s))]) cfX10_shortestLength rfl (Nat.le_of_ble_eq_true rfl) ?_
  refine i_aload_n dX10_shortestLength_0 rfl ?_
  refine u_get (i := 0) (vv := .ref (Y (11))) dX10_shortestLength_1 fX10_73.o (by decide) rfl rfl ?_
  refine i_aload_n dX10_shortestLength_4 rfl ?_
  refine i_aload_n dX10_shortestLength_5 rfl ?_
  refine i_iload_n dX10_shortestLength_6 rfl ?_
  refine u_callV (i := 0) (mc := 1) (ms := 6) (k' := 0) (n' := 0) (As := [_]) dX10_shortestLength_7 cfX10_checkedPattern imX10_checkedPattern seX10_checkedPattern lX10_212 (by decide) rfl rfl rfl rfl rfl (Nat.le_of_ble_eq_true rfl) rfl rfl ?_
  refine q_checkedPattern hZ hN hO (by omega) (fun g1 a1 p1 hy1 hr1 => RK.v ?_) (fun g1 => RK.x ?_)
  · -- case
    have o5 := hO.sts g1
    refine i_const dX10_shortestLength_10 ?_
    refine i_bipush dX10_shortestLength_11 (by decide) ?_
    refine u_callV (i := 0) (mc := 0) (ms := 0) (As := [_, _, _]) dX10_shortestLength_13 cfX10_findAcceptance imX10_findAcceptance seX10_findAcceptance lX10_256 (by decide) rfl rfl rfl rfl rfl (Nat.le_of_ble_eq_true rfl) (Nat.zero_add _).symm (Nat.zero_add _).symm ?_
    refine q_findAcceptance (t := 0) hN hO hX hSI hy1 hr1 g1 (by omega) (by decide) (fun V2 C2 k2 cd2 hS2 hk2 hm2 hv2 hc2 => RK.v ?_) (fun V2 C2 cd2 hS2 hm2 hv2 hc2 => RK.v ?_)
    · -- case
      refine u_callV (i := 11) (mc := 0) (ms := 0) (As := [_]) dX10_shortestLength_16 cfX3_stepsTo imX3_stepsTo seX3_stepsTo lX10_260 (by decide) rfl rfl rfl rfl rfl (Nat.le_of_ble_eq_true rfl) (Nat.zero_add _).symm (Nat.zero_add _).symm ?_
      refine q_stepsTo hS2 (Or.inr hk2) (fun q => absurd q (by omega)) (fun _ => RK.v ?_)
      refine i_ireturn dX10_shortestLength_19 rfl rfl ?_
      exact hp (by omega) _ _ _ (Or.inl ⟨_, hm2.dd (hO.1 _ g1) (by omega) (fun c c0 c1 => iff_of_true (z63 c0 c1) (Or.inl rfl)), rfl⟩) hS2.SI hv2 hc2
    · -- case
      refine u_callV (i := 11) (mc := 0) (ms := 0) (As := [_]) dX10_shortestLength_16 cfX3_stepsTo imX3_stepsTo seX3_stepsTo lX10_260 (by decide) rfl rfl rfl rfl rfl (Nat.le_of_ble_eq_true rfl) (Nat.zero_add _).symm (Nat.zero_add _).symm ?_
      refine q_stepsTo hS2 (Or.inl rfl) (fun _ => RK.v ?_) (fun q => absurd q (by omega))
      refine i_ireturn dX10_shortestLength_19 rfl rfl ?_
      exact hp (by omega) _ _ _ (Or.inr ⟨hm2.dd (hO.1 _ g1) (by omega) (fun c c0 c1 => iff_of_true (z63 c0 c1) (Or.inl rfl)), rfl⟩) hS2.SI hv2 hc2
  · -- case
    exact hp1 (by omega)
theorem q_findHome {k : Int} (hN : cNow V C J w) (hO : wOK w) (hX : ∀ s, s = 0 ∨ s = 1 → wX w s) (hSI : cSI V C) (hk : 0 ≤ k ∧ k < w 952) (hpH : ∀ V' C' nx al s0 f cd, cSr V' C' nx al s0 f 0 cd → (0 ≤ f ∧ f < V' 12) → zMin (wGo w (w (953 + 3 * k + 0))) (wAl w 1) (w (953 + 3 * k + 1)) (wAcc w (w (953 + 3 * k + 0))) (cd f) → sV [12] V V' → sC [12, 13, 14, 15] C C' → P (.inl (some (.int (iI f)))) (V', C', J)) (hpN : ∀ V' C' nx al s0 cd, cSr V' C' nx al s0 (V' 12) 0 cd → zNo (wGo w (w (953 + 3 * k + 0))) (wAl w 1) (w (953 + 3 * k + 1)) (wAcc w (w (953 + 3 * k + 0))) → sV [12] V V' → sC [12, 13, 14, 15] C C' → P (.inl (some (.int (iI (-1))))) (V', C', J)) : RM G mX10_findHome (c_I Y h0) [.ref (Y 0), .int (iI k)] (d + 4) 0 0 P (V, C, J) := by
  refine RM.of (L := [some (.ref (Y 0)), some (.int (iI k))]) cfX10_findHome rfl (Nat.le_of_ble_eq_true rfl) ?_
  have b1 := hO.wk hk.1 hk.2
  have b3 := hO.sts b1.1
  refine i_aload_n dX10_findHome_0 rfl ?_
  refine i_aload_n dX10_findHome_1 rfl ?_
  refine u_get (i := 0) (vv := .ref (Y (30))) dX10_findHome_2 fX10_49.o (by decide) rfl rfl ?_
  refine i_iload_n dX10_findHome_5 rfl ?_
  refine u_callV (i := 30) (mc := 0) (ms := 0) (As := [_]) dX10_findHome_6 cfX9_patternOfWalker imX9_patternOfWalker seX9_patternOfWalker lX10_308 (by decide) rfl rfl rfl rfl rfl (Nat.le_of_ble_eq_true rfl) (Nat.zero_add _).symm (Nat.zero_add _).symm ?_
  refine q_patternOfWalker hN hO (by omega) (fun a1 p1 hy1 hr1 => RK.v ?_)
  refine i_aload_n dX10_findHome_9 rfl ?_
  refine u_get (i := 0) (vv := .ref (Y (30))) dX10_findHome_10 fX10_49.o (by decide) rfl rfl ?_
  refine i_iload_n dX10_findHome_13 rfl ?_
  refine u_callV (i := 30) (mc := 0) (ms := 0) (As := [_]) dX10_findHome_14 cfX9_stateOf imX9_stateOf seX9_stateOf lX10_168 (by decide) rfl rfl rfl rfl rfl (Nat.le_of_ble_eq_true rfl) (Nat.zero_add _).symm (Nat.zero_add _).symm ?_
  refine q_stateOf hN hO (by omega) (RK.v ?_)
  refine i_aload_n dX10_findHome_17 rfl ?_
  refine u_get (i := 0) (vv := .ref (Y (30))) dX10_findHome_18 fX10_49.o (by decide) rfl rfl ?_
  refine u_callV (i := 30) (mc := 0) (ms := 0) (As := []) dX10_findHome_21 cfX9_openStreets imX9_openStreets seX9_openStreets lX10_185 (by decide) rfl rfl rfl rfl rfl (Nat.le_of_ble_eq_true rfl) (Nat.zero_add _).symm (Nat.zero_add _).symm ?_
  refine q_openStreets hN hO (fun m2 hm2 hg2 => RK.v ?_)
  refine u_callV (i := 0) (mc := 0) (ms := 0) (As := [_, _, _]) dX10_findHome_24 cfX10_findAcceptance imX10_findAcceptance seX10_findAcceptance lX10_256 (by decide) rfl rfl rfl rfl rfl (Nat.le_of_ble_eq_true rfl) (Nat.zero_add _).symm (Nat.zero_add _).symm ?_
  refine q_findAcceptance (t := w (953 + 3 * k + 1)) hN hO hX hSI hy1 hr1 b1.1 (by omega) hm2 (fun V3 C3 k3 cd3 hS3 hk3 hm3 hv3 hc3 => RK.v ?_) (fun V3 C3 cd3 hS3 hm3 hv3 hc3 => RK.v ?_)
  · -- case
    refine i_ireturn dX10_findHome_27 rfl rfl ?_
    exact hpH _ _ _ _ _ _ _ hS3 hk3 (zMin.dd (al' := wAl w 1) hm3 (hO.1 _ b1.1) (by omega) (fun c c0 c1 => (hg2 c c0 c1).trans ⟨Or.inr, fun z => z.elim (fun z => absurd z (by decide)) id⟩)) hv3 hc3
  · -- case
    refine i_ireturn dX10_findHome_27 rfl rfl ?_
    exact hpN _ _ _ _ _ _ hS3 (zNo.dd (al' := wAl w 1) hm3 (hO.1 _ b1.1) (by omega) (fun c c0 c1 => (hg2 c c0 c1).trans ⟨Or.inr, fun z => z.elim (fun z => absurd z (by decide)) id⟩)) hv3 hc3
theorem q_stepsHome {k : Int} (hZ : p_Zs G) (hN : cNow V C J w) (hO : wOK w) (hX : ∀ s, s = 0 ∨ s = 1 → wX w s) (hSI : cSI V C) (h_k : -2147483648 ≤ k ∧ k < 2147483648) (hp1 : ¬ (0 ≤ k ∧ k < w 952) → P (.inr "java/lang/IndexOutOfBoundsException") (V, C, J)) (hp : 0 ≤ k ∧ k < w 952 → ∀ r V' C', wDist w (w (953 + 3 * k + 0)) (w (953 + 3 * k + 1)) 1 r → cSI V' C' → sV [12] V V' → sC [12, 13, 14, 15] C C' → P (.inl (some (.int (iI r)))) (V', C', J)) : RM G mX10_stepsHome (c_I Y h0) [.ref (Y 0), .int (iI k)] (d + 7) 1 6 P (V, C, J) := by
  refine RM.of (L := [some (.ref (Y 0)), some (.int (iI k))]) cfX10_stepsHome rfl (Nat.le_of_ble_eq_true rfl) ?_
  refine i_aload_n dX10_stepsHome_0 rfl ?_
  refine i_iload_n dX10_stepsHome_1 rfl ?_
  refine u_callV (i := 0) (mc := 1) (ms := 6) (k' := 0) (n' := 0) (As := [_]) dX10_stepsHome_2 cfX10_checkWalker imX10_checkWalker seX10_checkWalker lX10_146 (by decide) rfl rfl rfl rfl rfl (Nat.le_of_ble_eq_true rfl) rfl rfl ?_
  refine q_checkWalker hZ hN hO (by omega) (fun g1 => RK.n0 ?_) (fun g1 => RK.x ?_)
  · -- case
    refine i_aload_n dX10_stepsHome_5 rfl ?_
    refine u_get (i := 0) (vv := .ref (Y (11))) dX10_stepsHome_6 fX10_73.o (by decide) rfl rfl ?_
    refine i_aload_n dX10_stepsHome_9 rfl ?_
    refine i_iload_n dX10_stepsHome_10 rfl ?_
    refine u_callV (i := 0) (mc := 0) (ms := 0) (As := [_]) dX10_stepsHome_11 cfX10_findHome imX10_findHome seX10_findHome lX10_299 (by decide) rfl rfl rfl rfl rfl (Nat.le_of_ble_eq_true rfl) (Nat.zero_add _).symm (Nat.zero_add _).symm ?_
    refine q_findHome hN hO hX hSI (by omega) (fun V2 C2 nx2 al2 s2 k2 cd2 hS2 hk2 hm2 hv2 hc2 => RK.v ?_) (fun V2 C2 nx2 al2 s2 cd2 hS2 hm2 hv2 hc2 => RK.v ?_)
    · -- case
      refine u_callV (i := 11) (mc := 0) (ms := 0) (As := [_]) dX10_stepsHome_14 cfX3_stepsTo imX3_stepsTo seX3_stepsTo lX10_260 (by decide) rfl rfl rfl rfl rfl (Nat.le_of_ble_eq_true rfl) (Nat.zero_add _).symm (Nat.zero_add _).symm ?_
      refine q_stepsTo hS2 (Or.inr hk2) (fun q => absurd q (by omega)) (fun _ => RK.v ?_)
      refine i_ireturn dX10_stepsHome_17 rfl rfl ?_
      exact hp (by omega) _ _ _ (Or.inl ⟨_, hm2, rfl⟩) hS2.SI hv2 hc2
    · -- case
      refine u_callV (i := 11) (mc := 0) (ms := 0) (As := [_]) dX10_stepsHome_14 cfX3_stepsTo imX3_stepsTo seX3_stepsTo lX10_260 (by decide) rfl rfl rfl rfl rfl (Nat.le_of_ble_eq_true rfl) (Nat.zero_add _).symm (Nat.zero_add _).symm ?_
      refine q_stepsTo hS2 (Or.inl rfl) (fun _ => RK.v ?_) (fun q => absurd q (by omega))
      refine i_ireturn dX10_stepsHome_17 rfl rfl ?_
      exact hp (by omega) _ _ _ (Or.inr ⟨hm2, rfl⟩) hS2.SI hv2 hc2
  · -- case
    exact hp1 (by omega)
end C52
