/-! ===== the law: its body ===== -/
section C1
variable {G : p_G} {Y : Nat → Nat} {h0 : p_H} {P : (Option Value) ⊕ String → c_X → Prop} {d : Nat} {V : Nat → Int} {C : Nat → Int → Int} {J : c_J}
variable {w v : Int → Int} {H Hh H1 : Int → Int → Int} {bS K0 N0 : Nat} {k c s x z0 p m m1 n0 : Int}
theorem l_undo   (hm : 0 ≤ m ∧ m < n0 ∧ n0 ≤ 8) (hOH : ∀ i, 0 ≤ i → i < n0 → wOK (Hh i)) (kk : ∀ V' C' J', cNow V' C' J' (Hh m) → cHs V' C' J' m Hh → V' 1 = V 1 → V' 2 = V 2 → V' 4 = V 4 → RW G mL_law (c_I Y h0) P (d + 3) K0 N0 314 [some (.ref bS), some (.ref (Y 0)), some (.int (iI m)), some (.int (iI k)), none, some (.int (iI s)), none, some (.long (lI z0)), none, none, none, none, none, none, none, some (.int (iI n0))] [] (V', C', J')) : ∀ (zz : Nat) (n : Int) (V' : Nat → Int) (C' : Nat → Int → Int) (J' : c_J), zz = (n - m).toNat → (m ≤ n ∧ n ≤ n0) → (n < n0 → cNow V' C' J' (Hh n)) → (cHs V' C' J' n Hh) → (V' 1 = V 1) → (V' 2 = V 2) → (V' 4 = V 4) → RW G mL_law (c_I Y h0) P (d + 3) (K0) (N0) 298 [some (.ref bS), some (.ref (Y 0)), some (.int (iI m)), some (.int (iI k)), none, some (.int (iI s)), none, some (.long (lI z0)), none, none, none, none, none, none, none, some (.int (iI n0))] [] (V', C', J') := by
  intro zz
  induction zz using Nat.strongRecOn with
  | _ zz ih =>
    intro n V' C' J' hzz h1 hl hH f1 f2 f4
    refine i_aload_n dL_law_298 rfl ?_
    refine u_callV (i := 0) (mc := 0) (ms := 0) (As := []) dL_law_299 cfX10_undoCount imX10_undoCount seX10_undoCount lL_135 (by decide) rfl rfl rfl rfl rfl (Nat.le_of_ble_eq_true rfl) (Nat.zero_add _).symm (Nat.zero_add _).symm ?_
    refine q_undoCount (RK.v ?_)
    rw [hH.2.1.1]
    refine i_iload_n dL_law_302 rfl ?_
    refine i_icmp_le (tgt := 314) dL_law_303 (by decide) (by omega) (by omega) (fun c303 => ?_) (fun c303 => ?_)
    · -- jumps
      obtain rfl : n = m := by omega
      exact kk _ _ _ (hl (by omega)) hH f1 f2 f4
    · -- on
      refine i_aload_n dL_law_306 rfl ?_
      refine u_callV (i := 0) (mc := 0) (ms := 0) (As := []) dL_law_307 cfX10_undo imX10_undo seX10_undo lL_150 (by decide) rfl rfl rfl rfl rfl (Nat.le_of_ble_eq_true rfl) (Nat.zero_add _).symm (Nat.zero_add _).symm ?_
      refine q_undo hH (fun i i0 i1 => hOH i i0 (by omega)) (fun z9 => absurd z9 (by omega)) (fun _ V1 C1 J1 e1 e2 e3 => RK.v ?_)
      refine i_pop dL_law_310 rfl ?_
      refine i_goto (tgt := 298) dL_law_311 (by decide) ?_
      refine ih _ ?_ (n - 1) _ _ _ rfl (by omega) (fun _ => e1) e2 ((e3.1 1 (by decide)).trans f1) ((e3.1 2 (by decide)).trans f2) ((e3.1 4 (by decide)).trans f4)
      omega
theorem l_tail (hZ : p_Zs G) (hN : cNow V C J v) (hA : wAll v) (hop : ∀ j, 971 ≤ j → j ≤ 982 → v j = 1) (h983 : v 983 = 0) (h984 : v 984 = 0) (hst : ∀ k, 0 ≤ k → k < v 952 → v (953 + 3 * k + 2) = 0) (hp : 0 ≤ p ∧ p < v 952) (hx : 0 ≤ x ∧ x < 256) (hs : s = 0 ∨ s = 1) (hH : cHs V C J m1 H1) (hOH : ∀ i, 0 ≤ i → i < m1 → wOK (H1 i)) (hm : 0 ≤ m ∧ m ≤ m1 ∧ m1 < 8) (hT : hPush m1 H1 v m = w) (hG : wG w) (hHG : ∀ i, 0 ≤ i → i < m → wG (hPush m1 H1 v i)) (h1 : V 1 = 0) (h2 : V 2 = -1) (h4 : V 4 = 0) (hk : 0 ≤ k ∧ k ≤ 4) (kkA : w 952 < 3 → ∀ V' C' J', gLw V' C' J' (wAdd w s) (m + 1) (hPush m (hPush m1 H1 v) w) → RW G mL_law (c_I Y h0) P (d + 10) K0 N0 12 [some (.ref bS), some (.ref (Y 0)), some (.int (iI (m + 1))), some (.int (iI (k + 1))), none, none, none, none, none, none, none, none, none, none, none, none] [] (V', C', J')) (kkB : 3 ≤ w 952 → ∀ V' C' J', gLw V' C' J' w m (hPush m1 H1 v) → RW G mL_law (c_I Y h0) P (d + 10) K0 N0 12 [some (.ref bS), some (.ref (Y 0)), some (.int (iI m)), some (.int (iI (k + 1))), none, none, none, none, none, none, none, none, none, none, none, none] [] (V', C', J')) : RW G mL_law (c_I Y h0) P (d + 10) (K0 + 767) (N0 + 4602) 194 [some (.ref bS), some (.ref (Y 0)), some (.int (iI m)), some (.int (iI k)), some (.int (iI c)), some (.int (iI s)), some (.int (iI x)), some (.long (lI (gSum w))), none, some (.int (iI p)), none, none, none, none, none, none] [] (V, C, J) := by
  have hO := hA.1
  have n1 := hN.n
  have o952 := hO.2.1
  have r0 := hO.2.2.1 p hp.1 hp.2
  have rs := hst p hp.1 hp.2
  have g952 := hG.1.1.2.1
  refine i_aload_n dL_law_194 rfl ?_
  refine i_iload dL_law_195 rfl ?_
  refine u_callV (i := 0) (mc := 1) (ms := 6) (k' := K0 + 766) (n' := N0 + 4596) (As := [_]) dL_law_197 cfX10_walkerState imX10_walkerState seX10_walkerState lL_108 (by decide) rfl rfl rfl rfl rfl (Nat.le_of_ble_eq_true rfl) (by omega) (by omega) ?_
  refine q_walkerState hZ hN hO (by omega) (fun _ => RK.v ?_) (fun q9 => absurd ⟨by omega, by omega⟩ q9)
  refine i_istore dL_law_200 (L' := [some _, some _, some _, some _, some _, some _, some _, some _, none, some _, some _, none, none, none, none, none]) (by decide) rfl ?_
  refine i_aload_n dL_law_202 rfl ?_
  refine i_iload dL_law_203 rfl ?_
  refine u_callV (i := 0) (mc := 1) (ms := 6) (k' := K0 + 765) (n' := N0 + 4590) (As := [_]) dL_law_205 cfX10_walkerSteps imX10_walkerSteps seX10_walkerSteps lL_113 (by decide) rfl rfl rfl rfl rfl (Nat.le_of_ble_eq_true rfl) (by omega) (by omega) ?_
  refine q_walkerSteps hZ hN hO (by omega) (fun _ => RK.v ?_) (fun q9 => absurd ⟨by omega, by omega⟩ q9)
  refine i_istore dL_law_208 (L' := [some _, some _, some _, some _, some _, some _, some _, some _, none, some _, some _, some _, none, none, none, none]) (by decide) rfl ?_
  refine i_aload_n dL_law_210 rfl ?_
  refine u_callV (i := 0) (mc := 0) (ms := 0) (As := []) dL_law_211 cfX10_totalSteps imX10_totalSteps seX10_totalSteps lL_87 (by decide) rfl rfl rfl rfl rfl (Nat.le_of_ble_eq_true rfl) (Nat.zero_add _).symm (Nat.zero_add _).symm ?_
  refine q_totalSteps (RK.v ?_)
  rw [n1.2.2]
  refine i_istore dL_law_214 (L' := [some _, some _, some _, some _, some _, some _, some _, some _, none, some _, some _, some _, some _, none, none, none]) (by decide) rfl ?_
  refine i_aload_n dL_law_216 rfl ?_
  refine i_iload dL_law_217 rfl ?_
  refine u_callV (i := 0) (mc := 1) (ms := 6) (k' := K0 + 764) (n' := N0 + 4584) (As := [_]) dL_law_219 cfX10_walkerSlot imX10_walkerSlot seX10_walkerSlot lL_116 (by decide) rfl rfl rfl rfl rfl (Nat.le_of_ble_eq_true rfl) (by omega) (by omega) ?_
  refine q_walkerSlot hZ hN hO (by omega) (fun _ => RK.v ?_) (fun q9 => absurd ⟨by omega, by omega⟩ q9)
  refine i_istore dL_law_222 (L' := [some _, some _, some _, some _, some _, some _, some _, some _, none, some _, some _, some _, some _, some _, none, none]) (by decide) rfl ?_
  refine i_aload_n dL_law_224 rfl ?_
  refine i_iload dL_law_225 rfl ?_
  refine i_iload dL_law_227 rfl ?_
  refine i_bipush dL_law_229 (by decide) ?_
  refine i_rem dL_law_231 (by omega) (by omega) ?_
  refine u_callV (i := 0) (mc := 3) (ms := 18) (k' := K0 + 761) (n' := N0 + 4566) (As := [_, _]) dL_law_232 cfX10_step imX10_step seX10_step lL_156 (by decide) rfl rfl rfl rfl rfl (Nat.le_of_ble_eq_true rfl) (by omega) (by omega) ?_
  refine q_step hZ hN hO hH (by omega) (by omega) (fun q9 => absurd ⟨hp, by omega, by omega⟩ q9) (fun q9 => absurd (by rw [h983]; exact hop _ (by omega) (by omega)) q9.2) (fun _ V1 C1 J1 hc => RK.v ?_)
  obtain ⟨hc1, hc2, hc3⟩ := hc
  rw [if_neg (show ¬ m1 = 8 by omega)] at hc2
  have hA2 : wAll (wStep v p (x % 6)) := hA.step hp (by omega)
  have hO2 := hA2.1
  obtain ⟨sv1, sv2, sv3⟩ := wStep_v (c := x % 6) hO hp
  have rT := (hO.1 _ r0.1).2.2.2.2.2 (v (953 + 3 * p + 1)) (x % 6) r0.2.1 r0.2.2 (by omega) (by omega)
  have r5 := (hO.1 _ r0.1).2.2.2.1
  have hp2 : 0 ≤ p ∧ p < wStep v p (x % 6) 952 := by rw [wStep_lo (by omega) (Or.inl (by decide))]; exact hp
  have hlo : ∀ j, j < 953 → wStep v p (x % 6) j = v j := fun j hj => wStep_lo (by omega) (Or.inl hj)
  refine i_istore dL_law_235 (L' := [some _, some _, some _, some _, some _, some _, some _, some _, none, some _, some _, some _, some _, some _, some _, none]) (by decide) rfl ?_
  refine i_iload dL_law_237 rfl ?_
  refine i_aload_n dL_law_239 rfl ?_
  refine i_iload dL_law_240 rfl ?_
  refine i_iload dL_law_242 rfl ?_
  refine i_iload dL_law_244 rfl ?_
  refine i_bipush dL_law_246 (by decide) ?_
  refine i_rem dL_law_248 (by omega) (by omega) ?_
  refine u_callV (i := 0) (mc := 3) (ms := 18) (k' := K0 + 758) (n' := N0 + 4548) (As := [_, _, _]) dL_law_249 cfX10_transition imX10_transition seX10_transition lL_45 (by decide) rfl rfl rfl rfl rfl (Nat.le_of_ble_eq_true rfl) (by omega) (by omega) ?_
  have e5 := hlo (476 * v (953 + 3 * p + 0) + 5) (by omega)
  refine q_transition hZ hc1 hO2 (by omega) (by omega) (by omega) (fun _ => RK.v ?_) (fun q9 => absurd ⟨⟨r0.1, r0.2.1, by rw [e5]; exact r0.2.2⟩, by omega, by omega⟩ q9)
  rw [hlo (476 * v (953 + 3 * p + 0) + (116 + 6 * v (953 + 3 * p + 1) + x % 6)) (by omega)]
  refine i_icmp_ne (tgt := 290) dL_law_252 (by decide) (by omega) (by omega) (fun c252 => absurd c252 (by omega)) (fun c252 => ?_)
  refine i_aload_n dL_law_255 rfl ?_
  refine i_iload dL_law_256 rfl ?_
  refine u_callV (i := 0) (mc := 1) (ms := 6) (k' := K0 + 757) (n' := N0 + 4542) (As := [_]) dL_law_258 cfX10_walkerState imX10_walkerState seX10_walkerState lL_108 (by decide) rfl rfl rfl rfl rfl (Nat.le_of_ble_eq_true rfl) (by omega) (by omega) ?_
  refine q_walkerState hZ hc1 hO2 (by omega) (fun _ => RK.v ?_) (fun q9 => absurd ⟨by omega, by omega⟩ q9)
  rw [sv1]
  refine i_iload dL_law_261 rfl ?_
  refine i_icmp_ne (tgt := 290) dL_law_263 (by decide) (by omega) (by omega) (fun c263 => absurd c263 (by omega)) (fun c263 => ?_)
  refine i_aload_n dL_law_266 rfl ?_
  refine i_iload dL_law_267 rfl ?_
  refine u_callV (i := 0) (mc := 1) (ms := 6) (k' := K0 + 756) (n' := N0 + 4536) (As := [_]) dL_law_269 cfX10_walkerSteps imX10_walkerSteps seX10_walkerSteps lL_113 (by decide) rfl rfl rfl rfl rfl (Nat.le_of_ble_eq_true rfl) (by omega) (by omega) ?_
  refine q_walkerSteps hZ hc1 hO2 (by omega) (fun _ => RK.v ?_) (fun q9 => absurd ⟨by omega, by omega⟩ q9)
  rw [sv2]
  refine i_iload dL_law_272 rfl ?_
  refine i_const dL_law_274 ?_
  refine i_add dL_law_275 ?_
  refine i_icmp_ne (tgt := 290) dL_law_276 (by decide) (by omega) (by omega) (fun c276 => absurd c276 (by omega)) (fun c276 => ?_)
  refine i_aload_n dL_law_279 rfl ?_
  refine u_callV (i := 0) (mc := 0) (ms := 0) (As := []) dL_law_280 cfX10_totalSteps imX10_totalSteps seX10_totalSteps lL_87 (by decide) rfl rfl rfl rfl rfl (Nat.le_of_ble_eq_true rfl) (Nat.zero_add _).symm (Nat.zero_add _).symm ?_
  refine q_totalSteps (RK.v ?_)
  rw [hc1.n.2.2, sv3]
  refine i_iload dL_law_283 rfl ?_
  refine i_const dL_law_285 ?_
  refine i_add dL_law_286 ?_
  refine i_icmp_eq (tgt := 292) dL_law_287 (by decide) (by omega) (by omega) (fun c287 => ?_) (fun c287 => absurd c287 (by omega))
  refine i_aload_n dL_law_292 rfl ?_
  refine u_callV (i := 0) (mc := 0) (ms := 0) (As := []) dL_law_293 cfX10_undoCount imX10_undoCount seX10_undoCount lL_135 (by decide) rfl rfl rfl rfl rfl (Nat.le_of_ble_eq_true rfl) (Nat.zero_add _).symm (Nat.zero_add _).symm ?_
  refine q_undoCount (RK.v ?_)
  rw [hc2.2.1.1]
  refine i_istore dL_law_296 (L' := [some _, some _, some _, some _, some _, some _, some _, some _, none, some _, some _, some _, some _, some _, some _, some _]) (by decide) rfl ?_
  have hOH2 : ∀ i, 0 ≤ i → i < m1 + 1 → wOK (hPush m1 H1 v i) := hPush_G hm.2.2 hO hOH
  refine RW.wk (L' := [some _, some _, some _, some _, none, some _, none, some _, none, none, none, none, none, none, none, some _]) (p_subL.at (by repeat (first | exact subL_nil | refine subL_s ?_ | refine subL_n ?_))) ?_
  refine l_undo ⟨hm.1, by omega, by omega⟩ hOH2 (fun V2 C2 J2 b1 b2 b3 b4 b5 => ?_) _ (m1 + 1) _ _ _ rfl (by omega) (fun z9 => absurd z9 (by omega)) hc2 rfl rfl rfl
  rw [hT] at b1
  have hN3 := b1
  have n3 := b1.n
  have hH3 := b2
  have b3 := b3.trans ((hc3.1 1 (by decide)).trans h1)
  have b4 := b4.trans ((hc3.1 2 (by decide)).trans h2)
  have b5 := b5.trans ((hc3.1 4 (by decide)).trans h4)
  refine i_aload_n dL_law_314 rfl ?_
  refine i_callS (mc := 754) (ms := 4524) (k' := K0 + 2) (n' := N0 + 12) (As := [_]) dL_law_315 cfL_sum stL_sum lL_127 rfl rfl (Nat.le_of_ble_eq_true rfl) (by omega) (by omega) ?_
  refine h_sum hZ b1 hG.1 hG.2.1 (RK.v ?_)
  refine i_lload dL_law_318 rfl ?_
  refine i_lcmp dL_law_320 (z := 0) lg_self ?_
  refine i_if_ne (tgt := 330) dL_law_321 (by decide) (by decide) (fun c321 => by omega) (fun c321 => ?_)
  refine i_iload dL_law_324 rfl ?_
  refine i_iload_n dL_law_326 rfl ?_
  refine i_icmp_gt (tgt := 332) dL_law_327 (by decide) (by omega) (by omega) (fun c327 => ?_) (fun c327 => ?_)
  · -- jumps
    refine i_aload_n dL_law_332 rfl ?_
    refine u_callV (i := 0) (mc := 0) (ms := 0) (As := []) dL_law_333 cfX10_walkerCount imX10_walkerCount seX10_walkerCount lL_81 (by decide) rfl rfl rfl rfl rfl (Nat.le_of_ble_eq_true rfl) (Nat.zero_add _).symm (Nat.zero_add _).symm ?_
    refine q_walkerCount (RK.v ?_)
    rw [n3.2.1]
    refine i_const dL_law_336 ?_
    refine i_icmp_ge (tgt := 350) dL_law_337 (by decide) (by omega) (by omega) (fun c337 => ?_) (fun c337 => ?_)
    · -- jumps
      refine i_iinc dL_law_350 rfl (L' := [some _, some _, some _, some _, none, some _, none, some _, none, none, none, none, none, none, none, some _]) (by decide) rfl ?_
      refine i_goto (tgt := 12) dL_law_353 (by decide) ?_
      refine RW.wk (L' := [some _, some _, some _, some _, none, none, none, none, none, none, none, none, none, none, none, none]) (p_subL.at (by repeat (first | exact subL_nil | refine subL_s ?_ | refine subL_n ?_))) ?_
      refine RW.room (Nat.le_refl _) (k' := K0) (n' := N0) (by omega) (by omega) ?_
      exact kkB (by omega) _ _ _ ⟨b1, hG, b2, hHG, b3, b4, b5⟩
    · -- on
      refine i_aload_n dL_law_340 rfl ?_
      refine i_iload dL_law_341 rfl ?_
      refine u_callV (i := 0) (mc := 2) (ms := 12) (k' := K0 + 0) (n' := N0 + 0) (As := [_]) dL_law_343 cfX10_addWalker imX10_addWalker seX10_addWalker lL_153 (by decide) rfl rfl rfl rfl rfl (Nat.le_of_ble_eq_true rfl) (by omega) (by omega) ?_
      refine q_addWalker hZ hN3 hG.1.1 hH3 (by omega) (fun z9 => absurd hs z9) (fun z9 => absurd z9.2 (by omega)) (fun _ V3 C3 J3 hc => RK.v ?_)
      obtain ⟨hd1, hd2, hd3⟩ := hc
      rw [if_neg (show ¬ m = 8 by omega)] at hd2
      refine i_pop dL_law_346 rfl ?_
      refine i_iinc dL_law_347 rfl (L' := [some _, some _, some _, some _, none, some _, none, some _, none, none, none, none, none, none, none, some _]) (by decide) rfl ?_
      refine i_iinc dL_law_350 rfl (L' := [some _, some _, some _, some _, none, some _, none, some _, none, none, none, none, none, none, none, some _]) (by decide) rfl ?_
      refine i_goto (tgt := 12) dL_law_353 (by decide) ?_
      refine RW.wk (L' := [some _, some _, some _, some _, none, none, none, none, none, none, none, none, none, none, none, none]) (p_subL.at (by repeat (first | exact subL_nil | refine subL_s ?_ | refine subL_n ?_))) ?_
      refine RW.room (Nat.le_refl _) (k' := K0) (n' := N0) (by omega) (by omega) ?_
      exact kkA (by omega) _ _ _ ⟨hd1, (hG.add hs (by omega)).1, hd2, hPush_G (by omega) hG hHG, (hd3.1 1 (by decide)).trans b3, (hd3.1 2 (by decide)).trans b4, (hd3.1 4 (by decide)).trans b5⟩
  · -- on
    refine i_const dL_law_330 ?_
    refine i_ireturn dL_law_331 rfl rfl ?_
    exact absurd (rfl : (0 : Int) = 0) (by omega)
theorem l_mid (hZ : p_Zs G) (hL : gLw V C J w m H) (hx : 0 ≤ x ∧ x < 256) (hs : s = 0 ∨ s = 1) (hm : 0 ≤ m ∧ (w 952 < 3 → m ≤ 6) ∧ m ≤ 7) (hk : 0 ≤ k ∧ k ≤ 4) (kkA : w 952 < 3 → ∀ V' C' J' H', gLw V' C' J' (wAdd w s) (m + 1) H' → RW G mL_law (c_I Y h0) P (d + 10) K0 N0 12 [some (.ref bS), some (.ref (Y 0)), some (.int (iI (m + 1))), some (.int (iI (k + 1))), none, none, none, none, none, none, none, none, none, none, none, none] [] (V', C', J')) (kkB : 3 ≤ w 952 → ∀ V' C' J' H', gLw V' C' J' w m H' → RW G mL_law (c_I Y h0) P (d + 10) K0 N0 12 [some (.ref bS), some (.ref (Y 0)), some (.int (iI m)), some (.int (iI (k + 1))), none, none, none, none, none, none, none, none, none, none, none, none] [] (V', C', J')) : RW G mL_law (c_I Y h0) P (d + 10) (K0 + 1523) (N0 + 9138) 165 [some (.ref bS), some (.ref (Y 0)), some (.int (iI m)), some (.int (iI k)), some (.int (iI c)), some (.int (iI s)), some (.int (iI x)), none, none, none, none, none, none, none, none, none] [] (V, C, J) := by
  obtain ⟨hN, hG, hH, hHG, h1, h2, h4⟩ := hL
  have hO := hG.1.1
  have n1 := hN.n
  have g952 := hO.2.1
  have g3 := hG.2.2.2.2
  refine i_aload_n dL_law_165 rfl ?_
  refine i_callS (mc := 754) (ms := 4524) (k' := K0 + 769) (n' := N0 + 4614) (As := [_]) dL_law_166 cfL_sum stL_sum lL_127 rfl rfl (Nat.le_of_ble_eq_true rfl) (by omega) (by omega) ?_
  refine h_sum hZ hN hG.1 hG.2.1 (RK.v ?_)
  refine i_lstore dL_law_169 (L' := [some _, some _, some _, some _, some _, some _, some _, some _, none, none, none, none, none, none, none, none]) (by decide) rfl ?_
  refine i_aload_n dL_law_171 rfl ?_
  refine u_callV (i := 0) (mc := 0) (ms := 0) (As := []) dL_law_172 cfX10_walkerCount imX10_walkerCount seX10_walkerCount lL_81 (by decide) rfl rfl rfl rfl rfl (Nat.le_of_ble_eq_true rfl) (Nat.zero_add _).symm (Nat.zero_add _).symm ?_
  refine q_walkerCount (RK.v ?_)
  rw [n1.2.1]
  refine i_const dL_law_175 ?_
  refine i_icmp_ge (tgt := 188) dL_law_176 (by decide) (by omega) (by omega) (fun c176 => ?_) (fun c176 => ?_)
  · -- jumps
    refine i_iload dL_law_188 rfl ?_
    refine i_const dL_law_190 ?_
    refine i_rem dL_law_191 (by omega) (by omega) ?_
    refine i_istore dL_law_192 (L' := [some _, some _, some _, some _, some _, some _, some _, some _, none, some _, none, none, none, none, none, none]) (by decide) rfl ?_
    refine RW.room (Nat.le_refl _) (k' := K0 + 767) (n' := N0 + 4602) (by omega) (by omega) ?_
    have u1 : hPush m H w m = w := hPush_at (by omega)
    have u2 : ∀ i, 0 ≤ i → i < m → wG (hPush m H w i) := fun i i0 i1 => by rw [hPush_lo (by omega) i1]; exact hHG i i0 i1
    exact l_tail hZ hN hG.1 hG.2.2.1 hG.2.2.2.1 hG.2.1.1 hG.2.1.2 (by omega) hx hs hH (fun i i0 i1 => (hHG i i0 i1).1.1) (by omega) u1 hG u2 h1 h2 h4 hk (fun q V' C' J' => kkA q V' C' J' _) (fun q V' C' J' => kkB q V' C' J' _)
  · -- on
    refine i_aload_n dL_law_179 rfl ?_
    refine i_iload dL_law_180 rfl ?_
    refine u_callV (i := 0) (mc := 2) (ms := 12) (k' := K0 + 767) (n' := N0 + 4602) (As := [_]) dL_law_182 cfX10_addWalker imX10_addWalker seX10_addWalker lL_153 (by decide) rfl rfl rfl rfl rfl (Nat.le_of_ble_eq_true rfl) (by omega) (by omega) ?_
    refine q_addWalker hZ hN hO hH (by omega) (fun z9 => absurd hs z9) (fun z9 => absurd z9.2 (by omega)) (fun _ V3 C3 J3 hc => RK.v ?_)
    obtain ⟨hd1, hd2, hd3⟩ := hc
    rw [if_neg (show ¬ m = 8 by omega)] at hd2
    refine i_goto (tgt := 192) dL_law_185 (by decide) ?_
    refine i_istore dL_law_192 (L' := [some _, some _, some _, some _, some _, some _, some _, some _, none, some _, none, none, none, none, none, none]) (by decide) rfl ?_
    refine RW.room (Nat.le_refl _) (k' := K0 + 767) (n' := N0 + 4602) (by omega) (by omega) ?_
    obtain ⟨a1, a2⟩ := hG.add hs (by omega)
    have hm6 := hm.2.1 (by omega)
    have u1 : hPush (m + 1) (hPush m H w) (wAdd w s) m = w := by rw [hPush_lo (by omega) (by omega)]; exact hPush_at (by omega)
    have u2 : ∀ i, 0 ≤ i → i < m → wG (hPush (m + 1) (hPush m H w) (wAdd w s) i) := fun i i0 i1 => by rw [hPush_lo (by omega) (by omega), hPush_lo (by omega) i1]; exact hHG i i0 i1
    exact l_tail hZ hd1 a1.1 a1.2.2.1 a1.2.2.2.1 a1.2.1.1 a1.2.1.2 (by omega) hx hs hd2 (hPush_G (by omega) hO (fun i i0 i1 => (hHG i i0 i1).1.1)) (by omega) u1 hG u2 ((hd3.1 1 (by decide)).trans h1) ((hd3.1 2 (by decide)).trans h2) ((hd3.1 4 (by decide)).trans h4) hk (fun q V' C' J' => kkA q V' C' J' _) (fun q V' C' J' => kkB q V' C' J' _)
theorem l_loop {N : Nat} {xs : Nat → Int32} (hZ : p_Zs G) (hX : p_Scr G bS N xs) (hB : N < 2147483648) (hP : ∀ X, P (.inl (some (.int (iI 1)))) X)  : ∀ (zz : Nat) (k m : Int) (w : Int → Int) (H : Int → Int → Int) (V : Nat → Int) (C : Nat → Int → Int) (J : c_J), zz = (5 - k).toNat → (0 ≤ k ∧ k ≤ 5) → ((k = 0 ∧ m = 0 ∧ w 952 = 0) ∨ (1 ≤ k ∧ 0 ≤ m ∧ m ≤ k - 1 + w 952 ∧ ((k ≤ 3 ∧ w 952 = k) ∨ (3 ≤ k ∧ w 952 = 3)))) → (gLw V C J w m H) → RW G mL_law (c_I Y h0) P (d + 11) (41500 * zz) (249500 * zz) 12 [some (.ref bS), some (.ref (Y 0)), some (.int (iI m)), some (.int (iI k)), none, none, none, none, none, none, none, none, none, none, none, none] [] (V, C, J) := by
  intro zz
  induction zz using Nat.strongRecOn with
  | _ zz ih =>
    intro k m w H V C J hzz hk hm hL
    obtain ⟨hN, hG, hH, hHG, h1, h2, h4⟩ := id hL
    have g952 := hG.1.1.2.1
    refine i_iload_n dL_law_12 rfl ?_
    refine i_const dL_law_13 ?_
    refine i_icmp_gt (tgt := 356) dL_law_14 (by decide) (by omega) (by omega) (fun c14 => ?_) (fun c14 => ?_)
    · -- jumps
      refine RW.room (Nat.le_refl _) (k' := 0 + 0) (n' := 0 + 0) (by omega) (by omega) ?_
      refine i_aload_n dL_law_356 rfl ?_
      refine u_callV (i := 0) (mc := 0) (ms := 0) (As := []) dL_law_357 cfX10_undoCount imX10_undoCount seX10_undoCount lL_135 (by decide) rfl rfl rfl rfl rfl (Nat.le_of_ble_eq_true rfl) (Nat.zero_add _).symm (Nat.zero_add _).symm ?_
      refine q_undoCount (RK.v ?_)
      rw [hL.2.2.1.2.1.1]
      refine i_iload_n dL_law_360 rfl ?_
      refine i_icmp_ne (tgt := 368) dL_law_361 (by decide) (by omega) (by omega) (fun c361 => absurd c361 (by omega)) (fun c361 => ?_)
      refine i_const dL_law_364 ?_
      refine i_goto (tgt := 369) dL_law_365 (by decide) ?_
      refine i_ireturn dL_law_369 rfl rfl ?_
      exact hP _
    · -- on
      refine RW.room (Nat.le_refl _) (k' := 41500 * (5 - (k + 1)).toNat + 41500) (n' := 249500 * (5 - (k + 1)).toNat + 249500) (by omega) (by omega) ?_
      refine i_aload_n dL_law_17 rfl ?_
      refine i_iload_n dL_law_18 rfl ?_
      refine i_callS (mc := 0) (ms := 0) (As := [_, _]) dL_law_19 cfL_cell stL_cell lL_123 rfl rfl (Nat.le_of_ble_eq_true rfl) (Nat.zero_add _).symm (Nat.zero_add _).symm ?_
      refine h_cell hX hB (by omega) (fun c c0 c1 => RK.v ?_)
      refine i_istore dL_law_22 (L' := [some _, some _, some _, some _, some _, none, none, none, none, none, none, none, none, none, none, none]) (by decide) rfl ?_
      refine i_iload dL_law_24 rfl ?_
      refine i_bipush dL_law_26 (by decide) ?_
      refine i_iushr dL_law_28 iI_us20 ?_
      refine i_const dL_law_29 ?_
      refine i_andE dL_law_30 iI_m1 ?_
      generalize hs0 : (c % 4294967296 / 1048576) % 2 = s
      have hs : s = 0 ∨ s = 1 := by omega
      refine i_istore dL_law_31 (L' := [some _, some _, some _, some _, some _, some _, none, none, none, none, none, none, none, none, none, none]) (by decide) rfl ?_
      refine i_iload dL_law_33 rfl ?_
      refine i_bipush dL_law_35 (by decide) ?_
      refine i_iushr dL_law_37 iI_us21 ?_
      refine i_sipush dL_law_38 (by decide) ?_
      refine i_andE dL_law_41 iI_m255 ?_
      generalize hx0 : (c % 4294967296 / 2097152) % 256 = x
      have hx : 0 ≤ x ∧ x < 256 := by omega
      refine i_istore dL_law_42 (L' := [some _, some _, some _, some _, some _, some _, some _, none, none, none, none, none, none, none, none, none]) (by decide) rfl ?_
      refine i_aload_n dL_law_44 rfl ?_
      refine i_callS (mc := 754) (ms := 4524) (k' := 41500 * (5 - (k + 1)).toNat + 40746) (n' := 249500 * (5 - (k + 1)).toNat + 244976) (As := [_]) dL_law_45 cfL_sum stL_sum lL_127 rfl rfl (Nat.le_of_ble_eq_true rfl) (by omega) (by omega) ?_
      refine h_sum hZ hN hG.1 hG.2.1 (RK.v ?_)
      refine i_lstore dL_law_48 (L' := [some _, some _, some _, some _, some _, some _, some _, some _, none, none, none, none, none, none, none, none]) (by decide) rfl ?_
      refine i_iload_n dL_law_50 rfl ?_
      refine i_if_le (tgt := 67) dL_law_51 (by decide) (by omega) (fun c51 => ?_) (fun c51 => ?_)
      · -- jumps
        refine i_iload_n dL_law_67 rfl ?_
        refine i_iload_n dL_law_68 rfl ?_
        refine i_if_le (tgt := 76) dL_law_69 (by decide) (by omega) (fun c69 => ?_) (fun c69 => absurd c69 (by omega))
        refine i_const dL_law_76 ?_
        refine i_add dL_law_77 ?_
        refine i_istore_n dL_law_78 (L' := [some _, some _, some _, some _, some _, some _, some _, some _, none, none, none, none, none, none, none, none]) (by decide) rfl ?_
        refine i_aload_n dL_law_79 rfl ?_
        refine u_callV (i := 0) (mc := 0) (ms := 0) (As := []) dL_law_80 cfX10_undoCount imX10_undoCount seX10_undoCount lL_135 (by decide) rfl rfl rfl rfl rfl (Nat.le_of_ble_eq_true rfl) (Nat.zero_add _).symm (Nat.zero_add _).symm ?_
        refine q_undoCount (RK.v ?_)
        rw [hL.2.2.1.2.1.1]
        refine i_iload_n dL_law_83 rfl ?_
        refine i_icmp_ne (tgt := 102) dL_law_84 (by decide) (by omega) (by omega) (fun c84 => ?_) (fun c84 => ?_)
        · -- jumps
          refine i_const dL_law_102 ?_
          refine i_ireturn dL_law_103 rfl rfl ?_
          exact absurd (rfl : (0 : Int) = 0) (by omega)
        · -- on
          refine i_aload_n dL_law_87 rfl ?_
          refine u_callV (i := 0) (mc := 0) (ms := 0) (As := []) dL_law_88 cfX10_patternErrorKind imX10_patternErrorKind seX10_patternErrorKind lL_138 (by decide) rfl rfl rfl rfl rfl (Nat.le_of_ble_eq_true rfl) (Nat.zero_add _).symm (Nat.zero_add _).symm ?_
          refine q_patternErrorKind (RK.v ?_)
          rw [h1]
          refine i_if_ne (tgt := 102) dL_law_91 (by decide) (by decide) (fun c91 => by omega) (fun c91 => ?_)
          refine i_aload_n dL_law_94 rfl ?_
          refine u_callV (i := 0) (mc := 0) (ms := 0) (As := []) dL_law_95 cfX10_patternErrorOffset imX10_patternErrorOffset seX10_patternErrorOffset lL_141 (by decide) rfl rfl rfl rfl rfl (Nat.le_of_ble_eq_true rfl) (Nat.zero_add _).symm (Nat.zero_add _).symm ?_
          refine q_patternErrorOffset (RK.v ?_)
          rw [h2]
          refine i_const dL_law_98 ?_
          refine i_icmp_eq (tgt := 104) dL_law_99 (by decide) (by decide) (by decide) (fun c99 => ?_) (fun c99 => by omega)
          refine i_aload_n dL_law_104 rfl ?_
          refine i_iload dL_law_105 rfl ?_
          refine i_iload dL_law_107 rfl ?_
          refine i_callS (mc := 38166) (ms := 228996) (k' := 41500 * (5 - (k + 1)).toNat + 2580) (n' := 249500 * (5 - (k + 1)).toNat + 15980) (As := [_, _, _]) dL_law_109 cfL_knows stL_knows lL_144 rfl rfl (Nat.le_of_ble_eq_true rfl) (by omega) (by omega) ?_
          refine h_knows hZ hL.1 hL.2.1.1 hs (by rw [hL.2.2.2.2.2.2]; decide) (fun V2 C2 d1 d2 d3 => RK.v ?_)
          have hL2 := hL.typ d2 d1 d3
          refine i_if_eq (tgt := 129) dL_law_112 (by decide) (by decide) (fun c112 => by omega) (fun c112 => ?_)
          refine i_aload_n dL_law_115 rfl ?_
          refine i_iload dL_law_116 rfl ?_
          refine i_iload dL_law_118 rfl ?_
          refine i_bipush dL_law_120 (by decide) ?_
          refine i_rem dL_law_122 (by omega) (by omega) ?_
          refine i_callS (mc := 234) (ms := 1404) (k' := 41500 * (5 - (k + 1)).toNat + 2346) (n' := 249500 * (5 - (k + 1)).toNat + 14576) (As := [_, _, _]) dL_law_123 cfL_isListed stL_isListed lL_147 rfl rfl (Nat.le_of_ble_eq_true rfl) (by omega) (by omega) ?_
          refine h_isListed hZ hL2.1 hL2.2.1.1 hs (by omega) (fun V3 C3 J3 d4 d5 d6 => RK.v ?_)
          have hL3 := hL2.lst d4 d5 d6
          refine i_if_ne (tgt := 131) dL_law_126 (by decide) (by decide) (fun c126 => ?_) (fun c126 => by omega)
          refine i_iload_n dL_law_131 rfl ?_
          refine i_if_le (tgt := 165) dL_law_132 (by decide) (by omega) (fun c132 => ?_) (fun c132 => absurd c132 (by omega))
          refine RW.wk (L' := [some _, some _, some _, some _, some _, some _, some _, none, none, none, none, none, none, none, none, none]) (p_subL.at (by repeat (first | exact subL_nil | refine subL_s ?_ | refine subL_n ?_))) ?_
          refine RW.room (Nat.le_refl _) (k' := 41500 * (5 - (k + 1)).toNat + 1523) (n' := 249500 * (5 - (k + 1)).toNat + 9138) (by omega) (by omega) ?_
          rw [show m + 0 = m by omega]
          have eW : w 952 = w 952 := rfl
          refine l_mid hZ hL3 hx hs (by omega) (by omega) (fun q V' C' J' H' hq => ?_) (fun q V' C' J' H' hq => ?_)
          · have e2 := (hq.2.1.1.1.2.1); have e3 : wAdd w s 952 = w 952 + 1 := by unfold wAdd; exact zu_at
            refine RW.room (Nat.le_refl _) ?_ ?_ (ih _ ?_ (k + 1) (m + 1) _ _ _ _ _ rfl (by omega) (by omega) hq)
            · omega
            · omega
            · omega
          · refine RW.room (Nat.le_refl _) ?_ ?_ (ih _ ?_ (k + 1) (m) _ _ _ _ _ rfl (by omega) (by omega) hq)
            · omega
            · omega
            · omega
      · -- on
        refine i_aload_n dL_law_54 rfl ?_
        refine i_iload dL_law_55 rfl ?_
        refine i_iload dL_law_57 rfl ?_
        refine i_callS (mc := 9) (ms := 519) (k' := 41500 * (5 - (k + 1)).toNat + 40737) (n' := 249500 * (5 - (k + 1)).toNat + 244457) (As := [_, _, _]) dL_law_59 cfL_compiled stL_compiled lL_131 rfl rfl (Nat.le_of_ble_eq_true rfl) (by omega) (by omega) ?_
        refine h_compiled hZ hN hG hH (by omega) hs h4 (fun V1 C1 J1 w1 b1 b2 b3 b4 b5 b6 b7 => RK.v ?_)
        have hL1 : gLw V1 C1 J1 w1 (m + 1) (hPush m H w) := ⟨b1, b2, b4, hPush_G (by omega) hG hHG, b5, b6, b7⟩
        refine i_if_ne (tgt := 67) dL_law_62 (by decide) (by decide) (fun c62 => ?_) (fun c62 => by omega)
        refine i_iload_n dL_law_67 rfl ?_
        refine i_iload_n dL_law_68 rfl ?_
        refine i_if_le (tgt := 76) dL_law_69 (by decide) (by omega) (fun c69 => absurd c69 (by omega)) (fun c69 => ?_)
        refine i_const dL_law_72 ?_
        refine i_goto (tgt := 77) dL_law_73 (by decide) ?_
        refine i_add dL_law_77 ?_
        refine i_istore_n dL_law_78 (L' := [some _, some _, some _, some _, some _, some _, some _, some _, none, none, none, none, none, none, none, none]) (by decide) rfl ?_
        refine i_aload_n dL_law_79 rfl ?_
        refine u_callV (i := 0) (mc := 0) (ms := 0) (As := []) dL_law_80 cfX10_undoCount imX10_undoCount seX10_undoCount lL_135 (by decide) rfl rfl rfl rfl rfl (Nat.le_of_ble_eq_true rfl) (Nat.zero_add _).symm (Nat.zero_add _).symm ?_
        refine q_undoCount (RK.v ?_)
        rw [hL1.2.2.1.2.1.1]
        refine i_iload_n dL_law_83 rfl ?_
        refine i_icmp_ne (tgt := 102) dL_law_84 (by decide) (by omega) (by omega) (fun c84 => absurd c84 (by omega)) (fun c84 => ?_)
        refine i_aload_n dL_law_87 rfl ?_
        refine u_callV (i := 0) (mc := 0) (ms := 0) (As := []) dL_law_88 cfX10_patternErrorKind imX10_patternErrorKind seX10_patternErrorKind lL_138 (by decide) rfl rfl rfl rfl rfl (Nat.le_of_ble_eq_true rfl) (Nat.zero_add _).symm (Nat.zero_add _).symm ?_
        refine q_patternErrorKind (RK.v ?_)
        rw [hL1.2.2.2.2.1]
        refine i_if_ne (tgt := 102) dL_law_91 (by decide) (by decide) (fun c91 => by omega) (fun c91 => ?_)
        refine i_aload_n dL_law_94 rfl ?_
        refine u_callV (i := 0) (mc := 0) (ms := 0) (As := []) dL_law_95 cfX10_patternErrorOffset imX10_patternErrorOffset seX10_patternErrorOffset lL_141 (by decide) rfl rfl rfl rfl rfl (Nat.le_of_ble_eq_true rfl) (Nat.zero_add _).symm (Nat.zero_add _).symm ?_
        refine q_patternErrorOffset (RK.v ?_)
        rw [hL1.2.2.2.2.2.1]
        refine i_const dL_law_98 ?_
        refine i_icmp_eq (tgt := 104) dL_law_99 (by decide) (by decide) (by decide) (fun c99 => ?_) (fun c99 => by omega)
        refine i_aload_n dL_law_104 rfl ?_
        refine i_iload dL_law_105 rfl ?_
        refine i_iload dL_law_107 rfl ?_
        refine i_callS (mc := 38166) (ms := 228996) (k' := 41500 * (5 - (k + 1)).toNat + 2571) (n' := 249500 * (5 - (k + 1)).toNat + 15461) (As := [_, _, _]) dL_law_109 cfL_knows stL_knows lL_144 rfl rfl (Nat.le_of_ble_eq_true rfl) (by omega) (by omega) ?_
        refine h_knows hZ hL1.1 hL1.2.1.1 hs (by rw [hL1.2.2.2.2.2.2]; decide) (fun V2 C2 d1 d2 d3 => RK.v ?_)
        have hL2 := hL1.typ d2 d1 d3
        refine i_if_eq (tgt := 129) dL_law_112 (by decide) (by decide) (fun c112 => by omega) (fun c112 => ?_)
        refine i_aload_n dL_law_115 rfl ?_
        refine i_iload dL_law_116 rfl ?_
        refine i_iload dL_law_118 rfl ?_
        refine i_bipush dL_law_120 (by decide) ?_
        refine i_rem dL_law_122 (by omega) (by omega) ?_
        refine i_callS (mc := 234) (ms := 1404) (k' := 41500 * (5 - (k + 1)).toNat + 2337) (n' := 249500 * (5 - (k + 1)).toNat + 14057) (As := [_, _, _]) dL_law_123 cfL_isListed stL_isListed lL_147 rfl rfl (Nat.le_of_ble_eq_true rfl) (by omega) (by omega) ?_
        refine h_isListed hZ hL2.1 hL2.2.1.1 hs (by omega) (fun V3 C3 J3 d4 d5 d6 => RK.v ?_)
        have hL3 := hL2.lst d4 d5 d6
        refine i_if_ne (tgt := 131) dL_law_126 (by decide) (by decide) (fun c126 => ?_) (fun c126 => by omega)
        refine i_iload_n dL_law_131 rfl ?_
        refine i_if_le (tgt := 165) dL_law_132 (by decide) (by omega) (fun c132 => absurd c132 (by omega)) (fun c132 => ?_)
        refine i_iload dL_law_135 rfl ?_
        refine i_const dL_law_137 ?_
        refine i_andE dL_law_138 iI_m1 ?_
        refine i_if_ne (tgt := 165) dL_law_139 (by decide) (by omega) (fun c139 => ?_) (fun c139 => ?_)
        · -- jumps
          refine RW.wk (L' := [some _, some _, some _, some _, some _, some _, some _, none, none, none, none, none, none, none, none, none]) (p_subL.at (by repeat (first | exact subL_nil | refine subL_s ?_ | refine subL_n ?_))) ?_
          refine RW.room (Nat.le_refl _) (k' := 41500 * (5 - (k + 1)).toNat + 1523) (n' := 249500 * (5 - (k + 1)).toNat + 9138) (by omega) (by omega) ?_
          have eW := b3
          refine l_mid hZ hL3 hx hs (by omega) (by omega) (fun q V' C' J' H' hq => ?_) (fun q V' C' J' H' hq => ?_)
          · have e2 := (hq.2.1.1.1.2.1); have e3 : wAdd w1 s 952 = w1 952 + 1 := by unfold wAdd; exact zu_at
            refine RW.room (Nat.le_refl _) ?_ ?_ (ih _ ?_ (k + 1) (m + 1 + 1) _ _ _ _ _ rfl (by omega) (by omega) hq)
            · omega
            · omega
            · omega
          · refine RW.room (Nat.le_refl _) ?_ ?_ (ih _ ?_ (k + 1) (m + 1) _ _ _ _ _ rfl (by omega) (by omega) hq)
            · omega
            · omega
            · omega
        · -- on
          refine i_iinc dL_law_142 rfl (L' := [some _, some _, some _, some _, some _, some _, some _, some _, none, none, none, none, none, none, none, none]) (by decide) rfl ?_
          refine i_aload_n dL_law_145 rfl ?_
          refine u_callV (i := 0) (mc := 0) (ms := 0) (As := []) dL_law_146 cfX10_undo imX10_undo seX10_undo lL_150 (by decide) rfl rfl rfl rfl rfl (Nat.le_of_ble_eq_true rfl) (Nat.zero_add _).symm (Nat.zero_add _).symm ?_
          obtain ⟨-, -, y3, y4, y5, y6, y7⟩ := hL3
          refine q_undo y3 (fun i i0 i1 => (y4 i i0 i1).1.1) (fun z9 => absurd z9 (by omega)) (fun _ V4 C4 J4 e1 e2 e3 => RK.v ?_)
          rw [show m + 1 - 1 = m by omega] at e1 e2 ⊢
          rw [hPush_at (by omega)] at e1
          have hL4 : gLw V4 C4 J4 w m (hPush m H w) := ⟨e1, hG, e2, fun i i0 i1 => y4 i i0 (by omega), (e3.1 1 (by decide)).trans y5, (e3.1 2 (by decide)).trans y6, (e3.1 4 (by decide)).trans y7⟩
          refine i_iload_n dL_law_149 rfl ?_
          refine i_icmp_ne (tgt := 163) dL_law_150 (by decide) (by omega) (by omega) (fun c150 => ?_) (fun c150 => ?_)
          · -- jumps
            refine i_const dL_law_163 ?_
            refine i_ireturn dL_law_164 rfl rfl ?_
            exact absurd (rfl : (0 : Int) = 0) (by omega)
          · -- on
            refine i_aload_n dL_law_153 rfl ?_
            refine i_callS (mc := 754) (ms := 4524) (k' := 41500 * (5 - (k + 1)).toNat + 1583) (n' := 249500 * (5 - (k + 1)).toNat + 9533) (As := [_]) dL_law_154 cfL_sum stL_sum lL_127 rfl rfl (Nat.le_of_ble_eq_true rfl) (by omega) (by omega) ?_
            refine h_sum hZ e1 hG.1 hG.2.1 (RK.v ?_)
            refine i_lload dL_law_157 rfl ?_
            refine i_lcmp dL_law_159 (z := 0) lg_self ?_
            refine i_if_eq (tgt := 165) dL_law_160 (by decide) (by decide) (fun c160 => ?_) (fun c160 => by omega)
            refine RW.wk (L' := [some _, some _, some _, some _, some _, some _, some _, none, none, none, none, none, none, none, none, none]) (p_subL.at (by repeat (first | exact subL_nil | refine subL_s ?_ | refine subL_n ?_))) ?_
            refine RW.room (Nat.le_refl _) (k' := 41500 * (5 - (k + 1)).toNat + 1523) (n' := 249500 * (5 - (k + 1)).toNat + 9138) (by omega) (by omega) ?_
            rw [show m + 1 + (-1) = m by omega]
            have eW : w 952 = w 952 := rfl
            refine l_mid hZ hL4 hx hs (by omega) (by omega) (fun q V' C' J' H' hq => ?_) (fun q V' C' J' H' hq => ?_)
            · have e2 := (hq.2.1.1.1.2.1); have e3 : wAdd w s 952 = w 952 + 1 := by unfold wAdd; exact zu_at
              refine RW.room (Nat.le_refl _) ?_ ?_ (ih _ ?_ (k + 1) (m + 1) _ _ _ _ _ rfl (by omega) (by omega) hq)
              · omega
              · omega
              · omega
            · refine RW.room (Nat.le_refl _) ?_ ?_ (ih _ ?_ (k + 1) (m) _ _ _ _ _ rfl (by omega) (by omega) hq)
              · omega
              · omega
              · omega
end C1
