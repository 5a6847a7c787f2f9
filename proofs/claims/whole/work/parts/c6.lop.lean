/-! ===== the law: its loop ===== -/
theorem l_and63 (x : Int32) : ∃ v : Nat, v < 64 ∧ x &&& 63 = nI v := by
  refine ⟨x.toBitVec.toNat &&& 63, Nat.lt_of_le_of_lt Nat.and_le_right (by decide), ?_⟩
  apply Int32.toBitVec_inj.1
  show x.toBitVec &&& 63#32 = (Int32.ofNat (x.toBitVec.toNat &&& 63)).toBitVec
  simp [BitVec.ofNat_and]
section C6
variable {G : p_G} {P : p_Zt} {k n : Nat} {h : p_H} {Yc Ym : Nat → Nat} {o1 o2 b N : Nat} {z : Int} {xs : Nat → Int32} {V Vm : Nat → Int} {C Cm : Nat → Int → Int} {J : c_J} {Jm : Int → Int}
theorem l_case {v : Nat} (hv : v < 64) (hZ : p_Zs G) (hZn : p_Zn G) (hX : p_Scr G b N xs) (hN : N ≤ 3072) (hz : 0 ≤ z ∧ z + 6 ≤ N) (hL : lHp Yc Ym o1 o2 (V, C, J) (Vm, Cm, Jm) h) (hS : lSm V C J Vm Cm) (hEnd : ∀ X' Xm' h', lHp Yc Ym o1 o2 X' Xm' h' → lS X' Xm' → SL G mL_law P 100 k n h' 3438 (lL b (Yc 0) (Ym 38) o1 o2 z) []) : SL G mL_law P 100 (7 + k) (493 + n) h 45 (lL b (Yc 0) (Ym 38) o1 o2 z) [.int (nI v)] := by
  rcases (by omega : v = 0 ∨ v = 1 ∨ v = 2 ∨ v = 3 ∨ v = 4 ∨ v = 5 ∨ v = 6 ∨ v = 7 ∨ v = 8 ∨ v = 9 ∨ v = 10 ∨ v = 11 ∨ v = 12 ∨ v = 13 ∨ v = 14 ∨ v = 15 ∨ v = 16 ∨ v = 17 ∨ v = 18 ∨ v = 19 ∨ v = 20 ∨ v = 21 ∨ v = 22 ∨ v = 23 ∨ v = 24 ∨ v = 25 ∨ v = 26 ∨ v = 27 ∨ v = 28 ∨ v = 29 ∨ v = 30 ∨ v = 31 ∨ v = 32 ∨ v = 33 ∨ v = 34 ∨ v = 35 ∨ v = 36 ∨ v = 37 ∨ v = 38 ∨ v = 39 ∨ v = 40 ∨ v = 41 ∨ v = 42 ∨ v = 43 ∨ v = 44 ∨ v = 45 ∨ v = 46 ∨ v = 47 ∨ v = 48 ∨ v = 49 ∨ v = 50 ∨ v = 51 ∨ v = 52 ∨ v = 53 ∨ v = 54 ∨ v = 55 ∨ v = 56 ∨ v = 57 ∨ v = 58 ∨ v = 59 ∨ v = 60 ∨ 61 ≤ v) with rfl | rfl | rfl | rfl | rfl | rfl | rfl | rfl | rfl | rfl | rfl | rfl | rfl | rfl | rfl | rfl | rfl | rfl | rfl | rfl | rfl | rfl | rfl | rfl | rfl | rfl | rfl | rfl | rfl | rfl | rfl | rfl | rfl | rfl | rfl | rfl | rfl | rfl | rfl | rfl | rfl | rfl | rfl | rfl | rfl | rfl | rfl | rfl | rfl | rfl | rfl | rfl | rfl | rfl | rfl | rfl | rfl | rfl | rfl | rfl | rfl | hv2
  · exact y_tableIn (off := 259) (tgt := 304) dL_law_45 (by decide) (by decide) (by decide) (by decide) (g_append hZ hZn hX hN hz hL hS hEnd)
  · exact y_tableIn (off := 332) (tgt := 377) dL_law_45 (by decide) (by decide) (by decide) (by decide) (g_truncateInput hZ hZn hX hN hz hL hS hEnd)
  · exact y_tableIn (off := 388) (tgt := 433) dL_law_45 (by decide) (by decide) (by decide) (by decide) (g_inputLength hZ hZn hX hN hz hL hS hEnd)
  · exact y_tableIn (off := 401) (tgt := 446) dL_law_45 (by decide) (by decide) (by decide) (by decide) (g_compile hZ hZn hX hN hz hL hS hEnd)
  · exact y_tableIn (off := 457) (tgt := 502) dL_law_45 (by decide) (by decide) (by decide) (by decide) (g_copyPattern hZ hZn hX hN hz hL hS hEnd)
  · exact y_tableIn (off := 513) (tgt := 558) dL_law_45 (by decide) (by decide) (by decide) (by decide) (g_addWalker hZ hZn hX hN hz hL hS hEnd)
  · exact y_tableIn (off := 569) (tgt := 614) dL_law_45 (by decide) (by decide) (by decide) (by decide) (g_removeWalker hZ hZn hX hN hz hL hS hEnd)
  · exact y_tableIn (off := 625) (tgt := 670) dL_law_45 (by decide) (by decide) (by decide) (by decide) (g_step hZ hZn hX hN hz hL hS hEnd)
  · exact y_tableIn (off := 693) (tgt := 738) dL_law_45 (by decide) (by decide) (by decide) (by decide) (g_walkWord hZ hZn hX hN hz hL hS hEnd)
  · exact y_tableIn (off := 749) (tgt := 794) dL_law_45 (by decide) (by decide) (by decide) (by decide) (g_restartWalker hZ hZn hX hN hz hL hS hEnd)
  · exact y_tableIn (off := 805) (tgt := 850) dL_law_45 (by decide) (by decide) (by decide) (by decide) (g_setGate hZ hZn hX hN hz hL hS hEnd)
  · exact y_tableIn (off := 924) (tgt := 969) dL_law_45 (by decide) (by decide) (by decide) (by decide) (g_setNight hZ hZn hX hN hz hL hS hEnd)
  · exact y_tableIn (off := 965) (tgt := 1010) dL_law_45 (by decide) (by decide) (by decide) (by decide) (g_undo hZ hZn hX hN hz hL hS hEnd)
  · exact y_tableIn (off := 978) (tgt := 1023) dL_law_45 (by decide) (by decide) (by decide) (by decide) (g_undoCount hZ hZn hX hN hz hL hS hEnd)
  · exact y_tableIn (off := 991) (tgt := 1036) dL_law_45 (by decide) (by decide) (by decide) (by decide) (g_saveSnapshot hZ hZn hX hN hz hL hS hEnd)
  · exact y_tableIn (off := 1004) (tgt := 1049) dL_law_45 (by decide) (by decide) (by decide) (by decide) (g_restoreSnapshot hZ hZn hX hN hz hL hS hEnd)
  · exact y_tableIn (off := 1048) (tgt := 1093) dL_law_45 (by decide) (by decide) (by decide) (by decide) (g_patternErrorKind hZ hZn hX hN hz hL hS hEnd)
  · exact y_tableIn (off := 1061) (tgt := 1106) dL_law_45 (by decide) (by decide) (by decide) (by decide) (g_patternErrorOffset hZ hZn hX hN hz hL hS hEnd)
  · exact y_tableIn (off := 1074) (tgt := 1119) dL_law_45 (by decide) (by decide) (by decide) (by decide) (g_positionCount hZ hZn hX hN hz hL hS hEnd)
  · exact y_tableIn (off := 1130) (tgt := 1175) dL_law_45 (by decide) (by decide) (by decide) (by decide) (g_streetAt hZ hZn hX hN hz hL hS hEnd)
  · exact y_tableIn (off := 1198) (tgt := 1243) dL_law_45 (by decide) (by decide) (by decide) (by decide) (g_acceptsEmptyWord hZ hZn hX hN hz hL hS hEnd)
  · exact y_tableIn (off := 1261) (tgt := 1306) dL_law_45 (by decide) (by decide) (by decide) (by decide) (g_firstPositions hZ hZn hX hN hz hL hS hEnd)
  · exact y_tableIn (off := 1317) (tgt := 1362) dL_law_45 (by decide) (by decide) (by decide) (by decide) (g_lastPositions hZ hZn hX hN hz hL hS hEnd)
  · exact y_tableIn (off := 1373) (tgt := 1418) dL_law_45 (by decide) (by decide) (by decide) (by decide) (g_followPositions hZ hZn hX hN hz hL hS hEnd)
  · exact y_tableIn (off := 1441) (tgt := 1486) dL_law_45 (by decide) (by decide) (by decide) (by decide) (g_loopCount hZ hZn hX hN hz hL hS hEnd)
  · exact y_tableIn (off := 1497) (tgt := 1542) dL_law_45 (by decide) (by decide) (by decide) (by decide) (g_isDeterministicAt hZ hZn hX hN hz hL hS hEnd)
  · exact y_tableIn (off := 1572) (tgt := 1617) dL_law_45 (by decide) (by decide) (by decide) (by decide) (g_stateCount hZ hZn hX hN hz hL hS hEnd)
  · exact y_tableIn (off := 1628) (tgt := 1673) dL_law_45 (by decide) (by decide) (by decide) (by decide) (g_transition hZ hZn hX hN hz hL hS hEnd)
  · exact y_tableIn (off := 1708) (tgt := 1753) dL_law_45 (by decide) (by decide) (by decide) (by decide) (g_isAccepting hZ hZn hX hN hz hL hS hEnd)
  · exact y_tableIn (off := 1783) (tgt := 1828) dL_law_45 (by decide) (by decide) (by decide) (by decide) (g_statePositions hZ hZn hX hN hz hL hS hEnd)
  · exact y_tableIn (off := 1851) (tgt := 1896) dL_law_45 (by decide) (by decide) (by decide) (by decide) (g_deadState hZ hZn hX hN hz hL hS hEnd)
  · exact y_tableIn (off := 1907) (tgt := 1952) dL_law_45 (by decide) (by decide) (by decide) (by decide) (g_distanceToAccepting hZ hZn hX hN hz hL hS hEnd)
  · exact y_tableIn (off := 1975) (tgt := 2020) dL_law_45 (by decide) (by decide) (by decide) (by decide) (g_areEquivalentStates hZ hZn hX hN hz hL hS hEnd)
  · exact y_tableIn (off := 2062) (tgt := 2107) dL_law_45 (by decide) (by decide) (by decide) (by decide) (g_minimalStateCount hZ hZn hX hN hz hL hS hEnd)
  · exact y_tableIn (off := 2118) (tgt := 2163) dL_law_45 (by decide) (by decide) (by decide) (by decide) (g_acceptsInput hZ hZn hX hN hz hL hS hEnd)
  · exact y_tableIn (off := 2181) (tgt := 2226) dL_law_45 (by decide) (by decide) (by decide) (by decide) (g_wordCount hZ hZn hX hN hz hL hS hEnd)
  · exact y_tableIn (off := 2248) (tgt := 2293) dL_law_45 (by decide) (by decide) (by decide) (by decide) (g_wordCountWithPrefix hZ hZn hX hN hz hL hS hEnd)
  · exact y_tableIn (off := 2315) (tgt := 2360) dL_law_45 (by decide) (by decide) (by decide) (by decide) (g_shortestLength hZ hZn hX hN hz hL hS hEnd)
  · exact y_tableIn (off := 2371) (tgt := 2416) dL_law_45 (by decide) (by decide) (by decide) (by decide) (g_isFinite hZ hZn hX hN hz hL hS hEnd)
  · exact y_tableIn (off := 2434) (tgt := 2479) dL_law_45 (by decide) (by decide) (by decide) (by decide) (g_longestLength hZ hZn hX hN hz hL hS hEnd)
  · exact y_tableIn (off := 2490) (tgt := 2535) dL_law_45 (by decide) (by decide) (by decide) (by decide) (g_isSubset hZ hZn hX hN hz hL hS hEnd)
  · exact y_tableIn (off := 2553) (tgt := 2598) dL_law_45 (by decide) (by decide) (by decide) (by decide) (g_differenceLength hZ hZn hX hN hz hL hS hEnd)
  · exact y_tableIn (off := 2566) (tgt := 2611) dL_law_45 (by decide) (by decide) (by decide) (by decide) (g_sharedLength hZ hZn hX hN hz hL hS hEnd)
  · exact y_tableIn (off := 2579) (tgt := 2624) dL_law_45 (by decide) (by decide) (by decide) (by decide) (g_reachablePairs hZ hZn hX hN hz hL hS hEnd)
  · exact y_tableIn (off := 2592) (tgt := 2637) dL_law_45 (by decide) (by decide) (by decide) (by decide) (g_isPassable hZ hZn hX hN hz hL hS hEnd)
  · exact y_tableIn (off := 2655) (tgt := 2700) dL_law_45 (by decide) (by decide) (by decide) (by decide) (g_isNight hZ hZn hX hN hz hL hS hEnd)
  · exact y_tableIn (off := 2668) (tgt := 2713) dL_law_45 (by decide) (by decide) (by decide) (by decide) (g_walkerCount hZ hZn hX hN hz hL hS hEnd)
  · exact y_tableIn (off := 2681) (tgt := 2726) dL_law_45 (by decide) (by decide) (by decide) (by decide) (g_walkerSlot hZ hZn hX hN hz hL hS hEnd)
  · exact y_tableIn (off := 2737) (tgt := 2782) dL_law_45 (by decide) (by decide) (by decide) (by decide) (g_walkerState hZ hZn hX hN hz hL hS hEnd)
  · exact y_tableIn (off := 2793) (tgt := 2838) dL_law_45 (by decide) (by decide) (by decide) (by decide) (g_walkerSteps hZ hZn hX hN hz hL hS hEnd)
  · exact y_tableIn (off := 2849) (tgt := 2894) dL_law_45 (by decide) (by decide) (by decide) (by decide) (g_stepsHome hZ hZn hX hN hz hL hS hEnd)
  · exact y_tableIn (off := 2905) (tgt := 2950) dL_law_45 (by decide) (by decide) (by decide) (by decide) (g_streetHome hZ hZn hX hN hz hL hS hEnd)
  · exact y_tableIn (off := 2961) (tgt := 3006) dL_law_45 (by decide) (by decide) (by decide) (by decide) (g_walkersInState hZ hZn hX hN hz hL hS hEnd)
  · exact y_tableIn (off := 3029) (tgt := 3074) dL_law_45 (by decide) (by decide) (by decide) (by decide) (g_meetingSteps hZ hZn hX hN hz hL hS hEnd)
  · exact y_tableIn (off := 3097) (tgt := 3142) dL_law_45 (by decide) (by decide) (by decide) (by decide) (g_totalSteps hZ hZn hX hN hz hL hS hEnd)
  · exact y_tableIn (off := 3110) (tgt := 3155) dL_law_45 (by decide) (by decide) (by decide) (by decide) (g_homeShare hZ hZn hX hN hz hL hS hEnd)
  · exact y_tableIn (off := 3153) (tgt := 3198) dL_law_45 (by decide) (by decide) (by decide) (by decide) (g_meanSetSize hZ hZn hX hN hz hL hS hEnd)
  · exact y_tableIn (off := 3230) (tgt := 3275) dL_law_45 (by decide) (by decide) (by decide) (by decide) (g_writeWord hZ hZn hX hN hz hL hS hEnd)
  · exact y_tableIn (off := 3342) (tgt := 3387) dL_law_45 (by decide) (by decide) (by decide) (by decide) (g_writeDifference hZ hZn hX hN hz hL hS hEnd)
  · exact y_tableIn (off := 3355) (tgt := 3400) dL_law_45 (by decide) (by decide) (by decide) (by decide) (g_writeSharedWord hZ hZn hX hN hz hL hS hEnd)
  · exact y_tableIn (off := 3368) (tgt := 3413) dL_law_45 (by decide) (by decide) (by decide) (by decide) (g_reportByte hZ hZn hX hN hz hL hS hEnd)
  · refine y_tableOut (tgt := 3438) dL_law_45 (Or.inr ?_) (by decide) (SL.room (d' := 100) (k' := k) (n' := n) (Nat.le_refl _) (by omega) (by omega) (hEnd _ _ _ hL hS))
    rw [← iI_nat, iI_toInt (by omega)]
    omega
variable {X : c_X} {Xm : m_X}
theorem l_head (hX : p_Scr G b N xs) (hN : N ≤ 3072) (hz : 0 ≤ z ∧ z ≤ 6000) (kx : SL G mL_law P 100 k n h 3444 (lL b (Yc 0) (Ym 38) o1 o2 z) []) (kn : z + 6 ≤ N → SL G mL_law P 100 k n h 38 (lL b (Yc 0) (Ym 38) o1 o2 z) []) : SL G mL_law P 100 k n h 28 (lL b (Yc 0) (Ym 38) o1 o2 z) [] := by
  refine y_iload dL_law_28 rfl ?_
  refine y_aload_n dL_law_30 rfl ?_
  refine y_slen hX dL_law_31 ?_
  refine y_bipush (v := iI 6) dL_law_32 (by decide) ?_
  refine y_isub dL_law_34 ?_
  have e : Int32.ofNat N - iI 6 = iI ((N : Int) - 6) := by rw [show Int32.ofNat N = iI (N : Int) from (iI_nat N).symm]; exact (Int32.ofInt_sub ..).symm
  rw [e]
  refine y_icmp_gt (tgt := 3444) dL_law_35 (by decide) (fun _ => kx) (fun y => kn ?_)
  have y2 : ¬ (N : Int) - 6 < z := fun q => y ((iI_lt (by omega) (by omega)).mpr q)
  omega
theorem l_body (hZ : p_Zs G) (hZn : p_Zn G) (hX : p_Scr G b N xs) (hN : N ≤ 3072) (hz : 0 ≤ z ∧ z + 6 ≤ N) (hL : lHp Yc Ym o1 o2 X Xm h) (hS : lS X Xm) (kk : ∀ X' Xm' h', lHp Yc Ym o1 o2 X' Xm' h' → lS X' Xm' → SL G mL_law P 100 k n h' 28 (lL b (Yc 0) (Ym 38) o1 o2 (z + 6)) []) : SL G mL_law P 100 (7 + k) (493 + n) h 38 (lL b (Yc 0) (Ym 38) o1 o2 z) [] := by
  refine y_aload_n dL_law_38 rfl ?_
  refine y_iload dL_law_39 rfl ?_
  refine y_sld hX dL_law_41 (iI_in (by omega) (by omega) (by omega)) ?_
  refine y_bipush (v := 63) dL_law_42 (by decide) ?_
  refine y_iand dL_law_44 ?_
  obtain ⟨v, hv, e⟩ := l_and63 (xs (iI z).toNatClampNeg)
  rw [e]
  obtain ⟨V, C, J⟩ := X
  obtain ⟨Vm, Cm, Jm⟩ := Xm
  refine l_case hv hZ hZn hX hN hz hL hS (fun X' Xm' h' hL' hS' => ?_)
  refine y_iinc (v := iI (z + 6)) (L' := lL b (Yc 0) (Ym 38) o1 o2 (z + 6)) dL_law_3438 rfl (Int32.ofInt_add ..).symm (by decide) rfl ?_
  exact y_goto (tgt := 28) dL_law_3441 (by decide) (kk X' Xm' h' hL' hS')
theorem l_loop (hZ : p_Zs G) (hZn : p_Zn G) (hX : p_Scr G b N xs) (hN : N ≤ 3072) (hF : ∀ k n h L, SL G mL_law P 100 k n h 3444 L []) : ∀ (t : Nat) (z : Int) (X : c_X) (Xm : m_X) (h : p_H), 0 ≤ z → z ≤ 3078 → (N : Int) - z ≤ 6 * t + 5 → lHp Yc Ym o1 o2 X Xm h → lS X Xm → SL G mL_law P 100 (7 * t) (493 * t) h 28 (lL b (Yc 0) (Ym 38) o1 o2 z) [] := by
  intro t
  induction t with
  | zero =>
    intro z X Xm h z0 z1 hm hL hS
    exact l_head hX hN ⟨z0, by omega⟩ (hF _ _ _ _) (fun y => absurd y (by omega))
  | succ t ih =>
    intro z X Xm h z0 z1 hm hL hS
    refine l_head hX hN ⟨z0, by omega⟩ (hF _ _ _ _) (fun y => ?_)
    refine SL.room (d' := 100) (k' := 7 + 7 * t) (n' := 493 + 493 * t) (Nat.le_refl _) (by omega) (by omega) ?_
    exact l_body hZ hZn hX hN ⟨z0, y⟩ hL hS (fun X' Xm' h' hL' hS' => ih (z + 6) X' Xm' h' (by omega) (by omega) (by omega) hL' hS')
end C6
