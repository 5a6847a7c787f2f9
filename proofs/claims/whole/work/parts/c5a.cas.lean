/-! ===== the law, case by case: 0 to 15 ===== -/
theorem y_tj {G : p_G} {P : p_Zt} {k n : Nat} {h : p_H} {pc : Nat} {L : p_LL} {st : List Value} {x y : Int64} (e : x = y) (kk : SL G mL_law P 100 k n h pc L (.long y :: st)) : SL G mL_law P 100 k n h pc L (.long x :: st) := e ▸ kk
theorem lI_rg (x : Int64) : -9223372036854775808 ≤ x.toInt ∧ x.toInt < 9223372036854775808 := ⟨Int64.le_toInt x, Int64.toInt_lt x⟩
theorem kL_362 : Cond.constantLong RL 362 (4294967295 : Int64) ∈ p_ws := p_in (p_t8 (List.mem_of_getElem? (i := 206) (by decide +kernel))) rfl
section C5a
variable {G : p_G} {P : p_Zt} {k n : Nat} {h : p_H} {Yc Ym : Nat → Nat} {o1 o2 b N : Nat} {z : Int} {xs : Nat → Int32} {V Vm : Nat → Int} {C Cm : Nat → Int → Int} {J : c_J} {Jm : Int → Int}
theorem g_append (hZ : p_Zs G) (hZn : p_Zn G) (hX : p_Scr G b N xs) (hN : N ≤ 3072) (hz : 0 ≤ z ∧ z + 6 ≤ N) (hL : lHp Yc Ym o1 o2 (V, C, J) (Vm, Cm, Jm) h) (hS : lSm V C J Vm Cm) (hEnd : ∀ X' Xm' h', lHp Yc Ym o1 o2 X' Xm' h' → lS X' Xm' → SL G mL_law P 100 k n h' 3438 (lL b (Yc 0) (Ym 38) o1 o2 z) []) : SL G mL_law P 100 (7 + k) (493 + n) h 304 (lL b (Yc 0) (Ym 38) o1 o2 z) [] := by
  refine SL.room (d' := 100) (k' := k) (n' := n) (Nat.le_refl _) (by omega) (by omega) ?_
  refine y_aload_n dL_law_304 rfl ?_
  refine y_arg (q := 1) hX hN hz (by decide) rfl rfl dL_law_305 dL_law_306 dL_law_308 dL_law_309 dL_law_310 ?_
  refine y_arg (q := 2) hX hN hz (by decide) rfl rfl dL_law_311 dL_law_312 dL_law_314 dL_law_315 dL_law_316 ?_
  refine y_arg (q := 3) hX hN hz (by decide) rfl rfl dL_law_317 dL_law_318 dL_law_320 dL_law_321 dL_law_322 ?_
  refine y_arg (q := 4) hX hN hz (by decide) rfl rfl dL_law_323 dL_law_324 dL_law_326 dL_law_327 dL_law_328 ?_
  refine y_arg (q := 5) hX hN hz (by decide) rfl rfl dL_law_329 dL_law_330 dL_law_332 dL_law_333 dL_law_334 ?_
  refine y_clv (As := [_, _, _, _, _]) hL dL_law_335 cfX10_append imX10_append seX10_append lL_161 rfl rfl rfl (e_append hZ hS (iI_rg _) (iI_rg _) (iI_rg _) (iI_rg _) (iI_rg _)) (fun X1 h1 v hL1 hv hR => ?_)
  obtain ⟨x, rfl⟩ := hv
  refine y_aload_n dL_law_338 rfl ?_
  refine y_arg (q := 1) hX hN hz (by decide) rfl rfl dL_law_339 dL_law_340 dL_law_342 dL_law_343 dL_law_344 ?_
  refine y_arg (q := 2) hX hN hz (by decide) rfl rfl dL_law_345 dL_law_346 dL_law_348 dL_law_349 dL_law_350 ?_
  refine y_arg (q := 3) hX hN hz (by decide) rfl rfl dL_law_351 dL_law_352 dL_law_354 dL_law_355 dL_law_356 ?_
  refine y_arg (q := 4) hX hN hz (by decide) rfl rfl dL_law_357 dL_law_358 dL_law_360 dL_law_361 dL_law_362 ?_
  refine y_arg (q := 5) hX hN hz (by decide) rfl rfl dL_law_363 dL_law_364 dL_law_366 dL_law_367 dL_law_368 ?_
  refine y_mcl (As := [_, _, _, _, _]) (rest := [.int x]) hL1 hR dL_law_369 cfX11_append imX11_append seX11_append lL_165 rfl rfl rfl (Nat.le_of_ble_eq_true rfl) (fun o Xm2 h2 hQ hL2 e1 e2 => ?_)
  obtain ⟨rfl, -, hS2⟩ := hQ
  exact y_same (pc := 372) dL_law_372 (by decide) (hEnd _ _ _ hL2 hS2)
theorem g_truncateInput (hZ : p_Zs G) (hZn : p_Zn G) (hX : p_Scr G b N xs) (hN : N ≤ 3072) (hz : 0 ≤ z ∧ z + 6 ≤ N) (hL : lHp Yc Ym o1 o2 (V, C, J) (Vm, Cm, Jm) h) (hS : lSm V C J Vm Cm) (hEnd : ∀ X' Xm' h', lHp Yc Ym o1 o2 X' Xm' h' → lS X' Xm' → SL G mL_law P 100 k n h' 3438 (lL b (Yc 0) (Ym 38) o1 o2 z) []) : SL G mL_law P 100 (7 + k) (493 + n) h 377 (lL b (Yc 0) (Ym 38) o1 o2 z) [] := by
  refine SL.room (d' := 100) (k' := 1 + k) (n' := 6 + n) (Nat.le_refl _) (by omega) (by omega) ?_
  refine y_aload_n dL_law_377 rfl ?_
  refine y_arg (q := 1) hX hN hz (by decide) rfl rfl dL_law_378 dL_law_379 dL_law_381 dL_law_382 dL_law_383 ?_
  refine y_aload_n dL_law_384 rfl ?_
  refine y_cls (As := [_]) (cv := cvI) (kd := kI) (Es := ["java/lang/IllegalArgumentException"]) (mc := 1) (ms := 6) hL (fun v q => by obtain ⟨x, rfl⟩ := q; exact ⟨_, rfl⟩) (by decide) dL_law_385 cfL_truncateInput stL_truncateInput lL_166 rfl rfl rfl rfl (fun hx kk => h_truncateInput hx kk) (e_truncateInput hZ hS (iI_rg _)) (fun X1 h1 k0 hL1 hR => ?_)
  refine y_istore (L' := lL6 b (Yc 0) (Ym 38) o1 o2 z k0) dL_law_388 (by decide) rfl ?_
  refine y_aload_n dL_law_390 rfl ?_
  refine y_arg (q := 1) hX hN hz (by decide) rfl rfl dL_law_391 dL_law_392 dL_law_394 dL_law_395 dL_law_396 ?_
  refine y_mcl (As := [_]) (rest := []) hL1 hR dL_law_397 cfX11_truncateInput imX11_truncateInput seX11_truncateInput lL_171 rfl rfl rfl (Nat.zero_le _) (fun o Xm2 h2 hQ hL2 e1 e2 => ?_)
  obtain ⟨v, rfl, hv, ht, hS2, hg⟩ := hQ
  exact y_tlI (pc := 400) ⟨dL_law_400, ⟨dL_law_402, dL_law_403, dL_law_406, dL_law_408, dL_law_413⟩, dL_law_415, dL_law_418, dL_law_419, dL_law_420, dL_law_421, dL_law_423, dL_law_424, dL_law_425, _, dL_law_430, by decide⟩ hL2 hS2 hv ht (fun y => by rw [e1]; exact hg y) (fun h3 hL3 => hEnd _ _ _ hL3 hS2)
theorem g_inputLength (hZ : p_Zs G) (hZn : p_Zn G) (hX : p_Scr G b N xs) (hN : N ≤ 3072) (hz : 0 ≤ z ∧ z + 6 ≤ N) (hL : lHp Yc Ym o1 o2 (V, C, J) (Vm, Cm, Jm) h) (hS : lSm V C J Vm Cm) (hEnd : ∀ X' Xm' h', lHp Yc Ym o1 o2 X' Xm' h' → lS X' Xm' → SL G mL_law P 100 k n h' 3438 (lL b (Yc 0) (Ym 38) o1 o2 z) []) : SL G mL_law P 100 (7 + k) (493 + n) h 433 (lL b (Yc 0) (Ym 38) o1 o2 z) [] := by
  refine SL.room (d' := 100) (k' := k) (n' := n) (Nat.le_refl _) (by omega) (by omega) ?_
  refine y_aload_n dL_law_433 rfl ?_
  refine y_clv (As := []) hL dL_law_434 cfX10_inputLength imX10_inputLength seX10_inputLength lL_175 rfl rfl rfl (e_inputLength hZ hS ) (fun X1 h1 v hL1 hv hR => ?_)
  obtain ⟨x, rfl⟩ := hv
  refine y_aload_n dL_law_437 rfl ?_
  refine y_mcl (As := []) (rest := [.int x]) hL1 hR dL_law_438 cfX11_inputLength imX11_inputLength seX11_inputLength lL_178 rfl rfl rfl (Nat.le_of_ble_eq_true rfl) (fun o Xm2 h2 hQ hL2 e1 e2 => ?_)
  obtain ⟨rfl, -, hS2⟩ := hQ
  exact y_same (pc := 441) dL_law_441 (by decide) (hEnd _ _ _ hL2 hS2)
theorem g_compile (hZ : p_Zs G) (hZn : p_Zn G) (hX : p_Scr G b N xs) (hN : N ≤ 3072) (hz : 0 ≤ z ∧ z + 6 ≤ N) (hL : lHp Yc Ym o1 o2 (V, C, J) (Vm, Cm, Jm) h) (hS : lSm V C J Vm Cm) (hEnd : ∀ X' Xm' h', lHp Yc Ym o1 o2 X' Xm' h' → lS X' Xm' → SL G mL_law P 100 k n h' 3438 (lL b (Yc 0) (Ym 38) o1 o2 z) []) : SL G mL_law P 100 (7 + k) (493 + n) h 446 (lL b (Yc 0) (Ym 38) o1 o2 z) [] := by
  refine SL.room (d' := 100) (k' := 7 + k) (n' := 493 + n) (Nat.le_refl _) (by omega) (by omega) ?_
  refine y_aload_n dL_law_446 rfl ?_
  refine y_arg (q := 1) hX hN hz (by decide) rfl rfl dL_law_447 dL_law_448 dL_law_450 dL_law_451 dL_law_452 ?_
  refine y_aload_n dL_law_453 rfl ?_
  refine y_cls (As := [_]) (cv := cvI) (kd := kI) (Es := ["java/lang/IndexOutOfBoundsException"]) (mc := 7) (ms := 493) hL (fun v q => by obtain ⟨x, rfl⟩ := q; exact ⟨_, rfl⟩) (by decide) dL_law_454 cfL_compile stL_compile lL_179 rfl rfl rfl rfl (fun hx kk => h_compile hx kk) (e_compile hZ hS (iI_rg _)) (fun X1 h1 k0 hL1 hR => ?_)
  refine y_istore (L' := lL6 b (Yc 0) (Ym 38) o1 o2 z k0) dL_law_457 (by decide) rfl ?_
  refine y_aload_n dL_law_459 rfl ?_
  refine y_arg (q := 1) hX hN hz (by decide) rfl rfl dL_law_460 dL_law_461 dL_law_463 dL_law_464 dL_law_465 ?_
  refine y_mcl (As := [_]) (rest := []) hL1 hR dL_law_466 cfX11_compile imX11_compile seX11_compile lL_181 rfl rfl rfl (Nat.zero_le _) (fun o Xm2 h2 hQ hL2 e1 e2 => ?_)
  obtain ⟨v, rfl, hv, ht, hS2, hg⟩ := hQ
  exact y_tlI (pc := 469) ⟨dL_law_469, ⟨dL_law_471, dL_law_472, dL_law_475, dL_law_477, dL_law_482⟩, dL_law_484, dL_law_487, dL_law_488, dL_law_489, dL_law_490, dL_law_492, dL_law_493, dL_law_494, _, dL_law_499, by decide⟩ hL2 hS2 hv ht (fun y => by rw [e1]; exact hg y) (fun h3 hL3 => hEnd _ _ _ hL3 hS2)
theorem g_copyPattern (hZ : p_Zs G) (hZn : p_Zn G) (hX : p_Scr G b N xs) (hN : N ≤ 3072) (hz : 0 ≤ z ∧ z + 6 ≤ N) (hL : lHp Yc Ym o1 o2 (V, C, J) (Vm, Cm, Jm) h) (hS : lSm V C J Vm Cm) (hEnd : ∀ X' Xm' h', lHp Yc Ym o1 o2 X' Xm' h' → lS X' Xm' → SL G mL_law P 100 k n h' 3438 (lL b (Yc 0) (Ym 38) o1 o2 z) []) : SL G mL_law P 100 (7 + k) (493 + n) h 502 (lL b (Yc 0) (Ym 38) o1 o2 z) [] := by
  refine SL.room (d' := 100) (k' := 1 + k) (n' := 6 + n) (Nat.le_refl _) (by omega) (by omega) ?_
  refine y_aload_n dL_law_502 rfl ?_
  refine y_arg (q := 1) hX hN hz (by decide) rfl rfl dL_law_503 dL_law_504 dL_law_506 dL_law_507 dL_law_508 ?_
  refine y_aload_n dL_law_509 rfl ?_
  refine y_cls (As := [_]) (cv := cvI) (kd := kI) (Es := ["java/lang/IndexOutOfBoundsException"]) (mc := 1) (ms := 6) hL (fun v q => by obtain ⟨x, rfl⟩ := q; exact ⟨_, rfl⟩) (by decide) dL_law_510 cfL_copyPattern stL_copyPattern lL_182 rfl rfl rfl rfl (fun hx kk => h_copyPattern hx kk) (e_copyPattern hZ hS (iI_rg _)) (fun X1 h1 k0 hL1 hR => ?_)
  refine y_istore (L' := lL6 b (Yc 0) (Ym 38) o1 o2 z k0) dL_law_513 (by decide) rfl ?_
  refine y_aload_n dL_law_515 rfl ?_
  refine y_arg (q := 1) hX hN hz (by decide) rfl rfl dL_law_516 dL_law_517 dL_law_519 dL_law_520 dL_law_521 ?_
  refine y_mcl (As := [_]) (rest := []) hL1 hR dL_law_522 cfX11_copyPattern imX11_copyPattern seX11_copyPattern lL_184 rfl rfl rfl (Nat.zero_le _) (fun o Xm2 h2 hQ hL2 e1 e2 => ?_)
  obtain ⟨v, rfl, hv, ht, hS2, hg⟩ := hQ
  exact y_tlI (pc := 525) ⟨dL_law_525, ⟨dL_law_527, dL_law_528, dL_law_531, dL_law_533, dL_law_538⟩, dL_law_540, dL_law_543, dL_law_544, dL_law_545, dL_law_546, dL_law_548, dL_law_549, dL_law_550, _, dL_law_555, by decide⟩ hL2 hS2 hv ht (fun y => by rw [e1]; exact hg y) (fun h3 hL3 => hEnd _ _ _ hL3 hS2)
theorem g_addWalker (hZ : p_Zs G) (hZn : p_Zn G) (hX : p_Scr G b N xs) (hN : N ≤ 3072) (hz : 0 ≤ z ∧ z + 6 ≤ N) (hL : lHp Yc Ym o1 o2 (V, C, J) (Vm, Cm, Jm) h) (hS : lSm V C J Vm Cm) (hEnd : ∀ X' Xm' h', lHp Yc Ym o1 o2 X' Xm' h' → lS X' Xm' → SL G mL_law P 100 k n h' 3438 (lL b (Yc 0) (Ym 38) o1 o2 z) []) : SL G mL_law P 100 (7 + k) (493 + n) h 558 (lL b (Yc 0) (Ym 38) o1 o2 z) [] := by
  refine SL.room (d' := 100) (k' := 2 + k) (n' := 12 + n) (Nat.le_refl _) (by omega) (by omega) ?_
  refine y_aload_n dL_law_558 rfl ?_
  refine y_arg (q := 1) hX hN hz (by decide) rfl rfl dL_law_559 dL_law_560 dL_law_562 dL_law_563 dL_law_564 ?_
  refine y_aload_n dL_law_565 rfl ?_
  refine y_cls (As := [_]) (cv := cvI) (kd := kI) (Es := ["java/lang/IndexOutOfBoundsException", "java/lang/IllegalStateException"]) (mc := 2) (ms := 12) hL (fun v q => by obtain ⟨x, rfl⟩ := q; exact ⟨_, rfl⟩) (by decide) dL_law_566 cfL_addWalker stL_addWalker lL_185 rfl rfl rfl rfl (fun hx kk => h_addWalker hZn hx kk) (e_addWalker hZ hS (iI_rg _)) (fun X1 h1 k0 hL1 hR => ?_)
  refine y_istore (L' := lL6 b (Yc 0) (Ym 38) o1 o2 z k0) dL_law_569 (by decide) rfl ?_
  refine y_aload_n dL_law_571 rfl ?_
  refine y_arg (q := 1) hX hN hz (by decide) rfl rfl dL_law_572 dL_law_573 dL_law_575 dL_law_576 dL_law_577 ?_
  refine y_mcl (As := [_]) (rest := []) hL1 hR dL_law_578 cfX11_addWalker imX11_addWalker seX11_addWalker lL_187 rfl rfl rfl (Nat.zero_le _) (fun o Xm2 h2 hQ hL2 e1 e2 => ?_)
  obtain ⟨v, rfl, hv, ht, hS2, hg⟩ := hQ
  exact y_tlI (pc := 581) ⟨dL_law_581, ⟨dL_law_583, dL_law_584, dL_law_587, dL_law_589, dL_law_594⟩, dL_law_596, dL_law_599, dL_law_600, dL_law_601, dL_law_602, dL_law_604, dL_law_605, dL_law_606, _, dL_law_611, by decide⟩ hL2 hS2 hv ht (fun y => by rw [e1]; exact hg y) (fun h3 hL3 => hEnd _ _ _ hL3 hS2)
theorem g_removeWalker (hZ : p_Zs G) (hZn : p_Zn G) (hX : p_Scr G b N xs) (hN : N ≤ 3072) (hz : 0 ≤ z ∧ z + 6 ≤ N) (hL : lHp Yc Ym o1 o2 (V, C, J) (Vm, Cm, Jm) h) (hS : lSm V C J Vm Cm) (hEnd : ∀ X' Xm' h', lHp Yc Ym o1 o2 X' Xm' h' → lS X' Xm' → SL G mL_law P 100 k n h' 3438 (lL b (Yc 0) (Ym 38) o1 o2 z) []) : SL G mL_law P 100 (7 + k) (493 + n) h 614 (lL b (Yc 0) (Ym 38) o1 o2 z) [] := by
  refine SL.room (d' := 100) (k' := 1 + k) (n' := 6 + n) (Nat.le_refl _) (by omega) (by omega) ?_
  refine y_aload_n dL_law_614 rfl ?_
  refine y_arg (q := 1) hX hN hz (by decide) rfl rfl dL_law_615 dL_law_616 dL_law_618 dL_law_619 dL_law_620 ?_
  refine y_aload_n dL_law_621 rfl ?_
  refine y_cls (As := [_]) (cv := cvI) (kd := kI) (Es := ["java/lang/IndexOutOfBoundsException"]) (mc := 1) (ms := 6) hL (fun v q => by obtain ⟨x, rfl⟩ := q; exact ⟨_, rfl⟩) (by decide) dL_law_622 cfL_removeWalker stL_removeWalker lL_188 rfl rfl rfl rfl (fun hx kk => h_removeWalker hx kk) (e_removeWalker hZ hS (iI_rg _)) (fun X1 h1 k0 hL1 hR => ?_)
  refine y_istore (L' := lL6 b (Yc 0) (Ym 38) o1 o2 z k0) dL_law_625 (by decide) rfl ?_
  refine y_aload_n dL_law_627 rfl ?_
  refine y_arg (q := 1) hX hN hz (by decide) rfl rfl dL_law_628 dL_law_629 dL_law_631 dL_law_632 dL_law_633 ?_
  refine y_mcl (As := [_]) (rest := []) hL1 hR dL_law_634 cfX11_removeWalker imX11_removeWalker seX11_removeWalker lL_190 rfl rfl rfl (Nat.zero_le _) (fun o Xm2 h2 hQ hL2 e1 e2 => ?_)
  obtain ⟨v, rfl, hv, ht, hS2, hg⟩ := hQ
  exact y_tlI (pc := 637) ⟨dL_law_637, ⟨dL_law_639, dL_law_640, dL_law_643, dL_law_645, dL_law_650⟩, dL_law_652, dL_law_655, dL_law_656, dL_law_657, dL_law_658, dL_law_660, dL_law_661, dL_law_662, _, dL_law_667, by decide⟩ hL2 hS2 hv ht (fun y => by rw [e1]; exact hg y) (fun h3 hL3 => hEnd _ _ _ hL3 hS2)
theorem g_step (hZ : p_Zs G) (hZn : p_Zn G) (hX : p_Scr G b N xs) (hN : N ≤ 3072) (hz : 0 ≤ z ∧ z + 6 ≤ N) (hL : lHp Yc Ym o1 o2 (V, C, J) (Vm, Cm, Jm) h) (hS : lSm V C J Vm Cm) (hEnd : ∀ X' Xm' h', lHp Yc Ym o1 o2 X' Xm' h' → lS X' Xm' → SL G mL_law P 100 k n h' 3438 (lL b (Yc 0) (Ym 38) o1 o2 z) []) : SL G mL_law P 100 (7 + k) (493 + n) h 670 (lL b (Yc 0) (Ym 38) o1 o2 z) [] := by
  refine SL.room (d' := 100) (k' := 3 + k) (n' := 18 + n) (Nat.le_refl _) (by omega) (by omega) ?_
  refine y_aload_n dL_law_670 rfl ?_
  refine y_arg (q := 1) hX hN hz (by decide) rfl rfl dL_law_671 dL_law_672 dL_law_674 dL_law_675 dL_law_676 ?_
  refine y_arg (q := 2) hX hN hz (by decide) rfl rfl dL_law_677 dL_law_678 dL_law_680 dL_law_681 dL_law_682 ?_
  refine y_aload_n dL_law_683 rfl ?_
  refine y_cls (As := [_, _]) (cv := cvI) (kd := kI) (Es := ["java/lang/IndexOutOfBoundsException", "java/lang/IllegalStateException"]) (mc := 3) (ms := 18) hL (fun v q => by obtain ⟨x, rfl⟩ := q; exact ⟨_, rfl⟩) (by decide) dL_law_684 cfL_step stL_step lL_191 rfl rfl rfl rfl (fun hx kk => h_step hZn hx kk) (e_step hZ hS (iI_rg _) (iI_rg _)) (fun X1 h1 k0 hL1 hR => ?_)
  refine y_istore (L' := lL6 b (Yc 0) (Ym 38) o1 o2 z k0) dL_law_687 (by decide) rfl ?_
  refine y_aload_n dL_law_689 rfl ?_
  refine y_arg (q := 1) hX hN hz (by decide) rfl rfl dL_law_690 dL_law_691 dL_law_693 dL_law_694 dL_law_695 ?_
  refine y_arg (q := 2) hX hN hz (by decide) rfl rfl dL_law_696 dL_law_697 dL_law_699 dL_law_700 dL_law_701 ?_
  refine y_mcl (As := [_, _]) (rest := []) hL1 hR dL_law_702 cfX11_step imX11_step seX11_step lL_194 rfl rfl rfl (Nat.zero_le _) (fun o Xm2 h2 hQ hL2 e1 e2 => ?_)
  obtain ⟨v, rfl, hv, ht, hS2, hg⟩ := hQ
  exact y_tlI (pc := 705) ⟨dL_law_705, ⟨dL_law_707, dL_law_708, dL_law_711, dL_law_713, dL_law_718⟩, dL_law_720, dL_law_723, dL_law_724, dL_law_725, dL_law_726, dL_law_728, dL_law_729, dL_law_730, _, dL_law_735, by decide⟩ hL2 hS2 hv ht (fun y => by rw [e1]; exact hg y) (fun h3 hL3 => hEnd _ _ _ hL3 hS2)
theorem g_walkWord (hZ : p_Zs G) (hZn : p_Zn G) (hX : p_Scr G b N xs) (hN : N ≤ 3072) (hz : 0 ≤ z ∧ z + 6 ≤ N) (hL : lHp Yc Ym o1 o2 (V, C, J) (Vm, Cm, Jm) h) (hS : lSm V C J Vm Cm) (hEnd : ∀ X' Xm' h', lHp Yc Ym o1 o2 X' Xm' h' → lS X' Xm' → SL G mL_law P 100 k n h' 3438 (lL b (Yc 0) (Ym 38) o1 o2 z) []) : SL G mL_law P 100 (7 + k) (493 + n) h 738 (lL b (Yc 0) (Ym 38) o1 o2 z) [] := by
  refine SL.room (d' := 100) (k' := 1 + k) (n' := 6 + n) (Nat.le_refl _) (by omega) (by omega) ?_
  refine y_aload_n dL_law_738 rfl ?_
  refine y_arg (q := 1) hX hN hz (by decide) rfl rfl dL_law_739 dL_law_740 dL_law_742 dL_law_743 dL_law_744 ?_
  refine y_aload_n dL_law_745 rfl ?_
  refine y_cls (As := [_]) (cv := cvI) (kd := kI) (Es := ["java/lang/IndexOutOfBoundsException"]) (mc := 1) (ms := 6) hL (fun v q => by obtain ⟨x, rfl⟩ := q; exact ⟨_, rfl⟩) (by decide) dL_law_746 cfL_walkWord stL_walkWord lL_195 rfl rfl rfl rfl (fun hx kk => h_walkWord hx kk) (e_walkWord hZ hS (iI_rg _)) (fun X1 h1 k0 hL1 hR => ?_)
  refine y_istore (L' := lL6 b (Yc 0) (Ym 38) o1 o2 z k0) dL_law_749 (by decide) rfl ?_
  refine y_aload_n dL_law_751 rfl ?_
  refine y_arg (q := 1) hX hN hz (by decide) rfl rfl dL_law_752 dL_law_753 dL_law_755 dL_law_756 dL_law_757 ?_
  refine y_mcl (As := [_]) (rest := []) hL1 hR dL_law_758 cfX11_walkWord imX11_walkWord seX11_walkWord lL_197 rfl rfl rfl (Nat.zero_le _) (fun o Xm2 h2 hQ hL2 e1 e2 => ?_)
  obtain ⟨v, rfl, hv, ht, hS2, hg⟩ := hQ
  exact y_tlI (pc := 761) ⟨dL_law_761, ⟨dL_law_763, dL_law_764, dL_law_767, dL_law_769, dL_law_774⟩, dL_law_776, dL_law_779, dL_law_780, dL_law_781, dL_law_782, dL_law_784, dL_law_785, dL_law_786, _, dL_law_791, by decide⟩ hL2 hS2 hv ht (fun y => by rw [e1]; exact hg y) (fun h3 hL3 => hEnd _ _ _ hL3 hS2)
theorem g_restartWalker (hZ : p_Zs G) (hZn : p_Zn G) (hX : p_Scr G b N xs) (hN : N ≤ 3072) (hz : 0 ≤ z ∧ z + 6 ≤ N) (hL : lHp Yc Ym o1 o2 (V, C, J) (Vm, Cm, Jm) h) (hS : lSm V C J Vm Cm) (hEnd : ∀ X' Xm' h', lHp Yc Ym o1 o2 X' Xm' h' → lS X' Xm' → SL G mL_law P 100 k n h' 3438 (lL b (Yc 0) (Ym 38) o1 o2 z) []) : SL G mL_law P 100 (7 + k) (493 + n) h 794 (lL b (Yc 0) (Ym 38) o1 o2 z) [] := by
  refine SL.room (d' := 100) (k' := 1 + k) (n' := 6 + n) (Nat.le_refl _) (by omega) (by omega) ?_
  refine y_aload_n dL_law_794 rfl ?_
  refine y_arg (q := 1) hX hN hz (by decide) rfl rfl dL_law_795 dL_law_796 dL_law_798 dL_law_799 dL_law_800 ?_
  refine y_aload_n dL_law_801 rfl ?_
  refine y_cls (As := [_]) (cv := cvI) (kd := kI) (Es := ["java/lang/IndexOutOfBoundsException"]) (mc := 1) (ms := 6) hL (fun v q => by obtain ⟨x, rfl⟩ := q; exact ⟨_, rfl⟩) (by decide) dL_law_802 cfL_restartWalker stL_restartWalker lL_198 rfl rfl rfl rfl (fun hx kk => h_restartWalker hx kk) (e_restartWalker hZ hS (iI_rg _)) (fun X1 h1 k0 hL1 hR => ?_)
  refine y_istore (L' := lL6 b (Yc 0) (Ym 38) o1 o2 z k0) dL_law_805 (by decide) rfl ?_
  refine y_aload_n dL_law_807 rfl ?_
  refine y_arg (q := 1) hX hN hz (by decide) rfl rfl dL_law_808 dL_law_809 dL_law_811 dL_law_812 dL_law_813 ?_
  refine y_mcl (As := [_]) (rest := []) hL1 hR dL_law_814 cfX11_restartWalker imX11_restartWalker seX11_restartWalker lL_200 rfl rfl rfl (Nat.zero_le _) (fun o Xm2 h2 hQ hL2 e1 e2 => ?_)
  obtain ⟨v, rfl, hv, ht, hS2, hg⟩ := hQ
  exact y_tlI (pc := 817) ⟨dL_law_817, ⟨dL_law_819, dL_law_820, dL_law_823, dL_law_825, dL_law_830⟩, dL_law_832, dL_law_835, dL_law_836, dL_law_837, dL_law_838, dL_law_840, dL_law_841, dL_law_842, _, dL_law_847, by decide⟩ hL2 hS2 hv ht (fun y => by rw [e1]; exact hg y) (fun h3 hL3 => hEnd _ _ _ hL3 hS2)
theorem g_setGate (hZ : p_Zs G) (hZn : p_Zn G) (hX : p_Scr G b N xs) (hN : N ≤ 3072) (hz : 0 ≤ z ∧ z + 6 ≤ N) (hL : lHp Yc Ym o1 o2 (V, C, J) (Vm, Cm, Jm) h) (hS : lSm V C J Vm Cm) (hEnd : ∀ X' Xm' h', lHp Yc Ym o1 o2 X' Xm' h' → lS X' Xm' → SL G mL_law P 100 k n h' 3438 (lL b (Yc 0) (Ym 38) o1 o2 z) []) : SL G mL_law P 100 (7 + k) (493 + n) h 850 (lL b (Yc 0) (Ym 38) o1 o2 z) [] := by
  refine SL.room (d' := 100) (k' := 1 + k) (n' := 6 + n) (Nat.le_refl _) (by omega) (by omega) ?_
  refine y_aload_n dL_law_850 rfl ?_
  refine y_arg (q := 1) hX hN hz (by decide) rfl rfl dL_law_851 dL_law_852 dL_law_854 dL_law_855 dL_law_856 ?_
  refine y_arg (q := 2) hX hN hz (by decide) rfl rfl dL_law_857 dL_law_858 dL_law_860 dL_law_861 dL_law_862 ?_
  refine y_bool (iI_rg _) dL_law_863 dL_law_866 dL_law_867 dL_law_870 ?_
  refine y_arg (q := 3) hX hN hz (by decide) rfl rfl dL_law_871 dL_law_872 dL_law_874 dL_law_875 dL_law_876 ?_
  refine y_bool (iI_rg _) dL_law_877 dL_law_880 dL_law_881 dL_law_884 ?_
  refine y_aload_n dL_law_885 rfl ?_
  refine y_cls (As := [_, _, _]) (cv := cvZ) (kd := kI) (Es := ["java/lang/IndexOutOfBoundsException"]) (mc := 1) (ms := 6) hL (fun v q => by obtain ⟨x, rfl⟩ := q; exact ⟨_, rfl⟩) (by decide) dL_law_886 cfL_setGate stL_setGate lL_201 rfl rfl rfl rfl (fun hx kk => h_setGate hx kk) (e_setGate hZ hS (iI_rg _) zb_or zb_or) (fun X1 h1 k0 hL1 hR => ?_)
  refine y_istore (L' := lL6 b (Yc 0) (Ym 38) o1 o2 z k0) dL_law_889 (by decide) rfl ?_
  refine y_aload_n dL_law_891 rfl ?_
  refine y_arg (q := 1) hX hN hz (by decide) rfl rfl dL_law_892 dL_law_893 dL_law_895 dL_law_896 dL_law_897 ?_
  refine y_arg (q := 2) hX hN hz (by decide) rfl rfl dL_law_898 dL_law_899 dL_law_901 dL_law_902 dL_law_903 ?_
  refine y_bool (iI_rg _) dL_law_904 dL_law_907 dL_law_908 dL_law_911 ?_
  refine y_arg (q := 3) hX hN hz (by decide) rfl rfl dL_law_912 dL_law_913 dL_law_915 dL_law_916 dL_law_917 ?_
  refine y_bool (iI_rg _) dL_law_918 dL_law_921 dL_law_922 dL_law_925 ?_
  refine y_mcl (As := [_, _, _]) (rest := []) hL1 hR dL_law_926 cfX11_setGate imX11_setGate seX11_setGate lL_204 rfl rfl rfl (Nat.zero_le _) (fun o Xm2 h2 hQ hL2 e1 e2 => ?_)
  obtain ⟨v, rfl, hv, ht, hS2, hg⟩ := hQ
  exact y_tlZ (pc := 929) ⟨dL_law_929, ⟨dL_law_931, dL_law_932, dL_law_935, dL_law_937, dL_law_942⟩, dL_law_944, dL_law_947, dL_law_948, dL_law_949, dL_law_950, dL_law_952, dL_law_955, dL_law_956, dL_law_959, dL_law_960, dL_law_961, _, dL_law_966, by decide⟩ hL2 hS2 hv ht (fun y => by rw [e1]; exact hg y) (fun h3 hL3 => hEnd _ _ _ hL3 hS2)
theorem g_setNight (hZ : p_Zs G) (hZn : p_Zn G) (hX : p_Scr G b N xs) (hN : N ≤ 3072) (hz : 0 ≤ z ∧ z + 6 ≤ N) (hL : lHp Yc Ym o1 o2 (V, C, J) (Vm, Cm, Jm) h) (hS : lSm V C J Vm Cm) (hEnd : ∀ X' Xm' h', lHp Yc Ym o1 o2 X' Xm' h' → lS X' Xm' → SL G mL_law P 100 k n h' 3438 (lL b (Yc 0) (Ym 38) o1 o2 z) []) : SL G mL_law P 100 (7 + k) (493 + n) h 969 (lL b (Yc 0) (Ym 38) o1 o2 z) [] := by
  refine SL.room (d' := 100) (k' := k) (n' := n) (Nat.le_refl _) (by omega) (by omega) ?_
  refine y_aload_n dL_law_969 rfl ?_
  refine y_arg (q := 1) hX hN hz (by decide) rfl rfl dL_law_970 dL_law_971 dL_law_973 dL_law_974 dL_law_975 ?_
  refine y_bool (iI_rg _) dL_law_976 dL_law_979 dL_law_980 dL_law_983 ?_
  refine y_clv (As := [_]) hL dL_law_984 cfX10_setNight imX10_setNight seX10_setNight lL_205 rfl rfl rfl (e_setNight hZ hS zb_or) (fun X1 h1 v hL1 hv hR => ?_)
  obtain ⟨x, rfl⟩ := hv
  refine y_aload_n dL_law_987 rfl ?_
  refine y_arg (q := 1) hX hN hz (by decide) rfl rfl dL_law_988 dL_law_989 dL_law_991 dL_law_992 dL_law_993 ?_
  refine y_bool (iI_rg _) dL_law_994 dL_law_997 dL_law_998 dL_law_1001 ?_
  refine y_mcl (As := [_]) (rest := [.int x]) hL1 hR dL_law_1002 cfX11_setNight imX11_setNight seX11_setNight lL_209 rfl rfl rfl (Nat.le_of_ble_eq_true rfl) (fun o Xm2 h2 hQ hL2 e1 e2 => ?_)
  obtain ⟨rfl, -, hS2⟩ := hQ
  exact y_same (pc := 1005) dL_law_1005 (by decide) (hEnd _ _ _ hL2 hS2)
theorem g_undo (hZ : p_Zs G) (hZn : p_Zn G) (hX : p_Scr G b N xs) (hN : N ≤ 3072) (hz : 0 ≤ z ∧ z + 6 ≤ N) (hL : lHp Yc Ym o1 o2 (V, C, J) (Vm, Cm, Jm) h) (hS : lSm V C J Vm Cm) (hEnd : ∀ X' Xm' h', lHp Yc Ym o1 o2 X' Xm' h' → lS X' Xm' → SL G mL_law P 100 k n h' 3438 (lL b (Yc 0) (Ym 38) o1 o2 z) []) : SL G mL_law P 100 (7 + k) (493 + n) h 1010 (lL b (Yc 0) (Ym 38) o1 o2 z) [] := by
  refine SL.room (d' := 100) (k' := k) (n' := n) (Nat.le_refl _) (by omega) (by omega) ?_
  refine y_aload_n dL_law_1010 rfl ?_
  refine y_clv (As := []) hL dL_law_1011 cfX10_undo imX10_undo seX10_undo lL_210 rfl rfl rfl (e_undo hZ hS ) (fun X1 h1 v hL1 hv hR => ?_)
  obtain ⟨x, rfl⟩ := hv
  refine y_aload_n dL_law_1014 rfl ?_
  refine y_mcl (As := []) (rest := [.int x]) hL1 hR dL_law_1015 cfX11_undo imX11_undo seX11_undo lL_213 rfl rfl rfl (Nat.le_of_ble_eq_true rfl) (fun o Xm2 h2 hQ hL2 e1 e2 => ?_)
  obtain ⟨rfl, -, hS2⟩ := hQ
  exact y_same (pc := 1018) dL_law_1018 (by decide) (hEnd _ _ _ hL2 hS2)
theorem g_undoCount (hZ : p_Zs G) (hZn : p_Zn G) (hX : p_Scr G b N xs) (hN : N ≤ 3072) (hz : 0 ≤ z ∧ z + 6 ≤ N) (hL : lHp Yc Ym o1 o2 (V, C, J) (Vm, Cm, Jm) h) (hS : lSm V C J Vm Cm) (hEnd : ∀ X' Xm' h', lHp Yc Ym o1 o2 X' Xm' h' → lS X' Xm' → SL G mL_law P 100 k n h' 3438 (lL b (Yc 0) (Ym 38) o1 o2 z) []) : SL G mL_law P 100 (7 + k) (493 + n) h 1023 (lL b (Yc 0) (Ym 38) o1 o2 z) [] := by
  refine SL.room (d' := 100) (k' := k) (n' := n) (Nat.le_refl _) (by omega) (by omega) ?_
  refine y_aload_n dL_law_1023 rfl ?_
  refine y_clv (As := []) hL dL_law_1024 cfX10_undoCount imX10_undoCount seX10_undoCount lL_214 rfl rfl rfl (e_undoCount hZ hS ) (fun X1 h1 v hL1 hv hR => ?_)
  obtain ⟨x, rfl⟩ := hv
  refine y_aload_n dL_law_1027 rfl ?_
  refine y_mcl (As := []) (rest := [.int x]) hL1 hR dL_law_1028 cfX11_undoCount imX11_undoCount seX11_undoCount lL_217 rfl rfl rfl (Nat.le_of_ble_eq_true rfl) (fun o Xm2 h2 hQ hL2 e1 e2 => ?_)
  obtain ⟨rfl, -, hS2⟩ := hQ
  exact y_same (pc := 1031) dL_law_1031 (by decide) (hEnd _ _ _ hL2 hS2)
theorem g_saveSnapshot (hZ : p_Zs G) (hZn : p_Zn G) (hX : p_Scr G b N xs) (hN : N ≤ 3072) (hz : 0 ≤ z ∧ z + 6 ≤ N) (hL : lHp Yc Ym o1 o2 (V, C, J) (Vm, Cm, Jm) h) (hS : lSm V C J Vm Cm) (hEnd : ∀ X' Xm' h', lHp Yc Ym o1 o2 X' Xm' h' → lS X' Xm' → SL G mL_law P 100 k n h' 3438 (lL b (Yc 0) (Ym 38) o1 o2 z) []) : SL G mL_law P 100 (7 + k) (493 + n) h 1036 (lL b (Yc 0) (Ym 38) o1 o2 z) [] := by
  refine SL.room (d' := 100) (k' := k) (n' := n) (Nat.le_refl _) (by omega) (by omega) ?_
  refine y_aload_n dL_law_1036 rfl ?_
  refine y_clv (As := []) hL dL_law_1037 cfX10_saveSnapshot imX10_saveSnapshot seX10_saveSnapshot lL_218 rfl rfl rfl (e_saveSnapshot hZ hS ) (fun X1 h1 v hL1 hv hR => ?_)
  obtain ⟨x, rfl⟩ := hv
  refine y_aload_n dL_law_1040 rfl ?_
  refine y_mcl (As := []) (rest := [.int x]) hL1 hR dL_law_1041 cfX11_saveSnapshot imX11_saveSnapshot seX11_saveSnapshot lL_221 rfl rfl rfl (Nat.le_of_ble_eq_true rfl) (fun o Xm2 h2 hQ hL2 e1 e2 => ?_)
  obtain ⟨rfl, -, hS2⟩ := hQ
  exact y_same (pc := 1044) dL_law_1044 (by decide) (hEnd _ _ _ hL2 hS2)
theorem g_restoreSnapshot (hZ : p_Zs G) (hZn : p_Zn G) (hX : p_Scr G b N xs) (hN : N ≤ 3072) (hz : 0 ≤ z ∧ z + 6 ≤ N) (hL : lHp Yc Ym o1 o2 (V, C, J) (Vm, Cm, Jm) h) (hS : lSm V C J Vm Cm) (hEnd : ∀ X' Xm' h', lHp Yc Ym o1 o2 X' Xm' h' → lS X' Xm' → SL G mL_law P 100 k n h' 3438 (lL b (Yc 0) (Ym 38) o1 o2 z) []) : SL G mL_law P 100 (7 + k) (493 + n) h 1049 (lL b (Yc 0) (Ym 38) o1 o2 z) [] := by
  refine SL.room (d' := 100) (k' := 1 + k) (n' := 6 + n) (Nat.le_refl _) (by omega) (by omega) ?_
  refine y_aload_n dL_law_1049 rfl ?_
  refine y_aload_n dL_law_1050 rfl ?_
  refine y_cls (As := []) (cv := cvI) (kd := kI) (Es := ["java/util/NoSuchElementException"]) (mc := 1) (ms := 6) hL (fun v q => by obtain ⟨x, rfl⟩ := q; exact ⟨_, rfl⟩) (by decide) dL_law_1051 cfL_restoreSnapshot stL_restoreSnapshot lL_222 rfl rfl rfl rfl (fun hx kk => h_restoreSnapshot hx kk) (e_restoreSnapshot hZ hS ) (fun X1 h1 k0 hL1 hR => ?_)
  refine y_istore (L' := lL6 b (Yc 0) (Ym 38) o1 o2 z k0) dL_law_1054 (by decide) rfl ?_
  refine y_aload_n dL_law_1056 rfl ?_
  refine y_mcl (As := []) (rest := []) hL1 hR dL_law_1057 cfX11_restoreSnapshot imX11_restoreSnapshot seX11_restoreSnapshot lL_225 rfl rfl rfl (Nat.zero_le _) (fun o Xm2 h2 hQ hL2 e1 e2 => ?_)
  obtain ⟨v, rfl, hv, ht, hS2, hg⟩ := hQ
  exact y_tlI (pc := 1060) ⟨dL_law_1060, ⟨dL_law_1062, dL_law_1063, dL_law_1066, dL_law_1068, dL_law_1073⟩, dL_law_1075, dL_law_1078, dL_law_1079, dL_law_1080, dL_law_1081, dL_law_1083, dL_law_1084, dL_law_1085, _, dL_law_1090, by decide⟩ hL2 hS2 hv ht (fun y => by rw [e1]; exact hg y) (fun h3 hL3 => hEnd _ _ _ hL3 hS2)
end C5a
