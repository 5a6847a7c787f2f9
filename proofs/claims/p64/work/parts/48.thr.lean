/-! ===== an exception is thrown ===== -/
/-- what the law's start tells of a throwable's statics -/
def p_Z (G : p_G) : Prop := vx_Zq Bundle.tN "UNASSIGNED_STACK" Bundle.steD (p_A G) G.2.1 G.2.1.heap ∧ vx_Zq Bundle.tN "SUPPRESSED_SENTINEL" Bundle.listD (p_A G) G.2.1 G.2.1.heap
theorem dec_kept {args a' : Array Value} {s U : State} {x : MethodName} (hW : s.WarmedH U.vm) (h : (Cond.declares x).before args s = true) : (Cond.declares x).before a' U = true := by
  refine va_tabs (u := s.setVm U.vm) (A := args) rfl rfl ?_
  simp only [Cond.before, Cond.holds, Cond.value] at h ⊢
  rw [show ((s.setVm U.vm).methodNamed? x).bind (s.setVm U.vm).vm.method? = ((s.setVm U.vm).methodNamed? x).bind U.vm.method? from rfl, arm_named_setVm hW.alike]
  exact h
theorem cast_kept {args a' : Array Value} {s U : State} {x y : String} (hW : s.WarmedH U.vm) (h : (Cond.castable x y).before args s = true) : (Cond.castable x y).before a' U = true := by
  refine va_tabs (u := s.setVm U.vm) (A := args) rfl rfl ?_
  rw [Cond.castable_setVm hW.alike]
  exact h
/-- words that are kept -/
def p_kw (w : Cond) : Bool := goodWord w || match w with
  | .declares _ => true
  | .castable _ _ => true
  | _ => false
theorem p_kw.kept {args a' : Array Value} {s U : State} {w : Cond} (hW : s.WarmedH U.vm) (hk : p_kw w = true) (h : w.before args s = true) : w.before a' U = true := by
  unfold p_kw at hk
  rw [Bool.or_eq_true] at hk
  rcases hk with hk | hk
  · exact word_at hW (good_of_word hk) h
  · match w, hk, h with
    | .declares x, _, h => exact dec_kept hW h
    | .castable x y, _, h => exact cast_kept hW h
theorem r_throwS {G : p_G} {M : p_M} {P : p_P} {d k n : Nat} {h : p_H} {pc : Nat} {L : p_LL} {st : List Value} {ik is ic sa : Nat} {cls text : String} {names : List String} (hZ : p_Z G) (hq : vk_R M.1.cls is text sa G.2.1) (hcls : Bundle.fit cls = true) (hnames : ∀ n ∈ names, Bundle.fit n = true) (hk : Cond.classLink M.1.cls ik cls ∈ p_ws) (hini : Cond.initialized cls ∈ p_ws) (hat : ∀ w ∈ vx_atS M.1.cls ic cls names, w ∈ lw_tbl ∧ p_kw w = true) (hgood : ∀ w ∈ Cond.classLink M.1.cls ik cls :: Cond.initialized cls :: vx_atS M.1.cls ic cls names, vx_ot w = true)
    (d0 : decode M.2.1 pc = .ok (.new ik, 3)) (d3 : decode M.2.1 (pc + 3) = .ok (.dup, 1)) (d4 : decode M.2.1 (pc + 4) = .ok (.ldc is, 2)) (d6 : decode M.2.1 (pc + 6) = .ok (.invokespecial ic, 3)) (d9 : decode M.2.1 (pc + 9) = .ok (.athrow, 1)) (hd : names.length + 3 < d) (hr : (st.map fun v => v.category).sum ≤ 8) (hp : P (.inr cls) h) : SW G M P d (k + 1) (n + 6) h pc L st := by
  intro p e R s m args below meth c H locs cells slots ls C B hS hR hL
  obtain ⟨hx, hb, hml, hret, hlk, hown, hnam, hE, hU⟩ := id C
  obtain ⟨b1, b2, b3, b4⟩ := B
  obtain ⟨aL, hLw⟩ := hU.1.1
  refine vx_throwS (A := p_A G) hx hb hU.1.2.2 hown hcls hnames (hU.word hk args) (hU.word hini args) (vk_R.warm hU.2.1 hq) (fun w hw => p_kw.kept hU.2.1 (hat w hw).2 (hLw w (hat w hw).1)) hgood ((vx_Zq.moved hU.2.1.alike hZ.1).kept (fun a ha _ => hU.2.2.2 a ha)) ((vx_Zq.moved hU.2.1.alike hZ.2).kept (fun a ha _ => hU.2.2.2 a ha)) hS (hL.1.trans hml.symm) d0 d3 d4 d6 d9 (fun x hx => (hE x hx).elim) (by omega) (by omega) (by omega) (by omega) hlk (fun t ha hs2 hp2 => ?_) hS.2.2 (by omega) (by omega)
  obtain ⟨ws, hP, hD, hw⟩ := id hR
  refine ⟨h, hp, ⟨ws, hP.kept (fun k q hk => hp2 q.1 (hP k q hk).lt), hD, hw⟩, Nat.le_trans hS.1 hs2, fun q h1 h2 => ?_⟩
  rw [hp2 q (Nat.lt_of_lt_of_le h1 hS.1)]
  exact hS.2.1 q h1 h2
theorem r_throwSW {G : p_G} {M : p_M} {P : p_P} {d k n : Nat} {h : p_H} {pc : Nat} {L : p_LL} {st : List Value} {ik is ic sa : Nat} {cls text : String} {names : List String} (hZ : p_Z G) (hq : vk_R M.1.cls is text sa G.2.1) (hcls : Bundle.fit cls = true) (hnames : ∀ n ∈ names, Bundle.fit n = true) (hk : Cond.classLink M.1.cls ik cls ∈ p_ws) (hini : Cond.initialized cls ∈ p_ws) (hat : ∀ w ∈ vx_atS M.1.cls ic cls names, w ∈ lw_tbl ∧ p_kw w = true) (hgood : ∀ w ∈ Cond.classLink M.1.cls ik cls :: Cond.initialized cls :: vx_atS M.1.cls ic cls names, vx_ot w = true)
    (d0 : decode M.2.1 pc = .ok (.new ik, 3)) (d3 : decode M.2.1 (pc + 3) = .ok (.dup, 1)) (d4 : decode M.2.1 (pc + 4) = .ok (.ldc_w is, 3)) (d6 : decode M.2.1 (pc + 7) = .ok (.invokespecial ic, 3)) (d9 : decode M.2.1 (pc + 10) = .ok (.athrow, 1)) (hd : names.length + 3 < d) (hr : (st.map fun v => v.category).sum ≤ 8) (hp : P (.inr cls) h) : SW G M P d (k + 1) (n + 6) h pc L st := by
  intro p e R s m args below meth c H locs cells slots ls C B hS hR hL
  obtain ⟨hx, hb, hml, hret, hlk, hown, hnam, hE, hU⟩ := id C
  obtain ⟨b1, b2, b3, b4⟩ := B
  obtain ⟨aL, hLw⟩ := hU.1.1
  refine vx_throwSW (A := p_A G) hx hb hU.1.2.2 hown hcls hnames (hU.word hk args) (hU.word hini args) (vk_R.warm hU.2.1 hq) (fun w hw => p_kw.kept hU.2.1 (hat w hw).2 (hLw w (hat w hw).1)) hgood ((vx_Zq.moved hU.2.1.alike hZ.1).kept (fun a ha _ => hU.2.2.2 a ha)) ((vx_Zq.moved hU.2.1.alike hZ.2).kept (fun a ha _ => hU.2.2.2 a ha)) hS (hL.1.trans hml.symm) d0 d3 d4 d6 d9 (fun x hx => (hE x hx).elim) (by omega) (by omega) (by omega) (by omega) hlk (fun t ha hs2 hp2 => ?_) hS.2.2 (by omega) (by omega)
  obtain ⟨ws, hP, hD, hw⟩ := id hR
  refine ⟨h, hp, ⟨ws, hP.kept (fun k q hk => hp2 q.1 (hP k q hk).lt), hD, hw⟩, Nat.le_trans hS.1 hs2, fun q h1 h2 => ?_⟩
  rw [hp2 q (Nat.lt_of_lt_of_le h1 hS.1)]
  exact hS.2.1 q h1 h2
theorem p_lk {l : List Cond} {I : List Nat} (h : l.map some = I.map (fun i => lw_tbl[i]?)) : ∀ w ∈ l, w ∈ lw_tbl := fun w hw => by
  have : some w ∈ l.map some := List.mem_map.mpr ⟨w, hw, rfl⟩
  rw [h] at this
  obtain ⟨i, _, e⟩ := List.mem_map.mp this
  exact List.mem_of_getElem? e
theorem p_atB : ∀ w ∈ vx_atS RX10 339 "java/lang/IndexOutOfBoundsException" ["java/lang/RuntimeException", "java/lang/Exception"], w ∈ lw_tbl := p_lk (I := [37, 562, 571, 575, 578, 580, 563, 564, 50, 51, 565, 570, 576, 596, 552, 597, 554, 598, 556, 566, 568, 558, 592, 593, 595, 558, 583, 584, 585, 586, 544, 586, 587, 588, 589, 546, 589, 590, 591, 592, 548, 582, 541, 542, 549, 550, 551, 553, 555, 557, 561, 560, 559]) (by decide +kernel)
theorem p_kwB : (vx_atS RX10 339 "java/lang/IndexOutOfBoundsException" ["java/lang/RuntimeException", "java/lang/Exception"]).all p_kw = true := by decide +kernel
theorem p_otB : (Cond.classLink RX10 335 "java/lang/IndexOutOfBoundsException" :: Cond.initialized "java/lang/IndexOutOfBoundsException" :: vx_atS RX10 339 "java/lang/IndexOutOfBoundsException" ["java/lang/RuntimeException", "java/lang/Exception"]).all vx_ot = true := by decide +kernel
theorem p_atA : ∀ w ∈ vx_atS RX10 106 "java/lang/IllegalArgumentException" ["java/lang/RuntimeException", "java/lang/Exception"], w ∈ lw_tbl := p_lk (I := [37, 562, 571, 575, 578, 580, 563, 564, 50, 51, 565, 570, 576, 596, 552, 597, 554, 598, 556, 566, 568, 558, 592, 593, 595, 558, 787, 788, 789, 586, 544, 586, 587, 588, 589, 546, 589, 590, 591, 592, 548, 786, 777, 778, 779, 573, 780, 781, 782, 783, 561, 560, 784]) (by decide +kernel)
theorem p_kwA : (vx_atS RX10 106 "java/lang/IllegalArgumentException" ["java/lang/RuntimeException", "java/lang/Exception"]).all p_kw = true := by decide +kernel
theorem p_otA : (Cond.classLink RX10 102 "java/lang/IllegalArgumentException" :: Cond.initialized "java/lang/IllegalArgumentException" :: vx_atS RX10 106 "java/lang/IllegalArgumentException" ["java/lang/RuntimeException", "java/lang/Exception"]).all vx_ot = true := by decide +kernel
theorem p_atS : ∀ w ∈ vx_atS RX10 142 "java/lang/IllegalStateException" ["java/lang/RuntimeException", "java/lang/Exception"], w ∈ lw_tbl := p_lk (I := [37, 562, 571, 575, 578, 580, 563, 564, 50, 51, 565, 570, 576, 596, 552, 597, 554, 598, 556, 566, 568, 558, 592, 593, 595, 558, 618, 619, 620, 586, 544, 586, 587, 588, 589, 546, 589, 590, 591, 592, 548, 617, 608, 609, 610, 574, 611, 612, 613, 614, 561, 560, 615]) (by decide +kernel)
theorem p_kwS : (vx_atS RX10 142 "java/lang/IllegalStateException" ["java/lang/RuntimeException", "java/lang/Exception"]).all p_kw = true := by decide +kernel
theorem p_otS : (Cond.classLink RX10 138 "java/lang/IllegalStateException" :: Cond.initialized "java/lang/IllegalStateException" :: vx_atS RX10 142 "java/lang/IllegalStateException" ["java/lang/RuntimeException", "java/lang/Exception"]).all vx_ot = true := by decide +kernel
/-- what the law's start tells of throwing -/
def p_Zs (G : p_G) : Prop := p_Z G ∧ ∀ q, q ∈ ([(104, "no such length of the input buffer"), (337, "no such slot"), (140, "there are 6 walkers"), (348, "no such walker"), (340, "no such street"), (162, "the street is not passable"), (342, "no such position"), (344, "no such state"), (346, "no such length of a word")] : List (Nat × String)) → ∃ sa, vk_R RX10 q.1 q.2 sa G.2.1
theorem i_thrB {σ : Type} {G : p_G} {M : p_M} {I : σ → p_H → Prop} {P : (Option Value) ⊕ String → σ → Prop} {d k n pc : Nat} {L : p_LL} {st : List Value} {X : σ} {is : Nat} {text : String} (hM : M.1.cls = RX10) (hZ : p_Zs G) (hq : (is, text) ∈ ([(104, "no such length of the input buffer"), (337, "no such slot"), (140, "there are 6 walkers"), (348, "no such walker"), (340, "no such street"), (162, "the street is not passable"), (342, "no such position"), (344, "no such state"), (346, "no such length of a word")] : List (Nat × String)))
    (d0 : decode M.2.1 pc = .ok (.new 335, 3)) (d3 : decode M.2.1 (pc + 3) = .ok (.dup, 1)) (d4 : decode M.2.1 (pc + 4) = .ok (.ldc_w is, 3)) (d6 : decode M.2.1 (pc + 7) = .ok (.invokespecial 339, 3)) (d9 : decode M.2.1 (pc + 10) = .ok (.athrow, 1)) (hr : (st.map fun v => v.category).sum ≤ 8) (hp : P (.inr "java/lang/IndexOutOfBoundsException") X) : RW G M I P (d + 6) (k + 1) (n + 6) pc L st X := fun h hI => by
  obtain ⟨sa, hs⟩ := hZ.2 _ hq
  exact r_throwSW (sa := sa) (text := text) (names := ["java/lang/RuntimeException", "java/lang/Exception"]) hZ.1 (by rw [hM]; exact hs) (by decide +kernel) (by decide +kernel) (by rw [hM]; exact p_in (p_lk (l := [Cond.classLink RX10 335 "java/lang/IndexOutOfBoundsException"]) (I := [540]) (by decide +kernel) _ (List.mem_singleton.mpr rfl)) rfl) (p_in (p_lk (l := [Cond.initialized "java/lang/IndexOutOfBoundsException"]) (I := [40]) (by decide +kernel) _ (List.mem_singleton.mpr rfl)) rfl) (by rw [hM]; exact fun w hw => ⟨p_atB w hw, List.all_eq_true.mp p_kwB w hw⟩) (by rw [hM]; exact fun w hw => List.all_eq_true.mp p_otB w hw) d0 d3 d4 d6 d9 (by show 2 + 3 < d + 6; omega) hr ⟨X, hp, hI⟩
theorem i_thrA {σ : Type} {G : p_G} {M : p_M} {I : σ → p_H → Prop} {P : (Option Value) ⊕ String → σ → Prop} {d k n pc : Nat} {L : p_LL} {st : List Value} {X : σ} {is : Nat} {text : String} (hM : M.1.cls = RX10) (hZ : p_Zs G) (hq : (is, text) ∈ ([(104, "no such length of the input buffer"), (337, "no such slot"), (140, "there are 6 walkers"), (348, "no such walker"), (340, "no such street"), (162, "the street is not passable"), (342, "no such position"), (344, "no such state"), (346, "no such length of a word")] : List (Nat × String)))
    (d0 : decode M.2.1 pc = .ok (.new 102, 3)) (d3 : decode M.2.1 (pc + 3) = .ok (.dup, 1)) (d4 : decode M.2.1 (pc + 4) = .ok (.ldc is, 2)) (d6 : decode M.2.1 (pc + 6) = .ok (.invokespecial 106, 3)) (d9 : decode M.2.1 (pc + 9) = .ok (.athrow, 1)) (hr : (st.map fun v => v.category).sum ≤ 8) (hp : P (.inr "java/lang/IllegalArgumentException") X) : RW G M I P (d + 6) (k + 1) (n + 6) pc L st X := fun h hI => by
  obtain ⟨sa, hs⟩ := hZ.2 _ hq
  exact r_throwS (sa := sa) (text := text) (names := ["java/lang/RuntimeException", "java/lang/Exception"]) hZ.1 (by rw [hM]; exact hs) (by decide +kernel) (by decide +kernel) (by rw [hM]; exact p_in (p_lk (l := [Cond.classLink RX10 102 "java/lang/IllegalArgumentException"]) (I := [776]) (by decide +kernel) _ (List.mem_singleton.mpr rfl)) rfl) (p_in (p_lk (l := [Cond.initialized "java/lang/IllegalArgumentException"]) (I := [41]) (by decide +kernel) _ (List.mem_singleton.mpr rfl)) rfl) (by rw [hM]; exact fun w hw => ⟨p_atA w hw, List.all_eq_true.mp p_kwA w hw⟩) (by rw [hM]; exact fun w hw => List.all_eq_true.mp p_otA w hw) d0 d3 d4 d6 d9 (by show 2 + 3 < d + 6; omega) hr ⟨X, hp, hI⟩
theorem i_thrAW {σ : Type} {G : p_G} {M : p_M} {I : σ → p_H → Prop} {P : (Option Value) ⊕ String → σ → Prop} {d k n pc : Nat} {L : p_LL} {st : List Value} {X : σ} {is : Nat} {text : String} (hM : M.1.cls = RX10) (hZ : p_Zs G) (hq : (is, text) ∈ ([(104, "no such length of the input buffer"), (337, "no such slot"), (140, "there are 6 walkers"), (348, "no such walker"), (340, "no such street"), (162, "the street is not passable"), (342, "no such position"), (344, "no such state"), (346, "no such length of a word")] : List (Nat × String)))
    (d0 : decode M.2.1 pc = .ok (.new 102, 3)) (d3 : decode M.2.1 (pc + 3) = .ok (.dup, 1)) (d4 : decode M.2.1 (pc + 4) = .ok (.ldc_w is, 3)) (d6 : decode M.2.1 (pc + 7) = .ok (.invokespecial 106, 3)) (d9 : decode M.2.1 (pc + 10) = .ok (.athrow, 1)) (hr : (st.map fun v => v.category).sum ≤ 8) (hp : P (.inr "java/lang/IllegalArgumentException") X) : RW G M I P (d + 6) (k + 1) (n + 6) pc L st X := fun h hI => by
  obtain ⟨sa, hs⟩ := hZ.2 _ hq
  exact r_throwSW (sa := sa) (text := text) (names := ["java/lang/RuntimeException", "java/lang/Exception"]) hZ.1 (by rw [hM]; exact hs) (by decide +kernel) (by decide +kernel) (by rw [hM]; exact p_in (p_lk (l := [Cond.classLink RX10 102 "java/lang/IllegalArgumentException"]) (I := [776]) (by decide +kernel) _ (List.mem_singleton.mpr rfl)) rfl) (p_in (p_lk (l := [Cond.initialized "java/lang/IllegalArgumentException"]) (I := [41]) (by decide +kernel) _ (List.mem_singleton.mpr rfl)) rfl) (by rw [hM]; exact fun w hw => ⟨p_atA w hw, List.all_eq_true.mp p_kwA w hw⟩) (by rw [hM]; exact fun w hw => List.all_eq_true.mp p_otA w hw) d0 d3 d4 d6 d9 (by show 2 + 3 < d + 6; omega) hr ⟨X, hp, hI⟩
theorem i_thrS {σ : Type} {G : p_G} {M : p_M} {I : σ → p_H → Prop} {P : (Option Value) ⊕ String → σ → Prop} {d k n pc : Nat} {L : p_LL} {st : List Value} {X : σ} {is : Nat} {text : String} (hM : M.1.cls = RX10) (hZ : p_Zs G) (hq : (is, text) ∈ ([(104, "no such length of the input buffer"), (337, "no such slot"), (140, "there are 6 walkers"), (348, "no such walker"), (340, "no such street"), (162, "the street is not passable"), (342, "no such position"), (344, "no such state"), (346, "no such length of a word")] : List (Nat × String)))
    (d0 : decode M.2.1 pc = .ok (.new 138, 3)) (d3 : decode M.2.1 (pc + 3) = .ok (.dup, 1)) (d4 : decode M.2.1 (pc + 4) = .ok (.ldc is, 2)) (d6 : decode M.2.1 (pc + 6) = .ok (.invokespecial 142, 3)) (d9 : decode M.2.1 (pc + 9) = .ok (.athrow, 1)) (hr : (st.map fun v => v.category).sum ≤ 8) (hp : P (.inr "java/lang/IllegalStateException") X) : RW G M I P (d + 6) (k + 1) (n + 6) pc L st X := fun h hI => by
  obtain ⟨sa, hs⟩ := hZ.2 _ hq
  exact r_throwS (sa := sa) (text := text) (names := ["java/lang/RuntimeException", "java/lang/Exception"]) hZ.1 (by rw [hM]; exact hs) (by decide +kernel) (by decide +kernel) (by rw [hM]; exact p_in (p_lk (l := [Cond.classLink RX10 138 "java/lang/IllegalStateException"]) (I := [607]) (by decide +kernel) _ (List.mem_singleton.mpr rfl)) rfl) (p_in (p_lk (l := [Cond.initialized "java/lang/IllegalStateException"]) (I := [43]) (by decide +kernel) _ (List.mem_singleton.mpr rfl)) rfl) (by rw [hM]; exact fun w hw => ⟨p_atS w hw, List.all_eq_true.mp p_kwS w hw⟩) (by rw [hM]; exact fun w hw => List.all_eq_true.mp p_otS w hw) d0 d3 d4 d6 d9 (by show 2 + 3 < d + 6; omega) hr ⟨X, hp, hI⟩
