/-! ===== the class: restoreSnapshot ===== -/
theorem r_throwN {G : p_G} {M : p_M} {P : p_P} {d k n : Nat} {h : p_H} {pc : Nat} {L : p_LL} {st : List Value} {ik is ic sa : Nat} {cls text Y1 : String} {ix : Nat} {rx : ByteArray} {names : List String} (hZ : p_Z G) (hq : vk_R M.1.cls is text sa G.2.1) (r0 : decode rx 0 = .ok (.aload_n 0, 1)) (r1 : decode rx 1 = .ok (.aload_n 1, 1)) (r2 : decode rx 2 = .ok (.invokespecial ix, 3)) (r5 : decode rx 5 = .ok (.return_, 1)) (hcls : Bundle.fit cls = true) (hY1 : Bundle.fit Y1 = true) (hnames : ∀ n ∈ names, Bundle.fit n = true) (hk : Cond.classLink M.1.cls ik cls ∈ p_ws) (hini : Cond.initialized cls ∈ p_ws) (hat : ∀ w ∈ vx_atN M.1.cls ic cls Y1 ix rx names, w ∈ lw_tbl ∧ p_kw w = true) (hgood : ∀ w ∈ Cond.classLink M.1.cls ik cls :: Cond.initialized cls :: vx_atN M.1.cls ic cls Y1 ix rx names, vx_ot w = true)
    (d0 : decode M.2.1 pc = .ok (.new ik, 3)) (d3 : decode M.2.1 (pc + 3) = .ok (.dup, 1)) (d4 : decode M.2.1 (pc + 4) = .ok (.ldc is, 2)) (d6 : decode M.2.1 (pc + 6) = .ok (.invokespecial ic, 3)) (d9 : decode M.2.1 (pc + 9) = .ok (.athrow, 1)) (hd : names.length + 4 < d) (hr : (st.map fun v => v.category).sum ≤ 8) (hp : P (.inr cls) h) : SW G M P d (k + 1) (n + 6) h pc L st := by
  intro p e R s m args below meth c H locs cells slots ls C B hS hR hL
  obtain ⟨hx, hb, hml, hret, hlk, hown, hnam, hE, hU⟩ := id C
  obtain ⟨b1, b2, b3, b4⟩ := B
  obtain ⟨aL, hLw⟩ := hU.1.1
  refine vx_throwN (A := p_A G) hx hb hU.1.2.2 hown r0 r1 r2 r5 hcls hY1 hnames (hU.word hk args) (hU.word hini args) (vk_R.warm hU.2.1 hq) (fun w hw => p_kw.kept hU.2.1 (hat w hw).2 (hLw w (hat w hw).1)) hgood ((vx_Zq.moved hU.2.1.alike hZ.1).kept (fun a ha _ => hU.2.2.2 a ha)) ((vx_Zq.moved hU.2.1.alike hZ.2).kept (fun a ha _ => hU.2.2.2 a ha)) hS (hL.1.trans hml.symm) d0 d3 d4 d6 d9 (fun x hx => (hE x hx).elim) (by omega) (by omega) (by omega) (by omega) hlk (fun t ha hs2 hp2 => ?_) hS.2.2 (by omega) (by omega)
  obtain ⟨ws, hP, hD, hw⟩ := id hR
  refine ⟨h, hp, ⟨ws, hP.kept (fun k q hk => hp2 q.1 (hP k q hk).lt), hD, hw⟩, Nat.le_trans hS.1 hs2, fun q h1 h2 => ?_⟩
  rw [hp2 q (Nat.lt_of_lt_of_le h1 hS.1)]
  exact hS.2.1 q h1 h2
theorem p_atN : ∀ w ∈ vx_atN RX10 208 "java/util/NoSuchElementException" "java/lang/RuntimeException" 13 prog_33_method_4_code ["java/lang/Exception"], w ∈ lw_tbl := p_lk (I := [94, 816, 825, 830, 833, 835, 817, 818, 110, 111, 819, 824, 831, 851, 806, 852, 808, 853, 810, 820, 822, 812, 847, 848, 850, 812, 1032, 1033, 1034, 841, 798, 841, 842, 843, 844, 800, 844, 845, 846, 847, 802, 1031, 1022, 1023, 1024, 829, 1025, 1026, 1027, 1028, 815, 814, 1029]) (by decide +kernel)
theorem p_kwN : (vx_atN RX10 208 "java/util/NoSuchElementException" "java/lang/RuntimeException" 13 prog_33_method_4_code ["java/lang/Exception"]).all p_kw = true := by decide +kernel
theorem p_otN : (Cond.classLink RX10 204 "java/util/NoSuchElementException" :: Cond.initialized "java/util/NoSuchElementException" :: vx_atN RX10 208 "java/util/NoSuchElementException" "java/lang/RuntimeException" 13 prog_33_method_4_code ["java/lang/Exception"]).all vx_ot = true := by decide +kernel
theorem i_thrN {σ : Type} {G : p_G} {M : p_M} {I : σ → p_H → Prop} {P : (Option Value) ⊕ String → σ → Prop} {d k n pc : Nat} {L : p_LL} {st : List Value} {X : σ} {is : Nat} {text : String} (hM : M.1.cls = RX10) (hZ : p_Zs G) (hq : (is, text) ∈ ([(104, "no such length of the input buffer"), (337, "no such slot"), (140, "there are 6 walkers"), (348, "no such walker"), (340, "no such street"), (162, "the street is not passable"), (206, "no snapshot was saved"), (342, "no such position"), (344, "no such state"), (346, "no such length of a word")] : List (Nat × String)))
    (d0 : decode M.2.1 pc = .ok (.new 204, 3)) (d3 : decode M.2.1 (pc + 3) = .ok (.dup, 1)) (d4 : decode M.2.1 (pc + 4) = .ok (.ldc is, 2)) (d6 : decode M.2.1 (pc + 6) = .ok (.invokespecial 208, 3)) (d9 : decode M.2.1 (pc + 9) = .ok (.athrow, 1)) (hr : (st.map fun v => v.category).sum ≤ 8) (hp : P (.inr "java/util/NoSuchElementException") X) : RW G M I P (d + 6) (k + 1) (n + 6) pc L st X := fun h hI => by
  obtain ⟨sa, hs⟩ := hZ.2 _ hq
  exact r_throwN (sa := sa) (text := text) (Y1 := "java/lang/RuntimeException") (ix := 13) (rx := prog_33_method_4_code) (names := ["java/lang/Exception"]) hZ.1 (by rw [hM]; exact hs) (by decide +kernel) (by decide +kernel) (by decide +kernel) (by decide +kernel) (by decide +kernel) (by decide +kernel) (by decide +kernel) (by rw [hM]; exact p_in (p_lk (l := [Cond.classLink RX10 204 "java/util/NoSuchElementException"]) (I := [1021]) (by decide +kernel) _ (List.mem_singleton.mpr rfl)) rfl) (p_in (p_lk (l := [Cond.initialized "java/util/NoSuchElementException"]) (I := [102]) (by decide +kernel) _ (List.mem_singleton.mpr rfl)) rfl) (by rw [hM]; exact fun w hw => ⟨p_atN w hw, List.all_eq_true.mp p_kwN w hw⟩) (by rw [hM]; exact fun w hw => List.all_eq_true.mp p_otN w hw) d0 d3 d4 d6 d9 (by show 1 + 4 < d + 6; omega) hr ⟨X, hp, hI⟩
section C67
variable {G : p_G} {Y : Nat → Nat} {h0 : p_H} {P : (Option Value) ⊕ String → c_X → Prop} {d : Nat} {V : Nat → Int} {C : Nat → Int → Int} {J : c_J}
variable {w : Int → Int}
theorem q_restoreSnapshot  (hZ : p_Zs G) (h0' : V 0 = 0 ∨ V 0 = 1) (hk : V 0 = 1 → cWk V C J 1 w ∧ wOK w) (hp1 : ¬ V 0 = 1 → P (.inr "java/util/NoSuchElementException") (V, C, J)) (hp0 : V 0 = 1 → ∀ V' C' J', cNow V' C' J' w → cWk V' C' J' 1 w → V' 11 = 0 → (∀ i, i ≠ 11 → ¬ (20 ≤ i ∧ i < 25) → V' i = V i) → (∀ i, ¬ (31 ≤ i ∧ i < 34) → C' i = C i) → (∀ q, q ≠ 0 → q ≠ 1 → J'.2.1 q = J.2.1 q) → J'.1 = J.1 → J'.2.2 = J.2.2 → P (.inl (some (.int (iI (w 952))))) (V', C', J')) : RM G mX10_restoreSnapshot (c_I Y h0) [.ref (Y 0)] (d + 6) 1 6 P (V, C, J) := by
  refine RM.of (L := [some (.ref (Y 0))]) cfX10_restoreSnapshot rfl (Nat.le_of_ble_eq_true rfl) ?_
  refine i_aload_n dX10_restoreSnapshot_0 rfl ?_
  refine u_get (i := 0) (vv := .int (iI (V 0))) dX10_restoreSnapshot_1 fX10_201 (by decide) rfl rfl ?_
  refine i_if_ne (tgt := 17) dX10_restoreSnapshot_4 (by decide) (by omega) (fun c4 => ?_) (fun c4 => ?_)
  · -- jumps
    refine i_aload_n dX10_restoreSnapshot_17 rfl ?_
    refine u_get (i := 0) (vv := .ref (Y (30))) dX10_restoreSnapshot_18 fX10_49.o (by decide) rfl rfl ?_
    refine i_aload_n dX10_restoreSnapshot_21 rfl ?_
    refine u_get (i := 0) (vv := .ref (Y (34))) dX10_restoreSnapshot_22 fX10_60.o (by decide) rfl rfl ?_
    refine u_callV (i := 30) (mc := 0) (ms := 0) (As := [_]) dX10_restoreSnapshot_25 cfX9_copyFrom imX9_copyFrom seX9_copyFrom lX10_198 (by decide) rfl rfl rfl rfl rfl (Nat.le_of_ble_eq_true rfl) (Nat.zero_add _).symm (Nat.zero_add _).symm ?_
    have hk1 := hk (by omega)
    refine q_copyFrom (u := 0) (v := 1) (by decide) (by decide) (by decide) (show V 28 = 0 ∨ V 28 = 1 from by have q1 : V 28 = w 983 := hk1.1.1.1; have := hk1.2.nght; omega) (fun V1 C1 R1 hc1 => RK.n0 ?_)
    refine i_aload_n dX10_restoreSnapshot_28 rfl ?_
    refine u_get (i := 0) (vv := .ref (Y (9))) dX10_restoreSnapshot_29 fX10_56.o (by decide) rfl rfl ?_
    refine u_callV (i := 9) (mc := 0) (ms := 0) (As := []) dX10_restoreSnapshot_32 cfX0_forgetAll imX0_forgetAll seX0_forgetAll lX10_209 (by decide) rfl rfl rfl rfl rfl (Nat.le_of_ble_eq_true rfl) (Nat.zero_add _).symm (Nat.zero_add _).symm ?_
    refine q_forgetAll (RK.n0 ?_)
    refine i_aload_n dX10_restoreSnapshot_35 rfl ?_
    refine u_get (i := 0) (vv := .ref (Y (30))) dX10_restoreSnapshot_36 fX10_49.o (by decide) rfl rfl ?_
    refine u_get (i := 30) (vv := .int (iI (V1 21))) dX10_restoreSnapshot_39 fX10_135 (by decide) rfl rfl ?_
    refine i_ireturn dX10_restoreSnapshot_42 rfl rfl ?_
    have hw0 : cWk V1 C1 (J.1, R1, J.2.2) 0 w := cWk.cp (v := 1) hk1.1 hk1.2.2.1 hc1
    have hw1 : cWk V1 C1 (J.1, R1, J.2.2) 1 w := cWk.ot (x := 1) hk1.1 (by decide) hc1
    have e1 : V1 21 = w 952 := hw0.1.2.1
    rw [e1]
    refine hp0 (by omega) _ _ _ (hw0.cg (fun i i0 i1 => vu_ne (by omega)) (fun _ _ _ => rfl) ⟨rfl, rfl⟩ (fun _ _ h => h)) (hw1.cg (fun i i0 i1 => vu_ne (by omega)) (fun _ _ _ => rfl) ⟨rfl, rfl⟩ (fun _ _ h => h)) vu_at (fun i i0 i1 => (vu_ne i0).trans (hc1.2.1 i (by simp only [List.mem_cons, List.not_mem_nil, or_false]; omega))) (fun i i0 => hc1.2.2.2.1 i (by simp only [List.mem_cons, List.not_mem_nil, or_false]; omega)) (fun q q0 q1 => hc1.2.2.2.2.2 q q0 q1) rfl rfl
  · -- on
    refine i_thrN (is := 206) (text := "no snapshot was saved") rfl hZ (by decide) dX10_restoreSnapshot_7 dX10_restoreSnapshot_10 dX10_restoreSnapshot_11 dX10_restoreSnapshot_13 dX10_restoreSnapshot_16 (Nat.le_of_ble_eq_true rfl) ?_
    exact hp1 (by omega)
end C67
