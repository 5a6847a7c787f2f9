/-! ===== the class: compile ===== -/
/-- a pattern lies at a, none of it at the cells ok -/
def g_pat (ok : Nat → Prop) (Y : Nat → Nat) (h : p_H) (a : Nat) (p : c_P) : Prop := h a = some (.inr (5, c_pfs p)) ∧ (∀ k, k < 5 → h (p.2.2 k) = some (c_ia (c_pl k) (p.2.1 k))) ∧ ∀ i, ok i → Y i ≠ a ∧ ∀ k, k < 5 → Y i ≠ p.2.2 k
/-- the cells ok, patterns, the rest -/
def g_I (ok : Nat → Prop) (Y : Nat → Nat) (h0 : p_H) : c_X → p_H → Prop := fun X h => ((∀ i, ok i → h (Y i) = some (c_cell Y X i)) ∧ ∀ i, ok i → ∀ j, ok j → Y i = Y j → i = j) ∧ (∀ a p, X.2.2.2.2 a = some p → g_pat ok Y h a p) ∧ ∀ q : Nat, h0 q ≠ none → (∀ i, ok i → q ≠ Y i) → h q = h0 q ∧ c_nt X.2.2.2.2 q
theorem g_I.c {Y : Nat → Nat} {h0 h : p_H} {X : c_X} : g_I (fun i => c_ok i) Y h0 X h ↔ c_I Y h0 X h := Iff.rfl
/-- the pattern that the reader holds -/
def c_new (V : Nat → Int) (C : Nat → Int → Int) (qs : List Nat) : c_P := (fun i => if i = 0 then V 5 else if i = 1 then V 6 else if i = 2 then V 201 else if i = 3 then V 202 else if i = 4 then V 203 else V 7, fun k => C (4 + k), fun k => qs[k]!)
def c_add (PT : Nat → Option c_P) (a : Nat) (p : c_P) : Nat → Option c_P := fun b => if b = a then some p else PT b
section C84a
variable {ok : Nat → Prop} {Y : Nat → Nat} {h0 h h' : p_H} {V V' : Nat → Int} {C C' : Nat → Int → Int} {J J' : c_J} {F : Nat → Nat → Int32} {a : Nat} {p : c_P} {qs : List Nat} {e0 : p_E} {x : zSt} {N : Nat} {w w1 w2 : Int → Int} {s : Int}
theorem g_I.no (hI : g_I ok Y h0 (V, C, J) h) (ha : h a = none) : J.2.2 a = none := by
  cases e : J.2.2 a with
  | none => rfl
  | some p =>
    have := (hI.2.1 a p e).1
    rw [ha] at this
    cases this
theorem p_pi.row (hp : p_pi h h' F a (c_pfs p) qs) (hq : qs.length = 5) {k : Nat} (hk : k < 5) : h' (qs[k]!) = some (.inl (0, (c_pl k, .inl (F k)))) ∧ h (qs[k]!) = none ∧ qs[k]! ≠ a := by
  refine hp.2.2.1 k _ ?_
  rw [List.getElem!_eq_getElem?_getD, List.getElem?_eq_getElem (by omega)]
  rfl
theorem g_I.new (hI : g_I ok Y h0 (V, C, J) h) (ha : h a = none) (hp : p_pi (p_up h a e0) h' F a (c_pfs p) qs) (hq : qs.length = 5) (hF : ∀ k, k < 5 → p.2.2 k = qs[k]! ∧ F k = fun j : Nat => iI (p.2.1 k (j : Int))) : g_I ok Y h0 (V, C, (J.1, J.2.1, c_add J.2.2 a p)) h' := by
  have nw : ∀ {b : Nat} {e : p_E}, h b = some e → b ≠ a := fun {b e} hb z => by rw [z, ha] at hb; cases hb
  have key : ∀ {b : Nat} {e : p_E}, h b = some e → h' b = some e := fun {b e} hb => hp.old (by rw [p_up_ne (nw hb)]; exact hb) (nw hb)
  have nq : ∀ {b : Nat} {e : p_E} {k : Nat}, h b = some e → k < 5 → b ≠ qs[k]! := fun {b e k} hb hk z => by
    have h1 := (hp.row hq hk).2.1
    rw [← z, p_up_ne (nw hb), hb] at h1
    cases h1
  refine ⟨⟨fun i hi => key (hI.1.1 i hi), hI.1.2⟩, fun b q hb => ?_, fun q q0 q1 => ?_⟩
  · change c_add J.2.2 a p b = some q at hb
    unfold c_add at hb
    by_cases z : b = a
    · rw [if_pos z] at hb
      obtain rfl := Option.some.inj hb
      subst z
      refine ⟨hp.1, fun k hk => ?_, fun i hi => ⟨nw (hI.1.1 i hi), fun k hk => ?_⟩⟩
      · rw [(hF k hk).1, (hp.row hq hk).1, (hF k hk).2]
        rfl
      · rw [(hF k hk).1]; exact nq (hI.1.1 i hi) hk
    · rw [if_neg z] at hb
      have h1 := hI.2.1 b q hb
      exact ⟨key h1.1, fun k hk => key (h1.2.1 k hk), h1.2.2⟩
  · have h1 := hI.2.2 q q0 q1
    have h1' := h1.1
    rw [← h1'] at q0
    have kq : ∃ e', h q = some e' := by
      cases e : h q with
      | none => exact absurd e q0
      | some e' => exact ⟨e', rfl⟩
    obtain ⟨e', e⟩ := kq
    refine ⟨by rw [← h1', e]; exact key e, fun b p' hb => ?_⟩
    change c_add J.2.2 a p b = some p' at hb
    unfold c_add at hb
    by_cases z : b = a
    · rw [if_pos z] at hb
      obtain rfl := Option.some.inj hb
      exact ⟨fun y => nw e (y.symm.trans z), fun k hk y => nq e hk (y.symm.trans (hF k hk).1)⟩
    · rw [if_neg z] at hb
      exact h1.2 b p' hb
/-- the reader's pattern is that of the numbers -/
theorem cGot.pt (h : cGot V C x N) (hw : wNew x N w s) (hN : N = 6 * (zD (zLd x) N).1) : cPt (c_new V C qs) w s := by
  obtain ⟨⟨a1, a2, a3, a4⟩, ⟨b1, b2, b3, b4⟩, c1, d1, d2, d3⟩ := h
  have e0 : w (476 * s + 0) = x.1.1.1 := (hw.1 0 (by decide) (by decide) (by decide)).trans zRow_n
  have e5 := hw.2.1
  refine ⟨⟨a1.trans e0.symm, ?_, ?_, ?_, ?_, d1.trans e5.symm⟩, fun q q0 q1 => ?_, fun c c0 c1' => ⟨(c1.2 c c0 c1').1, fun q q0 => ?_⟩, fun t t0 t1 => ?_, fun t c t0 t1 c0 c1' => ?_⟩
  · exact a2.trans ((hw.1 4 (by decide) (by decide) (by decide)).trans zRow_lp).symm
  · exact b1.1.trans ((hw.1 1 (by decide) (by decide) (by decide)).trans zRow_e).symm
  · exact b1.2.1.trans ((hw.1 2 (by decide) (by decide) (by decide)).trans zRow_f).symm
  · exact b1.2.2.trans ((hw.1 3 (by decide) (by decide) (by decide)).trans zRow_l).symm
  · rw [e0] at q1
    rw [hw.1 (31 + q) (by omega) (by omega) (by omega), zRow_st a4.2 ⟨q0, q1⟩, hw.1 (6 + q) (by omega) (by omega) (by omega), zRow_fo a4.2 ⟨q0, q1⟩]
    exact ⟨(c1.1 q q0 q1).1, b2 q q0 (by omega)⟩
  · rw [e0]
    refine ((c1.2 c c0 c1').2 q q0).trans (and_congr_right (fun z => ?_))
    rw [hw.1 (31 + q) (by omega) (by omega) (by omega), zRow_st a4.2 z]
  · rw [hw.2.2.1 t t0 (by omega)]
    exact d2 t t0 (by omega)
  · have h1 := hw.2.2.2.2 (6 * t + c) (by omega) (by omega)
    rw [show 116 + 6 * t + c = 116 + (6 * t + c) by omega, h1]
    rw [show t * 6 + c = 6 * t + c by omega]
    exact d3 (6 * t + c) (by omega) (by omega)
theorem cPt.nw (h : cPt p w1 s) (h1 : wNew x N w1 s) (h2 : wNew x N w2 s) (hn : 0 ≤ x.1.1.1 ∧ x.1.1.1 ≤ 24) (hN : N = 6 * (zD (zLd x) N).1) : cPt p w2 s := by
  have e : ∀ k, 0 ≤ k → k < 56 → k ≠ 5 → w2 (476 * s + k) = w1 (476 * s + k) := fun k k0 k1 k5 => (h2.1 k k0 k1 k5).trans (h1.1 k k0 k1 k5).symm
  have e5 : w2 (476 * s + 5) = w1 (476 * s + 5) := h2.2.1.trans h1.2.1.symm
  have en : w1 (476 * s + 0) = x.1.1.1 := (h1.1 0 (by decide) (by decide) (by decide)).trans zRow_n
  have en5 := h1.2.1
  obtain ⟨a, b, c, d, f⟩ := h
  refine ⟨?_, fun q q0 q1 => ?_, fun c' c0 c1 => ⟨(c c' c0 c1).1, fun q q0 => ?_⟩, fun t t0 t1 => ?_, fun t c' t0 t1 c0 c1 => ?_⟩
  · rw [e 0 (by decide) (by decide) (by decide), e 4 (by decide) (by decide) (by decide), e 1 (by decide) (by decide) (by decide), e 2 (by decide) (by decide) (by decide), e 3 (by decide) (by decide) (by decide), e5]
    exact a
  · rw [e 0 (by decide) (by decide) (by decide)] at q1
    rw [e (31 + q) (by omega) (by omega) (by omega), e (6 + q) (by omega) (by omega) (by omega)]
    exact b q q0 q1
  · rw [e 0 (by decide) (by decide) (by decide)]
    refine ((c c' c0 c1).2 q q0).trans (and_congr_right (fun z => ?_))
    rw [e (31 + q) (by omega) (by omega) (by omega)]
  · rw [e5] at t1
    rw [h2.2.2.1 t t0 (by omega), ← h1.2.2.1 t t0 (by omega)]
    exact d t t0 t1
  · rw [e5] at t1
    have y2 := h2.2.2.2.2 (6 * t + c') (by omega) (by omega)
    have y1 := h1.2.2.2.2 (6 * t + c') (by omega) (by omega)
    have y3 := f t c' t0 t1 c0 c1
    rw [show 116 + 6 * t + c' = 116 + (6 * t + c') by omega] at y3 ⊢
    rw [y2, ← y1]
    exact y3
/-- numbers that hold the pattern -/
def wMad (x : zSt) (N : Nat) (w : Int → Int) (s : Int) : Int → Int := fun j => if 476 * s ≤ j ∧ j < 476 * s + 476 then (if j - 476 * s = 5 then ((zD (zLd x) N).1 : Int) else if j - 476 * s < 56 then zRow x (476 * 0 + (j - 476 * s)) else if j - 476 * s < 116 then (if j - 476 * s - 56 < ((zD (zLd x) N).1 : Int) then (zD (zLd x) N).2.1 (j - 476 * s - 56) else 0) else (zD (zLd x) N).2.2 (j - 476 * s - 116)) else w j
theorem wMad.nw (hN : N ≤ 360) (hc : (zD (zLd x) N).1 ≤ 60) : wNew x N (wMad x N w s) s := by
  refine ⟨fun k k0 k1 k5 => ?_, ?_, fun j j0 j1 => ?_, fun j j0 j1 => ?_, fun i i0 i1 => ?_⟩
  · unfold wMad
    rw [if_pos (by omega), if_neg (by omega), if_pos (by omega), show 476 * s + k - 476 * s = k by omega]
  · unfold wMad
    rw [if_pos (by omega), if_pos (by omega)]
  · unfold wMad
    rw [if_pos (by omega), if_neg (by omega), if_neg (by omega), if_pos (by omega), if_pos (by omega), show 476 * s + (56 + j) - 476 * s - 56 = j by omega]
  · unfold wMad
    rw [if_pos (by omega), if_neg (by omega), if_neg (by omega), if_pos (by omega), if_neg (by omega)]
  · unfold wMad
    rw [if_pos (by omega), if_neg (by omega), if_neg (by omega), if_neg (by omega), show 476 * s + (116 + i) - 476 * s - 116 = i by omega]
theorem wMad.ot {j : Int} (h : ¬ (476 * s + 0 ≤ j ∧ j < 476 * s + 476)) : wMad x N w s j = w j := if_neg (by omega)
theorem wRes_re (hs : s = 0 ∨ s = 1) (ho : ∀ j, ¬ (476 * s + 0 ≤ j ∧ j < 476 * s + 476) → w2 j = w1 j) {j : Int} (hj : ¬ (476 * s + 0 ≤ j ∧ j < 476 * s + 476)) : wRes w2 s j = wRes w1 s j := by
  unfold wRes
  rw [ho j hj, ho 952 (by omega)]
  by_cases z : 953 ≤ j
  · rw [ho (953 + 3 * ((j - 953) / 3) + 0) (by omega)]
  · rw [if_neg (fun y => z y.1), if_neg (fun y => z y.1)]
theorem wP.cgw {t : Int} {v v' : Int → Int} (hp : wP v t) (hv : ∀ j, 0 ≤ j → j < 476 → v' (476 * t + j) = v (476 * t + j)) : wP v' t := by
  obtain ⟨q1, q2, q3, q4, q5, q6⟩ := hp
  refine ⟨?_, ?_, fun k k0 k1 => ?_, ?_, fun p p0 p1 => ?_, fun t' c t0 t1 c0 c1 => ?_⟩
  · rw [hv 0 (by decide) (by decide)]; exact q1
  · rw [hv 1 (by decide) (by decide)]; exact q2
  · rw [hv k k0 (by omega)]; exact q3 k k0 k1
  · rw [hv 5 (by decide) (by decide)]; exact q4
  · rw [hv (31 + p) (by omega) (by omega)]; exact q5 p p0 p1
  · rw [hv 5 (by decide) (by decide)] at t1 ⊢
    rw [hv (116 + 6 * t' + c) (by omega) (by omega)]; exact q6 t' c t0 t1 c0 c1
/-- the world now, other numbers with the same pattern -/
theorem cNow.re (h : cNow V C J (wRes w1 s)) (hs : s = 0 ∨ s = 1) (h6 : 0 ≤ w1 952 ∧ w1 952 ≤ 6) (h1 : wNew x N w1 s) (h2 : wNew x N w2 s) (p1 : wP w1 s) (p2 : wP w2 s) (po : wP w1 (1 - s)) (hn : 0 ≤ x.1.1.1 ∧ x.1.1.1 ≤ 24) (hN : N = 6 * (zD (zLd x) N).1) (ho : ∀ j, ¬ (476 * s + 0 ≤ j ∧ j < 476 * s + 476) → w2 j = w1 j) : cNow V C J (wRes w2 s) := by
  have e : ∀ j, 952 ≤ j → wRes w2 s j = wRes w1 s j := fun j hj => wRes_re hs ho (by omega)
  have h62 : 0 ≤ w2 952 ∧ w2 952 ≤ 6 := by rw [ho 952 (by omega)]; exact h6
  have lo1 : ∀ j, j < 953 → wRes w1 s j = w1 j := fun j hj => wRes_lo h6 (Or.inl hj)
  have lo2 : ∀ j, j < 953 → wRes w2 s j = w2 j := fun j hj => wRes_lo h62 (Or.inl hj)
  have ps : ∀ p, cPt p (wRes w1 s) s → cPt p (wRes w2 s) s := fun p hp => by
    have y1 : cPt p w1 s := hp.cg (p1.cgw (fun j j0 j1 => lo1 _ (by omega))) (fun j j0 j1 => (lo1 _ (by omega)).symm)
    exact (y1.nw h1 h2 hn hN).cg p2 (fun j j0 j1 => lo2 _ (by omega))
  have pt : ∀ p, cPt p (wRes w1 s) (1 - s) → cPt p (wRes w2 s) (1 - s) := fun p hp => hp.cg (po.cgw (fun j j0 j1 => lo1 _ (by omega))) (fun j j0 j1 => wRes_re hs ho (by omega))
  obtain ⟨a, b, c, d, f⟩ := h
  refine ⟨?_, fun k k0 k1 => ?_, ⟨c.1, fun k k0 k1 => ?_, fun k k0 k1 => ?_⟩, ?_, ?_⟩
  · rw [e 983 (by decide), e 952 (by decide), e 984 (by decide)]; exact a
  · rw [e 952 (by decide)] at k1
    rw [e _ (by omega), e _ (by omega), e _ (by omega)]; exact b k k0 k1
  · rw [e _ (by omega)]; exact c.2.1 k k0 k1
  · rw [e _ (by omega)]; exact c.2.2 k k0 k1
  · obtain ⟨p, y1, y2⟩ := d
    refine ⟨p, y1, ?_⟩
    rcases hs with rfl | rfl
    · exact ps p y2
    · exact pt p y2
  · obtain ⟨p, y1, y2⟩ := f
    refine ⟨p, y1, ?_⟩
    rcases hs with rfl | rfl
    · exact pt p y2
    · exact ps p y2
end C84a
section C84
variable {G : p_G} {Y : Nat → Nat} {h0 : p_H} {P : (Option Value) ⊕ String → c_X → Prop} {d : Nat} {V : Nat → Int} {C : Nat → Int → Int} {J : c_J}
variable {w : Int → Int} {n : Int} {H : Int → Int → Int}
theorem u_newPat {k n : Nat} {L : p_LL} (h0L : L[0]? = some (some (.ref (Y 0)))) (hb : V 201 = 0 ∨ V 201 = 1) (kk : ∀ a qs, J.2.2 a = none → RW G mX10_compile (c_I Y h0) P (d + 2) k n 69 L [.ref a] (V, C, (J.1, J.2.1, c_add J.2.2 a (c_new V C qs)))) : RW G mX10_compile (c_I Y h0) P (d + 2) (k + 6) (n + 487) 58 L [] (V, C, J) := fun h hI => by
  refine r_new (k := k + 5) (n := n + 476) (N := 11) dX10_compile_58 nX10_25 (fun a ha => ?_)
  have ok : ∀ i, c_ok i → p_up h a (.inr (5, [.int 0, .int 0, .int 0, .int 0, .int 0, .int 0, .null, .null, .null, .null, .null])) (Y i) = some (c_cell Y (V, C, J) i) := fun i hi => by
    rw [p_up_ne (fun z => by have := hI.1.1 i hi; rw [z, ha] at this; cases this)]
    exact hI.1.1 i hi
  refine r_dup dX10_compile_61 rfl ?_
  refine r_aload_n dX10_compile_62 h0L ?_
  refine r_get dX10_compile_63 fX10_40.o (ok 0 (by decide)) rfl ?_
  refine r_callI (As := [.ref (Y 3)]) (mc := 5) (ms := 476) (k' := k) (n' := n) dX10_compile_66 cfX5_init rfl rfl imX5_init lX10_27 rfl rfl (Nat.le_of_ble_eq_true rfl) (Nat.add_comm _ _) (Nat.add_comm _ _) ?_
  refine p_patInit (Ya := fun k => Y (4 + k)) (F := fun k j => iI (C (4 + k) (j : Int))) (v5 := iI (V 5)) (v6 := iI (V 6)) (v7 := iI (V 7)) (v8 := iI (V 8)) (o := Y 100) (l := Y (100 + 4 * (V 9).toNat)) (c := Y (100 + 4 * 0 + 1)) (e := iI (V 201)) (f := iI (V 202)) (la := iI (V 203)) p_up_eq (ok 3 (by decide)) (ok 100 (by decide)) c_lf1 (ok (100 + 4 * 0 + 1) (by decide)) (fun k hk => ?_) (zb_nar hb) (zb_fit hb) (fun h' qs hq hp => ?_)
  · rcases (by omega : k = 0 ∨ k = 1 ∨ k = 2 ∨ k = 3 ∨ k = 4) with rfl | rfl | rfl | rfl | rfl
    · exact ok 4 (by decide)
    · exact ok 5 (by decide)
    · exact ok 6 (by decide)
    · exact ok 7 (by decide)
    · exact ok 8 (by decide)
  · exact kk a qs (g_I.no (g_I.c.mpr hI) ha) h' (g_I.c.mp ((g_I.c.mpr hI).new (p := c_new V C qs) ha hp hq (fun k hk => ⟨rfl, rfl⟩)))
theorem q_compile {s : Int} (hZ : p_Zs G) (hN : cNow V C J w) (hO : wOK w) (hH : cHs V C J n H) (h4 : 0 ≤ V 4 ∧ V 4 ≤ 200) (hB : ∀ j, 0 ≤ j → j < V 4 → 0 ≤ C 2 j ∧ C 2 j < 256) (h_s : -2147483648 ≤ s ∧ s < 2147483648) (hp1 : ¬ (s = 0 ∨ s = 1) → P (.inr "java/lang/IndexOutOfBoundsException") (V, C, J)) (hpE : (s = 0 ∨ s = 1) → ∀ V' C' kd off, zCE (C 2) (V 4) kd off → V' 1 = kd → V' 2 = off → V' 4 = 0 → (∀ i, (i = 0 ∨ i = 3 ∨ 10 ≤ i ∧ i < 200) → V' i = V i) → (∀ i, (i < 4 ∨ 9 ≤ i) → C' i = C i) → P (.inl (some (.int (iI (-1))))) (V', C', J)) (hpS : (s = 0 ∨ s = 1) → ∀ V' C' J' x N, zRn (C 2) (V 4) 0 zX0 = .inr x → zDone x N → V' 1 = 0 → V' 2 = -1 → V' 4 = 0 → (∀ w', wNew x N w' s → (∀ j, ¬ (476 * s + 0 ≤ j ∧ j < 476 * s + 476) → w' j = w j) → cNow V' C' J' (wRes w' s)) → cHs V' C' J' ((if n = 8 then 7 else n) + 1) (hPush n H w) → (∀ i, (i = 0 ∨ i = 3 ∨ 12 ≤ i ∧ i < 20 ∨ 28 ≤ i ∧ i < 36 ∨ 100 ≤ i ∧ i < 200) → V' i = V i) → (∀ i, (i < 4 ∨ 9 ≤ i ∧ i < 31 ∨ 34 ≤ i ∧ i < 39 ∨ 70 ≤ i) → C' i = C i) → (∀ q, q = 2 ∨ q = 3 → J'.2.1 q = J.2.1 q) → J'.1 = J.1 → (∀ a p, J.2.2 a = some p → J'.2.2 a = some p) → P (.inl (some (.int (iI x.1.1.1)))) (V', C', J')) : RM G mX10_compile (c_I Y h0) [.ref (Y 0), .int (iI s)] (d + 7) 7 493 P (V, C, J) := by
  refine RM.of (L := [some (.ref (Y 0)), some (.int (iI s)), none]) cfX10_compile rfl (Nat.le_of_ble_eq_true rfl) ?_
  refine i_iload_n dX10_compile_0 rfl ?_
  refine i_callS (mc := 1) (ms := 6) (k' := 6) (n' := 487) (As := [_]) dX10_compile_1 cfX10_checkSlot stX10_checkSlot lX10_108 rfl rfl (Nat.le_of_ble_eq_true rfl) rfl rfl ?_
  refine q_checkSlot hZ  (by omega) (fun g1 => RK.n0 ?_) (fun g1 => RK.x ?_)
  · -- case
    refine i_aload_n dX10_compile_4 rfl ?_
    refine i_aload_n dX10_compile_5 rfl ?_
    refine u_get (i := 0) (vv := .ref (Y (3))) dX10_compile_6 fX10_40.o (by decide) rfl rfl ?_
    refine i_aload_n dX10_compile_9 rfl ?_
    refine u_get (i := 0) (vv := .ref (Y (1))) dX10_compile_10 fX10_36.o (by decide) rfl rfl ?_
    refine u_callV (i := 3) (mc := 0) (ms := 0) (As := [_]) dX10_compile_13 cfX6_read imX6_read seX6_read lX10_21 (by decide) rfl rfl rfl rfl rfl (Nat.le_of_ble_eq_true rfl) (Nat.zero_add _).symm (Nat.zero_add _).symm ?_
    refine q_read h4 hB (fun V9 C9 kd z1 z2 z3 => RK.v ?_) (fun V9 C9 x N z1 z2 z3 z4 => RK.v ?_)
    · -- case
      refine u_put (i := 0) (kV := 1) dX10_compile_16 fX10_63 (by decide) rfl rfl rfl (Nat.le_of_ble_eq_true rfl) rfl rfl ?_
      refine i_aload_n dX10_compile_19 rfl ?_
      refine i_aload_n dX10_compile_20 rfl ?_
      refine u_get (i := 0) (vv := .int (iI (kd))) dX10_compile_21 fX10_63 (by decide) rfl rfl ?_
      refine i_if_ne (tgt := 31) dX10_compile_24 (by decide) (by omega) (fun c24 => ?_) (fun c24 => ?_)
      · -- jumps
        refine i_aload_n dX10_compile_31 rfl ?_
        refine u_get (i := 0) (vv := .ref (Y (3))) dX10_compile_32 fX10_40.o (by decide) rfl rfl ?_
        refine u_callV (i := 3) (mc := 0) (ms := 0) (As := []) dX10_compile_35 cfX6_errorOffset imX6_errorOffset seX6_errorOffset lX10_111 (by decide) rfl rfl rfl rfl rfl (Nat.le_of_ble_eq_true rfl) (Nat.zero_add _).symm (Nat.zero_add _).symm ?_
        refine q_errorOffset (RK.v ?_)
        refine u_put (i := 0) (kV := 2) dX10_compile_38 fX10_67 (by decide) rfl rfl rfl (Nat.le_of_ble_eq_true rfl) rfl rfl ?_
        refine i_aload_n dX10_compile_41 rfl ?_
        refine u_get (i := 0) (vv := .ref (Y (1))) dX10_compile_42 fX10_36.o (by decide) rfl rfl ?_
        refine i_const dX10_compile_45 ?_
        refine u_callV (i := 1) (mc := 0) (ms := 0) (As := [_]) dX10_compile_46 cfX1_shorten imX1_shorten seX1_shorten lX10_32 (by decide) rfl rfl rfl rfl rfl (Nat.le_of_ble_eq_true rfl) (Nat.zero_add _).symm (Nat.zero_add _).symm ?_
        refine q_shorten (n := 0) (RK.n0 ?_)
        refine i_aload_n dX10_compile_49 rfl ?_
        refine u_get (i := 0) (vv := .int (iI (kd))) dX10_compile_50 fX10_63 (by decide) rfl rfl ?_
        refine i_if_eq (tgt := 58) dX10_compile_53 (by decide) (by omega) (fun c53 => ?_) (fun c53 => ?_)
        · -- jumps
          exfalso; omega
        · -- on
          refine i_const dX10_compile_56 ?_
          refine i_ireturn dX10_compile_57 rfl rfl ?_
          refine hpE (by omega) _ _ kd (V9 8) z1 rfl rfl rfl (fun i hi => ?_) z3.2
          rw [vu_ne (by omega), vu_ne (by omega), vu_ne (by omega)]; exact z3.1 i (by omega)
      · -- on
        exfalso; omega
    · -- case
      refine u_put (i := 0) (kV := 1) dX10_compile_16 fX10_63 (by decide) rfl rfl rfl (Nat.le_of_ble_eq_true rfl) rfl rfl ?_
      refine i_aload_n dX10_compile_19 rfl ?_
      refine i_aload_n dX10_compile_20 rfl ?_
      refine u_get (i := 0) (vv := .int (iI (0))) dX10_compile_21 fX10_63 (by decide) rfl rfl ?_
      refine i_if_ne (tgt := 31) dX10_compile_24 (by decide) (by decide) (fun c24 => by omega) (fun c24 => ?_)
      refine i_const dX10_compile_27 ?_
      refine i_goto (tgt := 38) dX10_compile_28 (by decide) ?_
      refine u_put (i := 0) (kV := 2) dX10_compile_38 fX10_67 (by decide) rfl rfl rfl (Nat.le_of_ble_eq_true rfl) rfl rfl ?_
      refine i_aload_n dX10_compile_41 rfl ?_
      refine u_get (i := 0) (vv := .ref (Y (1))) dX10_compile_42 fX10_36.o (by decide) rfl rfl ?_
      refine i_const dX10_compile_45 ?_
      refine u_callV (i := 1) (mc := 0) (ms := 0) (As := [_]) dX10_compile_46 cfX1_shorten imX1_shorten seX1_shorten lX10_32 (by decide) rfl rfl rfl rfl rfl (Nat.le_of_ble_eq_true rfl) (Nat.zero_add _).symm (Nat.zero_add _).symm ?_
      refine q_shorten (n := 0) (RK.n0 ?_)
      refine i_aload_n dX10_compile_49 rfl ?_
      refine u_get (i := 0) (vv := .int (iI (0))) dX10_compile_50 fX10_63 (by decide) rfl rfl ?_
      refine i_if_eq (tgt := 58) dX10_compile_53 (by decide) (by decide) (fun c53 => ?_) (fun c53 => by omega)
      have hI := (zIv.got h4 z1).1
      have he := (zIv.got h4 z1).2.1
      have hlp := (zIv.got h4 z1).2.2
      have e9 : ∀ i, i ≠ 1 → i ≠ 2 → i ≠ 4 → (vu (vu (vu V9 1 0) 2 (-1)) 4 0) i = V9 i := fun i i1 i2 i4 => by rw [vu_ne i4, vu_ne i2, vu_ne i1]
      have hg : cGot (vu (vu (vu V9 1 0) 2 (-1)) 4 0) C9 x N := ⟨⟨z3.1.1, z3.1.2.1, z3.1.2.2.1, z3.1.2.2.2⟩, ⟨z3.2.1.1.cg (fun i i0 i1 => e9 i (by omega) (by omega) (by omega)), z3.2.1.2⟩, z3.2.2.1, z3.2.2.2⟩
      have hz2 : zDone x N := z2
      obtain ⟨dn1, dn2, dn3⟩ := hz2
      have hb201 : (vu (vu (vu V9 1 0) 2 (-1)) 4 0) 201 = 0 ∨ (vu (vu (vu V9 1 0) 2 (-1)) 4 0) 201 = 1 := by rw [show (vu (vu (vu V9 1 0) 2 (-1)) 4 0) 201 = bI (zEb x.1.2.2 x.2.1).2.1 from hg.2.1.1.1]; exact bI_or _
      have hO4 : ∀ i, (10 ≤ i ∧ i < 200) → (vu (vu (vu V9 1 0) 2 (-1)) 4 0) i = V i := fun i hi => (e9 i (by omega) (by omega) (by omega)).trans (z4.1 i (by omega))
      have w1 : wNew x N (wMad x N w s) s := wMad.nw (by omega) dn3
      refine u_newPat (k := 0) (n := 0) (d := d + 5) rfl hb201 (fun a qs ha => ?_)
      have hPT : ∀ a' p, J.2.2 a' = some p → c_add J.2.2 a (c_new (vu (vu (vu V9 1 0) 2 (-1)) 4 0) C9 qs) a' = some p := fun a' p hp => by
        unfold c_add
        rw [if_neg (fun z => by rw [z, ha] at hp; cases hp)]
        exact hp
      have hN9 : cNow (vu (vu (vu V9 1 0) 2 (-1)) 4 0) C9 (J.1, J.2.1, c_add J.2.2 a (c_new (vu (vu (vu V9 1 0) 2 (-1)) 4 0) C9 qs)) w := cWk.cg (x := 0) hN (fun i i0 i1 => hO4 i (by omega)) (fun i i0 i1 => z4.2 i (by omega)) ⟨rfl, rfl⟩ hPT
      have hH9 : cHs (vu (vu (vu V9 1 0) 2 (-1)) 4 0) C9 (J.1, J.2.1, c_add J.2.2 a (c_new (vu (vu (vu V9 1 0) 2 (-1)) 4 0) C9 qs)) n H := hH.cg (fun i hi => hO4 i (by omega)) (fun i i0 i1 => z4.2 i (by omega)) (fun _ _ _ => rfl) hPT
      refine i_astore_n dX10_compile_69 (L' := [some _, some _, some _]) (by decide) rfl ?_
      refine i_aload_n dX10_compile_70 rfl ?_
      refine u_get (i := 0) (vv := .ref (Y (9))) dX10_compile_71 fX10_56.o (by decide) rfl rfl ?_
      refine i_aload_n dX10_compile_74 rfl ?_
      refine u_get (i := 0) (vv := .ref (Y (30))) dX10_compile_75 fX10_49.o (by decide) rfl rfl ?_
      refine u_callV (i := 9) (mc := 0) (ms := 0) (As := [_]) dX10_compile_78 cfX0_remember imX0_remember seX0_remember lX10_113 (by decide) rfl rfl rfl rfl rfl (Nat.le_of_ble_eq_true rfl) (Nat.zero_add _).symm (Nat.zero_add _).symm ?_
      refine q_remember hN9 hO hH9 (fun V2 C2 J2 hn2 hh2 hf2 hj2 => RK.n0 ?_)
      have hpa : J2.2.2 a = some (c_new (vu (vu (vu V9 1 0) 2 (-1)) 4 0) C9 qs) := by rw [hj2]; exact if_pos rfl
      refine i_aload_n dX10_compile_81 rfl ?_
      refine u_get (i := 0) (vv := .ref (Y (30))) dX10_compile_82 fX10_49.o (by decide) rfl rfl ?_
      refine i_iload_n dX10_compile_85 rfl ?_
      refine i_aload_n dX10_compile_86 rfl ?_
      refine u_callV (i := 30) (mc := 0) (ms := 0) (As := [_, _]) dX10_compile_87 cfX9_putPattern imX9_putPattern seX9_putPattern lX10_117 (by decide) rfl rfl rfl rfl rfl (Nat.le_of_ble_eq_true rfl) (Nat.zero_add _).symm (Nat.zero_add _).symm ?_
      have hs : s = 0 ∨ s = 1 := by omega
      refine q_putPattern (w := w) (w' := wMad x N w s) hn2 hO hs hpa (hg.pt w1 dn1) (wNew.wP hI he z2 w1 hlp) (fun j hj => wMad.ot hj) (fun C3 J3 hn3 sc3 r3 j31 j32 => RK.n0 ?_)
      have hpa3 : J3.2.2 a = some (c_new (vu (vu (vu V9 1 0) 2 (-1)) 4 0) C9 qs) := by rw [j32]; exact hpa
      refine i_aload_n dX10_compile_90 rfl ?_
      refine u_getP (vv := .int (iI ((c_new (vu (vu (vu V9 1 0) 2 (-1)) 4 0) C9 qs).1 0))) hpa3 dX10_compile_91 fX10_121 rfl ?_
      refine i_ireturn dX10_compile_94 rfl rfl ?_
      rw [show (c_new (vu (vu (vu V9 1 0) 2 (-1)) 4 0) C9 qs).1 0 = x.1.1.1 from hg.1.1]
      refine hpS hs V2 C3 J3 x N z1 z2 ?_ ?_ ?_ (fun w' y1 y2 => ?_) (hh2.cg (fun i hi => rfl) (fun i i0 i1 => sc3 i (by simp only [List.mem_cons, List.not_mem_nil, or_false]; omega)) (fun q q0 q1 => r3 q (by omega)) (fun a' p hp => by rw [j32]; exact hp)) (fun i hi => ?_) (fun i hi => ?_) (fun q hq => ?_) ?_ (fun a' p hp => ?_)
      · rw [hf2.1 1 (by omega)]; rfl
      · rw [hf2.1 2 (by omega)]; rfl
      · rw [hf2.1 4 (by omega)]; rfl
      · have hpw := wNew.wP hI he z2 w1 hlp
        exact hn3.re hs (by rw [wMad.ot (by omega)]; exact hO.2.1) w1 y1 hpw (wNew.wP hI he z2 y1 hlp) ((hO.1 (1 - s) (by omega)).cgw (fun j j0 j1 => wMad.ot (by omega))) hI.1 dn1 (fun j hj => (y2 j hj).trans (wMad.ot hj).symm)
      · rw [hf2.1 i (by omega), e9 i (by omega) (by omega) (by omega)]; exact z4.1 i (by omega)
      · rw [sc3 i (by simp only [List.mem_cons, List.not_mem_nil, or_false]; omega), hf2.2.1 i (by omega)]; exact z4.2 i (by omega)
      · rw [r3 q (by omega)]; exact hf2.2.2.1 q hq
      · rw [j31]; exact hf2.2.2.2.1
      · rw [j32]; exact hf2.2.2.2.2 a' p (hPT a' p hp)
  · -- case
    exact hp1 (by omega)
end C84
