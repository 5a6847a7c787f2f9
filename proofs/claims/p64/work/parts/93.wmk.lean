/-! ===== the class: worlds, history, search, counts, classes are made ===== -/
section C93a
variable {G : p_G} {M : p_M} {P : p_P} {d k n pc : Nat} {h : p_H} {L : p_LL} {st : List Value}
theorem r_newaW {idx N : Nat} {x : Int32} (hd : decode M.2.1 pc = .ok (.anewarray idx, 3)) (hl : Cond.classLink M.1.cls idx RX9 ∈ p_ws) (hn : ¬ x < 0) (hN : x.toNatClampNeg = N) (hb8 : N ≤ 60000) (kk : ∀ q : Nat, h q = none → SW G M P d k n (p_up h q (.inl (5, (N, .inr (.inr (.inr (.inr (fun _ => none)))))))) (pc + 3) L (.ref q :: st)) : SW G M P d (k + 1) (n + N) h pc L (.int x :: st) := by
  intro p e R s m args below meth c H locs cells slots ls C B hS hR hL
  obtain ⟨hx, hb, hml, hret, hlk, hown, hnam, hE, hU⟩ := id C
  obtain ⟨ws, hP, hD, hw⟩ := id hR
  obtain ⟨b1, b2, b3, b4⟩ := B
  obtain ⟨⟨⟨aL, hL0⟩, -⟩, hW, -⟩ := id hU
  have hov : va_AO RX9 s := va_AO.moved hW.alike (va_AO.of (hL0 _ (p_t2 (List.mem_of_getElem? (i := 170) (by decide +kernel)))))
  refine va_newq (C := RX9) hx hb hown (hU.word hl args) hov hU.K hP hD hS (fun q hq => Nat.le_trans hU.2.2.1 hq) hn hN (by omega) (by omega) (by omega) hd (fun q cA H1 hK1 hP1 hD1 hS1 => ?_)
  have e1 := va_nmO (hK1.2 6 (cA, .object RX9) rfl).2 rfl
  have e2 := va_nmO (hU.K.2 5 (G.2.2.2 5, .object RX9) rfl).2 rfl
  have e3 : cA = G.2.2.2 5 := Option.some.inj (e1.symm.trans e2)
  subst e3
  obtain ⟨hn, hR1⟩ := p_R.push (e := .inl (5, (N, .inr (.inr (.inr (.inr (fun _ => none))))))) hw hP1 hD1
  exact kk q hn p e R s m args below meth c H1 locs (cells + 1) (slots + N) ls C ⟨b1, b2, by omega, by omega⟩ hS1 hR1 hL
theorem r_aastW {a v N : Nat} {f : Nat → Option Nat} {i : Int32} {fs : List Value} (hd : decode M.2.1 pc = .ok (.aastore, 1)) (ha : h a = some (.inl (5, (N, .inr (.inr (.inr (.inr f))))))) (hv : h v = some (.inr (9, fs))) (hi : vp_in i N) (kk : SW G M P d k n (p_up h a (.inl (5, (N, .inr (.inr (.inr (.inr (va_up f i.toNatClampNeg (some v))))))))) (pc + 1) L st) : SW G M P d k n h pc L (.ref v :: .int i :: .ref a :: st) := by
  intro p e R s m args below meth c H locs cells slots ls C B hS hR hL
  obtain ⟨hx, hb, -, -, -, hown, -, -, hU⟩ := id C
  obtain ⟨ws, hP, hD, hw⟩ := id hR
  obtain ⟨q0, hq⟩ := hw a _ ha
  obtain ⟨q1, hq1⟩ := hw v _ hv
  exact va_astq (ci := 9) hx hb hU.K hP hD hS q0 5 q1 hq rfl hq1 rfl hi hd (fun H1 locs1 hP1 hD1 hS1 => kk p e R s m args below meth c H1 locs1 cells slots ls C B hS1 (p_R.set (e := .inl (5, (N, .inr (.inr (.inr (.inr (va_up f i.toNatClampNeg (some v)))))))) hw hq hP1 hD1) hL)
end C93a
theorem lX0_9c : Cond.classLink RX0 9 RX9 ∈ p_ws := p_in (p_t2 (List.mem_of_getElem? (i := 169) (by decide +kernel))) rfl
def N9 : Nat → Value := fun i => if i = 3 ∨ i = 4 ∨ 7 ≤ i then .null else .int 0
def N3 : Nat → Value := fun i => if i < 4 then .null else .int 0
def N7 : Nat → Value := fun i => if i < 3 then .null else .int 0
def N8 : Nat → Value := fun _ => .null
def N0 : Nat → Value := fun i => if i < 1 then .null else .int 0
/-- the fields of a new world -/
def wdF (p3 p4 q1 q2 q3 : Nat) : Nat → Value := fun j => if j = 3 then .ref p3 else if j = 4 then .ref p4 else if j = 5 ∨ j = 6 then .int 63 else if j = 7 then .ref q1 else if j = 8 then .ref q2 else if j = 9 then .ref q3 else .int 0
section C93
variable {G : p_G} {P : p_P} {d k n : Nat} {h hb : p_H} {Y : Nat → Nat} {A : Nat → Option p_E} {a p3 p4 : Nat} {F : Nat → Value}
/-- a world's constructor -/
theorem q_ini9 {o : Nat} (H : hA hb h Y (eu A o (.inr (9, gl 10 N9)))) (hY : Y o = a) (hf : ∀ j, 1 ≤ j → j ≤ 3 → A (o + j) = none) (hp : ∀ q1 q2 q3 h', hA hb h' (yu (yu (yu Y (o + 1) q1) (o + 2) q2) (o + 3) q3) (eu (eu (eu (eu A (o + 1) (eI 6)) (o + 2) (eI 6)) (o + 3) (eI 6)) o (.inr (9, gl 10 (wdF p3 p4 q1 q2 q3)))) → P (.inl none) h') : SM G mX9_init h [.ref a, .ref p3, .ref p4] (d + 1) 3 18 P := by
  refine SM.of2 cfX9_init (L := [some (.ref a), some (.ref p3), some (.ref p4)]) rfl (Nat.le_of_ble_eq_true rfl) ?_
  refine r_aload_n dX9_init_0 rfl ?_
  refine r_objInit dX9_init_1 lX9_3 (Nat.le_of_ble_eq_true rfl) ?_
  refine r_aload_n dX9_init_4 rfl ?_
  refine r_bipush (v := 63) dX9_init_5 (by decide) ?_
  refine o_put H hY dX9_init_7 fX9_9 rfl rfl (by decide) (fun h1 H => ?_)
  refine r_aload_n dX9_init_10 rfl ?_
  refine r_bipush (v := 63) dX9_init_11 (by decide) ?_
  refine o_put H hY dX9_init_13 fX9_15 rfl rfl (by decide) (fun h2 H => ?_)
  refine r_aload_n dX9_init_16 rfl ?_
  refine r_bipush (v := 6) dX9_init_17 (by decide) ?_
  refine o_arrI (i := o + 1) (k := 2) (n := 12) (N := 6) H hY (hf 1 (by decide) (by decide)) (by omega) dX9_init_19 (by decide) (by decide) (by decide) dX9_init_21 fX9_18 rfl (by decide) (fun q1 h3 hY H => ?_)
  refine r_aload_n dX9_init_24 rfl ?_
  refine r_bipush (v := 6) dX9_init_25 (by decide) ?_
  refine o_arrI (i := o + 2) (k := 1) (n := 6) (N := 6) H hY (by rw [eu_ne (by omega)]; exact hf 2 (by decide) (by decide)) (by omega) dX9_init_27 (by decide) (by decide) (by decide) dX9_init_29 fX9_22 rfl (by decide) (fun q2 h4 hY H => ?_)
  refine r_aload_n dX9_init_32 rfl ?_
  refine r_bipush (v := 6) dX9_init_33 (by decide) ?_
  refine o_arrI (i := o + 3) (k := 0) (n := 0) (N := 6) H hY (by rw [eu_ne (by omega), eu_ne (by omega)]; exact hf 3 (by decide) (by decide)) (by omega) dX9_init_35 (by decide) (by decide) (by decide) dX9_init_37 fX9_25 rfl (by decide) (fun q3 h5 hY H => ?_)
  refine r_aload_n dX9_init_40 rfl ?_
  refine r_aload_n dX9_init_41 rfl ?_
  refine o_put H hY dX9_init_42 fX9_28 rfl rfl (by decide) (fun h6 H => ?_)
  refine r_aload_n dX9_init_45 rfl ?_
  refine r_aload_n dX9_init_46 rfl ?_
  refine o_put H hY dX9_init_47 fX9_32 rfl rfl (by decide) (fun h7 H => ?_)
  refine r_return dX9_init_50 rfl (hp q1 q2 q3 h7 ?_)
  rw [show gl 10 (wdF p3 p4 q1 q2 q3) = gl 10 _ from gl_cg (F' := fu (fu (fu (fu (fu (fu (fu N9 5 (.int 63)) 6 (.int 63)) 7 (.ref q1)) 8 (.ref q2)) 9 (.ref q3)) 3 (.ref p3)) 4 (.ref p4)) (fun j hj => by
    rcases (by omega : j = 0 ∨ j = 1 ∨ j = 2 ∨ j = 3 ∨ j = 4 ∨ j = 5 ∨ j = 6 ∨ j = 7 ∨ j = 8 ∨ j = 9) with rfl | rfl | rfl | rfl | rfl | rfl | rfl | rfl | rfl | rfl <;> rfl)]
  exact H
theorem q_ini3 (H : hA hb h Y (eu A 11 (.inr (3, gl 5 N3)))) (hY : Y 11 = a) (hf : ∀ j, 12 ≤ j → j ≤ 15 → A j = none) (hp : ∀ q1 q2 q3 q4 h', hA hb h' (yu (yu (yu (yu Y 12 q1) 13 q2) 14 q3) 15 q4) (eu (eu (eu (eu (eu A 12 (.inl (2, (3600, .inl (fun _ => 0))))) 13 (eI 3600)) 14 (eI 3600)) 15 (eI 3600)) 11 (.inr (3, gl 5 (fu (fu (fu (fu N3 0 (.ref q1)) 1 (.ref q2)) 2 (.ref q3)) 3 (.ref q4))))) → P (.inl none) h') : SM G mX3_init h [.ref a] (d + 1) 4 14400 P := by
  refine SM.of2 cfX3_init (L := [some (.ref a)]) rfl (Nat.le_of_ble_eq_true rfl) ?_
  refine r_aload_n dX3_init_0 rfl ?_
  refine r_objInit dX3_init_1 lX3_3 (Nat.le_of_ble_eq_true rfl) ?_
  refine r_aload_n dX3_init_4 rfl ?_
  refine r_sipush (v := 3600) dX3_init_5 (by decide) ?_
  refine o_arrZ (i := 12) (k := 3) (n := 10800) (N := 3600) H hY (hf 12 (by decide) (by decide)) (by decide) dX3_init_8 (by decide) (by decide) (by decide) dX3_init_10 fX3_9 rfl (by decide) (fun q1 h3 hY H => ?_)
  refine r_aload_n dX3_init_13 rfl ?_
  refine r_sipush (v := 3600) dX3_init_14 (by decide) ?_
  refine o_arrI (i := 13) (k := 2) (n := 7200) (N := 3600) H hY (by rw [eu_ne (by decide)]; exact hf 13 (by decide) (by decide)) (by decide) dX3_init_17 (by decide) (by decide) (by decide) dX3_init_19 fX3_15 rfl (by decide) (fun q2 h4 hY H => ?_)
  refine r_aload_n dX3_init_22 rfl ?_
  refine r_sipush (v := 3600) dX3_init_23 (by decide) ?_
  refine o_arrI (i := 14) (k := 1) (n := 3600) (N := 3600) H hY (by rw [eu_ne (by decide), eu_ne (by decide)]; exact hf 14 (by decide) (by decide)) (by decide) dX3_init_26 (by decide) (by decide) (by decide) dX3_init_28 fX3_19 rfl (by decide) (fun q3 h5 hY H => ?_)
  refine r_aload_n dX3_init_31 rfl ?_
  refine r_sipush (v := 3600) dX3_init_32 (by decide) ?_
  refine o_arrI (i := 15) (k := 0) (n := 0) (N := 3600) H hY (by rw [eu_ne (by decide), eu_ne (by decide), eu_ne (by decide)]; exact hf 15 (by decide) (by decide)) (by decide) dX3_init_35 (by decide) (by decide) (by decide) dX3_init_37 fX3_22 rfl (by decide) (fun q4 h6 hY H => ?_)
  exact r_return dX3_init_40 rfl (hp q1 q2 q3 q4 h6 H)
theorem q_ini7 (H : hA hb h Y (eu A 18 (.inr (7, gl 4 N7)))) (hY : Y 18 = a) (hf : ∀ j, 19 ≤ j → j ≤ 21 → A j = none) (hp : ∀ q1 q2 q3 h', hA hb h' (yu (yu (yu Y 19 q1) 20 q2) 21 q3) (eu (eu (eu (eu A 19 (eI 60)) 20 (eI 60)) 21 (eI 60)) 18 (.inr (7, gl 4 (fu (fu (fu N7 0 (.ref q1)) 1 (.ref q2)) 2 (.ref q3))))) → P (.inl none) h') : SM G mX7_init h [.ref a] (d + 1) 3 180 P := by
  refine SM.of2 cfX7_init (L := [some (.ref a)]) rfl (Nat.le_of_ble_eq_true rfl) ?_
  refine r_aload_n dX7_init_0 rfl ?_
  refine r_objInit dX7_init_1 lX7_3 (Nat.le_of_ble_eq_true rfl) ?_
  refine r_aload_n dX7_init_4 rfl ?_
  refine r_bipush (v := 60) dX7_init_5 (by decide) ?_
  refine o_arrI (i := 19) (k := 2) (n := 120) (N := 60) H hY (hf 19 (by decide) (by decide)) (by decide) dX7_init_7 (by decide) (by decide) (by decide) dX7_init_9 fX7_9 rfl (by decide) (fun q1 h3 hY H => ?_)
  refine r_aload_n dX7_init_12 rfl ?_
  refine r_bipush (v := 60) dX7_init_13 (by decide) ?_
  refine o_arrI (i := 20) (k := 1) (n := 60) (N := 60) H hY (by rw [eu_ne (by decide)]; exact hf 20 (by decide) (by decide)) (by decide) dX7_init_15 (by decide) (by decide) (by decide) dX7_init_17 fX7_15 rfl (by decide) (fun q2 h4 hY H => ?_)
  refine r_aload_n dX7_init_20 rfl ?_
  refine r_bipush (v := 60) dX7_init_21 (by decide) ?_
  refine o_arrI (i := 21) (k := 0) (n := 0) (N := 60) H hY (by rw [eu_ne (by decide), eu_ne (by decide)]; exact hf 21 (by decide) (by decide)) (by decide) dX7_init_23 (by decide) (by decide) (by decide) dX7_init_25 fX7_18 rfl (by decide) (fun q3 h5 hY H => ?_)
  exact r_return dX7_init_28 rfl (hp q1 q2 q3 h5 H)
theorem q_ini8 (H : hA hb h Y (eu A 16 (.inr (8, gl 1 N8)))) (hY : Y 16 = a) (hf : A 17 = none) (hp : ∀ q h', hA hb h' (yu Y 17 q) (eu (eu A 17 (.inl (1, (1260, .inr (.inl (fun _ => 0)))))) 16 (.inr (8, gl 1 (fu N8 0 (.ref q))))) → P (.inl none) h') : SM G mX8_init h [.ref a] (d + 1) 1 1260 P := by
  refine SM.of2 cfX8_init (L := [some (.ref a)]) rfl (Nat.le_of_ble_eq_true rfl) ?_
  refine r_aload_n dX8_init_0 rfl ?_
  refine r_objInit dX8_init_1 lX8_3 (Nat.le_of_ble_eq_true rfl) ?_
  refine r_aload_n dX8_init_4 rfl ?_
  refine r_sipush (v := 1260) dX8_init_5 (by decide) ?_
  refine o_arrJ (i := 17) (k := 0) (n := 0) (N := 1260) H hY hf (by decide) dX8_init_8 (by decide) (by decide) (by decide) dX8_init_10 fX8_9 rfl (by decide) (fun q h2 y H => ?_)
  exact r_return dX8_init_13 rfl (hp q h2 H)
end C93
