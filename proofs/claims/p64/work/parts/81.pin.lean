/-! ===== rows copied anew, casts; a pattern is made ===== -/
section C81
variable {G : p_G} {M : p_M} {P : p_P} {d k n pc : Nat} {h : p_H} {L : p_LL} {st : List Value}
abbrev cloneN : MethodName := ⟨"[I", "clone", "()Ljava/lang/Object;"⟩
theorem r_clone {idx a N : Nat} {f : Nat → Int32} (hd : decode M.2.1 pc = .ok (.invokevirtual idx, 3)) (hl : Cond.methodLink M.1.cls idx cloneN ∈ p_ws) (ha : h a = some (.inl (0, (N, .inl f)))) (hr : (st.map fun v => v.category).sum ≤ 8) (kk : ∀ q : Nat, h q = none → SW G M P (d + 1) k n (p_up h q (.inl (0, (N, .inl f)))) (pc + 3) L (.ref q :: st)) : SW G M P (d + 1) (k + 1) (n + N) h pc L (.ref a :: st) := by
  intro p e R s m args below meth c H locs cells slots ls C B hS hR hL
  obtain ⟨hx, hbb, hml, -, -, hown, -, -, hU⟩ := id C
  obtain ⟨ws, hP, hD, hw⟩ := id hR
  obtain ⟨q0, hq0⟩ := hw a _ ha
  obtain ⟨b1, b2, b3, b4⟩ := id B
  have w1 : (Cond.sameMethod "[I" "java/lang/Object" "clone" "()Ljava/lang/Object;").before args s = true := hU.word (p_in (p_t2 (List.mem_of_getElem? (i := 71) (by decide +kernel))) rfl) args
  have w2 : (Cond.native ⟨"java/lang/Object", "clone", "()Ljava/lang/Object;"⟩).before args s = true := hU.word (p_in (p_t2 (List.mem_of_getElem? (i := 72) (by decide +kernel))) rfl) args
  have w3 : (Cond.instanceMethod ⟨"java/lang/Object", "clone", "()Ljava/lang/Object;"⟩).before args s = true := hU.word (p_in (p_t2 (List.mem_of_getElem? (i := 73) (by decide +kernel))) rfl) args
  have w4 : (Cond.selects "[I" cloneN ⟨"java/lang/Object", "clone", "()Ljava/lang/Object;"⟩).before args s = true := hU.word (p_in (p_t2 (List.mem_of_getElem? (i := 74) (by decide +kernel))) rfl) args
  obtain ⟨⟨⟨aL, hL0⟩, -⟩, hW, -⟩ := id hU
  have w5 : va_Nw (Cond.castable "[I" "java/lang/Cloneable") s := va_Nw.warmC hW (va_Nw.of rfl (hL0 _ (p_t2 (List.mem_of_getElem? (i := 75) (by decide +kernel)))))
  refine va_clone (ad := "[I") hx hbb (hml.trans hL.1.symm) hown (hU.word hl args) w1 w2 w3 w4 w5 hU.K hP hD hS (fun q hq => Nat.le_trans hU.2.2.1 hq) q0 0 hq0 rfl (hU.K.2 0 (G.2.2.2 0, .int) rfl).2 (fun i v hv => va_fit (F := fun j => .int (f j)) (fun _ _ => rfl) i v hv) (by omega) (by omega) (by omega) (by show _ + N ≤ _; omega) hd (fun q H1 hK1 hP1 hD1 hS1 => ?_)
  obtain ⟨hn, hR1⟩ := p_R.push (e := .inl (0, (N, .inl f))) hw hP1 hD1
  exact kk q hn p e R s m args below meth c H1 locs (cells + 1) (slots + N) ls C ⟨b1, b2, by omega, by show _ + N + n ≤ _; omega⟩ hS1 hR1 hL
theorem r_castI {idx a N : Nat} {f : Nat → Int32} (hd : decode M.2.1 pc = .ok (.checkcast idx, 3)) (hl : Cond.classLink M.1.cls idx "[I" ∈ p_ws) (ha : h a = some (.inl (0, (N, .inl f)))) (kk : SW G M P d k n h (pc + 3) L (.ref a :: st)) : SW G M P d k n h pc L (.ref a :: st) := by
  intro p e R s m args below meth c H locs cells slots ls C B hS hR hL
  obtain ⟨hx, hbb, hml, -, -, hown, -, -, hU⟩ := id C
  obtain ⟨ws, hP, hD, hw⟩ := id hR
  obtain ⟨q0, hq0⟩ := hw a _ ha
  exact va_castA (nm := "[I") hx hbb hown (hU.word hl args) hP q0 hq0 (hU.K.2 0 (G.2.2.2 0, .int) rfl).2 hd (kk p e R s m args below meth c H locs cells slots ls C B hS hR hL)
end C81
theorem lX5_49 : Cond.methodLink RX5 49 cloneN ∈ p_ws := p_in (p_t2 (List.mem_of_getElem? (i := 70) (by decide +kernel))) rfl
theorem lX5_50 : Cond.classLink RX5 50 "[I" ∈ p_ws := p_in (p_t2 (List.mem_of_getElem? (i := 76) (by decide +kernel))) rfl
/-- a pattern half made: its fields, its rows so far -/
def p_pi (h h' : p_H) (F : Nat → Nat → Int32) (a : Nat) (fs : List Value) (qs : List Nat) : Prop := h' a = some (.inr (5, fs)) ∧ (∀ b, b ≠ a → b ∉ qs → h' b = h b) ∧ (∀ k q : Nat, qs[k]? = some q → h' q = some (.inl (0, (c_pl k, .inl (F k)))) ∧ h q = none ∧ q ≠ a) ∧ ∀ i j q : Nat, qs[i]? = some q → qs[j]? = some q → i = j
section C81b
variable {h h' : p_H} {F : Nat → Nat → Int32} {a b q : Nat} {fs : List Value} {qs : List Nat} {e : p_E}
theorem p_pi.old (hp : p_pi h h' F a fs qs) (hb : h b = some e) (hn : b ≠ a) : h' b = some e := by
  rw [hp.2.1 b hn (fun z => by
    obtain ⟨k, hk⟩ := List.getElem?_of_mem z
    have := (hp.2.2.1 k b hk).2.1
    rw [hb] at this
    cases this)]
  exact hb
theorem p_pi.pu {j : Nat} {v : Value} (hp : p_pi h h' F a fs qs) : p_pi h (p_up h' a (.inr (5, fs.set j v))) F a (fs.set j v) qs :=
  ⟨p_up_eq, fun b hb hq => by rw [p_up_ne hb]; exact hp.2.1 b hb hq, fun k q hk => ⟨by rw [p_up_ne (hp.2.2.1 k q hk).2.2]; exact (hp.2.2.1 k q hk).1, (hp.2.2.1 k q hk).2⟩, hp.2.2.2⟩
theorem p_pi.cl (hp : p_pi h h' F a fs qs) (hq : h' q = none) {k : Nat} (hk : qs.length = k) : p_pi h (p_up h' q (.inl (0, (c_pl k, .inl (F k))))) F a fs (qs ++ [q]) := by
  have qa : q ≠ a := fun z => by rw [z, hp.1] at hq; cases hq
  have qn : ∀ i : Nat, qs[i]? ≠ some q := fun i hi => by rw [(hp.2.2.1 i q hi).1] at hq; cases hq
  have qm : q ∉ qs := fun z => by
    obtain ⟨i, hi⟩ := List.getElem?_of_mem z
    exact qn i hi
  have hg : ∀ (i : Nat) (x : Nat), (qs ++ [q])[i]? = some x → (i < k ∧ qs[i]? = some x) ∨ (i = k ∧ x = q) := fun i x hx => by
    by_cases z : i < qs.length
    · rw [List.getElem?_append_left z] at hx
      exact Or.inl ⟨hk ▸ z, hx⟩
    · rw [List.getElem?_append_right (by omega)] at hx
      have hz : i - qs.length < 1 := (List.getElem?_eq_some_iff.mp hx).1
      rw [show i - qs.length = 0 by omega] at hx
      exact Or.inr ⟨by omega, (Option.some.inj hx).symm⟩
  refine ⟨by rw [p_up_ne (Ne.symm qa)]; exact hp.1, fun b hb hm => ?_, fun i x hx => ?_, fun i j x hi hj => ?_⟩
  · have b1 : b ≠ q := fun z => hm (by rw [z]; exact List.mem_append_right _ List.mem_cons_self)
    rw [p_up_ne b1]
    exact hp.2.1 b hb (fun z => hm (List.mem_append_left _ z))
  · rcases hg i x hx with ⟨_, z⟩ | ⟨z, y⟩
    · have z1 := hp.2.2.1 i x z
      refine ⟨?_, z1.2⟩
      rw [p_up_ne (fun y : x = q => qn i (y ▸ z))]
      exact z1.1
    · subst z; subst y
      refine ⟨p_up_eq, ?_, qa⟩
      rw [← hp.2.1 x qa qm]
      exact hq
  · rcases hg i x hi with ⟨_, z⟩ | ⟨z, y⟩ <;> rcases hg j x hj with ⟨_, z'⟩ | ⟨z', y'⟩
    · exact hp.2.2.2 i j x z z'
    · exact absurd (y' ▸ z) (qn i)
    · exact absurd (y ▸ z') (qn j)
    · omega
end C81b
section C81c
variable {G : p_G} {P : p_P} {d : Nat} {h : p_H} {a r o l c : Nat} {Ya : Nat → Nat} {F : Nat → Nat → Int32} {v5 v6 v7 v8 e f la : Int32} {lf : List Value}
def p_fr (e f la v5 v6 v7 : Int32) (qs : List Nat) : List Value := [.int v5, .int v6, .int e, .int f, .int la, .int v7, .ref qs[0]!, .ref qs[1]!, .ref qs[2]!, .ref qs[3]!, .ref qs[4]!]
theorem p_patInit (ha : h a = some (.inr (5, [.int 0, .int 0, .int 0, .int 0, .int 0, .int 0, .null, .null, .null, .null, .null]))) (hr : h r = some (.inr (6, [.ref (Ya 0), .ref (Ya 1), .ref (Ya 2), .ref (Ya 3), .ref (Ya 4), .int v5, .int v6, .int v7, .int v8, .ref o, .ref l]))) (hl : h o = some (.inr (2, lf))) (hlc : lf[2]? = some (.ref c)) (hc : h c = some (.inr (4, [.int e, .int f, .int la]))) (hy : ∀ k, k < 5 → h (Ya k) = some (.inl (0, (c_pl k, .inl (F k))))) (hnr : narrow .boolean (.int e) = .int e) (hft : fits .boolean (.int e) = true) (hfin : ∀ h' qs, qs.length = 5 → p_pi h h' F a (p_fr e f la v5 v6 v7 qs) qs → P (.inl none) h') : SM G mX5_init h [.ref a, .ref r] (d + 1) 5 476 P := by
  have nr : ∀ {b : Nat} {x : p_E}, h b = some x → x.elim (fun _ => True) (fun y => y.1 ≠ 5) → b ≠ a := fun {b x} hb hx z => by
    rw [z, ha] at hb
    cases hb
    exact hx rfl
  have n1 := nr hr (show _ ≠ _ from Nat.ne_of_beq_eq_false rfl)
  have n2 := nr hl (show _ ≠ _ from Nat.ne_of_beq_eq_false rfl)
  have n3 := nr hc (show _ ≠ _ from Nat.ne_of_beq_eq_false rfl)
  have n4 : ∀ k, k < 5 → Ya k ≠ a := fun k hk => nr (hy k hk) trivial
  refine SM.of2 cfX5_init (L := [some (.ref a), some (.ref r), none]) rfl (Nat.le_of_ble_eq_true rfl) ?_
  refine r_aload_n dX5_init_0 rfl ?_
  refine r_objInit dX5_init_1 lX5_3 (Nat.le_of_ble_eq_true rfl) ?_
  refine r_aload_n dX5_init_4 rfl ?_
  refine r_callV (As := []) (mc := 0) (ms := 0) (ci := 6) dX5_init_5 cfX6_whole imX6_whole seX6_whole lX5_9 hr rfl rfl rfl rfl (Nat.le_of_ble_eq_true rfl) (Nat.zero_add _).symm (Nat.zero_add _).symm ?_
  refine SM.of2 cfX6_whole (L := [some (.ref r)]) rfl (Nat.le_of_ble_eq_true rfl) ?_
  refine r_aload_n dX6_whole_0 rfl ?_
  refine r_get dX6_whole_1 fX6_32.o hr rfl ?_
  refine r_get dX6_whole_4 fX6_47 hl hlc ?_
  refine r_areturn dX6_whole_7 rfl (Or.inl ⟨_, rfl⟩) (Or.inr ⟨_, rfl⟩) ?_
  refine (show SW G mX5_init P (d + 1) 5 476 h 8 [some (.ref a), some (.ref r), none] [.ref c] from ?_)
  refine r_astore_n dX5_init_8 (L' := [some _, some _, some _]) (by decide) rfl ?_
  have hp : p_pi h h F a _ [] := ⟨ha, fun _ _ _ => rfl, fun k q hk => (nomatch hk), fun i j q hi => (nomatch hi)⟩
  refine r_aload_n dX5_init_9 rfl ?_
  refine r_aload_n dX5_init_10 rfl ?_
  refine r_get dX5_init_11 fX5_15 (hp.old hr n1) rfl ?_
  refine r_putF dX5_init_14 fX5_19 rfl hp.1 rfl rfl (Nat.le_of_ble_eq_true rfl) ?_
  have hp := p_pi.pu (j := 0) (v := .int v5) hp
  refine r_aload_n dX5_init_17 rfl ?_
  refine r_aload_n dX5_init_18 rfl ?_
  refine r_get dX5_init_19 fX5_22 (hp.old hr n1) rfl ?_
  refine r_putF dX5_init_22 fX5_25 rfl hp.1 rfl rfl (Nat.le_of_ble_eq_true rfl) ?_
  have hp := p_pi.pu (j := 1) (v := .int v6) hp
  refine r_aload_n dX5_init_25 rfl ?_
  refine r_aload_n dX5_init_26 rfl ?_
  refine r_get dX5_init_27 fX5_26 (hp.old hc n3) rfl ?_
  refine r_putF dX5_init_30 fX5_32 rfl hp.1 hnr hft (Nat.le_of_ble_eq_true rfl) ?_
  have hp := p_pi.pu (j := 2) (v := .int e) hp
  refine r_aload_n dX5_init_33 rfl ?_
  refine r_aload_n dX5_init_34 rfl ?_
  refine r_get dX5_init_35 fX5_33 (hp.old hc n3) rfl ?_
  refine r_putF dX5_init_38 fX5_36 rfl hp.1 rfl rfl (Nat.le_of_ble_eq_true rfl) ?_
  have hp := p_pi.pu (j := 3) (v := .int f) hp
  refine r_aload_n dX5_init_41 rfl ?_
  refine r_aload_n dX5_init_42 rfl ?_
  refine r_get dX5_init_43 fX5_37 (hp.old hc n3) rfl ?_
  refine r_putF dX5_init_46 fX5_40 rfl hp.1 rfl rfl (Nat.le_of_ble_eq_true rfl) ?_
  have hp := p_pi.pu (j := 4) (v := .int la) hp
  refine r_aload_n dX5_init_49 rfl ?_
  refine r_aload_n dX5_init_50 rfl ?_
  refine r_get dX5_init_51 fX5_41 (hp.old hr n1) rfl ?_
  refine r_putF dX5_init_54 fX5_44 rfl hp.1 rfl rfl (Nat.le_of_ble_eq_true rfl) ?_
  have hp := p_pi.pu (j := 5) (v := .int v7) hp
  refine r_aload_n dX5_init_57 rfl ?_
  refine r_aload_n dX5_init_58 rfl ?_
  refine r_get dX5_init_59 fX5_45 (hp.old hr n1) rfl ?_
  refine r_clone (k := 4) (n := 451) (N := 25) dX5_init_62 lX5_49 (hp.old (hy 0 (by decide)) (n4 0 (by decide))) (Nat.le_of_ble_eq_true rfl) (fun q0 hq0 => ?_)
  have hp := hp.cl hq0 (k := 0) rfl
  refine r_castI dX5_init_65 lX5_50 p_up_eq ?_
  refine r_putF dX5_init_68 fX5_54 rfl hp.1 rfl rfl (Nat.le_of_ble_eq_true rfl) ?_
  have hp := p_pi.pu (j := 6) (v := .ref q0) hp
  refine r_aload_n dX5_init_71 rfl ?_
  refine r_aload_n dX5_init_72 rfl ?_
  refine r_get dX5_init_73 fX5_55 (hp.old hr n1) rfl ?_
  refine r_clone (k := 3) (n := 426) (N := 25) dX5_init_76 lX5_49 (hp.old (hy 1 (by decide)) (n4 1 (by decide))) (Nat.le_of_ble_eq_true rfl) (fun q1 hq1 => ?_)
  have hp := hp.cl hq1 (k := 1) rfl
  refine r_castI dX5_init_79 lX5_50 p_up_eq ?_
  refine r_putF dX5_init_82 fX5_58 rfl hp.1 rfl rfl (Nat.le_of_ble_eq_true rfl) ?_
  have hp := p_pi.pu (j := 7) (v := .ref q1) hp
  refine r_aload_n dX5_init_85 rfl ?_
  refine r_aload_n dX5_init_86 rfl ?_
  refine r_get dX5_init_87 fX5_59 (hp.old hr n1) rfl ?_
  refine r_clone (k := 2) (n := 420) (N := 6) dX5_init_90 lX5_49 (hp.old (hy 2 (by decide)) (n4 2 (by decide))) (Nat.le_of_ble_eq_true rfl) (fun q2 hq2 => ?_)
  have hp := hp.cl hq2 (k := 2) rfl
  refine r_castI dX5_init_93 lX5_50 p_up_eq ?_
  refine r_putF dX5_init_96 fX5_62 rfl hp.1 rfl rfl (Nat.le_of_ble_eq_true rfl) ?_
  have hp := p_pi.pu (j := 8) (v := .ref q2) hp
  refine r_aload_n dX5_init_99 rfl ?_
  refine r_aload_n dX5_init_100 rfl ?_
  refine r_get dX5_init_101 fX5_63 (hp.old hr n1) rfl ?_
  refine r_clone (k := 1) (n := 360) (N := 60) dX5_init_104 lX5_49 (hp.old (hy 3 (by decide)) (n4 3 (by decide))) (Nat.le_of_ble_eq_true rfl) (fun q3 hq3 => ?_)
  have hp := hp.cl hq3 (k := 3) rfl
  refine r_castI dX5_init_107 lX5_50 p_up_eq ?_
  refine r_putF dX5_init_110 fX5_66 rfl hp.1 rfl rfl (Nat.le_of_ble_eq_true rfl) ?_
  have hp := p_pi.pu (j := 9) (v := .ref q3) hp
  refine r_aload_n dX5_init_113 rfl ?_
  refine r_aload_n dX5_init_114 rfl ?_
  refine r_get dX5_init_115 fX5_67 (hp.old hr n1) rfl ?_
  refine r_clone (k := 0) (n := 0) (N := 360) dX5_init_118 lX5_49 (hp.old (hy 4 (by decide)) (n4 4 (by decide))) (Nat.le_of_ble_eq_true rfl) (fun q4 hq4 => ?_)
  have hp := hp.cl hq4 (k := 4) rfl
  refine r_castI dX5_init_121 lX5_50 p_up_eq ?_
  refine r_putF dX5_init_124 fX5_70 rfl hp.1 rfl rfl (Nat.le_of_ble_eq_true rfl) ?_
  have hp := p_pi.pu (j := 10) (v := .ref q4) hp
  refine r_return dX5_init_127 rfl ?_
  exact hfin _ [q0, q1, q2, q3, q4] rfl hp
end C81c
