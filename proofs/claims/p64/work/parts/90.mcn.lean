/-! ===== the reference: its constructor ===== -/
theorem SW.mono {G : p_G} {M : p_M} {P P' : p_P} {d k n : Nat} {h : p_H} {pc : Nat} {L : p_LL} {st : List Value} (kk : SW G M P' d k n h pc L st) (hP : ∀ o h', P' o h' → P o h') : SW G M P d k n h pc L st := by
  intro p e R s m args below meth c H locs cells slots ls C B hS hR hL T hT X
  obtain ⟨t, a1, o, b1, b2, b3⟩ := kk p e R s m args below meth c H locs cells slots ls C B hS hR hL T hT X
  refine ⟨t, a1, o, b1, b2, ?_⟩
  rcases b3 with ⟨⟨v, h', q1, q2, q3, q4⟩, hL⟩ | ⟨q, q0, E, ce, L, ⟨h', q2, q3, q4⟩, q5⟩
  · exact Or.inl ⟨⟨v, h', q1, hP _ _ q2, q3, q4⟩, hL⟩
  · exact Or.inr ⟨q, q0, E, ce, L, ⟨h', hP _ _ q2, q3, q4⟩, q5⟩
theorem RW.sw {σ : Type} {G : p_G} {M : p_M} {I : σ → p_H → Prop} {X : σ} {h : p_H} {d k n pc : Nat} {L : p_LL} {st : List Value} {Q : p_P} (hI : I X h) (kk : RW G M I (fun o y => ∀ h', I y h' → Q o h') d k n pc L st X) : SW G M Q d k n h pc L st := (kk h hI).mono (fun o h' hq => by
  obtain ⟨y, hy, hI'⟩ := hq
  exact hy h' hI')
section C90c
variable {G : p_G} {M : p_M} {P : p_P} {d k n pc idx i a ci kf : Nat} {h hb : p_H} {L : p_LL} {st : List Value} {Y : Nat → Nat} {E : Nat → Option p_E} {fs : List Value} {v : Value} {ty : FieldType} {fin : Bool}
theorem a_put (H : hA hb h Y E) (hd : decode M.2.1 pc = .ok (.putfield idx, 3)) (hf : p_Fo M.1.cls idx ci kf ty false) (hE : E i = some (.inr (ci, fs))) (hY : Y i = a) (hn : narrow ty v = v) (hfit : fits ty v = true) (hl : kf < fs.length) (kk : ∀ h', hA hb h' Y (eu E i (.inr (ci, fs.set kf v))) → SW G M P d k n h' (pc + 3) L st) : SW G M P d k n h pc L (v :: .ref a :: st) := by
  subst hY
  exact r_put hd hf (H.get hE) hn hfit hl (kk _ (H.set hE))
theorem a_putF (H : hA hb h Y E) (hd : decode M.2.1 pc = .ok (.putfield idx, 3)) (hf : p_F M.1.cls idx ci kf ty true) (hi : M.1.name = "<init>") (hE : E i = some (.inr (ci, fs))) (hY : Y i = a) (hn : narrow ty v = v) (hfit : fits ty v = true) (hl : kf < fs.length) (kk : ∀ h', hA hb h' Y (eu E i (.inr (ci, fs.set kf v))) → SW G M P d k n h' (pc + 3) L st) : SW G M P d k n h pc L (v :: .ref a :: st) := by
  subst hY
  exact r_putF hd hf hi (H.get hE) hn hfit hl (kk _ (H.set hE))
theorem a_get (H : hA hb h Y E) (hd : decode M.2.1 pc = .ok (.getfield idx, 3)) (hf : p_Fo M.1.cls idx ci kf ty fin) (hE : E i = some (.inr (ci, fs))) (hY : Y i = a) (hv : fs[kf]? = some v) (kk : SW G M P d k n h (pc + 3) L (v :: st)) : SW G M P d k n h pc L (.ref a :: st) := by
  subst hY
  exact r_get hd hf (H.get hE) hv kk
theorem a_new {N : Nat} (H : hA hb h Y E) (hd : decode M.2.1 pc = .ok (.new idx, 3)) (hf : p_N M.1.cls idx ci fs N) (hE : E i = none) (kk : ∀ q h', hA hb h' (yu Y i q) (eu E i (.inr (ci, fs))) → SW G M P d k n h' (pc + 3) L (.ref q :: st)) : SW G M P d (k + 1) (n + N) h pc L st := r_new hd hf (fun q hq => kk q _ (H.new hq hE))
theorem a_newI {x : Int32} {N : Nat} (H : hA hb h Y E) (hd : decode M.2.1 pc = .ok (.newarray .int, 2)) (hn : ¬ x < 0) (hN : x.toNatClampNeg = N) (hb8 : N ≤ 60000) (hE : E i = none) (kk : ∀ q h', hA hb h' (yu Y i q) (eu E i (.inl (0, (N, .inl (fun _ => 0))))) → SW G M P d k n h' (pc + 2) L (.ref q :: st)) : SW G M P d (k + 1) (n + N) h pc L (.int x :: st) := r_newaI hd hn hN hb8 (fun q hq => kk q _ (H.new hq hE))
theorem a_newJ {x : Int32} {N : Nat} (H : hA hb h Y E) (hd : decode M.2.1 pc = .ok (.newarray .long, 2)) (hn : ¬ x < 0) (hN : x.toNatClampNeg = N) (hb8 : N ≤ 60000) (hE : E i = none) (kk : ∀ q h', hA hb h' (yu Y i q) (eu E i (.inl (1, (N, .inr (.inl (fun _ => 0)))))) → SW G M P d k n h' (pc + 2) L (.ref q :: st)) : SW G M P d (k + 1) (n + N) h pc L (.int x :: st) := r_newaJ hd hn hN hb8 (fun q hq => kk q _ (H.new hq hE))
theorem a_newZ {x : Int32} {N : Nat} (H : hA hb h Y E) (hd : decode M.2.1 pc = .ok (.newarray .boolean, 2)) (hn : ¬ x < 0) (hN : x.toNatClampNeg = N) (hb8 : N ≤ 60000) (hE : E i = none) (kk : ∀ q h', hA hb h' (yu Y i q) (eu E i (.inl (2, (N, .inl (fun _ => 0))))) → SW G M P d k n h' (pc + 2) L (.ref q :: st)) : SW G M P d (k + 1) (n + N) h pc L (.int x :: st) := r_newaZ hd hn hN hb8 (fun q hq => kk q _ (H.new hq hE))
end C90c
/-- an object's fields, by a function -/
def gl (n : Nat) (F : Nat → Value) : List Value := (List.range n).map F
def fu (F : Nat → Value) (k : Nat) (v : Value) : Nat → Value := fun j => if j = k then v else F j
theorem gl_len {n : Nat} {F : Nat → Value} : (gl n F).length = n := by unfold gl; rw [List.length_map, List.length_range]
theorem gl_set {n k : Nat} {F : Nat → Value} {v : Value} : (gl n F).set k v = gl n (fu F k v) := by
  refine List.ext_getElem? (fun j => ?_)
  unfold gl fu
  rw [List.getElem?_set]
  simp only [List.getElem?_map, List.length_map, List.length_range]
  by_cases z : k = j
  · subst z
    by_cases y : k < n
    · rw [if_pos rfl, if_pos y, List.getElem?_range y]
      simp
    · rw [if_pos rfl, if_neg y, List.getElem?_eq_none (by rw [List.length_range]; omega)]
      rfl
  · rw [if_neg z]
    by_cases y : j < n
    · rw [List.getElem?_range y]
      simp [Ne.symm z]
    · rw [List.getElem?_eq_none (by rw [List.length_range]; omega)]
      rfl
theorem eu_eu {E : Nat → Option p_E} {i : Nat} {e e' : p_E} : eu (eu E i e) i e' = eu E i e' := funext (fun j => by unfold eu; split <;> rfl)
theorem eu_cm {E : Nat → Option p_E} {i j : Nat} {e e' : p_E} (h : i ≠ j) : eu (eu E i e) j e' = eu (eu E j e') i e := funext (fun k => by
  unfold eu
  by_cases z : k = j
  · rw [if_pos z, if_neg (by omega), if_pos z]
  · rw [if_neg z]
    by_cases y : k = i
    · rw [if_pos y, if_pos y]
    · rw [if_neg y, if_neg y, if_neg z])
theorem eu_at {E : Nat → Option p_E} {i : Nat} {e : p_E} : eu E i e i = some e := if_pos rfl
theorem eu_ne {E : Nat → Option p_E} {i j : Nat} {e : p_E} (h : j ≠ i) : eu E i e j = E j := if_neg h
theorem yu_ne {Y : Nat → Nat} {i j q : Nat} (h : j ≠ i) : yu Y i q j = Y j := if_neg h
theorem yu_at {Y : Nat → Nat} {i q : Nat} : yu Y i q i = q := if_pos rfl
section C90d
variable {G : p_G} {M : p_M} {P : p_P} {d k n pc idx i o a c nf kf : Nat} {h hb : p_H} {L : p_LL} {st : List Value} {Y : Nat → Nat} {A : Nat → Option p_E} {F : Nat → Value} {v : Value} {ty : FieldType}
/-- a field of an object half made -/
theorem o_putF (H : hA hb h Y (eu A o (.inr (c, gl nf F)))) (hY : Y o = a) (hd : decode M.2.1 pc = .ok (.putfield idx, 3)) (hf : p_F M.1.cls idx c kf ty true) (hi : M.1.name = "<init>") (hn : narrow ty v = v) (hfit : fits ty v = true) (hl : kf < nf) (kk : ∀ h', hA hb h' Y (eu A o (.inr (c, gl nf (fu F kf v)))) → SW G M P d k n h' (pc + 3) L st) : SW G M P d k n h pc L (v :: .ref a :: st) :=
  a_putF H hd hf hi eu_at hY hn hfit (by rw [gl_len]; exact hl) (fun h' H' => kk h' (by rw [eu_eu, gl_set] at H'; exact H'))
theorem o_put (H : hA hb h Y (eu A o (.inr (c, gl nf F)))) (hY : Y o = a) (hd : decode M.2.1 pc = .ok (.putfield idx, 3)) (hf : p_Fo M.1.cls idx c kf ty false) (hn : narrow ty v = v) (hfit : fits ty v = true) (hl : kf < nf) (kk : ∀ h', hA hb h' Y (eu A o (.inr (c, gl nf (fu F kf v)))) → SW G M P d k n h' (pc + 3) L st) : SW G M P d k n h pc L (v :: .ref a :: st) :=
  a_put H hd hf eu_at hY hn hfit (by rw [gl_len]; exact hl) (fun h' H' => kk h' (by rw [eu_eu, gl_set] at H'; exact H'))
/-- a row made and put into a field -/
theorem o_arrI {x : Int32} {N : Nat} (H : hA hb h Y (eu A o (.inr (c, gl nf F)))) (hY : Y o = a) (hA' : A i = none) (hio : i ≠ o) (hd0 : decode M.2.1 pc = .ok (.newarray .int, 2)) (hx : ¬ x < 0) (hN : x.toNatClampNeg = N) (hb8 : N ≤ 60000) (hd : decode M.2.1 (pc + 2) = .ok (.putfield idx, 3)) (hf : p_F M.1.cls idx c kf (.array .int) true) (hi : M.1.name = "<init>") (hl : kf < nf) (kk : ∀ q h', (yu Y i q) o = a → hA hb h' (yu Y i q) (eu (eu A i (.inl (0, (N, .inl (fun _ => 0))))) o (.inr (c, gl nf (fu F kf (.ref q))))) → SW G M P d k n h' (pc + 2 + 3) L st) : SW G M P d (k + 1) (n + N) h pc L (.int x :: .ref a :: st) :=
  a_newI (i := i) H hd0 hx hN hb8 (by rw [eu_ne hio]; exact hA') (fun q h' H' => by
    rw [eu_cm hio.symm] at H'
    have y := (yu_ne (q := q) hio.symm).trans hY
    exact o_putF H' y hd hf hi rfl rfl hl (fun h2 H2 => kk q h2 y H2))
theorem o_arrJ {x : Int32} {N : Nat} (H : hA hb h Y (eu A o (.inr (c, gl nf F)))) (hY : Y o = a) (hA' : A i = none) (hio : i ≠ o) (hd0 : decode M.2.1 pc = .ok (.newarray .long, 2)) (hx : ¬ x < 0) (hN : x.toNatClampNeg = N) (hb8 : N ≤ 60000) (hd : decode M.2.1 (pc + 2) = .ok (.putfield idx, 3)) (hf : p_F M.1.cls idx c kf (.array .long) true) (hi : M.1.name = "<init>") (hl : kf < nf) (kk : ∀ q h', (yu Y i q) o = a → hA hb h' (yu Y i q) (eu (eu A i (.inl (1, (N, .inr (.inl (fun _ => 0)))))) o (.inr (c, gl nf (fu F kf (.ref q))))) → SW G M P d k n h' (pc + 2 + 3) L st) : SW G M P d (k + 1) (n + N) h pc L (.int x :: .ref a :: st) :=
  a_newJ (i := i) H hd0 hx hN hb8 (by rw [eu_ne hio]; exact hA') (fun q h' H' => by
    rw [eu_cm hio.symm] at H'
    have y := (yu_ne (q := q) hio.symm).trans hY
    exact o_putF H' y hd hf hi rfl rfl hl (fun h2 H2 => kk q h2 y H2))
theorem o_arrZ {x : Int32} {N : Nat} (H : hA hb h Y (eu A o (.inr (c, gl nf F)))) (hY : Y o = a) (hA' : A i = none) (hio : i ≠ o) (hd0 : decode M.2.1 pc = .ok (.newarray .boolean, 2)) (hx : ¬ x < 0) (hN : x.toNatClampNeg = N) (hb8 : N ≤ 60000) (hd : decode M.2.1 (pc + 2) = .ok (.putfield idx, 3)) (hf : p_F M.1.cls idx c kf (.array .boolean) true) (hi : M.1.name = "<init>") (hl : kf < nf) (kk : ∀ q h', (yu Y i q) o = a → hA hb h' (yu Y i q) (eu (eu A i (.inl (2, (N, .inl (fun _ => 0))))) o (.inr (c, gl nf (fu F kf (.ref q))))) → SW G M P d k n h' (pc + 2 + 3) L st) : SW G M P d (k + 1) (n + N) h pc L (.int x :: .ref a :: st) :=
  a_newZ (i := i) H hd0 hx hN hb8 (by rw [eu_ne hio]; exact hA') (fun q h' H' => by
    rw [eu_cm hio.symm] at H'
    have y := (yu_ne (q := q) hio.symm).trans hY
    exact o_putF H' y hd hf hi rfl rfl hl (fun h2 H2 => kk q h2 y H2))
end C90d
/-- the world of the beginning -/
def wBeg (w : Int → Int) : Prop := (wNew zT1 36 w 0 ∧ wNew zT2 36 w 1) ∧ w 952 = 0 ∧ (∀ k, 971 ≤ k → k ≤ 982 → w k = 1) ∧ w 983 = 0 ∧ w 984 = 0
def mBeg (V : Nat → Int) (C : Nat → Int → Int) : Prop := wBeg (C 0) ∧ V 4 = 0 ∧ V 5 = 0 ∧ V 7 = 0 ∧ V 8 = 0 ∧ V 9 = -1 ∧ V 11 = 0 ∧ V 12 = 0
section C90a
variable {x : zSt} {N : Nat} {w w' : Int → Int} {s : Int}
theorem wNew.cg (h : wNew x N w s) (hN : N ≤ 360) (hc : (zD (zLd x) N).1 ≤ 60) (e : ∀ j, 0 ≤ j → j < 476 → w' (476 * s + j) = w (476 * s + j)) : wNew x N w' s := by
  obtain ⟨h1, h2, h3, h4, h5⟩ := h
  refine ⟨fun k k0 k1 k5 => ?_, ?_, fun j j0 j1 => ?_, fun j j0 j1 => ?_, fun i i0 i1 => ?_⟩
  · rw [e k k0 (by omega)]; exact h1 k k0 k1 k5
  · rw [e 5 (by decide) (by decide)]; exact h2
  · rw [e (56 + j) (by omega) (by omega)]; exact h3 j j0 j1
  · rw [e (56 + j) (by omega) (by omega)]; exact h4 j j0 j1
  · rw [e (116 + i) (by omega) (by omega)]; exact h5 i i0 i1
theorem wRes_00 (h : w 952 = 0) {j : Int} : wRes w s j = w j := if_neg (fun z => by have := z.1; have := z.2.1; omega)
theorem zT1_got {bs : Int → Int} (h : ∀ j, 0 ≤ j → j < 8 → bs j = tx1 j) : zRn bs 8 0 zX0 = .inr zT1 := (zRn_cg (by decide) h).trans zT1_rn
theorem zT2_got {bs : Int → Int} (h : ∀ j, 0 ≤ j → j < 10 → bs j = tx2 j) : zRn bs 10 0 zX0 = .inr zT2 := (zRn_cg (by decide) h).trans zT2_rn
end C90a
