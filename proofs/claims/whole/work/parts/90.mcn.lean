/-! ===== the reference: its constructor ===== -/
theorem SW.mono {G : p_G} {M : p_M} {P P' : p_P} {d k n : Nat} {h : p_H} {pc : Nat} {L : p_LL} {st : List Value} (kk : SW G M P' d k n h pc L st) (hP : ∀ o h', P' o h' → P o h') : SW G M P d k n h pc L st := by
  intro p e R s m args below meth c H locs cells slots ls C B hS hR hL T hT X
  obtain ⟨t, a1, o, b1, b2, b3⟩ := kk p e R s m args below meth c H locs cells slots ls C B hS hR hL T hT X
  refine ⟨t, a1, o, b1, b2, ?_⟩
  rcases b3 with ⟨⟨v, h', q1, q2, q3, q4⟩, hL⟩ | ⟨q, q0, E, ce, L, ⟨h', q2, q3, q4⟩, q5⟩
  · exact Or.inl ⟨⟨v, h', q1, hP _ _ q2, q3, q4⟩, hL⟩
  · exact Or.inr ⟨q, q0, E, ce, L, ⟨h', hP _ _ q2, q3, q4⟩, q5⟩
theorem RW.sw {σ : Type} {G : p_G} {M : p_M} {I : σ → p_H → Prop} {X : σ} {h : p_H} {d k n pc : Nat} {L : p_LL} {st : List Value} {Q : p_P} (hI : I X h) (kk : RW G M I (fun o y => ∀ h', I y h' → Q o h') d k n pc L st X) : SW G M Q d k n h pc L st := (kk h hI).mono (fun o h' hq => by
  obtain ⟨y, hy, hI'⟩ := hq
  exact hy h' hI')
theorem hA.m {h h' : p_H} {Y : Nat → Nat} {E : Nat → Option p_E} {a : Nat} {X : m_X} (H : hA (fun c => if c = a then none else h c) h' Y E) (h38 : Y 38 = a) (hE : ∀ i, i ∈ m_ix → E i = some (m_cell Y X i)) (hE2 : ∀ i, E i ≠ none → i ∈ m_ix) : m_I Y h X h' := by
  refine ⟨⟨fun i hi => H.get (hE i hi), fun i hi j hj e => H.2.1 i j (by rw [hE i hi]; exact fun c => nomatch c) (by rw [hE j hj]; exact fun c => nomatch c) e⟩, fun q hq => ?_⟩
  rw [H.2.2 q (fun i hi => hq i (hE2 i hi))]
  exact if_neg (by rw [← h38]; exact hq 38 (by decide))
theorem hA.m3 {h h' : p_H} {Y : Nat → Nat} {E : Nat → Option p_E} {a : Nat} {X : m_X} (H : hA (fun c => if c = a then none else h c) h' Y E) (h38 : Y 38 = a) (hE : ∀ i, i ∈ m_ix → E i = some (m_cell Y X i)) (hE2 : ∀ i, E i ≠ none → i ∈ m_ix) : m_I Y h X h' ∧ ∀ i, i ∈ m_ix → i ≠ 38 → h (Y i) = none := by
  refine ⟨H.m h38 hE hE2, fun i hi h3 => ?_⟩
  have q : (if Y i = a then none else h (Y i)) = none := (H.1 i _ (hE i hi)).2
  rw [if_neg (fun z => h3 (H.2.1 i 38 (by rw [hE i hi]; exact fun c => nomatch c) (by rw [hE 38 (by decide)]; exact fun c => nomatch c) (z.trans h38.symm)))] at q
  exact q
section C90c
variable {G : p_G} {M : p_M} {P : p_P} {d k n pc idx i a ci kf : Nat} {h hb : p_H} {L : p_LL} {st : List Value} {Y : Nat → Nat} {E : Nat → Option p_E} {fs : List Value} {v : Value} {ty : FieldType} {fin : Bool}
theorem a_put (H : hA hb h Y E) (hd : decode M.2.1 pc = .ok (.putfield idx, 3)) (hf : p_Fo M.1.cls idx ci kf ty false) (hE : E i = some (.inr (ci, fs))) (hY : Y i = a) (hn : narrow ty v = v) (hfit : fits ty v = true) (hl : kf < fs.length) (kk : ∀ h', hA hb h' Y (eu E i (.inr (ci, fs.set kf v))) → SW G M P d k n h' (pc + 3) L st) : SW G M P d k n h pc L (v :: .ref a :: st) := by
  subst hY
  exact r_put hd hf (H.get hE) hn hfit hl (kk _ (H.set hE))
theorem a_putF (H : hA hb h Y E) (hd : decode M.2.1 pc = .ok (.putfield idx, 3)) (hf : p_F M.1.cls idx ci kf ty true) (hi : M.1.name = "<init>") (hE : E i = some (.inr (ci, fs))) (hY : Y i = a) (hn : narrow ty v = v) (hfit : fits ty v = true) (hl : kf < fs.length) (kk : ∀ h', hA hb h' Y (eu E i (.inr (ci, fs.set kf v))) → SW G M P d k n h' (pc + 3) L st) : SW G M P d k n h pc L (v :: .ref a :: st) := by
  subst hY
  exact r_putF hd hf hi (H.get hE) hn hfit hl (kk _ (H.set hE))
theorem a_get (H : hA hb h Y E) (hd : decode M.2.1 pc = .ok (.getfield idx, 3)) (hf : p_Fo M.1.cls idx ci kf ty fin) (hE : E i = some (.inr (ci, fs))) (hY : Y i = a) (hv : fs[kf]? = some v) (kk : SW G M P d k n h (pc + 3) L (v :: st)) : SW G M P d k n h pc L (.ref a :: st) := by
  subst hY
  exact r_get hd hf (H.get hE) hv kk
theorem a_new {N : Nat} (H : hA hb h Y E) (hd : decode M.2.1 pc = .ok (.new idx, 3)) (hf : p_N M.1.cls idx ci fs N) (hE : E i = none) (kk : ∀ q h', hA hb h' (yu Y i q) (eu E i (.inr (ci, fs))) → SW G M P d k n h' (pc + 3) L (.ref q :: st)) : SW G M P d (k + 1) (n + N) h pc L st := r_new hd hf (fun q hq => kk q _ (H.new hq hE))
theorem a_newI {x : Int32} {N : Nat} (H : hA hb h Y E) (hd : decode M.2.1 pc = .ok (.newarray .int, 2)) (hn : ¬ x < 0) (hN : x.toNatClampNeg = N) (hb8 : N ≤ 60000) (hE : E i = none) (kk : ∀ q h', hA hb h' (yu Y i q) (eu E i (.inl (0, (N, .inl (fun _ => 0))))) → SW G M P d k n h' (pc + 2) L (.ref q :: st)) : SW G M P d (k + 1) (n + N) h pc L (.int x :: st) := r_newaI hd hn hN hb8 (fun q hq => kk q _ (H.new hq hE))
theorem a_newJ {x : Int32} {N : Nat} (H : hA hb h Y E) (hd : decode M.2.1 pc = .ok (.newarray .long, 2)) (hn : ¬ x < 0) (hN : x.toNatClampNeg = N) (hb8 : N ≤ 60000) (hE : E i = none) (kk : ∀ q h', hA hb h' (yu Y i q) (eu E i (.inl (1, (N, .inr (.inl (fun _ => 0)))))) → SW G M P d k n h' (pc + 2) L (.ref q :: st)) : SW G M P d (k + 1) (n + N) h pc L (.int x :: st) := r_newaJ hd hn hN hb8 (fun q hq => kk q _ (H.new hq hE))
theorem a_newZ {x : Int32} {N : Nat} (H : hA hb h Y E) (hd : decode M.2.1 pc = .ok (.newarray .boolean, 2)) (hn : ¬ x < 0) (hN : x.toNatClampNeg = N) (hb8 : N ≤ 60000) (hE : E i = none) (kk : ∀ q h', hA hb h' (yu Y i q) (eu E i (.inl (2, (N, .inl (fun _ => 0))))) → SW G M P d k n h' (pc + 2) L (.ref q :: st)) : SW G M P d (k + 1) (n + N) h pc L (.int x :: st) := r_newaZ hd hn hN hb8 (fun q hq => kk q _ (H.new hq hE))
theorem a_newC {x : Int32} {N : Nat} (H : hA hb h Y E) (hd : decode M.2.1 pc = .ok (.newarray .char, 2)) (hn : ¬ x < 0) (hN : x.toNatClampNeg = N) (hb8 : N ≤ 60000) (hE : E i = none) (kk : ∀ q h', hA hb h' (yu Y i q) (eu E i (.inl (3, (N, .inl (fun _ => 0))))) → SW G M P d k n h' (pc + 2) L (.ref q :: st)) : SW G M P d (k + 1) (n + N) h pc L (.int x :: st) := r_newaC hd hn hN hb8 (fun q hq => kk q _ (H.new hq hE))
end C90c
/-- an object's fields, by a function -/
def gl (n : Nat) (F : Nat → Value) : List Value := (List.range n).map F
def fu (F : Nat → Value) (k : Nat) (v : Value) : Nat → Value := fun j => if j = k then v else F j
theorem gl_len {n : Nat} {F : Nat → Value} : (gl n F).length = n := by unfold gl; rw [List.length_map, List.length_range]
theorem gl_set {n k : Nat} {F : Nat → Value} {v : Value} : (gl n F).set k v = gl n (fu F k v) := by
  refine List.ext_getElem? (fun j => ?_)
  unfold gl fu
  rw [List.getElem?_set]
  simp only [List.getElem?_map, List.length_map, List.length_range]
  by_cases z : k = j
  · subst z
    by_cases y : k < n
    · rw [if_pos rfl, if_pos y, List.getElem?_range y]
      simp
    · rw [if_pos rfl, if_neg y, List.getElem?_eq_none (by rw [List.length_range]; omega)]
      rfl
  · rw [if_neg z]
    by_cases y : j < n
    · rw [List.getElem?_range y]
      simp [Ne.symm z]
    · rw [List.getElem?_eq_none (by rw [List.length_range]; omega)]
      rfl
theorem eu_eu {E : Nat → Option p_E} {i : Nat} {e e' : p_E} : eu (eu E i e) i e' = eu E i e' := funext (fun j => by unfold eu; split <;> rfl)
theorem eu_cm {E : Nat → Option p_E} {i j : Nat} {e e' : p_E} (h : i ≠ j) : eu (eu E i e) j e' = eu (eu E j e') i e := funext (fun k => by
  unfold eu
  by_cases z : k = j
  · rw [if_pos z, if_neg (by omega), if_pos z]
  · rw [if_neg z]
    by_cases y : k = i
    · rw [if_pos y, if_pos y]
    · rw [if_neg y, if_neg y, if_neg z])
theorem eu_at {E : Nat → Option p_E} {i : Nat} {e : p_E} : eu E i e i = some e := if_pos rfl
theorem eu_ne {E : Nat → Option p_E} {i j : Nat} {e : p_E} (h : j ≠ i) : eu E i e j = E j := if_neg h
theorem yu_ne {Y : Nat → Nat} {i j q : Nat} (h : j ≠ i) : yu Y i q j = Y j := if_neg h
theorem yu_at {Y : Nat → Nat} {i q : Nat} : yu Y i q i = q := if_pos rfl
section C90d
variable {G : p_G} {M : p_M} {P : p_P} {d k n pc idx i o a c nf kf : Nat} {h hb : p_H} {L : p_LL} {st : List Value} {Y : Nat → Nat} {A : Nat → Option p_E} {F : Nat → Value} {v : Value} {ty : FieldType}
/-- a field of an object half made -/
theorem o_putF (H : hA hb h Y (eu A o (.inr (c, gl nf F)))) (hY : Y o = a) (hd : decode M.2.1 pc = .ok (.putfield idx, 3)) (hf : p_F M.1.cls idx c kf ty true) (hi : M.1.name = "<init>") (hn : narrow ty v = v) (hfit : fits ty v = true) (hl : kf < nf) (kk : ∀ h', hA hb h' Y (eu A o (.inr (c, gl nf (fu F kf v)))) → SW G M P d k n h' (pc + 3) L st) : SW G M P d k n h pc L (v :: .ref a :: st) :=
  a_putF H hd hf hi eu_at hY hn hfit (by rw [gl_len]; exact hl) (fun h' H' => kk h' (by rw [eu_eu, gl_set] at H'; exact H'))
theorem o_put (H : hA hb h Y (eu A o (.inr (c, gl nf F)))) (hY : Y o = a) (hd : decode M.2.1 pc = .ok (.putfield idx, 3)) (hf : p_Fo M.1.cls idx c kf ty false) (hn : narrow ty v = v) (hfit : fits ty v = true) (hl : kf < nf) (kk : ∀ h', hA hb h' Y (eu A o (.inr (c, gl nf (fu F kf v)))) → SW G M P d k n h' (pc + 3) L st) : SW G M P d k n h pc L (v :: .ref a :: st) :=
  a_put H hd hf eu_at hY hn hfit (by rw [gl_len]; exact hl) (fun h' H' => kk h' (by rw [eu_eu, gl_set] at H'; exact H'))
/-- a row made and put into a field -/
theorem o_arrI {x : Int32} {N : Nat} (H : hA hb h Y (eu A o (.inr (c, gl nf F)))) (hY : Y o = a) (hA' : A i = none) (hio : i ≠ o) (hd0 : decode M.2.1 pc = .ok (.newarray .int, 2)) (hx : ¬ x < 0) (hN : x.toNatClampNeg = N) (hb8 : N ≤ 60000) (hd : decode M.2.1 (pc + 2) = .ok (.putfield idx, 3)) (hf : p_F M.1.cls idx c kf (.array .int) true) (hi : M.1.name = "<init>") (hl : kf < nf) (kk : ∀ q h', (yu Y i q) o = a → hA hb h' (yu Y i q) (eu (eu A i (.inl (0, (N, .inl (fun _ => 0))))) o (.inr (c, gl nf (fu F kf (.ref q))))) → SW G M P d k n h' (pc + 2 + 3) L st) : SW G M P d (k + 1) (n + N) h pc L (.int x :: .ref a :: st) :=
  a_newI (i := i) H hd0 hx hN hb8 (by rw [eu_ne hio]; exact hA') (fun q h' H' => by
    rw [eu_cm hio.symm] at H'
    have y := (yu_ne (q := q) hio.symm).trans hY
    exact o_putF H' y hd hf hi rfl rfl hl (fun h2 H2 => kk q h2 y H2))
theorem o_arrJ {x : Int32} {N : Nat} (H : hA hb h Y (eu A o (.inr (c, gl nf F)))) (hY : Y o = a) (hA' : A i = none) (hio : i ≠ o) (hd0 : decode M.2.1 pc = .ok (.newarray .long, 2)) (hx : ¬ x < 0) (hN : x.toNatClampNeg = N) (hb8 : N ≤ 60000) (hd : decode M.2.1 (pc + 2) = .ok (.putfield idx, 3)) (hf : p_F M.1.cls idx c kf (.array .long) true) (hi : M.1.name = "<init>") (hl : kf < nf) (kk : ∀ q h', (yu Y i q) o = a → hA hb h' (yu Y i q) (eu (eu A i (.inl (1, (N, .inr (.inl (fun _ => 0)))))) o (.inr (c, gl nf (fu F kf (.ref q))))) → SW G M P d k n h' (pc + 2 + 3) L st) : SW G M P d (k + 1) (n + N) h pc L (.int x :: .ref a :: st) :=
  a_newJ (i := i) H hd0 hx hN hb8 (by rw [eu_ne hio]; exact hA') (fun q h' H' => by
    rw [eu_cm hio.symm] at H'
    have y := (yu_ne (q := q) hio.symm).trans hY
    exact o_putF H' y hd hf hi rfl rfl hl (fun h2 H2 => kk q h2 y H2))
theorem o_arrZ {x : Int32} {N : Nat} (H : hA hb h Y (eu A o (.inr (c, gl nf F)))) (hY : Y o = a) (hA' : A i = none) (hio : i ≠ o) (hd0 : decode M.2.1 pc = .ok (.newarray .boolean, 2)) (hx : ¬ x < 0) (hN : x.toNatClampNeg = N) (hb8 : N ≤ 60000) (hd : decode M.2.1 (pc + 2) = .ok (.putfield idx, 3)) (hf : p_F M.1.cls idx c kf (.array .boolean) true) (hi : M.1.name = "<init>") (hl : kf < nf) (kk : ∀ q h', (yu Y i q) o = a → hA hb h' (yu Y i q) (eu (eu A i (.inl (2, (N, .inl (fun _ => 0))))) o (.inr (c, gl nf (fu F kf (.ref q))))) → SW G M P d k n h' (pc + 2 + 3) L st) : SW G M P d (k + 1) (n + N) h pc L (.int x :: .ref a :: st) :=
  a_newZ (i := i) H hd0 hx hN hb8 (by rw [eu_ne hio]; exact hA') (fun q h' H' => by
    rw [eu_cm hio.symm] at H'
    have y := (yu_ne (q := q) hio.symm).trans hY
    exact o_putF H' y hd hf hi rfl rfl hl (fun h2 H2 => kk q h2 y H2))
theorem o_arrC {x : Int32} {N : Nat} (H : hA hb h Y (eu A o (.inr (c, gl nf F)))) (hY : Y o = a) (hA' : A i = none) (hio : i ≠ o) (hd0 : decode M.2.1 pc = .ok (.newarray .char, 2)) (hx : ¬ x < 0) (hN : x.toNatClampNeg = N) (hb8 : N ≤ 60000) (hd : decode M.2.1 (pc + 2) = .ok (.putfield idx, 3)) (hf : p_F M.1.cls idx c kf (.array .char) true) (hi : M.1.name = "<init>") (hl : kf < nf) (kk : ∀ q h', (yu Y i q) o = a → hA hb h' (yu Y i q) (eu (eu A i (.inl (3, (N, .inl (fun _ => 0))))) o (.inr (c, gl nf (fu F kf (.ref q))))) → SW G M P d k n h' (pc + 2 + 3) L st) : SW G M P d (k + 1) (n + N) h pc L (.int x :: .ref a :: st) :=
  a_newC (i := i) H hd0 hx hN hb8 (by rw [eu_ne hio]; exact hA') (fun q h' H' => by
    rw [eu_cm hio.symm] at H'
    have y := (yu_ne (q := q) hio.symm).trans hY
    exact o_putF H' y hd hf hi rfl rfl hl (fun h2 H2 => kk q h2 y H2))
end C90d
/-- the world of the beginning -/
def wBeg (w : Int → Int) : Prop := (wNew zT1 36 w 0 ∧ wNew zT2 36 w 1) ∧ w 952 = 0 ∧ (∀ k, 971 ≤ k → k ≤ 982 → w k = 1) ∧ w 983 = 0 ∧ w 984 = 0
def mBeg (V : Nat → Int) (C : Nat → Int → Int) : Prop := wBeg (C 0) ∧ V 4 = 0 ∧ V 5 = 0 ∧ V 7 = 0 ∧ V 8 = 0 ∧ V 9 = -1 ∧ V 11 = 0 ∧ V 12 = 0
section C90a
variable {x : zSt} {N : Nat} {w w' : Int → Int} {s : Int}
theorem wNew.cg (h : wNew x N w s) (hN : N ≤ 360) (hc : (zD (zLd x) N).1 ≤ 60) (e : ∀ j, 0 ≤ j → j < 476 → w' (476 * s + j) = w (476 * s + j)) : wNew x N w' s := by
  obtain ⟨h1, h2, h3, h4, h5⟩ := h
  refine ⟨fun k k0 k1 k5 => ?_, ?_, fun j j0 j1 => ?_, fun j j0 j1 => ?_, fun i i0 i1 => ?_⟩
  · rw [e k k0 (by omega)]; exact h1 k k0 k1 k5
  · rw [e 5 (by decide) (by decide)]; exact h2
  · rw [e (56 + j) (by omega) (by omega)]; exact h3 j j0 j1
  · rw [e (56 + j) (by omega) (by omega)]; exact h4 j j0 j1
  · rw [e (116 + i) (by omega) (by omega)]; exact h5 i i0 i1
theorem wRes_00 (h : w 952 = 0) {j : Int} : wRes w s j = w j := if_neg (fun z => by have := z.1; have := z.2.1; omega)
theorem zT1_got {bs : Int → Int} (h : ∀ j, 0 ≤ j → j < 8 → bs j = tx1 j) : zRn bs 8 0 zX0 = .inr zT1 := (zRn_cg (by decide) h).trans zT1_rn
theorem zT2_got {bs : Int → Int} (h : ∀ j, 0 ≤ j → j < 10 → bs j = tx2 j) : zRn bs 10 0 zX0 = .inr zT2 := (zRn_cg (by decide) h).trans zT2_rn
end C90a
section M90
variable {G : p_G} {Y : Nat → Nat} {h0 : p_H} {P : (Option Value) ⊕ String → m_X → Prop} {d : Nat} {V : Nat → Int} {C : Nat → Int → Int} {J : Int → Int}
variable {a1 v1 a2 v2 : Nat}
theorem k_init_l  (hK : p_Zk G) (hT1 : p_Str G a1 v1 8 tx1) (hT2 : p_Str G a2 v2 10 tx2) (hR1 : ∀ s, p_S G s → vk_R RX11 77 "a(b|c)*d" a1 s) (hR2 : ∀ s, p_S G s → vk_R RX11 87 "(ab|ac)*d?" a2 s) (hV : ∀ i, V i = if i = 9 then -1 else 0) (hC0 : ∀ j, C 0 j = 0) (hp : ∀ V' C', mBeg V' C' → P (.inl none) (V', C', J)) : ∀ (zz : Nat) (k : Int) (C' : Nat → Int → Int), zz = (12 - k).toNat → (0 ≤ k ∧ k ≤ 12) → (sC [0] C C') → (∀ j, C' 0 j = if 971 ≤ j ∧ j < 971 + k then 1 else C 0 j) → RW G mX11_init (m_I Y h0) P (d + 86) 0 0 190 [some (.ref (Y 38)), some (.int (iI k))] [] (V, C', J) := by
  intro zz
  induction zz using Nat.strongRecOn with
  | _ zz ih =>
    intro k C' hzz h1 hC hI
    refine i_iload_n dX11_init_190 rfl ?_
    refine i_bipush dX11_init_191 (by decide) ?_
    refine i_icmp_ge (tgt := 213) dX11_init_193 (by decide) (by omega) (by omega) (fun c193 => ?_) (fun c193 => ?_)
    · -- jumps
      refine i_aload_n dX11_init_213 rfl ?_
      refine RW.up (fun kk => r_ldcS dX11_init_214 hR1 kk) ?_
      refine t_callV (As := [_]) dX11_init_216 cfX11_type imX11_type seX11_type lX11_79 rfl rfl rfl (Nat.le_of_ble_eq_true rfl) ?_
      refine k_type hK hT1 (by decide) (fun j _ _ => tx1_rg j) (fun V1 C1 l1 sv1 sc1 b1 => RK.n0 ?_)
      refine i_aload_n dX11_init_219 rfl ?_
      refine i_const dX11_init_220 ?_
      refine t_callV (As := [_]) dX11_init_221 cfX11_compiles imX11_compiles seX11_compiles lX11_83 rfl rfl rfl (Nat.le_of_ble_eq_true rfl) ?_
      have w0 : C1 0 = C' 0 := sc1 0 (by decide)
      have w952 : C1 0 952 = 0 := by rw [w0, hI 952, if_neg (by omega)]; exact hC0 952
      have hbb : ∀ j, 0 ≤ j → j < 8 → C1 6 j = tx1 j := fun j j0 j1 => by rw [b1 j]; exact if_pos ⟨j0, j1⟩
      refine k_compiles (sz := 8) (by decide) l1 (by decide) (fun j j0 j1 => by rw [hbb j j0 j1]; have := tx1_rg j; omega) (by omega) (fun k k0 k1 => by omega) (fun V21 C21 kd off hE => absurd hE (zCE.no (zT1_got hbb) zT1_dn)) (fun V21 C21 N x w2 hx hd h8 h9 hv hc hn ho hw => RK.v ?_)
      obtain rfl : x = zT1 := by rw [zT1_got hbb] at hx; exact (Sum.inr.inj hx).symm
      obtain rfl : N = 36 := hd.uq zT1_dn
      have hw' : ∀ j, C21 0 j = w2 j := fun j => (hw j).trans (wRes_00 (by rw [ho 952 (by omega)]; exact w952))
      have c952 : C21 0 952 = 0 := by rw [hw' 952, ho 952 (by omega)]; exact w952
      have n1 : wNew zT1 36 (C21 0) 0 := hn.cg (by decide) zT1_dn.2.2 (fun j _ _ => hw' _)
      have o1 : ∀ j, 952 ≤ j → C21 0 j = C' 0 j := fun j hj => by rw [hw' j, ho j (by omega), w0]
      have u1 : ∀ i, i = 4 ∨ i = 5 ∨ i = 11 ∨ i = 12 → V21 i = 0 := fun i hi => by rw [hv i (by simp only [cmV, List.mem_cons, List.not_mem_nil, or_false]; omega), sv1 i (by simp only [List.mem_cons, List.not_mem_nil, or_false]; omega), hV i, if_neg (by omega)]
      clear hx hd
      refine i_pop dX11_init_224 rfl ?_
      refine i_aload_n dX11_init_225 rfl ?_
      refine RW.up (fun kk => r_ldcS dX11_init_226 hR2 kk) ?_
      refine t_callV (As := [_]) dX11_init_228 cfX11_type imX11_type seX11_type lX11_79 rfl rfl rfl (Nat.le_of_ble_eq_true rfl) ?_
      refine k_type hK hT2 (by decide) (fun j _ _ => tx2_rg j) (fun V2 C2 l2 sv2 sc2 b2 => RK.n0 ?_)
      refine i_aload_n dX11_init_231 rfl ?_
      refine i_const dX11_init_232 ?_
      refine t_callV (As := [_]) dX11_init_233 cfX11_compiles imX11_compiles seX11_compiles lX11_83 rfl rfl rfl (Nat.le_of_ble_eq_true rfl) ?_
      have w0 : C2 0 = C21 0 := sc2 0 (by decide)
      have w952 : C2 0 952 = 0 := by rw [w0]; exact c952
      have hbb : ∀ j, 0 ≤ j → j < 10 → C2 6 j = tx2 j := fun j j0 j1 => by rw [b2 j]; exact if_pos ⟨j0, j1⟩
      refine k_compiles (sz := 10) (by decide) l2 (by decide) (fun j j0 j1 => by rw [hbb j j0 j1]; have := tx2_rg j; omega) (by omega) (fun k k0 k1 => by omega) (fun V22 C22 kd off hE => absurd hE (zCE.no (zT2_got hbb) zT2_dn)) (fun V22 C22 N x w2 hx hd h8 h9 hv hc hn ho hw => RK.v ?_)
      obtain rfl : x = zT2 := by rw [zT2_got hbb] at hx; exact (Sum.inr.inj hx).symm
      obtain rfl : N = 36 := hd.uq zT2_dn
      have hw' : ∀ j, C22 0 j = w2 j := fun j => (hw j).trans (wRes_00 (by rw [ho 952 (by omega)]; exact w952))
      have o2 : ∀ j, j < 476 ∨ 952 ≤ j → C22 0 j = C21 0 j := fun j hj => by rw [hw' j, ho j (by omega), w0]
      have n2 : wNew zT2 36 (C22 0) 1 := hn.cg (by decide) zT2_dn.2.2 (fun j _ _ => hw' _)
      have u2 : ∀ i, i = 4 ∨ i = 5 ∨ i = 11 ∨ i = 12 → V22 i = 0 := fun i hi => by rw [hv i (by simp only [cmV, List.mem_cons, List.not_mem_nil, or_false]; omega), sv2 i (by simp only [List.mem_cons, List.not_mem_nil, or_false]; omega)]; exact u1 i hi
      refine i_pop dX11_init_236 rfl ?_
      refine i_aload_n dX11_init_237 rfl ?_
      refine i_const dX11_init_238 ?_
      refine t_put dX11_init_239 fX11_89 (by decide) rfl rfl ?_
      refine i_aload_n dX11_init_242 rfl ?_
      refine i_const dX11_init_243 ?_
      refine t_put dX11_init_244 fX11_92 (by decide) rfl rfl ?_
      refine i_aload_n dX11_init_247 rfl ?_
      refine i_const dX11_init_248 ?_
      refine t_put dX11_init_249 fX11_25 (by decide) rfl rfl ?_
      refine i_aload_n dX11_init_252 rfl ?_
      refine i_const dX11_init_253 ?_
      refine t_put dX11_init_254 fX11_95 (by decide) rfl rfl ?_
      refine i_return dX11_init_257 rfl ?_
      refine hp _ _ ⟨⟨⟨n1.cg (by decide) zT1_dn.2.2 (fun j j0 j1 => o2 _ (by omega)), n2⟩, ?_, fun k k0 k1 => ?_, ?_, ?_⟩, u2 4 (by decide), u2 5 (by decide), rfl, rfl, rfl, u2 11 (by decide), rfl⟩
      · exact (o2 952 (by decide)).trans c952
      · exact (o2 k (by omega)).trans ((o1 k (by omega)).trans ((hI k).trans (if_pos (by omega))))
      · exact (o2 983 (by decide)).trans ((o1 983 (by decide)).trans ((hI 983).trans ((if_neg (by omega)).trans (hC0 983))))
      · exact (o2 984 (by decide)).trans ((o1 984 (by decide)).trans ((hI 984).trans ((if_neg (by omega)).trans (hC0 984))))
    · -- on
      refine i_aload_n dX11_init_196 rfl ?_
      refine t_getA dX11_init_197 fX11_7.o rfl ?_
      refine i_sipush dX11_init_200 (by decide) ?_
      refine i_iload_n dX11_init_203 rfl ?_
      refine i_add dX11_init_204 ?_
      refine i_const dX11_init_205 ?_
      refine t_iast (N := 985) dX11_init_206 (by decide) (by decide) rfl (by omega) ?_
      refine i_iinc dX11_init_207 rfl (L' := [some _, some _]) (by decide) rfl ?_
      refine i_goto (tgt := 190) dX11_init_210 (by decide) ?_
      refine ih _ ?_ (k + 1) _ rfl (by omega) (hC.cu (by decide)) (fun j => ?_)
      · omega
      show zu _ _ _ j = _
      by_cases z9 : j = 971 + k
      · rw [z9, zu_at, if_pos (by omega)]
      · rw [zu_ne z9, hI j]; exact if_cg (by omega)
end M90
section C90b
variable {G : p_G} {P' : p_P} {d : Nat} {h : p_H} {a : Nat} {a1 v1 a2 v2 : Nat}
/-- the fields of the reference when it is new -/
def m_F0 : Nat → Value := fun i => if i ∈ m_in then .int 0 else .null
/-- the numbers of the reference before its first pattern -/
def m_V0 : Nat → Int := fun i => if i = 9 then -1 else 0
theorem k_init (hK : p_Zk G) (hT1 : p_Str G a1 v1 8 tx1) (hT2 : p_Str G a2 v2 10 tx2) (hR1 : ∀ s, p_S G s → vk_R RX11 77 "a(b|c)*d" a1 s) (hR2 : ∀ s, p_S G s → vk_R RX11 87 "(ab|ac)*d?" a2 s) (ha : h a = some (.inr (11, gl 38 m_F0))) (hp : ∀ Y V' C', Y 38 = a → (∀ i, i ∈ m_ix → i ≠ 38 → h (Y i) = none) → mBeg V' C' → ∀ h', m_I Y h (V', C', fun _ => 0) h' → P' (.inl none) h') : SM G mX11_init h [.ref a] (d + 87) 20 48720 P' := by
  refine SM.of2 cfX11_init (L := [some (.ref a), none]) rfl (Nat.le_of_ble_eq_true rfl) ?_
  have H := hA.one (Y := fun _ => a) (i := 38) ha rfl
  have hY : (fun _ : Nat => a) 38 = a := rfl
  clear ha
  refine r_aload_n dX11_init_0 rfl ?_
  refine r_objInit dX11_init_1 lX11_1 (Nat.le_of_ble_eq_true rfl) ?_
  refine r_aload_n dX11_init_4 rfl ?_
  refine r_sipush (v := 985) dX11_init_5 (by decide) ?_
  refine o_arrI (i := 0) (k := 19) (n := 47735) (N := 985) H hY rfl (by decide) dX11_init_8 (by decide) (by decide) (by decide) dX11_init_10 fX11_7 rfl (by decide) (fun q0 hp10 hY H => ?_)
  refine r_aload_n dX11_init_13 rfl ?_
  refine r_sipush (v := 985) dX11_init_14 (by decide) ?_
  refine o_arrI (i := 1) (k := 18) (n := 46750) (N := 985) H hY rfl (by decide) dX11_init_17 (by decide) (by decide) (by decide) dX11_init_19 fX11_13 rfl (by decide) (fun q1 hp19 hY H => ?_)
  refine r_aload_n dX11_init_22 rfl ?_
  refine r_sipush (v := 7880) dX11_init_23 (by decide) ?_
  refine o_arrI (i := 2) (k := 17) (n := 38870) (N := 7880) H hY rfl (by decide) dX11_init_26 (by decide) (by decide) (by decide) dX11_init_28 fX11_16 rfl (by decide) (fun q2 hp28 hY H => ?_)
  refine r_aload_n dX11_init_31 rfl ?_
  refine r_sipush (v := 985) dX11_init_32 (by decide) ?_
  refine o_arrI (i := 3) (k := 16) (n := 37885) (N := 985) H hY rfl (by decide) dX11_init_35 (by decide) (by decide) (by decide) dX11_init_37 fX11_19 rfl (by decide) (fun q3 hp37 hY H => ?_)
  refine r_aload_n dX11_init_40 rfl ?_
  refine r_sipush (v := 200) dX11_init_41 (by decide) ?_
  refine o_arrI (i := 6) (k := 15) (n := 37685) (N := 200) H hY rfl (by decide) dX11_init_44 (by decide) (by decide) (by decide) dX11_init_46 fX11_22 rfl (by decide) (fun q6 hp46 hY H => ?_)
  refine r_aload_n dX11_init_49 rfl ?_
  refine r_iconst (v := -1) dX11_init_50 rfl ?_
  refine o_put H hY dX11_init_51 fX11_25 rfl rfl (by decide) (fun hp51 H => ?_)
  refine r_aload_n dX11_init_54 rfl ?_
  refine r_sipush (v := 3600) dX11_init_55 (by decide) ?_
  refine o_arrC (i := 10) (k := 14) (n := 34085) (N := 3600) H hY rfl (by decide) dX11_init_58 (by decide) (by decide) (by decide) dX11_init_60 fX11_29 rfl (by decide) (fun q10 hp60 hY H => ?_)
  refine r_aload_n dX11_init_63 rfl ?_
  refine r_sipush (v := 1400) dX11_init_64 (by decide) ?_
  refine o_arrI (i := 13) (k := 13) (n := 32685) (N := 1400) H hY rfl (by decide) dX11_init_67 (by decide) (by decide) (by decide) dX11_init_69 fX11_33 rfl (by decide) (fun q13 hp69 hY H => ?_)
  refine r_aload_n dX11_init_72 rfl ?_
  refine r_sipush (v := 2800) dX11_init_73 (by decide) ?_
  refine o_arrI (i := 14) (k := 12) (n := 29885) (N := 2800) H hY rfl (by decide) dX11_init_76 (by decide) (by decide) (by decide) dX11_init_78 fX11_36 rfl (by decide) (fun q14 hp78 hY H => ?_)
  refine r_aload_n dX11_init_81 rfl ?_
  refine r_sipush (v := 2800) dX11_init_82 (by decide) ?_
  refine o_arrI (i := 15) (k := 11) (n := 27085) (N := 2800) H hY rfl (by decide) dX11_init_85 (by decide) (by decide) (by decide) dX11_init_87 fX11_39 rfl (by decide) (fun q15 hp87 hY H => ?_)
  refine r_aload_n dX11_init_90 rfl ?_
  refine r_sipush (v := 1400) dX11_init_91 (by decide) ?_
  refine o_arrI (i := 16) (k := 10) (n := 25685) (N := 1400) H hY rfl (by decide) dX11_init_94 (by decide) (by decide) (by decide) dX11_init_96 fX11_42 rfl (by decide) (fun q16 hp96 hY H => ?_)
  refine r_aload_n dX11_init_99 rfl ?_
  refine r_sipush (v := 1400) dX11_init_100 (by decide) ?_
  refine o_arrI (i := 17) (k := 9) (n := 24285) (N := 1400) H hY rfl (by decide) dX11_init_103 (by decide) (by decide) (by decide) dX11_init_105 fX11_45 rfl (by decide) (fun q17 hp105 hY H => ?_)
  refine r_aload_n dX11_init_108 rfl ?_
  refine r_sipush (v := 1400) dX11_init_109 (by decide) ?_
  refine o_arrI (i := 18) (k := 8) (n := 22885) (N := 1400) H hY rfl (by decide) dX11_init_112 (by decide) (by decide) (by decide) dX11_init_114 fX11_48 rfl (by decide) (fun q18 hp114 hY H => ?_)
  refine r_aload_n dX11_init_117 rfl ?_
  refine r_bipush (v := 25) dX11_init_118 (by decide) ?_
  refine o_arrI (i := 19) (k := 7) (n := 22860) (N := 25) H hY rfl (by decide) dX11_init_120 (by decide) (by decide) (by decide) dX11_init_122 fX11_51 rfl (by decide) (fun q19 hp122 hY H => ?_)
  refine r_aload_n dX11_init_125 rfl ?_
  refine r_sipush (v := 3600) dX11_init_126 (by decide) ?_
  refine o_arrI (i := 23) (k := 6) (n := 19260) (N := 3600) H hY rfl (by decide) dX11_init_129 (by decide) (by decide) (by decide) dX11_init_131 fX11_54 rfl (by decide) (fun q23 hp131 hY H => ?_)
  refine r_aload_n dX11_init_134 rfl ?_
  refine r_sipush (v := 3600) dX11_init_135 (by decide) ?_
  refine o_arrI (i := 24) (k := 5) (n := 15660) (N := 3600) H hY rfl (by decide) dX11_init_138 (by decide) (by decide) (by decide) dX11_init_140 fX11_57 rfl (by decide) (fun q24 hp140 hY H => ?_)
  refine r_aload_n dX11_init_143 rfl ?_
  refine r_sipush (v := 3600) dX11_init_144 (by decide) ?_
  refine o_arrI (i := 25) (k := 4) (n := 12060) (N := 3600) H hY rfl (by decide) dX11_init_147 (by decide) (by decide) (by decide) dX11_init_149 fX11_60 rfl (by decide) (fun q25 hp149 hY H => ?_)
  refine r_aload_n dX11_init_152 rfl ?_
  refine r_sipush (v := 3600) dX11_init_153 (by decide) ?_
  refine o_arrI (i := 26) (k := 3) (n := 8460) (N := 3600) H hY rfl (by decide) dX11_init_156 (by decide) (by decide) (by decide) dX11_init_158 fX11_63 rfl (by decide) (fun q26 hp158 hY H => ?_)
  refine r_aload_n dX11_init_161 rfl ?_
  refine r_sipush (v := 1260) dX11_init_162 (by decide) ?_
  refine o_arrJ (i := 29) (k := 2) (n := 7200) (N := 1260) H hY rfl (by decide) dX11_init_165 (by decide) (by decide) (by decide) dX11_init_167 fX11_66 rfl (by decide) (fun q29 hp167 hY H => ?_)
  refine r_aload_n dX11_init_170 rfl ?_
  refine r_sipush (v := 3600) dX11_init_171 (by decide) ?_
  refine o_arrZ (i := 30) (k := 1) (n := 3600) (N := 3600) H hY rfl (by decide) dX11_init_174 (by decide) (by decide) (by decide) dX11_init_176 fX11_70 rfl (by decide) (fun q30 hp176 hY H => ?_)
  refine r_aload_n dX11_init_179 rfl ?_
  refine r_sipush (v := 3600) dX11_init_180 (by decide) ?_
  refine o_arrI (i := 37) (k := 0) (n := 0) (N := 3600) H hY rfl (by decide) dX11_init_183 (by decide) (by decide) (by decide) dX11_init_185 fX11_74 rfl (by decide) (fun q37 hp185 hY H => ?_)
  refine r_iconst (v := 0) dX11_init_188 rfl ?_
  refine r_istore_n dX11_init_189 (L' := [some _, some _]) (by decide) rfl ?_
  obtain ⟨k1, k2⟩ := hA.m3 (X := (m_V0, (fun _ _ => 0), fun _ => 0)) H rfl (fun i hi => by
      simp only [m_ix, List.mem_cons, List.not_mem_nil, or_false] at hi
      rcases hi with rfl | rfl | rfl | rfl | rfl | rfl | rfl | rfl | rfl | rfl | rfl | rfl | rfl | rfl | rfl | rfl | rfl | rfl | rfl | rfl | rfl <;> rfl) (fun i hi => by
      refine Decidable.byContradiction (fun hn => hi ?_)
      simp only [m_ix, List.mem_cons, List.not_mem_nil, or_false, not_or] at hn
      simp [eu, hn])
  exact RW.sw k1 (k_init_l (h0 := h) (V := m_V0) (C := fun _ _ => 0) (J := fun _ => 0) hK hT1 hT2 hR1 hR2 (fun _ => rfl) (fun _ => rfl) (fun V' C' hm h' hI => hp _ V' C' rfl k2 hm h' hI) _ 0 _ rfl (by decide) sC.rfl (fun j => (if_neg (by omega)).symm))
end C90b
