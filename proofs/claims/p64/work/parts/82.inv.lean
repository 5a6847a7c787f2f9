/-! ===== what has been read is a pattern ===== -/
/-- p reaches one of l -/
def zRc (fo : Int → Int) (l p : Int) : Prop := ∀ S : Int → Prop, (∀ r, 0 ≤ r → zt l r → S r) → (∀ a b, 1 ≤ a → a ≤ 24 → 0 ≤ b → zt (fo a) b → S b → S a) → S p
def zMo (fo fo' : Int → Int) : Prop := ∀ a b, 1 ≤ a → a ≤ 24 → 0 ≤ b → zt (fo a) b → zt (fo' a) b
def zPI (n : Int) (fo : Int → Int) (q : zPt) : Prop := zM q.2.1 0 n ∧ zM q.2.2 0 n ∧ ∀ x, 0 ≤ x → zt q.2.1 x → zRc fo q.2.2 x
def zNE (q : zPt) : Prop := q.1 = true ∨ ∃ x, 0 ≤ x ∧ zt q.2.1 x
def zFI (n : Int) (fo : Int → Int) : Prop := (∀ p, zM (fo p) 0 n) ∧ ∀ p, n < p → fo p = 0
def zLI (n : Int) (fo : Int → Int) (l : zLv) : Prop := zPI n fo l.1 ∧ (zPI n fo l.2.1 ∧ zNE l.2.1) ∧ ∀ Q, l.2.2 = some Q → zPI n fo Q ∧ zNE Q
def zLc (fo : Int → Int) (l : zLv) (p : Int) : Prop := zRc fo l.1.2.2 p ∨ zRc fo l.2.1.2.2 p ∨ ∃ Q, l.2.2 = some Q ∧ zRc fo Q.2.2 p
def zIv (x : zSt) : Prop := (0 ≤ x.1.1.1 ∧ x.1.1.1 ≤ 24) ∧ (∀ q, 1 ≤ q → q ≤ x.1.1.1 → 0 ≤ x.1.2.1 q ∧ x.1.2.1 q ≤ 6) ∧ zFI x.1.1.1 x.1.2.2 ∧ (zLI x.1.1.1 x.1.2.2 x.2.1 ∧ ∀ o, o ∈ x.2.2 → zLI x.1.1.1 x.1.2.2 o ∧ o.2.2 = none) ∧ ∀ p, 1 ≤ p → p ≤ x.1.1.1 → zLc x.1.2.2 x.2.1 p ∨ ∃ o, o ∈ x.2.2 ∧ zLc x.1.2.2 o p
section C82a
variable {fo fo' : Int → Int} {l l' p r x n n' b : Int} {A B Q q : zPt} {v : zLv}
theorem zRc.las (h0 : 0 ≤ p) (h : zt l p) : zRc fo l p := fun S h1 _ => h1 p h0 h
theorem zRc.st (h1 : 1 ≤ p) (h2 : p ≤ 24) (hx : 0 ≤ x) (ht : zt (fo p) x) (h : zRc fo l x) : zRc fo l p := fun S a b => b p x h1 h2 hx ht (h S a b)
theorem zRc.mo (h : zRc fo l p) (hf : zMo fo fo') (hl : ∀ r, 0 ≤ r → zt l r → zRc fo' l' r) : zRc fo' l' p := h (zRc fo' l') hl (fun a b a1 a2 b0 hab hb => zRc.st a1 a2 b0 (hf a b a1 a2 b0 hab) hb)
theorem zRc.up (h : zRc fo l p) (hf : zMo fo fo') (hl : ∀ r, zt l r → zt l' r) : zRc fo' l' p := h.mo hf (fun r r0 hr => zRc.las r0 (hl r hr))
theorem zMo.rfl : zMo fo fo := fun _ _ _ _ _ h => h
theorem zMo.af : zMo fo (zAF b x fo) := fun a c _ _ _ h => by
  unfold zAF
  split
  · exact zt_zo.mpr (Or.inl h)
  · exact h
theorem zPI.up (h : zPI n fo q) (hm : zMo fo fo') : zPI n fo' q := ⟨h.1, h.2.1, fun x x0 hx => (h.2.2 x x0 hx).up hm (fun _ z => z)⟩
theorem zPI.w (h : zPI n fo q) (hn : n ≤ n') : zPI n' fo q := ⟨h.1.w (Int.le_refl _) hn, h.2.1.w (Int.le_refl _) hn, h.2.2⟩
theorem zFI.w (h : zFI n fo) (hn : n ≤ n') : zFI n' fo := ⟨fun p => (h.1 p).w (Int.le_refl _) hn, fun p hp => h.2 p (by omega)⟩
theorem zFI.af (h : zFI n fo) (hb : zM b 0 n) (hx : zM x 0 n) : zFI n (zAF b x fo) := by
  refine ⟨fun p => ?_, fun p hp => ?_⟩
  · unfold zAF
    split
    · exact (h.1 p).o hx
    · exact h.1 p
  · unfold zAF
    rw [if_neg (fun z => by have := hb.2 p (by omega) z.2.2; omega)]
    exact h.2 p hp
theorem zPI.jn (hB : zPI n fo B) (hQ : zPI n fo Q) (nB : zNE B) (nQ : zNE Q) (hn : n ≤ 24) : (zPI n (zAF B.2.2 Q.2.1 fo) (zJn B Q) ∧ zNE (zJn B Q)) ∧ (∀ p, zRc fo B.2.2 p → zRc (zAF B.2.2 Q.2.1 fo) (zJn B Q).2.2 p) ∧ ∀ p, zRc fo Q.2.2 p → zRc (zAF B.2.2 Q.2.1 fo) (zJn B Q).2.2 p := by
  obtain ⟨be, bf, bl⟩ := B
  obtain ⟨qe, qf, ql⟩ := Q
  have hm : zMo fo (zAF bl qf fo) := zMo.af
  have hq : ∀ p, zRc fo ql p → zRc (zAF bl qf fo) (if qe = true then zo bl ql else ql) p := fun p h => h.up hm (fun r hr => by
    split
    · exact zt_zo.mpr (Or.inr hr)
    · exact hr)
  have hb : ∀ p, zRc fo bl p → zRc (zAF bl qf fo) (if qe = true then zo bl ql else ql) p := fun p h => h.mo hm (fun r r0 hr => by
    by_cases e : qe = true
    · rw [if_pos e]
      exact zRc.las r0 (zt_zo.mpr (Or.inl hr))
    · obtain ⟨x, x0, hx⟩ := nQ.resolve_left e
      have hr2 := hB.2.1.2 r r0 hr
      refine zRc.st (by omega) (by omega) x0 ?_ (hq x (hQ.2.2 x x0 hx))
      unfold zAF
      rw [if_pos ⟨by omega, by omega, hr⟩]
      exact zt_zo.mpr (Or.inr hx))
  refine ⟨⟨⟨?_, ?_, fun x x0 hx => ?_⟩, ?_⟩, hb, hq⟩
  · show zM (if be = true then zo bf qf else bf) 0 n
    split
    · exact hB.1.o hQ.1
    · exact hB.1
  · show zM (if qe = true then zo bl ql else ql) 0 n
    split
    · exact hB.2.1.o hQ.2.1
    · exact hQ.2.1
  · change zt (if be = true then zo bf qf else bf) x at hx
    show zRc _ (if qe = true then zo bl ql else ql) x
    split at hx
    · rcases zt_zo.mp hx with z | z
      · exact hb x (hB.2.2 x x0 z)
      · exact hq x (hQ.2.2 x x0 z)
    · exact hb x (hB.2.2 x x0 hx)
  · show (be && qe) = true ∨ ∃ x, 0 ≤ x ∧ zt (if be = true then zo bf qf else bf) x
    by_cases e : be = true
    · rw [if_pos e]
      by_cases e2 : qe = true
      · left; rw [e, e2]; rfl
      · obtain ⟨x, x0, hx⟩ := nQ.resolve_left e2
        exact Or.inr ⟨x, x0, zt_zo.mpr (Or.inr hx)⟩
    · obtain ⟨x, x0, hx⟩ := nB.resolve_left e
      rw [if_neg e]
      exact Or.inr ⟨x, x0, hx⟩
theorem zPI.or (hA : zPI n fo A) (hB : zPI n fo B) (nB : zNE B) : (zPI n fo (zOr A B) ∧ zNE (zOr A B)) ∧ (∀ p, zRc fo A.2.2 p → zRc fo (zOr A B).2.2 p) ∧ ∀ p, zRc fo B.2.2 p → zRc fo (zOr A B).2.2 p := by
  have ha : ∀ p, zRc fo A.2.2 p → zRc fo (zOr A B).2.2 p := fun p h => h.up zMo.rfl (fun r hr => zt_zo.mpr (Or.inl hr))
  have hb : ∀ p, zRc fo B.2.2 p → zRc fo (zOr A B).2.2 p := fun p h => h.up zMo.rfl (fun r hr => zt_zo.mpr (Or.inr hr))
  refine ⟨⟨⟨hA.1.o hB.1, hA.2.1.o hB.2.1, fun x x0 hx => ?_⟩, ?_⟩, ha, hb⟩
  · rcases zt_zo.mp hx with z | z
    · exact ha x (hA.2.2 x x0 z)
    · exact hb x (hB.2.2 x x0 z)
  · rcases nB with z | ⟨x, x0, hx⟩
    · left
      show (A.1 || B.1) = true
      rw [z, Bool.or_true]
    · exact Or.inr ⟨x, x0, zt_zo.mpr (Or.inr hx)⟩
theorem zLI.up (h : zLI n fo v) (hm : zMo fo fo') : zLI n fo' v := ⟨h.1.up hm, ⟨h.2.1.1.up hm, h.2.1.2⟩, fun Q hQ => ⟨(h.2.2 Q hQ).1.up hm, (h.2.2 Q hQ).2⟩⟩
theorem zLI.w (h : zLI n fo v) (hn : n ≤ n') : zLI n' fo v := ⟨h.1.w hn, ⟨h.2.1.1.w hn, h.2.1.2⟩, fun Q hQ => ⟨(h.2.2 Q hQ).1.w hn, (h.2.2 Q hQ).2⟩⟩
theorem zLc.up (h : zLc fo v p) (hm : zMo fo fo') : zLc fo' v p := by
  rcases h with h | h | ⟨Q, hQ, h⟩
  · exact Or.inl (h.up hm (fun _ z => z))
  · exact Or.inr (Or.inl (h.up hm (fun _ z => z)))
  · exact Or.inr (Or.inr ⟨Q, hQ, h.up hm (fun _ z => z)⟩)
theorem zLI.ep (h : zLI n fo v) (hf : zFI n fo) (hn : n ≤ 24) : (zFI n (zEp fo v).1 ∧ zMo fo (zEp fo v).1) ∧ (zPI n (zEp fo v).1 (zEp fo v).2 ∧ zNE (zEp fo v).2) ∧ ∀ p, zLc fo v p → zRc (zEp fo v).1 v.1.2.2 p ∨ zRc (zEp fo v).1 (zEp fo v).2.2.2 p := by
  obtain ⟨A, B, o⟩ := v
  obtain ⟨hA, ⟨hB, nB⟩, hQ⟩ := h
  cases o with
  | none =>
    refine ⟨⟨hf, zMo.rfl⟩, ⟨hB, nB⟩, fun p hp => ?_⟩
    rcases hp with z | z | ⟨Q, z, _⟩
    · exact Or.inl z
    · exact Or.inr z
    · cases z
  | some Q =>
    obtain ⟨hQ, nQ⟩ := hQ Q rfl
    obtain ⟨j1, j2, j3⟩ := hB.jn hQ nB nQ hn
    refine ⟨⟨hf.af hB.2.1 hQ.1, zMo.af⟩, j1, fun p hp => ?_⟩
    rcases hp with z | z | ⟨Q', z, y⟩
    · exact Or.inl (z.up zMo.af (fun _ z => z))
    · exact Or.inr (j2 p z)
    · obtain rfl := Option.some.inj z
      exact Or.inr (j3 p y)
theorem zLI.eb (h : zLI n fo v) (hf : zFI n fo) (hn : n ≤ 24) : (zFI n (zEb fo v).1 ∧ zMo fo (zEb fo v).1) ∧ (zPI n (zEb fo v).1 (zEb fo v).2 ∧ zNE (zEb fo v).2) ∧ ∀ p, zLc fo v p → zRc (zEb fo v).1 (zEb fo v).2.2.2 p := by
  obtain ⟨e1, ⟨e2, e3⟩, e4⟩ := h.ep hf hn
  obtain ⟨o1, o2, o3⟩ := (h.1.up e1.2).or e2 e3
  exact ⟨e1, o1, fun p hp => (e4 p hp).elim (o2 p) (o3 p)⟩
theorem zLI.z : zLI n fo zL0 := ⟨⟨zM.z, zM.z, fun _ _ h => absurd h zt_0⟩, ⟨⟨zM.z, zM.z, fun _ _ h => absurd h zt_0⟩, Or.inl rfl⟩, fun Q hQ => nomatch hQ⟩
end C82a
section C82b
variable {x y : zSt} {b : Int}
theorem zIv.z : zIv zX0 := ⟨⟨by decide, by decide⟩, fun q q0 q1 => absurd q1 (by show ¬ q ≤ 0; omega), ⟨fun _ => zM.z, fun _ _ => rfl⟩, ⟨zLI.z, fun o ho => nomatch ho⟩, fun p p0 p1 => absurd p1 (by show ¬ p ≤ 0; omega)⟩
theorem zIv.step (h : zIv x) (e : zStep b x = .inr y) : zIv y ∧ x.1.1.2 ≤ y.1.1.2 ∧ y.1.1.2 ≤ x.1.1.2 + 1 := by
  obtain ⟨h1, h2, h3, ⟨h4, h5⟩, h6⟩ := h
  obtain ⟨⟨p1, p2⟩, ⟨p3, p4⟩, p5⟩ := h4.ep h3 h1.2
  obtain ⟨⟨b1, b2⟩, ⟨b3, b4⟩, b5⟩ := h4.eb h3 h1.2
  unfold zStep at e
  by_cases c1 : b = 40
  · rw [if_pos c1] at e
    by_cases c2 : x.2.2.length = 20
    · rw [if_pos c2] at e; cases e
    · rw [if_neg c2] at e
      obtain rfl := Sum.inr.inj e
      refine ⟨⟨h1, h2, p1, ⟨zLI.z, fun o ho => ?_⟩, fun p q0 q1 => ?_⟩, Int.le_refl _, by show x.1.1.2 ≤ x.1.1.2 + 1; omega⟩
      · rcases List.mem_cons.mp ho with rfl | ho
        · exact ⟨⟨h4.1.up p2, ⟨p3, p4⟩, fun Q hQ => nomatch hQ⟩, rfl⟩
        · exact ⟨(h5 o ho).1.up p2, (h5 o ho).2⟩
      · rcases h6 p q0 q1 with z | ⟨o, ho, z⟩
        · refine Or.inr ⟨_, List.mem_cons_self, ?_⟩
          rcases p5 p z with z | z
          · exact Or.inl z
          · exact Or.inr (Or.inl z)
        · exact Or.inr ⟨o, List.mem_cons_of_mem _ ho, z.up p2⟩
  rw [if_neg c1] at e
  by_cases c2 : b = 41
  · rw [if_pos c2] at e
    cases hx : x.2.2 with
    | nil => rw [hx] at e; cases e
    | cons o r =>
      rw [hx] at e h5 h6
      obtain rfl := Sum.inr.inj e
      have ho := h5 o List.mem_cons_self
      refine ⟨⟨h1, h2, b1, ⟨⟨ho.1.1.up b2, ⟨ho.1.2.1.1.up b2, ho.1.2.1.2⟩, fun Q hQ => ?_⟩, fun o' ho' => ?_⟩, fun p q0 q1 => ?_⟩, Int.le_refl _, by show x.1.1.2 ≤ x.1.1.2 + 1; omega⟩
      · obtain rfl := Option.some.inj hQ
        exact ⟨b3, b4⟩
      · have := h5 o' (List.mem_cons_of_mem _ ho')
        exact ⟨this.1.up b2, this.2⟩
      · rcases h6 p q0 q1 with z | ⟨o', ho', z⟩
        · exact Or.inl (Or.inr (Or.inr ⟨_, rfl, b5 p z⟩))
        · rcases List.mem_cons.mp ho' with rfl | ho'
          · left
            rcases z.up b2 with z | z | ⟨Q, hQ, _⟩
            · exact Or.inl z
            · exact Or.inr (Or.inl z)
            · rw [ho.2] at hQ; cases hQ
          · exact Or.inr ⟨o', ho', z.up b2⟩
  rw [if_neg c2] at e
  by_cases c3 : b = 124
  · rw [if_pos c3] at e
    obtain rfl := Sum.inr.inj e
    refine ⟨⟨h1, h2, b1, ⟨⟨b3, zLI.z.2.1, fun Q hQ => nomatch hQ⟩, fun o ho => ⟨(h5 o ho).1.up b2, (h5 o ho).2⟩⟩, fun p q0 q1 => ?_⟩, Int.le_refl _, by show x.1.1.2 ≤ x.1.1.2 + 1; omega⟩
    rcases h6 p q0 q1 with z | ⟨o, ho, z⟩
    · exact Or.inl (Or.inl (b5 p z))
    · exact Or.inr ⟨o, ho, z.up b2⟩
  rw [if_neg c3] at e
  by_cases c4 : b = 42 ∨ b = 43 ∨ b = 63
  · rw [if_pos c4] at e
    cases hx : x.2.1.2.2 with
    | none => rw [hx] at e; cases e
    | some Q =>
      rw [hx] at e
      obtain rfl := Sum.inr.inj e
      obtain ⟨hQ, nQ⟩ := h4.2.2 Q hx
      have hm : zMo x.1.2.2 (zOp b x.1.2.2 Q).1 := by
        unfold zOp
        dsimp only
        split
        · exact zMo.af
        · exact zMo.rfl
      have hF : zFI x.1.1.1 (zOp b x.1.2.2 Q).1 := by
        unfold zOp
        dsimp only
        split
        · exact h3.af hQ.2.1 hQ.1
        · exact h3
      have nQ' : zNE (zOp b x.1.2.2 Q).2 := by
        rcases nQ with z | z
        · left
          show (Q.1 || _) = true
          rw [z, Bool.true_or]
        · exact Or.inr z
      refine ⟨⟨h1, h2, hF, ⟨⟨h4.1.up hm, ⟨h4.2.1.1.up hm, h4.2.1.2⟩, fun Q' hQ' => ?_⟩, fun o ho => ⟨(h5 o ho).1.up hm, (h5 o ho).2⟩⟩, fun p q0 q1 => ?_⟩, ?_⟩
      · obtain rfl := Option.some.inj hQ'
        exact ⟨hQ.up hm, nQ'⟩
      · rcases h6 p q0 q1 with z | ⟨o, ho, z⟩
        · left
          rcases z.up hm with z | z | ⟨Q', hQ', z⟩
          · exact Or.inl z
          · exact Or.inr (Or.inl z)
          · rw [hx] at hQ'
            obtain rfl := Option.some.inj hQ'
            exact Or.inr (Or.inr ⟨_, rfl, z⟩)
        · exact Or.inr ⟨o, ho, z.up hm⟩
      · show x.1.1.2 ≤ (if b ≠ 63 then x.1.1.2 + 1 else x.1.1.2) ∧ (if b ≠ 63 then x.1.1.2 + 1 else x.1.1.2) ≤ x.1.1.2 + 1
        split <;> omega
  rw [if_neg c4] at e
  by_cases c5 : b = 46 ∨ (97 ≤ b ∧ b ≤ 102)
  · rw [if_pos c5] at e
    by_cases c6 : x.1.1.1 = 24
    · rw [if_pos c6] at e; cases e
    · rw [if_neg c6] at e
      obtain rfl := Sum.inr.inj e
      have hn : x.1.1.1 ≤ x.1.1.1 + 1 := by omega
      refine ⟨⟨⟨by show 0 ≤ x.1.1.1 + 1; omega, by show x.1.1.1 + 1 ≤ 24; omega⟩, fun q q0 q1 => ?_, p1.w hn, ⟨⟨(h4.1.up p2).w hn, ⟨p3.w hn, p4⟩, fun Q hQ => ?_⟩, fun o ho => ⟨((h5 o ho).1.up p2).w hn, (h5 o ho).2⟩⟩, fun p q0 q1 => ?_⟩, Int.le_refl _, by show x.1.1.2 ≤ x.1.1.2 + 1; omega⟩
      · show 0 ≤ zu _ _ _ q ∧ zu _ _ _ q ≤ 6
        by_cases z : q = x.1.1.1 + 1
        · rw [z, zu_at]
          split <;> omega
        · rw [zu_ne z]
          have q2 : q ≤ x.1.1.1 + 1 := q1
          exact h2 q q0 (by omega)
      · obtain rfl := Option.some.inj hQ
        have hz : zM (zp (x.1.1.1 + 1)) 0 (x.1.1.1 + 1) := zM.p (by omega) (by omega)
        exact ⟨⟨hz, hz, fun r r0 hr => zRc.las r0 hr⟩, Or.inr ⟨x.1.1.1 + 1, by omega, (zt_zp (by omega) (by omega)).mpr rfl⟩⟩
      · by_cases z : p = x.1.1.1 + 1
        · exact Or.inl (Or.inr (Or.inr ⟨_, rfl, zRc.las (by omega) ((zt_zp (by omega) (by omega)).mpr z)⟩))
        · have q2 : p ≤ x.1.1.1 + 1 := q1
          rcases h6 p q0 (by omega) with z | ⟨o, ho, z⟩
          · left
            rcases p5 p z with z | z
            · exact Or.inl z
            · exact Or.inr (Or.inl z)
          · exact Or.inr ⟨o, ho, z.up p2⟩
  · rw [if_neg c5] at e; cases e
theorem zIv.run {bs : Int → Int} {sz : Int} : ∀ (k : Nat) {x : zSt}, zIv x → zRun bs sz k x = .inr y → zIv y ∧ y.2.2 = [] ∧ x.1.1.2 ≤ y.1.1.2 ∧ y.1.1.2 ≤ x.1.1.2 + (k : Int)
  | 0, x, h, e => by
    change (match x.2.2 with | [] => (.inr x : (Int × Int) ⊕ zSt) | _ :: _ => .inl (1, sz)) = .inr y at e
    cases hx : x.2.2 with
    | nil =>
      rw [hx] at e
      obtain rfl := Sum.inr.inj e
      exact ⟨h, hx, by omega, by omega⟩
    | cons o r => rw [hx] at e; cases e
  | k + 1, x, h, e => by
    change (match zStep (bs (sz - ((k : Int) + 1))) x with | .inl e => (.inl (e, sz - ((k : Int) + 1)) : (Int × Int) ⊕ zSt) | .inr y => zRun bs sz k y) = .inr y at e
    cases hs : zStep (bs (sz - ((k : Int) + 1))) x with
    | inl k' => rw [hs] at e; cases e
    | inr z =>
      rw [hs] at e
      have h1 := h.step hs
      have h2 := zIv.run k h1.1 e
      exact ⟨h2.1, h2.2.1, by omega, by omega⟩
theorem zIv.got {bs : Int → Int} {sz : Int} (hsz : 0 ≤ sz ∧ sz ≤ 200) (e : zRn bs sz 0 zX0 = .inr x) : zIv x ∧ x.2.2 = [] ∧ 0 ≤ x.1.1.2 ∧ x.1.1.2 ≤ 200 := by
  have h := zIv.z.run _ e
  have h3 : (0 : Int) ≤ x.1.1.2 := h.2.2.1
  have h4 : x.1.1.2 ≤ 0 + ((sz - 0).toNat : Int) := h.2.2.2
  exact ⟨h.1, h.2.1, h3, by omega⟩
end C82b
