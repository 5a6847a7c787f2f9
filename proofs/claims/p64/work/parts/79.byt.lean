/-! ===== the class: a byte is read ===== -/
theorem i_lookup {σ : Type} {G : p_G} {M : p_M} {I : σ → p_H → Prop} {P : (Option Value) ⊕ String → σ → Prop} {d k n pc : Nat} {L : p_LL} {st : List Value} {X : σ} {dflt : Int} {ps : Array (Int × Int)} {len : Nat} {b : Int} {off : Int} {tgt : Nat} (hd : decode M.2.1 pc = .ok (.lookupswitch dflt ps, len)) (hp : (ps.toList.zip (ps.toList.drop 1)).all (fun (a, next) => a.1 < next.1) = true) (hb : -2147483648 ≤ b ∧ b < 2147483648) (ho : Op.lookupswitch.offset ps.toList dflt b = off) (ht : (pc : Int) + off = (tgt : Int)) (kk : RW G M I P d k n tgt L st X) : RW G M I P d k n pc L (.int (iI b) :: st) X := RW.up (fun kk => r_lookup hd hp (by rw [iI_toInt hb]; exact ho) ht kk) kk
/-- the same at the positions -/
def zFe (f g : Int → Int) : Prop := ∀ p, 1 ≤ p → p ≤ 24 → f p = g p
/-- what the reader holds of the positions -/
def cSt (C : Nat → Int → Int) (n : Int) (st : Int → Int) : Prop := (∀ q, 1 ≤ q → q ≤ n → C 4 q = (if st q = 6 then -1 else st q) ∧ 0 ≤ st q ∧ st q ≤ 6) ∧ ∀ c, 0 ≤ c → c < 6 → zMr (C 6 c) ∧ ∀ q, 0 ≤ q → (zt (C 6 c) q ↔ (1 ≤ q ∧ q ≤ n) ∧ (st q = 6 ∨ st q = c))
/-- the reader holds what has been read -/
def cRd (V : Nat → Int) (C : Nat → Int → Int) (x : zSt) : Prop := ((V 9 = (x.2.2.length : Int) ∧ x.2.2.length ≤ 20) ∧ (V 5 = x.1.1.1 ∧ V 6 = x.1.1.2) ∧ (0 ≤ x.1.1.1 ∧ x.1.1.1 ≤ 24)) ∧ (cLv V x.2.2.length x.2.1 ∧ ∀ i o, x.2.2[i]? = some o → cLv V (x.2.2.length - 1 - i) o) ∧ (zOKl x.2.1 ∧ ∀ o, o ∈ x.2.2 → zOKl o) ∧ (zFe (C 5) x.1.2.2 ∧ zOKf x.1.2.2) ∧ cSt C x.1.1.1 x.1.2.1
/-- all but the reader stays -/
def rdF (V V' : Nat → Int) (C C' : Nat → Int → Int) : Prop := (∀ i, (i < 5 ∨ i = 7 ∨ 10 ≤ i ∧ i < 200) → V' i = V i) ∧ ∀ i, (i < 4 ∨ 9 ≤ i) → C' i = C i
theorem zOKl_z : zOKl zL0 := ⟨⟨by decide, by decide⟩, ⟨by decide, by decide⟩, fun Q hQ => nomatch hQ⟩
section C79a
variable {V V' V1 : Nat → Int} {C C' C1 : Nat → Int → Int} {f g : Int → Int} {l : zLv} {b n t sv m : Int} {Q : zPt} {st : Int → Int} {x : zSt}
theorem rdF.rfl : rdF V V C C := ⟨fun _ _ => Eq.refl _, fun _ _ => Eq.refl _⟩
theorem rdF.tr (h : rdF V V1 C C1) (h' : rdF V1 V' C1 C') : rdF V V' C C' := ⟨fun i hi => (h'.1 i hi).trans (h.1 i hi), fun i hi => (h'.2 i hi).trans (h.2 i hi)⟩
theorem zFe.af (h : zFe f g) : zFe (zAF b t f) (zAF b t g) := fun p p0 p1 => by
  unfold zAF
  rw [h p p0 p1]
theorem zFe.ep (h : zFe f g) : (zEp f l).2 = (zEp g l).2 ∧ zFe (zEp f l).1 (zEp g l).1 := by
  obtain ⟨A, B, o⟩ := l
  cases o with
  | none => exact ⟨rfl, h⟩
  | some Q => exact ⟨rfl, h.af⟩
theorem zFe.eb (h : zFe f g) : (zEb f l).2 = (zEb g l).2 ∧ zFe (zEb f l).1 (zEb g l).1 := ⟨congrArg (zOr l.1) h.ep.1, h.ep.2⟩
theorem zFe.op (h : zFe f g) : (zOp b f Q).2 = (zOp b g Q).2 ∧ zFe (zOp b f Q).1 (zOp b g Q).1 := by
  refine ⟨rfl, ?_⟩
  unfold zOp
  dsimp only
  split
  · exact h.af
  · exact h
theorem zFe.ok (h : zFe f g) (hg : zOKf g) : zOKf f := fun p p0 p1 => by rw [h p p0 p1]; exact hg p p0 p1
theorem cSt.cg (h : cSt C n st) (h4 : C' 4 = C 4) (h6 : C' 6 = C 6) : cSt C' n st := by
  unfold cSt at h ⊢
  rw [h4, h6]
  exact h
theorem cSt.add (h : cSt C n st) (hn : 0 ≤ n ∧ n < 24) (ht : (t = 6 ∧ sv = -1 ∧ m = 63) ∨ ((0 ≤ t ∧ t < 6) ∧ sv = t ∧ m = zp t)) (h4 : C' 4 = zu (C 4) (n + 1) sv) (h6 : ∀ c, 0 ≤ c → c < 6 → C' 6 c = if zt m c then zo (C 6 c) (zp (n + 1)) else C 6 c) : cSt C' (n + 1) (zu st (n + 1) t) := by
  refine ⟨fun q q0 q1 => ?_, fun c c0 c1 => ?_⟩
  · rw [h4]
    by_cases z : q = n + 1
    · rw [z, zu_at, zu_at]
      rcases ht with ⟨a, b, _⟩ | ⟨a, b, _⟩
      · rw [a, if_pos rfl]; exact ⟨b, by decide, by decide⟩
      · rw [if_neg (by omega)]; exact ⟨b, by omega, by omega⟩
    · rw [zu_ne z, zu_ne z]
      exact h.1 q q0 (by omega)
  · have hc := h.2 c c0 c1
    have hm : zt m c ↔ t = 6 ∨ t = c := by
      rcases ht with ⟨a, _, e⟩ | ⟨a, _, e⟩
      · rw [e]; exact iff_of_true (zt_63 ⟨c0, c1⟩) (Or.inl a)
      · rw [e, zt_zp a.1 c0]
        exact ⟨fun z => Or.inr z.symm, fun z => z.elim (fun z => by omega) (fun z => z.symm)⟩
    rw [h6 c c0 c1]
    refine ⟨?_, fun q q0 => ?_⟩
    · split
      · exact zo_rg hc.1 (zp_rg (by omega))
      · exact hc.1
    · by_cases z : zt m c
      · rw [if_pos z, zt_zo, zt_zp (by omega) q0, hc.2 q q0]
        by_cases e : q = n + 1
        · rw [e, zu_at]
          exact ⟨fun _ => ⟨by omega, hm.mp z⟩, fun _ => Or.inr rfl⟩
        · rw [zu_ne e]
          exact ⟨fun y => y.elim (fun y => ⟨by omega, y.2⟩) (fun y => absurd y e), fun y => Or.inl ⟨by omega, y.2⟩⟩
      · rw [if_neg z, hc.2 q q0]
        by_cases e : q = n + 1
        · rw [e, zu_at]
          exact ⟨fun y => by omega, fun y => absurd (hm.mpr y.2) z⟩
        · rw [zu_ne e]
          exact ⟨fun y => ⟨by omega, y.2⟩, fun y => ⟨by omega, y.2⟩⟩
/-- the reader behind an operator, a branch's end -/
theorem cRd.cur {l' : zLv} {fo' : Int → Int} {lp' : Int} (h : cRd V C x) (hl : cLv V' x.2.2.length l') (ho : zOKl l') (h5 : zFe (C' 5) fo') (h5' : zOKf fo') (h6 : V' 6 = lp') (hV : ∀ i, (i < 200 + 16 * x.2.2.length ∨ 210 + 16 * x.2.2.length ≤ i) → i ≠ 6 → V' i = V i) (hC : sC [5] C C') : cRd V' C' ((((x.1.1.1, lp'), x.1.2.1, fo'), l', x.2.2) : zSt) ∧ rdF V V' C C' := by
  obtain ⟨⟨a1, ⟨a2, a3⟩, a4⟩, ⟨b1, b2⟩, ⟨c1, c2⟩, d, e⟩ := h
  refine ⟨⟨⟨⟨?_, a1.2⟩, ⟨?_, h6⟩, a4⟩, ⟨hl, fun i o hi => ?_⟩, ⟨ho, c2⟩, ⟨h5, h5'⟩, e.cg (hC 4 (by decide)) (hC 6 (by decide))⟩, fun i hi => hV i (by omega) (by omega), fun i hi => hC i (by simp only [List.mem_cons, List.not_mem_nil, or_false]; omega)⟩
  · rw [hV 9 (by omega) (by decide)]; exact a1.1
  · rw [hV 5 (by omega) (by decide)]; exact a2
  · have hlt : i < x.2.2.length := (List.getElem?_eq_some_iff.mp hi).1
    exact (b2 i o hi).cg (fun j j0 j1 => hV j (by have j1' : j < 210 + 16 * (x.2.2.length - 1 - i) := j1; omega) (by omega))
theorem cRd.hd (h : cRd V C x) : ∃ o, ∀ u, x.2.2.length = u + 1 → x.2.2[0]? = some o ∧ cLv V u o := by
  obtain ⟨_, ⟨_, b2⟩, _⟩ := h
  cases hx : x.2.2 with
  | nil => exact ⟨zL0, fun u hu => nomatch hu⟩
  | cons o r =>
    refine ⟨o, fun u hu => ⟨rfl, ?_⟩⟩
    have h2 := b2 0 o (by rw [hx]; rfl)
    rw [hx, hu, show u + 1 - 1 - 0 = u by omega] at h2
    exact h2
/-- a group is opened -/
theorem cRd.grp {fo' : Int → Int} {lz : zLv} (h : cRd V C x) (hne : x.2.2.length ≠ 20) (hl : cLv V' x.2.2.length lz) (ho : zOKl lz) (hz : cLv V' (x.2.2.length + 1) zL0) (h5 : zFe (C' 5) fo') (h5' : zOKf fo') (h9 : V' 9 = (x.2.2.length : Int) + 1) (hV : ∀ i, (i < 200 + 16 * x.2.2.length ∨ 226 + 16 * x.2.2.length ≤ i) → i ≠ 9 → V' i = V i) (hC : sC [5] C C') : cRd V' C' (((x.1.1, x.1.2.1, fo'), zL0, lz :: x.2.2) : zSt) ∧ rdF V V' C C' := by
  obtain ⟨⟨a1, ⟨a2, a3⟩, a4⟩, ⟨b1, b2⟩, ⟨c1, c2⟩, d, e⟩ := h
  refine ⟨⟨⟨⟨?_, by show x.2.2.length + 1 ≤ 20; omega⟩, ⟨?_, ?_⟩, a4⟩, ⟨hz, fun i o hi => ?_⟩, ⟨zOKl_z, fun o ho' => ?_⟩, ⟨h5, h5'⟩, e.cg (hC 4 (by decide)) (hC 6 (by decide))⟩, fun i hi => hV i (by omega) (by omega), fun i hi => hC i (by simp only [List.mem_cons, List.not_mem_nil, or_false]; omega)⟩
  · show V' 9 = ((x.2.2.length + 1 : Nat) : Int); omega
  · rw [hV 5 (by omega) (by decide)]; exact a2
  · rw [hV 6 (by omega) (by decide)]; exact a3
  · cases i with
    | zero =>
      obtain rfl : lz = o := Option.some.inj hi
      exact hl
    | succ i =>
      have hi' : x.2.2[i]? = some o := hi
      have hlt : i < x.2.2.length := (List.getElem?_eq_some_iff.mp hi').1
      show cLv V' (x.2.2.length + 1 - 1 - (i + 1)) o
      rw [show x.2.2.length + 1 - 1 - (i + 1) = x.2.2.length - 1 - i by omega]
      exact (b2 i o hi').cg (fun j j0 j1 => hV j (by omega) (by omega))
  · rcases List.mem_cons.mp ho' with z | z
    · rw [z]; exact ho
    · exact c2 o z
/-- a group is closed -/
theorem cRd.end {fo' : Int → Int} {o : zLv} {r : List zLv} (h : cRd V C x) (hx : x.2.2 = o :: r) (hQ : zOKp Q) (hl : cLv V' r.length (o.1, o.2.1, some Q)) (h5 : zFe (C' 5) fo') (h5' : zOKf fo') (h9 : V' 9 = (r.length : Int)) (hV : ∀ i, (i < 200 + 16 * r.length ∨ 226 + 16 * r.length ≤ i) → i ≠ 9 → V' i = V i) (hC : sC [5] C C') : cRd V' C' (((x.1.1, x.1.2.1, fo'), (o.1, o.2.1, some Q), r) : zSt) ∧ rdF V V' C C' := by
  obtain ⟨⟨a1, ⟨a2, a3⟩, a4⟩, ⟨b1, b2⟩, ⟨c1, c2⟩, d, e⟩ := h
  rw [hx] at a1 b2 c2
  have co := c2 o List.mem_cons_self
  refine ⟨⟨⟨⟨h9, by have := a1.2; rw [List.length_cons] at this; show r.length ≤ 20; omega⟩, ⟨?_, ?_⟩, a4⟩, ⟨hl, fun i p hi => ?_⟩, ⟨⟨co.1, co.2.1, fun Q' hQ' => by obtain rfl : Q = Q' := Option.some.inj hQ'; exact hQ⟩, fun p hp => c2 p (List.mem_cons_of_mem _ hp)⟩, ⟨h5, h5'⟩, e.cg (hC 4 (by decide)) (hC 6 (by decide))⟩, fun i hi => hV i (by omega) (by omega), fun i hi => hC i (by simp only [List.mem_cons, List.not_mem_nil, or_false]; omega)⟩
  · rw [hV 5 (by omega) (by decide)]; exact a2
  · rw [hV 6 (by omega) (by decide)]; exact a3
  · have hi' : r[i]? = some p := hi
    have hlt : i < r.length := (List.getElem?_eq_some_iff.mp hi').1
    have h2 := b2 (i + 1) p hi
    rw [List.length_cons, show r.length + 1 - 1 - (i + 1) = r.length - 1 - i by omega] at h2
    exact h2.cg (fun j j0 j1 => hV j (by omega) (by omega))
/-- a position is read -/
theorem cRd.pos {l' : zLv} {fo' : Int → Int} (h : cRd V C x) (hn : x.1.1.1 < 24) (ht : (t = 6 ∧ sv = -1 ∧ m = 63) ∨ ((0 ≤ t ∧ t < 6) ∧ sv = t ∧ m = zp t)) (hl : cLv V' x.2.2.length l') (ho : zOKl l') (h5 : zFe (C' 5) fo') (h5' : zOKf fo') (v5 : V' 5 = x.1.1.1 + 1) (h4 : C' 4 = zu (C 4) (x.1.1.1 + 1) sv) (h6 : ∀ c, 0 ≤ c → c < 6 → C' 6 c = if zt m c then zo (C 6 c) (zp (x.1.1.1 + 1)) else C 6 c) (hV : ∀ i, (i < 200 + 16 * x.2.2.length ∨ 210 + 16 * x.2.2.length ≤ i) → i ≠ 5 → V' i = V i) (hC : sC [4, 5, 6] C C') : cRd V' C' ((((x.1.1.1 + 1, x.1.1.2), zu x.1.2.1 (x.1.1.1 + 1) t, fo'), l', x.2.2) : zSt) ∧ rdF V V' C C' := by
  obtain ⟨⟨a1, ⟨a2, a3⟩, a4⟩, ⟨b1, b2⟩, ⟨c1, c2⟩, d, e⟩ := h
  refine ⟨⟨⟨⟨?_, a1.2⟩, ⟨v5, ?_⟩, by dsimp only; omega⟩, ⟨hl, fun i o hi => ?_⟩, ⟨ho, c2⟩, ⟨h5, h5'⟩, e.add ⟨a4.1, hn⟩ ht h4 h6⟩, fun i hi => hV i (by omega) (by omega), fun i hi => hC i (by simp only [List.mem_cons, List.not_mem_nil, or_false]; omega)⟩
  · rw [hV 9 (by omega) (by decide)]; exact a1.1
  · rw [hV 6 (by omega) (by decide)]; exact a3
  · have hlt : i < x.2.2.length := (List.getElem?_eq_some_iff.mp hi).1
    exact (b2 i o hi).cg (fun j j0 j1 => hV j (by have j1' : j < 210 + 16 * (x.2.2.length - 1 - i) := j1; omega) (by omega))
end C79a
section C79
variable {G : p_G} {Y : Nat → Nat} {h0 : p_H} {P : (Option Value) ⊕ String → c_X → Prop} {d : Nat} {V : Nat → Int} {C : Nat → Int → Int} {J : c_J}
variable {x : zSt}
theorem q_rdPos {b t sv m : Int} (h : cRd V C x) (hb : b = 46 ∨ (97 ≤ b ∧ b ≤ 102)) (ht : t = if b = 46 then 6 else b - 97) (hs : (t = 6 ∧ sv = -1 ∧ m = 63) ∨ ((0 ≤ t ∧ t < 6) ∧ sv = t ∧ m = zp t)) (hm : 0 ≤ m ∧ m < 64) (hpE : ∀ k, zStep b x = .inl k → 1 ≤ k ∧ k ≤ 3 → P (.inl (some (.int (iI k)))) (V, C, J)) (hpS : ∀ y V' C', zStep b x = .inr y → cRd V' C' y → rdF V V' C C' → P (.inl (some (.int (iI 0)))) (V', C', J)) : RM G mX6_readPosition (c_I Y h0) [.ref (Y 3), .int (iI sv), .int (iI m)] (d + 2) 0 0 P (V, C, J) := by
  obtain ⟨⟨a1, ⟨a2, a3⟩, a4⟩, ⟨b1, b2⟩, ⟨c1, c2⟩, ⟨d1, d2⟩, e0⟩ := id h
  have hf5 := d1.ok d2
  refine q_readPosition a1.1 (by omega) b1 c1 hf5 hm (by omega) (by omega) (fun c c0 c1 => (e0.2 c c0 c1).1) (fun h24 => ?_) (fun h24 V' C' z1 z2 z3 z4 z5 z6 z7 => ?_)
  · exact hpE 2 (zStep_p2 hb (by omega)) (by decide)
  · have q1 := d1.ep (l := x.2.1)
    have q2 := c1.ep d2
    rw [a2] at z1 z3 z4 z5 h24
    rw [q1.1] at z1
    have q3 := h.pos (l' := (x.2.1.1, (zEp x.1.2.2 x.2.1).2, some (false, zp (x.1.1.1 + 1), zp (x.1.1.1 + 1)))) (fo' := (zEp x.1.2.2 x.2.1).1) (by omega) hs z1 ⟨c1.1, q2.2, fun Q hQ => by obtain rfl := Option.some.inj hQ; exact ⟨zp_rg (by omega), zp_rg (by omega)⟩⟩ (by rw [z2]; exact q1.2) q2.1 z3 z4 z5 z6 z7
    refine hpS _ _ _ (zStep_p hb (by omega)) ?_ q3.2
    rw [← ht]
    exact q3.1
theorem zp6 {c : Int} (h : 0 ≤ c ∧ c < 6) : 0 ≤ zp c ∧ zp c < 64 := by
  obtain ⟨k, rfl⟩ := lJ_nat h.1
  have : 2 ^ k < 2 ^ 6 := Nat.pow_lt_pow_right (by decide) (by omega)
  unfold zp
  rw [Int.toNat_natCast]
  generalize 2 ^ k = z at *
  omega
theorem q_readLetter {b : Int} (h : cRd V C x) (hb : 0 ≤ b ∧ b < 256) (hno : ¬ (b = 40 ∨ b = 41 ∨ b = 124 ∨ b = 42 ∨ b = 43 ∨ b = 63 ∨ b = 46)) (hpE : ∀ k, zStep b x = .inl k → 1 ≤ k ∧ k ≤ 3 → P (.inl (some (.int (iI k)))) (V, C, J)) (hpS : ∀ y V' C', zStep b x = .inr y → cRd V' C' y → rdF V V' C C' → P (.inl (some (.int (iI 0)))) (V', C', J)) : RM G mX6_readLetter (c_I Y h0) [.ref (Y 3), .int (iI (b - 97))] (d + 3) 0 0 P (V, C, J) := by
  refine RM.of (L := [some (.ref (Y 3)), some (.int (iI (b - 97)))]) cfX6_readLetter rfl (Nat.le_of_ble_eq_true rfl) ?_
  refine i_iload_n dX6_readLetter_0 rfl ?_
  refine i_bipush dX6_readLetter_1 (by decide) ?_
  refine i_callSN (mc := 0) (ms := 0) (As := [_, _]) dX6_readLetter_3 cfX10_isIndex stX10_isIndex lX6_109 rfl rfl (Nat.le_of_ble_eq_true rfl) (Nat.zero_add _).symm (Nat.zero_add _).symm ?_
  refine q_isIndex (by omega) (by omega) (RKN.v ?_)
  refine i_ifeq_b (tgt := 20) dX6_readLetter_6 (by decide) (fun c6 => ?_) (fun c6 => ?_)
  · -- jumps
    refine i_const dX6_readLetter_20 ?_
    refine i_ireturn dX6_readLetter_21 rfl rfl ?_
    exact hpE 1 (zStep_x (fun z => by omega) (by omega) (fun z => by omega) (fun z => by omega)) (by decide)
  · -- on
    have hb2 : b = 46 ∨ (97 ≤ b ∧ b ≤ 102) := by omega
    have zq := zp6 (c := b - 97) (by omega)
    refine i_aload_n dX6_readLetter_9 rfl ?_
    refine i_iload_n dX6_readLetter_10 rfl ?_
    refine i_const dX6_readLetter_11 ?_
    refine i_iload_n dX6_readLetter_12 rfl ?_
    refine i_shl dX6_readLetter_13 (iI_shl1 (by omega)) ?_
    refine u_callV (i := 3) (mc := 0) (ms := 0) (As := [_, _]) dX6_readLetter_14 cfX6_readPosition imX6_readPosition seX6_readPosition lX6_102 (by decide) rfl rfl rfl rfl rfl (Nat.le_of_ble_eq_true rfl) (Nat.zero_add _).symm (Nat.zero_add _).symm ?_
    refine q_rdPos h hb2 (t := b - 97) (if_neg (by omega)).symm (Or.inr ⟨by omega, rfl, rfl⟩) (by omega) (fun k hk hk1 => RK.v ?_) (fun y V9 C9 hk hr9 hf9 => RK.v ?_)
    · -- case
      refine i_goto (tgt := 21) dX6_readLetter_17 (by decide) ?_
      refine i_ireturn dX6_readLetter_21 rfl rfl ?_
      exact hpE _ hk hk1
    · -- case
      refine i_goto (tgt := 21) dX6_readLetter_17 (by decide) ?_
      refine i_ireturn dX6_readLetter_21 rfl rfl ?_
      exact hpS _ _ _ hk hr9 hf9
theorem lk_else : ∀ b : Nat, b < 256 → ¬ (b = 40 ∨ b = 41 ∨ b = 124 ∨ b = 42 ∨ b = 43 ∨ b = 63 ∨ b = 46) → Op.lookupswitch.offset [(40, 67), (41, 72), (42, 83), (43, 83), (46, 89), (63, 83), (124, 77)] 97 (b : Int) = 97 := by decide +kernel
theorem q_readByte {b : Int} (h : cRd V C x) (hb : 0 ≤ b ∧ b < 256) (hpE : ∀ k, zStep b x = .inl k → 1 ≤ k ∧ k ≤ 3 → P (.inl (some (.int (iI k)))) (V, C, J)) (hpS : ∀ y V' C', zStep b x = .inr y → cRd V' C' y → rdF V V' C C' → P (.inl (some (.int (iI 0)))) (V', C', J)) : RM G mX6_readByte (c_I Y h0) [.ref (Y 3), .int (iI b)] (d + 4) 0 0 P (V, C, J) := by
  refine RM.of (L := [some (.ref (Y 3)), some (.int (iI b))]) cfX6_readByte rfl (Nat.le_of_ble_eq_true rfl) ?_
  refine i_iload_n dX6_readByte_0 rfl ?_
  obtain ⟨⟨a1, ⟨a2, a3⟩, a4⟩, ⟨b1, b2⟩, ⟨c1, c2⟩, ⟨d1, d2⟩, e0⟩ := id h
  have hf5 := d1.ok d2
  by_cases n1 : b = 40
  · subst n1
    refine i_lookup (off := 67) (tgt := 68) dX6_readByte_1 (by decide) (by omega) rfl (by decide) ?_
    refine i_aload_n dX6_readByte_68 rfl ?_
    refine u_callV (i := 3) (mc := 0) (ms := 0) (As := []) dX6_readByte_69 cfX6_openGroup imX6_openGroup seX6_openGroup lX6_93 (by decide) rfl rfl rfl rfl rfl (Nat.le_of_ble_eq_true rfl) (Nat.zero_add _).symm (Nat.zero_add _).symm ?_
    refine q_openGroup a1.1 (by omega) b1 c1 hf5 (fun z20 => RK.v ?_) (fun z20 V9 C9 z1 z2 z3 z4 z5 z6 => RK.v ?_)
    · -- case
      refine i_ireturn dX6_readByte_72 rfl rfl ?_
      exact hpE 3 (zStep_g3 rfl z20) (by decide)
    · -- case
      refine i_ireturn dX6_readByte_72 rfl rfl ?_
      have q1 := d1.ep (l := x.2.1); have q2 := c1.ep d2; rw [q1.1] at z1; have q3 := h.grp z20 z1 ⟨c1.1, q2.2, fun Q hQ => nomatch hQ⟩ z2 (by rw [z3]; exact q1.2) q2.1 z4 z5 z6; exact hpS _ _ _ (zStep_g rfl z20) q3.1 q3.2
  by_cases n2 : b = 41
  · subst n2
    refine i_lookup (off := 72) (tgt := 73) dX6_readByte_1 (by decide) (by omega) rfl (by decide) ?_
    refine i_aload_n dX6_readByte_73 rfl ?_
    refine u_callV (i := 3) (mc := 0) (ms := 0) (As := []) dX6_readByte_74 cfX6_closeGroup imX6_closeGroup seX6_closeGroup lX6_96 (by decide) rfl rfl rfl rfl rfl (Nat.le_of_ble_eq_true rfl) (Nat.zero_add _).symm (Nat.zero_add _).symm ?_
    obtain ⟨o, ho9⟩ := h.hd
    refine q_closeGroup (o := o) a1.1 (by omega) b1 c1 hf5 (fun u hu => (ho9 u hu).2) (fun z0 => RK.v ?_) (fun u hu V9 C9 z1 z3 z4 z5 z6 => RK.v ?_)
    · -- case
      refine i_ireturn dX6_readByte_77 rfl rfl ?_
      exact hpE 1 (zStep_x (fun z => by omega) (by omega) (fun _ => List.eq_nil_of_length_eq_zero z0) (fun z => by omega)) (by decide)
    · -- case
      refine i_ireturn dX6_readByte_77 rfl rfl ?_
      obtain ⟨o', r, hx⟩ : ∃ o' r, x.2.2 = o' :: r := List.exists_cons_of_length_eq_add_one hu
      have hur : r.length = u := by rw [hx, List.length_cons] at hu; omega
      obtain rfl : o' = o := by have := (ho9 u hu).1; rw [hx] at this; exact Option.some.inj this
      have q1 := d1.eb (l := x.2.1)
      have q2 := c1.eb d2
      rw [q1.1] at z1
      have q3 := h.end (Q := (zEb x.1.2.2 x.2.1).2) (fo' := (zEb x.1.2.2 x.2.1).1) hx q2.2 (by rw [hur]; exact z1) (by rw [z3]; exact q1.2) q2.1 (by rw [hur]; exact z4) (by rw [hur]; exact z5) z6
      exact hpS _ _ _ (zStep_c rfl hx) q3.1 q3.2
  by_cases n3 : b = 124
  · subst n3
    refine i_lookup (off := 77) (tgt := 78) dX6_readByte_1 (by decide) (by omega) rfl (by decide) ?_
    refine i_aload_n dX6_readByte_78 rfl ?_
    refine u_callV (i := 3) (mc := 0) (ms := 0) (As := []) dX6_readByte_79 cfX6_endBranch imX6_endBranch seX6_endBranch lX6_70 (by decide) rfl rfl rfl rfl rfl (Nat.le_of_ble_eq_true rfl) (Nat.zero_add _).symm (Nat.zero_add _).symm ?_
    refine q_endBranch a1.1 (by omega) b1 c1 hf5 (fun V9 C9 z1 z3 z5 z6 => RK.n0 ?_)
    refine i_const dX6_readByte_82 ?_
    refine i_ireturn dX6_readByte_83 rfl rfl ?_
    have q1 := d1.eb (l := x.2.1); have q2 := c1.eb d2; rw [q1.1] at z1; have q3 := h.cur z1 ⟨q2.2, zOKl_z.2.1, fun Q hQ => nomatch hQ⟩ (by rw [z3]; exact q1.2) q2.1 ((z5 6 (by omega)).trans a3) (fun i hi _ => z5 i hi) z6; exact hpS _ _ _ (zStep_b rfl) q3.1 q3.2
  by_cases n4 : b = 42 ∨ b = 43 ∨ b = 63
  · have hop : zOpr b := n4
    have hlk : Op.lookupswitch.offset [(40, 67), (41, 72), (42, 83), (43, 83), (46, 89), (63, 83), (124, 77)] 97 b = 83 := by rcases n4 with rfl | rfl | rfl <;> rfl
    refine i_lookup (off := 83) (tgt := 84) dX6_readByte_1 (by decide) (by omega) hlk (by decide) ?_
    cases ho9 : x.2.1.2.2 with
    | none =>
      refine i_aload_n dX6_readByte_84 rfl ?_
      refine i_iload_n dX6_readByte_85 rfl ?_
      refine u_callV (i := 3) (mc := 0) (ms := 0) (As := [_]) dX6_readByte_86 cfX6_readOperator imX6_readOperator seX6_readOperator lX6_99 (by decide) rfl rfl rfl rfl rfl (Nat.le_of_ble_eq_true rfl) (Nat.zero_add _).symm (Nat.zero_add _).symm ?_
      refine q_readOp0 a1.1 (by omega) b1 ho9 (RK.v ?_)
      refine i_ireturn dX6_readByte_89 rfl rfl ?_
      exact hpE 1 (zStep_x (fun z => by omega) (by omega) (fun z => by omega) (fun _ => ho9)) (by decide)
    | some Q =>
      refine i_aload_n dX6_readByte_84 rfl ?_
      refine i_iload_n dX6_readByte_85 rfl ?_
      refine u_callV (i := 3) (mc := 0) (ms := 0) (As := [_]) dX6_readByte_86 cfX6_readOperator imX6_readOperator seX6_readOperator lX6_99 (by decide) rfl rfl rfl rfl rfl (Nat.le_of_ble_eq_true rfl) (Nat.zero_add _).symm (Nat.zero_add _).symm ?_
      refine q_readOp a1.1 (by omega) b1 c1 hf5 (b := b) hop ho9 (fun V9 C9 z1 z3 z4 z5 z6 => RK.v ?_)
      refine i_ireturn dX6_readByte_89 rfl rfl ?_
      have q1 := d1.op (b := b) (Q := Q); have q2 := (c1.2.2 Q ho9).op (b := b) d2; rw [q1.1] at z1; have q3 := h.cur z1 ⟨c1.1, c1.2.1, fun Q' hQ => by obtain rfl := Option.some.inj hQ; exact q2.2⟩ (by rw [z3]; exact q1.2) q2.1 (z4.trans (by rw [a3])) z5 z6; exact hpS _ _ _ (zStep_o hop ho9) q3.1 q3.2
  by_cases n5 : b = 46
  · subst n5
    refine i_lookup (off := 89) (tgt := 90) dX6_readByte_1 (by decide) (by omega) rfl (by decide) ?_
    have hb2 : (46 : Int) = 46 ∨ (97 ≤ (46 : Int) ∧ (46 : Int) ≤ 102) := Or.inl rfl
    refine i_aload_n dX6_readByte_90 rfl ?_
    refine i_const dX6_readByte_91 ?_
    refine i_bipush dX6_readByte_92 (by decide) ?_
    refine u_callV (i := 3) (mc := 0) (ms := 0) (As := [_, _]) dX6_readByte_94 cfX6_readPosition imX6_readPosition seX6_readPosition lX6_102 (by decide) rfl rfl rfl rfl rfl (Nat.le_of_ble_eq_true rfl) (Nat.zero_add _).symm (Nat.zero_add _).symm ?_
    refine q_rdPos h hb2 (t := 6) (if_pos rfl).symm (Or.inl ⟨rfl, rfl, rfl⟩) (by omega) (fun k hk hk1 => RK.v ?_) (fun y V9 C9 hk hr9 hf9 => RK.v ?_)
    · -- case
      refine i_ireturn dX6_readByte_97 rfl rfl ?_
      exact hpE _ hk hk1
    · -- case
      refine i_ireturn dX6_readByte_97 rfl rfl ?_
      exact hpS _ _ _ hk hr9 hf9
  have hlk := lk_else b.toNat (by omega) (by omega)
  rw [Int.toNat_of_nonneg hb.1] at hlk
  refine i_lookup (off := 97) (tgt := 98) dX6_readByte_1 (by decide) (by omega) hlk (by decide) ?_
  refine i_aload_n dX6_readByte_98 rfl ?_
  refine i_iload_n dX6_readByte_99 rfl ?_
  refine i_bipush dX6_readByte_100 (by decide) ?_
  refine i_sub dX6_readByte_102 ?_
  refine u_callV (i := 3) (mc := 0) (ms := 0) (As := [_]) dX6_readByte_103 cfX6_readLetter imX6_readLetter seX6_readLetter lX6_106 (by decide) rfl rfl rfl rfl rfl (Nat.le_of_ble_eq_true rfl) (Nat.zero_add _).symm (Nat.zero_add _).symm ?_
  refine q_readLetter h (b := b) hb (by omega) (fun k hk hk1 => RK.v ?_) (fun y V9 C9 hk hr9 hf9 => RK.v ?_)
  · -- case
    refine i_ireturn dX6_readByte_106 rfl rfl ?_
    exact hpE _ hk hk1
  · -- case
    refine i_ireturn dX6_readByte_106 rfl rfl ?_
    exact hpS _ _ _ hk hr9 hf9
end C79
