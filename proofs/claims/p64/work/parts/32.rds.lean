/-! ===== the reference reads a pattern ===== -/
section M32g
variable {bs : Int → Int} {sz s : Int} {w0 : Int → Int} {V V1 V2 : Nat → Int} {C C1 C2 : Nat → Int → Int} {E E1 E2 : Int → Int → Prop} {n lp n1 n2 lp1 lp2 : Int} {st st1 st2 fo fo1 fo2 : Int → Int} {dep dep1 : Int} {cur cur1 cur2 : zLv} {outer : List zLv} {Q Q1 : zPt} {ch : zPt}
/-- a position is read -/
theorem mPs.atom {c : Int} (h : mPs bs sz s w0 V C E n lp st dep) (hn : n < 24) (h8 : V1 8 = 0) (h9 : V1 9 = -1) (h7 : V1 7 = sz) (h36 : V1 36 = n + 1) (h35 : V1 35 = lp) (h32 : V1 32 = dep) (h20 : V1 20 = V 20 + 1 + 1) (h21 : V1 21 = V 21) (h31 : V1 31 = V 31 + 1) (hlt : V 31 < sz) (c6 : C1 6 = C 6) (c13 : C1 13 = zu (zu (C 13) (V 20) (-1)) (V 20 + 1) (-1)) (c14 : C1 14 = C 14) (c15 : C1 15 = C 15) (c16 : C1 16 = zu (zu (zu (C 16) (V 20) 0) (V 20 + 1) 0) (V 20) (n + 1)) (c17 : C1 17 = zu (zu (C 17) (V 20) 0) (V 20 + 1) 0) (c19 : C1 19 = zu (C 19) (n + 1) (V 20 + 1)) (c0 : C1 0 = zu (C 0) (476 * s + (31 + (n + 1))) c) (hc : 0 ≤ c ∧ c ≤ 6) : mPs bs sz s w0 V1 C1 E (n + 1) lp (zu st (n + 1) c) dep := by
  have hb := h.1
  have hnn := h.nn
  obtain ⟨a, b, k1, k2, k3, k4, k5⟩ := h
  refine ⟨⟨⟨h8, h7, h36, h35, h32, h9⟩, by omega, by omega, by omega, by omega, by omega, by omega⟩, ?_, ?_, ?_, fun x x0 x1 => ?_, fun k k0 k1 => ?_, fun j hj => ?_⟩
  · rw [c6]; exact b
  · rw [h20, h21, c13, c14, c15]; exact k1.node.node
  · rw [h20, c16, c19]
    have q : mLb (V 20 + 2) n (zu (zu (C 16) (V 20) 0) (V 20 + 1) 0) (C 19) := by
      have := k2.node.node
      rwa [show V 20 + 1 + 1 = V 20 + 2 by omega] at this
    rw [show V 20 + 1 + 1 = V 20 + 2 by omega]
    exact q.pos hnn.1 (by omega) (by rw [zu_ne (by omega), zu_at])
  · rw [c17]
    rw [h20] at x1
    by_cases z : x = V 20 + 1
    · rw [z, zu_at]
    · rw [zu_ne z]
      by_cases z : x = V 20
      · rw [z, zu_at]
      · rw [zu_ne z]; exact k3 x x0 (by omega)
  · rw [c0]
    by_cases z : k = n + 1
    · rw [z, zu_at, zu_at]; exact ⟨rfl, hc.1, hc.2⟩
    · rw [zu_ne (by omega), zu_ne z]; exact k4 k k0 (by omega)
  · rw [c0, zu_ne (by omega)]
    exact k5 j (by omega)
def mAtT (bs : Int → Int) (sz s : Int) (w0 : Int → Int) (V : Nat → Int) (C : Nat → Int → Int) (E : Int → Int → Prop) (n lp : Int) (st fo : Int → Int) (dep : Int) (cur : zLv) (outer : List zLv) (V' : Nat → Int) (C' : Nat → Int → Int) (E' : Int → Int → Prop) (n' lp' : Int) (st' fo' : Int → Int) (Q : zPt) : Prop :=
  mPs bs sz s w0 V' C' E' n' lp' st' dep ∧ mGw V C E n V' C' E' n' ∧ V 31 < V' 31 ∧ zRn bs sz (V 31) (((n, lp), st, fo), cur, outer) = zRn bs sz (V' 31) (((n', lp'), st', fo'), (cur.1, (zEp fo cur).2, some Q), outer) ∧ zFr E' (fun q => C' 19 q - 1) (V 20) (V' 20) n n' (V' 33) (V' 34) Q.1 Q.2.1 Q.2.2 fo' ∧ (∀ p, p ≤ n → fo' p = (zEp fo cur).1 p) ∧ (∀ p, n' < p → fo' p = 0) ∧ V' 20 ≤ 3 * V' 31 + 3 ∧ V' 21 ≤ 5 * V' 31 - 1
def mBrT (bs : Int → Int) (sz s : Int) (w0 : Int → Int) (V : Nat → Int) (C : Nat → Int → Int) (E : Int → Int → Prop) (n lp : Int) (st fo : Int → Int) (dep : Int) (ch : zPt) (outer : List zLv) (V' : Nat → Int) (C' : Nat → Int → Int) (E' : Int → Int → Prop) (n' lp' : Int) (st' fo' : Int → Int) (cur' : zLv) (t : Int) : Prop :=
  mPs bs sz s w0 V' C' E' n' lp' st' dep ∧ mGw V C E n V' C' E' n' ∧ zRn bs sz (V 31) (((n, lp), st, fo), (ch, (true, 0, 0), none), outer) = zRn bs sz (V' 31) (((n', lp'), st', fo'), cur', outer) ∧ cur'.1 = ch ∧ zFr E' (fun q => C' 19 q - 1) (V 20) (V' 20) n n' (V 20) t (zEp fo' cur').2.1 (zEp fo' cur').2.2.1 (zEp fo' cur').2.2.2 (zEp fo' cur').1 ∧ (∀ p, p ≤ n → (zEp fo' cur').1 p = fo p) ∧ (∀ p, n' < p → (zEp fo' cur').1 p = 0) ∧ (V' 31 < sz → zOpr (bs (V' 31)) → cur'.2.2 = none) ∧ V' 20 ≤ 3 * V' 31 + 3 ∧ V' 21 ≤ 5 * V' 31
def mPaT (bs : Int → Int) (sz s : Int) (w0 : Int → Int) (V : Nat → Int) (C : Nat → Int → Int) (E : Int → Int → Prop) (n lp : Int) (st fo : Int → Int) (dep : Int) (outer : List zLv) (V' : Nat → Int) (C' : Nat → Int → Int) (E' : Int → Int → Prop) (n' lp' : Int) (st' fo' : Int → Int) (cur' : zLv) : Prop :=
  mPs bs sz s w0 V' C' E' n' lp' st' dep ∧ mGw V C E n V' C' E' n' ∧ zRn bs sz (V 31) (((n, lp), st, fo), zL0, outer) = zRn bs sz (V' 31) (((n', lp'), st', fo'), cur', outer) ∧ zFr E' (fun q => C' 19 q - 1) (V 20) (V' 20) n n' (V' 33) (V' 34) (zEb fo' cur').2.1 (zEb fo' cur').2.2.1 (zEb fo' cur').2.2.2 (zEb fo' cur').1 ∧ (∀ p, p ≤ n → (zEb fo' cur').1 p = fo p) ∧ (∀ p, n' < p → (zEb fo' cur').1 p = 0) ∧ (V' 31 < sz → ¬ zAt (bs (V' 31)) ∧ bs (V' 31) ≠ 124 ∧ (zOpr (bs (V' 31)) → cur'.2.2 = none)) ∧ V' 20 ≤ 3 * V' 31 + 3 ∧ V' 21 ≤ 5 * V' 31 + 2
/-- a position is read: all that is so behind it -/
theorem mAtT.pos (h : mPs bs sz s w0 V C E n lp st dep) (h2 : mPs bs sz s w0 V1 C1 E (n + 1) lp (zu st (n + 1) (if bs (V 31) = 46 then 6 else bs (V 31) - 97)) dep) (hb : V 20 ≤ 3 * V 31 + 3 ∧ V 21 ≤ 5 * V 31) (hz : ∀ p, n < p → (zEp fo cur).1 p = 0) (hn : n < 24) (ha : bs (V 31) = 46 ∨ (97 ≤ bs (V 31) ∧ bs (V 31) ≤ 102)) (h20 : V1 20 = V 20 + 1 + 1) (h21 : V1 21 = V 21) (h31 : V1 31 = V 31 + 1) (hlt : V 31 < sz) (h33 : V1 33 = V 20) (h34 : V1 34 = V 20 + 1) (c19 : C1 19 = zu (C 19) (n + 1) (V 20 + 1)) (hv : sV gwV V V1) (hc : sC gwC C C1) : mAtT bs sz s w0 V C E n lp st fo dep cur outer V1 C1 E (n + 1) lp (zu st (n + 1) (if bs (V 31) = 46 then 6 else bs (V 31) - 97)) (zEp fo cur).1 (false, zp (n + 1), zp (n + 1)) := by
  have hq := h.1
  have hnn := h.nn
  refine ⟨h2, ⟨by omega, fun x y _ => Iff.rfl, fun x y hx e => by have := h.bd x y e; omega, fun q hq => by rw [c19]; exact zu_ne (by omega), hv, hc⟩, by omega, ?_, ?_, fun p hp => rfl, fun p hp => hz p (by omega), by omega, by omega⟩
  · rw [h31]
    exact zRn_i (by omega) hlt (zStep_p ha (by show n ≠ 24; omega))
  · rw [h33, h34, h20, show V 20 + 1 + 1 = V 20 + 2 by omega]
    refine zFr.atom h.bd hnn.1 (by omega) ?_ (hz _ (by omega))
    show C1 19 (n + 1) - 1 = V 20
    rw [c19, zu_at]; omega
/-- an operator -/
theorem mAtT.op (h : mAtT bs sz s w0 V C E n lp st fo dep cur outer V1 C1 E1 n1 lp1 st1 fo1 Q) (hlt : V1 31 < sz) (ho : zOpr (bs (V1 31))) (h2 : mPs bs sz s w0 V2 C2 E2 n1 lp2 st1 dep) (hE : E2 = zE4 (decide (bs (V1 31) ≠ 43)) (decide (bs (V1 31) ≠ 63)) E1 (V1 20) (V1 33) (V1 34)) (hl : lp2 = if bs (V1 31) ≠ 63 then lp1 + 1 else lp1) (h20 : V2 20 = V1 20 + 1 + 1) (h21 : V2 21 ≤ V1 21 + 4) (h31 : V2 31 = V1 31 + 1) (h33 : V2 33 = V1 20) (h34 : V2 34 = V1 20 + 1) (c19 : C2 19 = C1 19) (hv : sV gwV V V2) (hc : sC gwC C C2) : mAtT bs sz s w0 V C E n lp st fo dep cur outer V2 C2 E2 n1 lp2 st1 (zOp (bs (V1 31)) fo1 Q).1 (zOp (bs (V1 31)) fo1 Q).2 := by
  obtain ⟨a1, a2, a3, a4, a5, a6, a7, a8, a9⟩ := h
  have hq := a1.1
  have hnn := a1.nn
  have hf := a5.1.1
  obtain ⟨b1, b2, b3, b4, b5, b6⟩ := a2
  have hfo : (zOp (bs (V1 31)) fo1 Q).1 = if decide (bs (V1 31) ≠ 63) = true then zAF Q.2.2 Q.2.1 fo1 else fo1 := by
    unfold zOp
    by_cases z : bs (V1 31) ≠ 63
    · rw [if_pos z, if_pos (decide_eq_true z)]
    · rw [if_neg z, if_neg (fun y => z (of_decide_eq_true y))]
  have hin : ∀ p, p ≤ n ∨ n1 < p → (zOp (bs (V1 31)) fo1 Q).1 p = fo1 p := fun p hp => by
    rw [hfo]
    split
    · unfold zAF
      refine if_neg (fun z => ?_)
      have := a5.2.2.2.1.2 p (by omega) z.2.2
      omega
    · rfl
  refine ⟨h2, ⟨by omega, fun x y hx => ?_, fun x y hx e => ?_, fun q hq => by rw [c19]; exact b4 q hq, hv, hc⟩, by omega, ?_, ?_, fun p hp => ?_, fun p hp => ?_, by omega, by omega⟩
  · rw [hE]
    exact (zE4_lo (by omega) (by omega) hx (by omega)).trans (b2 x y hx)
  · by_cases z : x < V1 20
    · have e2 : (∀ y, E2 x y → V 20 ≤ y) := fun y e => by
        rw [hE] at e
        unfold zE4 zE3 at e
        have k : ∀ {F : Int → Int → Prop} {u v : Int}, (F x y → V 20 ≤ y) → V 20 ≤ v → zE F u v x y → V 20 ≤ y := fun hF hv e => e.elim hF (fun q => by omega)
        have k1 := @k (zE E1 (V1 20) (V1 33)) (V1 34) (V1 20 + 1) (@k E1 (V1 20) (V1 33) (b3 x y hx) (by omega)) (by omega)
        have k2 := @k (zE (zE E1 (V1 20) (V1 33)) (V1 34) (V1 20 + 1)) (V1 20) (V1 20 + 1) k1 (by omega)
        split at e
        · split at e
          · exact k k2 (by omega) e
          · exact k k1 (by omega) e
        · split at e
          · exact k2 e
          · exact k1 e
      exact e2 y e
    · have e2 := h2.bd x y e
      rw [hE] at e
      unfold zE4 zE3 at e
      have k : ∀ {F : Int → Int → Prop} {u v : Int}, (F x y → V 20 ≤ y) → V 20 ≤ v → zE F u v x y → V 20 ≤ y := fun hF hv e => e.elim hF (fun q => by omega)
      have k1 := @k (zE E1 (V1 20) (V1 33)) (V1 34) (V1 20 + 1) (@k E1 (V1 20) (V1 33) (b3 x y hx) (by omega)) (by omega)
      have k2 := @k (zE (zE E1 (V1 20) (V1 33)) (V1 34) (V1 20 + 1)) (V1 20) (V1 20 + 1) k1 (by omega)
      split at e
      · split at e
        · exact k k2 (by omega) e
        · exact k k1 (by omega) e
      · split at e
        · exact k2 e
        · exact k1 e
  · rw [a4, h31, hl]
    exact zRn_i (by omega) hlt (zStep_o ho rfl)
  · rw [h33, h34, h20, show V1 20 + 1 + 1 = V1 20 + 2 by omega, hE, hfo, c19]
    exact a5.op _ _ a1.bd
  · rw [hin p (Or.inl hp)]; exact a6 p hp
  · rw [hin p (Or.inr hp)]; exact a7 p hp
/-- a branch begins -/
theorem mBrT.nil (h : mPs bs sz s w0 V C E n lp st dep) (hz : ∀ p, n < p → fo p = 0) (h2 : mPs bs sz s w0 V1 C1 E n lp st dep) (hG : mGw V C E n V1 C1 E n) (h20 : V1 20 = V 20 + 1) (h31 : V1 31 = V 31) (h21 : V1 21 = V 21) (hb : V 20 ≤ 3 * V 31 + 2 ∧ V 21 ≤ 5 * V 31) : mBrT bs sz s w0 V C E n lp st fo dep ch outer V1 C1 E n lp st fo (ch, (true, 0, 0), none) (V 20) := by
  have hq := h.1
  have hnn := h.nn
  refine ⟨h2, hG, by rw [h31], rfl, ?_, fun p _ => rfl, fun p hp => hz p hp, fun _ _ => rfl, by omega, by omega⟩
  rw [h20]
  exact zFr.nil h.bd hnn.1 (by omega)
/-- one more piece -/
theorem mBrT.add {V3 : Nat → Int} {C3 : Nat → Int → Int} {t : Int} (h : mBrT bs sz s w0 V C E n lp st fo dep ch outer V1 C1 E1 n1 lp1 st1 fo1 cur1 t) (h2 : mAtT bs sz s w0 V1 C1 E1 n1 lp1 st1 fo1 dep cur1 outer V2 C2 E2 n2 lp2 st2 fo2 Q) (ho : V2 31 < sz → ¬ zOpr (bs (V2 31))) (h3 : mPs bs sz s w0 V3 C3 (zE E2 t (V2 33)) n2 lp2 st2 dep) (hG : mGw V C E n V3 C3 (zE E2 t (V2 33)) n2) (h20 : V3 20 = V2 20) (h31 : V3 31 = V2 31) (h21 : V3 21 = V2 21 + 1) (c19 : C3 19 = C2 19) : mBrT bs sz s w0 V C E n lp st fo dep ch outer V3 C3 (zE E2 t (V2 33)) n2 lp2 st2 fo2 (cur1.1, (zEp fo1 cur1).2, some Q) (V2 34) := by
  obtain ⟨a1, a2, a3, a4, a5, a6, a7, a8, a9, a10⟩ := h
  obtain ⟨b1, b2, b3, b4, b5, b6, b7, b8, b9⟩ := h2
  have hf := a5.1.1
  have hf2 := b5.1.1
  have hL : ∀ p, 0 ≤ p → zt (zEp fo1 cur1).2.2.2 p → n < p ∧ p ≤ n1 := a5.2.2.2.1.2
  have hin : ∀ p, p ≤ n ∨ n1 < p → zAF (zEp fo1 cur1).2.2.2 Q.2.1 fo2 p = fo2 p := fun p hp => by
    unfold zAF
    refine if_neg (fun z => ?_)
    have := hL p (by omega) z.2.2
    omega
  refine ⟨h3, hG, ?_, a4, ?_, fun p hp => ?_, fun p hp => ?_, fun z1 z2 => absurd z2 (by rw [h31]; exact ho (by omega)), by omega, by omega⟩
  · rw [a3, b4, h31]
  · rw [h20, c19]
    have c1 := a5.cg (E' := E2) (inn' := fun q => C2 19 q - 1) (fo' := fo2) (fun x y hx => b2.2.1 x y hx.2) (fun q q0 q1 => by show C2 19 q - 1 = C1 19 q - 1; rw [b2.2.2.2.1 q q1]) (fun p p0 p1 => b6 p p1)
    exact c1.cat b5
  · show zAF (zEp fo1 cur1).2.2.2 Q.2.1 fo2 p = fo p
    rw [hin p (Or.inl hp), b6 p (by omega)]
    exact a6 p hp
  · show zAF (zEp fo1 cur1).2.2.2 Q.2.1 fo2 p = 0
    rw [hin p (Or.inr (by omega))]
    exact b7 p hp
/-- a branch ends -/
theorem mBrT.fin {t : Int} (h : mBrT bs sz s w0 V C E n lp st fo dep ch outer V1 C1 E1 n1 lp1 st1 fo1 cur1 t) (h2 : mPs bs sz s w0 V2 C1 E1 n1 lp1 st1 dep) (h20 : V2 20 = V1 20) (h21 : V2 21 = V1 21) (h31 : V2 31 = V1 31) (h34 : V2 34 = t) (hv : sV gwV V1 V2) : mBrT bs sz s w0 V C E n lp st fo dep ch outer V2 C1 E1 n1 lp1 st1 fo1 cur1 (V2 34) := by
  obtain ⟨a1, a2, a3, a4, a5, a6, a7, a8, a9, a10⟩ := h
  refine ⟨h2, a2.keep (by omega) (by omega) (Eq.refl _) hv sC.rfl, by rw [h31]; exact a3, a4, by rw [h34, h20]; exact a5, a6, a7, by rw [h31]; exact a8, by omega, by omega⟩
def mPaI (bs : Int → Int) (sz s : Int) (w0 : Int → Int) (V : Nat → Int) (C : Nat → Int → Int) (E : Int → Int → Prop) (n lp : Int) (st fo : Int → Int) (dep : Int) (outer : List zLv) (V' : Nat → Int) (C' : Nat → Int → Int) (E' : Int → Int → Prop) (n' lp' : Int) (st' fo' : Int → Int) (ch : zPt) : Prop :=
  mPs bs sz s w0 V' C' E' n' lp' st' dep ∧ mGw V C E n V' C' E' n' ∧ zRn bs sz (V 31) (((n, lp), st, fo), zL0, outer) = zRn bs sz (V' 31) (((n', lp'), st', fo'), (ch, (true, 0, 0), none), outer) ∧ zFp E' (fun q => C' 19 q - 1) (V 20) (V' 20) n n' ch.1 ch.2.1 ch.2.2 fo' ∧ (∀ p, p ≤ n → fo' p = fo p) ∧ (∀ p, n' < p → fo' p = 0) ∧ V' 20 ≤ 3 * V' 31 + 2 ∧ V' 21 ≤ 5 * V' 31
theorem mPaI.nil (h : mPs bs sz s w0 V C E n lp st dep) (hz : ∀ p, n < p → fo p = 0) (h2 : mPs bs sz s w0 V1 C1 E n lp st dep) (hG : mGw V C E n V1 C1 E n) (h20 : V1 20 = V 20 + 2) (h31 : V1 31 = V 31) (h21 : V1 21 = V 21) (hb : V 20 ≤ 3 * V 31 ∧ V 21 ≤ 5 * V 31) : mPaI bs sz s w0 V C E n lp st fo dep outer V1 C1 E n lp st fo (false, 0, 0) := by
  have hq := h.1
  have hnn := h.nn
  refine ⟨h2, hG, by rw [h31]; rfl, ?_, fun p _ => rfl, hz, by omega, by omega⟩
  rw [h20]
  exact zFp.non h.bd hnn.1 (by omega)
theorem mPaI.next {V3 : Nat → Int} {C3 : Nat → Int → Int} {E3 : Int → Int → Prop} {t : Int} (hA : mPaI bs sz s w0 V C E n lp st fo dep outer V1 C1 E1 n1 lp1 st1 fo1 ch) (hb : mBrT bs sz s w0 V1 C1 E1 n1 lp1 st1 fo1 dep ch outer V2 C2 E2 n2 lp2 st2 fo2 cur2 t) (hE : E3 = zE (zE E2 (V 20) (V1 20)) t (V 20 + 1)) (h20 : V3 20 = V2 20) (c19 : C3 19 = C2 19) : zFp E3 (fun q => C3 19 q - 1) (V 20) (V3 20) n n2 (zEb fo2 cur2).2.1 (zEb fo2 cur2).2.2.1 (zEb fo2 cur2).2.2.2 (zEb fo2 cur2).1 ∧ (∀ p, p ≤ n → (zEb fo2 cur2).1 p = fo p) ∧ (∀ p, n2 < p → (zEb fo2 cur2).1 p = 0) := by
  obtain ⟨a1, a2, a3, a4, a5, a6, a7, a8⟩ := hA
  obtain ⟨b1, b2, b3, b4, b5, b6, b7, b8, b9, b10⟩ := hb
  have hf := a4.1.1.1
  refine ⟨?_, fun p hp => (b6 p (by omega)).trans (a5 p hp), b7⟩
  have c := a4.cg (E' := E2) (inn' := fun q => C2 19 q - 1) (fo' := (zEp fo2 cur2).1) b2.2.1 b2.2.2.1 (fun q q0 q1 => by show C2 19 q - 1 = C1 19 q - 1; rw [b2.2.2.2.1 q q1]) (fun p p0 p1 => b6 p p1)
  have e := c.alt b5
  rw [hE, h20, c19]
  unfold zEb zOr
  rw [b4]
  exact e
theorem mPaI.bar {V3 : Nat → Int} {C3 : Nat → Int → Int} {E3 : Int → Int → Prop} {t : Int} (hA : mPaI bs sz s w0 V C E n lp st fo dep outer V1 C1 E1 n1 lp1 st1 fo1 ch) (hb : mBrT bs sz s w0 V1 C1 E1 n1 lp1 st1 fo1 dep ch outer V2 C2 E2 n2 lp2 st2 fo2 cur2 t) (hE : E3 = zE (zE E2 (V 20) (V1 20)) t (V 20 + 1)) (h3 : mPs bs sz s w0 V3 C3 E3 n2 lp2 st2 dep) (hG : mGw V C E n V3 C3 E3 n2) (h20 : V3 20 = V2 20) (c19 : C3 19 = C2 19) (hlt : V2 31 < sz) (h124 : bs (V2 31) = 124) (h31 : V3 31 = V2 31 + 1) (h21 : V3 21 ≤ V2 21 + 2) : mPaI bs sz s w0 V C E n lp st fo dep outer V3 C3 E3 n2 lp2 st2 (zEb fo2 cur2).1 (zEb fo2 cur2).2 := by
  obtain ⟨k1, k2, k3⟩ := hA.next (V3 := V3) hb hE h20 c19
  have q := hb.1.1
  refine ⟨h3, hG, ?_, k1, k2, k3, by have := hb.2.2.2.2.2.2.2.2; omega, by have := hb.2.2.2.2.2.2.2.2; omega⟩
  rw [hA.2.2.1, hb.2.2.1, h31]
  exact zRn_i (by omega) hlt (zStep_b h124)
theorem mPaI.fin {V3 : Nat → Int} {C3 : Nat → Int → Int} {E3 : Int → Int → Prop} {t : Int} (hA : mPaI bs sz s w0 V C E n lp st fo dep outer V1 C1 E1 n1 lp1 st1 fo1 ch) (hb : mBrT bs sz s w0 V1 C1 E1 n1 lp1 st1 fo1 dep ch outer V2 C2 E2 n2 lp2 st2 fo2 cur2 t) (hE : E3 = zE (zE E2 (V 20) (V1 20)) t (V 20 + 1)) (h3 : mPs bs sz s w0 V3 C3 E3 n2 lp2 st2 dep) (hG : mGw V C E n V3 C3 E3 n2) (h20 : V3 20 = V2 20) (c19 : C3 19 = C2 19) (hx : V2 31 < sz → ¬ zAt (bs (V2 31)) ∧ bs (V2 31) ≠ 124) (h31 : V3 31 = V2 31) (h21 : V3 21 ≤ V2 21 + 2) (h33 : V3 33 = V 20) (h34 : V3 34 = V 20 + 1) : mPaT bs sz s w0 V C E n lp st fo dep outer V3 C3 E3 n2 lp2 st2 fo2 cur2 := by
  obtain ⟨k1, k2, k3⟩ := hA.next (V3 := V3) hb hE h20 c19
  refine ⟨h3, hG, ?_, ?_, k2, k3, ?_, by have := hb.2.2.2.2.2.2.2.2; omega, by have := hb.2.2.2.2.2.2.2.2; omega⟩
  · rw [hA.2.2.1, hb.2.2.1, h31]
  · rw [h33, h34]
    exact k1.1
  · rw [h31]
    exact fun z => ⟨(hx z).1, (hx z).2, hb.2.2.2.2.2.2.2.1 z⟩
end M32g
