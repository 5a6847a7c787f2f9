/-! ===== the reference reads a pattern ===== -/
section M32g
variable {bs : Int → Int} {sz s : Int} {w0 : Int → Int} {V V1 V2 : Nat → Int} {C C1 C2 : Nat → Int → Int} {E E1 E2 : Int → Int → Prop} {n lp n1 n2 lp1 lp2 : Int} {st st1 st2 fo fo1 fo2 : Int → Int} {dep dep1 : Int} {cur cur1 cur2 : zLv} {outer : List zLv} {Q Q1 : zPt} {ch : zPt}
/-- a position is read -/
theorem mPs.atom {c : Int} (h : mPs bs sz s w0 V C E n lp st dep) (hn : n < 24) (h8 : V1 8 = 0) (h9 : V1 9 = -1) (h7 : V1 7 = sz) (h36 : V1 36 = n + 1) (h35 : V1 35 = lp) (h32 : V1 32 = dep) (h20 : V1 20 = V 20 + 1 + 1) (h21 : V1 21 = V 21) (h31 : V1 31 = V 31 + 1) (hlt : V 31 < sz) (c6 : C1 6 = C 6) (c13 : C1 13 = zu (zu (C 13) (V 20) (-1)) (V 20 + 1) (-1)) (c14 : C1 14 = C 14) (c15 : C1 15 = C 15) (c16 : C1 16 = zu (zu (zu (C 16) (V 20) 0) (V 20 + 1) 0) (V 20) (n + 1)) (c17 : C1 17 = zu (zu (C 17) (V 20) 0) (V 20 + 1) 0) (c19 : C1 19 = zu (C 19) (n + 1) (V 20 + 1)) (c0 : C1 0 = zu (C 0) (476 * s + (31 + (n + 1))) c) (hc : 0 ≤ c ∧ c ≤ 6) : mPs bs sz s w0 V1 C1 E (n + 1) lp (zu st (n + 1) c) dep := by
  have hb := h.1
  have hnn := h.nn
  obtain ⟨a, b, k1, k2, k3, k4, k5⟩ := h
  refine ⟨⟨⟨h8, h7, h36, h35, h32, h9⟩, by omega, by omega, by omega, by omega, by omega, by omega⟩, ?_, ?_, ?_, fun x x0 x1 => ?_, fun k k0 k1 => ?_, fun j hj => ?_⟩
  · rw [c6]; exact b
  · rw [h20, h21, c13, c14, c15]; exact k1.node.node
  · rw [h20, c16, c19]
    have q : mLb (V 20 + 2) n (zu (zu (C 16) (V 20) 0) (V 20 + 1) 0) (C 19) := by
      have := k2.node.node
      rwa [show V 20 + 1 + 1 = V 20 + 2 by omega] at this
    rw [show V 20 + 1 + 1 = V 20 + 2 by omega]
    exact q.pos hnn.1 (by omega) (by rw [zu_ne (by omega), zu_at])
  · rw [c17]
    rw [h20] at x1
    by_cases z : x = V 20 + 1
    · rw [z, zu_at]
    · rw [zu_ne z]
      by_cases z : x = V 20
      · rw [z, zu_at]
      · rw [zu_ne z]; exact k3 x x0 (by omega)
  · rw [c0]
    by_cases z : k = n + 1
    · rw [z, zu_at, zu_at]; exact ⟨rfl, hc.1, hc.2⟩
    · rw [zu_ne (by omega), zu_ne z]; exact k4 k k0 (by omega)
  · rw [c0, zu_ne (by omega)]
    exact k5 j (by omega)
def mAtT (bs : Int → Int) (sz s : Int) (w0 : Int → Int) (V : Nat → Int) (C : Nat → Int → Int) (E : Int → Int → Prop) (n lp : Int) (st fo : Int → Int) (dep : Int) (cur : zLv) (outer : List zLv) (V' : Nat → Int) (C' : Nat → Int → Int) (E' : Int → Int → Prop) (n' lp' : Int) (st' fo' : Int → Int) (Q : zPt) : Prop :=
  mPs bs sz s w0 V' C' E' n' lp' st' dep ∧ mGw V C E n V' C' E' n' ∧ V 31 < V' 31 ∧ zRn bs sz (V 31) (((n, lp), st, fo), cur, outer) = zRn bs sz (V' 31) (((n', lp'), st', fo'), (cur.1, (zEp fo cur).2, some Q), outer) ∧ zFr E' (fun q => C' 19 q - 1) (V 20) (V' 20) n n' (V' 33) (V' 34) Q.1 Q.2.1 Q.2.2 fo' ∧ (∀ p, p ≤ n → fo' p = (zEp fo cur).1 p) ∧ (∀ p, n' < p → fo' p = 0) ∧ V' 20 ≤ 3 * V' 31 + 3 ∧ V' 21 ≤ 5 * V' 31 - 1
def mBrT (bs : Int → Int) (sz s : Int) (w0 : Int → Int) (V : Nat → Int) (C : Nat → Int → Int) (E : Int → Int → Prop) (n lp : Int) (st fo : Int → Int) (dep : Int) (ch : zPt) (outer : List zLv) (V' : Nat → Int) (C' : Nat → Int → Int) (E' : Int → Int → Prop) (n' lp' : Int) (st' fo' : Int → Int) (cur' : zLv) (t : Int) : Prop :=
  mPs bs sz s w0 V' C' E' n' lp' st' dep ∧ mGw V C E n V' C' E' n' ∧ zRn bs sz (V 31) (((n, lp), st, fo), (ch, (true, 0, 0), none), outer) = zRn bs sz (V' 31) (((n', lp'), st', fo'), cur', outer) ∧ cur'.1 = ch ∧ zFr E' (fun q => C' 19 q - 1) (V 20) (V' 20) n n' (V 20) t (zEp fo' cur').2.1 (zEp fo' cur').2.2.1 (zEp fo' cur').2.2.2 (zEp fo' cur').1 ∧ (∀ p, p ≤ n → (zEp fo' cur').1 p = fo p) ∧ (∀ p, n' < p → (zEp fo' cur').1 p = 0) ∧ (V' 31 < sz → zOpr (bs (V' 31)) → cur'.2.2 = none) ∧ V' 20 ≤ 3 * V' 31 + 3 ∧ V' 21 ≤ 5 * V' 31
def mPaT (bs : Int → Int) (sz s : Int) (w0 : Int → Int) (V : Nat → Int) (C : Nat → Int → Int) (E : Int → Int → Prop) (n lp : Int) (st fo : Int → Int) (dep : Int) (outer : List zLv) (V' : Nat → Int) (C' : Nat → Int → Int) (E' : Int → Int → Prop) (n' lp' : Int) (st' fo' : Int → Int) (cur' : zLv) : Prop :=
  mPs bs sz s w0 V' C' E' n' lp' st' dep ∧ mGw V C E n V' C' E' n' ∧ zRn bs sz (V 31) (((n, lp), st, fo), zL0, outer) = zRn bs sz (V' 31) (((n', lp'), st', fo'), cur', outer) ∧ zFr E' (fun q => C' 19 q - 1) (V 20) (V' 20) n n' (V' 33) (V' 34) (zEb fo' cur').2.1 (zEb fo' cur').2.2.1 (zEb fo' cur').2.2.2 (zEb fo' cur').1 ∧ (∀ p, p ≤ n → (zEb fo' cur').1 p = fo p) ∧ (∀ p, n' < p → (zEb fo' cur').1 p = 0) ∧ (V' 31 < sz → ¬ zAt (bs (V' 31)) ∧ bs (V' 31) ≠ 124 ∧ (zOpr (bs (V' 31)) → cur'.2.2 = none)) ∧ V' 20 ≤ 3 * V' 31 + 3 ∧ V' 21 ≤ 5 * V' 31 + 2
/-- a position is read: all that is so behind it -/
theorem mAtT.pos (h : mPs bs sz s w0 V C E n lp st dep) (h2 : mPs bs sz s w0 V1 C1 E (n + 1) lp (zu st (n + 1) (if bs (V 31) = 46 then 6 else bs (V 31) - 97)) dep) (hb : V 20 ≤ 3 * V 31 + 3 ∧ V 21 ≤ 5 * V 31) (hz : ∀ p, n < p → (zEp fo cur).1 p = 0) (hn : n < 24) (ha : bs (V 31) = 46 ∨ (97 ≤ bs (V 31) ∧ bs (V 31) ≤ 102)) (h20 : V1 20 = V 20 + 1 + 1) (h21 : V1 21 = V 21) (h31 : V1 31 = V 31 + 1) (hlt : V 31 < sz) (h33 : V1 33 = V 20) (h34 : V1 34 = V 20 + 1) (c19 : C1 19 = zu (C 19) (n + 1) (V 20 + 1)) (hv : sV gwV V V1) (hc : sC gwC C C1) : mAtT bs sz s w0 V C E n lp st fo dep cur outer V1 C1 E (n + 1) lp (zu st (n + 1) (if bs (V 31) = 46 then 6 else bs (V 31) - 97)) (zEp fo cur).1 (false, zp (n + 1), zp (n + 1)) := by
  have hq := h.1
  have hnn := h.nn
  refine ⟨h2, ⟨by omega, fun x y _ => Iff.rfl, fun x y hx e => by have := h.bd x y e; omega, fun q hq => by rw [c19]; exact zu_ne (by omega), hv, hc⟩, by omega, ?_, ?_, fun p hp => rfl, fun p hp => hz p (by omega), by omega, by omega⟩
  · rw [h31]
    exact zRn_i (by omega) hlt (zStep_p ha (by show n ≠ 24; omega))
  · rw [h33, h34, h20, show V 20 + 1 + 1 = V 20 + 2 by omega]
    refine zFr.atom h.bd hnn.1 (by omega) ?_ (hz _ (by omega))
    show C1 19 (n + 1) - 1 = V 20
    rw [c19, zu_at]; omega
/-- an operator -/
theorem mAtT.op (h : mAtT bs sz s w0 V C E n lp st fo dep cur outer V1 C1 E1 n1 lp1 st1 fo1 Q) (hlt : V1 31 < sz) (ho : zOpr (bs (V1 31))) (h2 : mPs bs sz s w0 V2 C2 E2 n1 lp2 st1 dep) (hE : E2 = zE4 (decide (bs (V1 31) ≠ 43)) (decide (bs (V1 31) ≠ 63)) E1 (V1 20) (V1 33) (V1 34)) (hl : lp2 = if bs (V1 31) ≠ 63 then lp1 + 1 else lp1) (h20 : V2 20 = V1 20 + 1 + 1) (h21 : V2 21 ≤ V1 21 + 4) (h31 : V2 31 = V1 31 + 1) (h33 : V2 33 = V1 20) (h34 : V2 34 = V1 20 + 1) (c19 : C2 19 = C1 19) (hv : sV gwV V V2) (hc : sC gwC C C2) : mAtT bs sz s w0 V C E n lp st fo dep cur outer V2 C2 E2 n1 lp2 st1 (zOp (bs (V1 31)) fo1 Q).1 (zOp (bs (V1 31)) fo1 Q).2 := by
  obtain ⟨a1, a2, a3, a4, a5, a6, a7, a8, a9⟩ := h
  have hq := a1.1
  have hnn := a1.nn
  have hf := a5.1.1
  obtain ⟨b1, b2, b3, b4, b5, b6⟩ := a2
  have hfo : (zOp (bs (V1 31)) fo1 Q).1 = if decide (bs (V1 31) ≠ 63) = true then zAF Q.2.2 Q.2.1 fo1 else fo1 := by
    unfold zOp
    by_cases z : bs (V1 31) ≠ 63
    · rw [if_pos z, if_pos (decide_eq_true z)]
    · rw [if_neg z, if_neg (fun y => z (of_decide_eq_true y))]
  have hin : ∀ p, p ≤ n ∨ n1 < p → (zOp (bs (V1 31)) fo1 Q).1 p = fo1 p := fun p hp => by
    rw [hfo]
    split
    · unfold zAF
      refine if_neg (fun z => ?_)
      have := a5.2.2.2.1.2 p (by omega) z.2.2
      omega
    · rfl
  refine ⟨h2, ⟨by omega, fun x y hx => ?_, fun x y hx e => ?_, fun q hq => by rw [c19]; exact b4 q hq, hv, hc⟩, by omega, ?_, ?_, fun p hp => ?_, fun p hp => ?_, by omega, by omega⟩
  · rw [hE]
    exact (zE4_lo (by omega) (by omega) hx (by omega)).trans (b2 x y hx)
  · by_cases z : x < V1 20
    · have e2 : (∀ y, E2 x y → V 20 ≤ y) := fun y e => by
        rw [hE] at e
        unfold zE4 zE3 at e
        have k : ∀ {F : Int → Int → Prop} {u v : Int}, (F x y → V 20 ≤ y) → V 20 ≤ v → zE F u v x y → V 20 ≤ y := fun hF hv e => e.elim hF (fun q => by omega)
        have k1 := @k (zE E1 (V1 20) (V1 33)) (V1 34) (V1 20 + 1) (@k E1 (V1 20) (V1 33) (b3 x y hx) (by omega)) (by omega)
        have k2 := @k (zE (zE E1 (V1 20) (V1 33)) (V1 34) (V1 20 + 1)) (V1 20) (V1 20 + 1) k1 (by omega)
        split at e
        · split at e
          · exact k k2 (by omega) e
          · exact k k1 (by omega) e
        · split at e
          · exact k2 e
          · exact k1 e
      exact e2 y e
    · have e2 := h2.bd x y e
      rw [hE] at e
      unfold zE4 zE3 at e
      have k : ∀ {F : Int → Int → Prop} {u v : Int}, (F x y → V 20 ≤ y) → V 20 ≤ v → zE F u v x y → V 20 ≤ y := fun hF hv e => e.elim hF (fun q => by omega)
      have k1 := @k (zE E1 (V1 20) (V1 33)) (V1 34) (V1 20 + 1) (@k E1 (V1 20) (V1 33) (b3 x y hx) (by omega)) (by omega)
      have k2 := @k (zE (zE E1 (V1 20) (V1 33)) (V1 34) (V1 20 + 1)) (V1 20) (V1 20 + 1) k1 (by omega)
      split at e
      · split at e
        · exact k k2 (by omega) e
        · exact k k1 (by omega) e
      · split at e
        · exact k2 e
        · exact k1 e
  · rw [a4, h31, hl]
    exact zRn_i (by omega) hlt (zStep_o ho rfl)
  · rw [h33, h34, h20, show V1 20 + 1 + 1 = V1 20 + 2 by omega, hE, hfo, c19]
    exact a5.op _ _ a1.bd
  · rw [hin p (Or.inl hp)]; exact a6 p hp
  · rw [hin p (Or.inr hp)]; exact a7 p hp
/-- a branch begins -/
theorem mBrT.nil (h : mPs bs sz s w0 V C E n lp st dep) (hz : ∀ p, n < p → fo p = 0) (h2 : mPs bs sz s w0 V1 C1 E n lp st dep) (hG : mGw V C E n V1 C1 E n) (h20 : V1 20 = V 20 + 1) (h31 : V1 31 = V 31) (h21 : V1 21 = V 21) (hb : V 20 ≤ 3 * V 31 + 2 ∧ V 21 ≤ 5 * V 31) : mBrT bs sz s w0 V C E n lp st fo dep ch outer V1 C1 E n lp st fo (ch, (true, 0, 0), none) (V 20) := by
  have hq := h.1
  have hnn := h.nn
  refine ⟨h2, hG, by rw [h31], rfl, ?_, fun p _ => rfl, fun p hp => hz p hp, fun _ _ => rfl, by omega, by omega⟩
  rw [h20]
  exact zFr.nil h.bd hnn.1 (by omega)
/-- one more piece -/
theorem mBrT.add {V3 : Nat → Int} {C3 : Nat → Int → Int} {t : Int} (h : mBrT bs sz s w0 V C E n lp st fo dep ch outer V1 C1 E1 n1 lp1 st1 fo1 cur1 t) (h2 : mAtT bs sz s w0 V1 C1 E1 n1 lp1 st1 fo1 dep cur1 outer V2 C2 E2 n2 lp2 st2 fo2 Q) (ho : V2 31 < sz → ¬ zOpr (bs (V2 31))) (h3 : mPs bs sz s w0 V3 C3 (zE E2 t (V2 33)) n2 lp2 st2 dep) (hG : mGw V C E n V3 C3 (zE E2 t (V2 33)) n2) (h20 : V3 20 = V2 20) (h31 : V3 31 = V2 31) (h21 : V3 21 = V2 21 + 1) (c19 : C3 19 = C2 19) : mBrT bs sz s w0 V C E n lp st fo dep ch outer V3 C3 (zE E2 t (V2 33)) n2 lp2 st2 fo2 (cur1.1, (zEp fo1 cur1).2, some Q) (V2 34) := by
  obtain ⟨a1, a2, a3, a4, a5, a6, a7, a8, a9, a10⟩ := h
  obtain ⟨b1, b2, b3, b4, b5, b6, b7, b8, b9⟩ := h2
  have hf := a5.1.1
  have hf2 := b5.1.1
  have hL : ∀ p, 0 ≤ p → zt (zEp fo1 cur1).2.2.2 p → n < p ∧ p ≤ n1 := a5.2.2.2.1.2
  have hin : ∀ p, p ≤ n ∨ n1 < p → zAF (zEp fo1 cur1).2.2.2 Q.2.1 fo2 p = fo2 p := fun p hp => by
    unfold zAF
    refine if_neg (fun z => ?_)
    have := hL p (by omega) z.2.2
    omega
  refine ⟨h3, hG, ?_, a4, ?_, fun p hp => ?_, fun p hp => ?_, fun z1 z2 => absurd z2 (by rw [h31]; exact ho (by omega)), by omega, by omega⟩
  · rw [a3, b4, h31]
  · rw [h20, c19]
    have c1 := a5.cg (E' := E2) (inn' := fun q => C2 19 q - 1) (fo' := fo2) (fun x y hx => b2.2.1 x y hx.2) (fun q q0 q1 => by show C2 19 q - 1 = C1 19 q - 1; rw [b2.2.2.2.1 q q1]) (fun p p0 p1 => b6 p p1)
    exact c1.cat b5
  · show zAF (zEp fo1 cur1).2.2.2 Q.2.1 fo2 p = fo p
    rw [hin p (Or.inl hp), b6 p (by omega)]
    exact a6 p hp
  · show zAF (zEp fo1 cur1).2.2.2 Q.2.1 fo2 p = 0
    rw [hin p (Or.inr (by omega))]
    exact b7 p hp
/-- a branch ends -/
theorem mBrT.fin {t : Int} (h : mBrT bs sz s w0 V C E n lp st fo dep ch outer V1 C1 E1 n1 lp1 st1 fo1 cur1 t) (h2 : mPs bs sz s w0 V2 C1 E1 n1 lp1 st1 dep) (h20 : V2 20 = V1 20) (h21 : V2 21 = V1 21) (h31 : V2 31 = V1 31) (h34 : V2 34 = t) (hv : sV gwV V1 V2) : mBrT bs sz s w0 V C E n lp st fo dep ch outer V2 C1 E1 n1 lp1 st1 fo1 cur1 (V2 34) := by
  obtain ⟨a1, a2, a3, a4, a5, a6, a7, a8, a9, a10⟩ := h
  refine ⟨h2, a2.keep (by omega) (by omega) (Eq.refl _) hv sC.rfl, by rw [h31]; exact a3, a4, by rw [h34, h20]; exact a5, a6, a7, by rw [h31]; exact a8, by omega, by omega⟩
def mPaI (bs : Int → Int) (sz s : Int) (w0 : Int → Int) (V : Nat → Int) (C : Nat → Int → Int) (E : Int → Int → Prop) (n lp : Int) (st fo : Int → Int) (dep : Int) (outer : List zLv) (V' : Nat → Int) (C' : Nat → Int → Int) (E' : Int → Int → Prop) (n' lp' : Int) (st' fo' : Int → Int) (ch : zPt) : Prop :=
  mPs bs sz s w0 V' C' E' n' lp' st' dep ∧ mGw V C E n V' C' E' n' ∧ zRn bs sz (V 31) (((n, lp), st, fo), zL0, outer) = zRn bs sz (V' 31) (((n', lp'), st', fo'), (ch, (true, 0, 0), none), outer) ∧ zFp E' (fun q => C' 19 q - 1) (V 20) (V' 20) n n' ch.1 ch.2.1 ch.2.2 fo' ∧ (∀ p, p ≤ n → fo' p = fo p) ∧ (∀ p, n' < p → fo' p = 0) ∧ V' 20 ≤ 3 * V' 31 + 2 ∧ V' 21 ≤ 5 * V' 31
theorem mPaI.nil (h : mPs bs sz s w0 V C E n lp st dep) (hz : ∀ p, n < p → fo p = 0) (h2 : mPs bs sz s w0 V1 C1 E n lp st dep) (hG : mGw V C E n V1 C1 E n) (h20 : V1 20 = V 20 + 2) (h31 : V1 31 = V 31) (h21 : V1 21 = V 21) (hb : V 20 ≤ 3 * V 31 ∧ V 21 ≤ 5 * V 31) : mPaI bs sz s w0 V C E n lp st fo dep outer V1 C1 E n lp st fo (false, 0, 0) := by
  have hq := h.1
  have hnn := h.nn
  refine ⟨h2, hG, by rw [h31]; rfl, ?_, fun p _ => rfl, hz, by omega, by omega⟩
  rw [h20]
  exact zFp.non h.bd hnn.1 (by omega)
theorem mPaI.next {V3 : Nat → Int} {C3 : Nat → Int → Int} {E3 : Int → Int → Prop} {t : Int} (hA : mPaI bs sz s w0 V C E n lp st fo dep outer V1 C1 E1 n1 lp1 st1 fo1 ch) (hb : mBrT bs sz s w0 V1 C1 E1 n1 lp1 st1 fo1 dep ch outer V2 C2 E2 n2 lp2 st2 fo2 cur2 t) (hE : E3 = zE (zE E2 (V 20) (V1 20)) t (V 20 + 1)) (h20 : V3 20 = V2 20) (c19 : C3 19 = C2 19) : zFp E3 (fun q => C3 19 q - 1) (V 20) (V3 20) n n2 (zEb fo2 cur2).2.1 (zEb fo2 cur2).2.2.1 (zEb fo2 cur2).2.2.2 (zEb fo2 cur2).1 ∧ (∀ p, p ≤ n → (zEb fo2 cur2).1 p = fo p) ∧ (∀ p, n2 < p → (zEb fo2 cur2).1 p = 0) := by
  obtain ⟨a1, a2, a3, a4, a5, a6, a7, a8⟩ := hA
  obtain ⟨b1, b2, b3, b4, b5, b6, b7, b8, b9, b10⟩ := hb
  have hf := a4.1.1.1
  refine ⟨?_, fun p hp => (b6 p (by omega)).trans (a5 p hp), b7⟩
  have c := a4.cg (E' := E2) (inn' := fun q => C2 19 q - 1) (fo' := (zEp fo2 cur2).1) b2.2.1 b2.2.2.1 (fun q q0 q1 => by show C2 19 q - 1 = C1 19 q - 1; rw [b2.2.2.2.1 q q1]) (fun p p0 p1 => b6 p p1)
  have e := c.alt b5
  rw [hE, h20, c19]
  unfold zEb zOr
  rw [b4]
  exact e
theorem mPaI.bar {V3 : Nat → Int} {C3 : Nat → Int → Int} {E3 : Int → Int → Prop} {t : Int} (hA : mPaI bs sz s w0 V C E n lp st fo dep outer V1 C1 E1 n1 lp1 st1 fo1 ch) (hb : mBrT bs sz s w0 V1 C1 E1 n1 lp1 st1 fo1 dep ch outer V2 C2 E2 n2 lp2 st2 fo2 cur2 t) (hE : E3 = zE (zE E2 (V 20) (V1 20)) t (V 20 + 1)) (h3 : mPs bs sz s w0 V3 C3 E3 n2 lp2 st2 dep) (hG : mGw V C E n V3 C3 E3 n2) (h20 : V3 20 = V2 20) (c19 : C3 19 = C2 19) (hlt : V2 31 < sz) (h124 : bs (V2 31) = 124) (h31 : V3 31 = V2 31 + 1) (h21 : V3 21 ≤ V2 21 + 2) : mPaI bs sz s w0 V C E n lp st fo dep outer V3 C3 E3 n2 lp2 st2 (zEb fo2 cur2).1 (zEb fo2 cur2).2 := by
  obtain ⟨k1, k2, k3⟩ := hA.next (V3 := V3) hb hE h20 c19
  have q := hb.1.1
  refine ⟨h3, hG, ?_, k1, k2, k3, by have := hb.2.2.2.2.2.2.2.2; omega, by have := hb.2.2.2.2.2.2.2.2; omega⟩
  rw [hA.2.2.1, hb.2.2.1, h31]
  exact zRn_i (by omega) hlt (zStep_b h124)
theorem mPaI.fin {V3 : Nat → Int} {C3 : Nat → Int → Int} {E3 : Int → Int → Prop} {t : Int} (hA : mPaI bs sz s w0 V C E n lp st fo dep outer V1 C1 E1 n1 lp1 st1 fo1 ch) (hb : mBrT bs sz s w0 V1 C1 E1 n1 lp1 st1 fo1 dep ch outer V2 C2 E2 n2 lp2 st2 fo2 cur2 t) (hE : E3 = zE (zE E2 (V 20) (V1 20)) t (V 20 + 1)) (h3 : mPs bs sz s w0 V3 C3 E3 n2 lp2 st2 dep) (hG : mGw V C E n V3 C3 E3 n2) (h20 : V3 20 = V2 20) (c19 : C3 19 = C2 19) (hx : V2 31 < sz → ¬ zAt (bs (V2 31)) ∧ bs (V2 31) ≠ 124) (h31 : V3 31 = V2 31) (h21 : V3 21 ≤ V2 21 + 2) (h33 : V3 33 = V 20) (h34 : V3 34 = V 20 + 1) : mPaT bs sz s w0 V C E n lp st fo dep outer V3 C3 E3 n2 lp2 st2 fo2 cur2 := by
  obtain ⟨k1, k2, k3⟩ := hA.next (V3 := V3) hb hE h20 c19
  refine ⟨h3, hG, ?_, ?_, k2, k3, ?_, by have := hb.2.2.2.2.2.2.2.2; omega, by have := hb.2.2.2.2.2.2.2.2; omega⟩
  · rw [hA.2.2.1, hb.2.2.1, h31]
  · rw [h33, h34]
    exact k1.1
  · rw [h31]
    exact fun z => ⟨(hx z).1, (hx z).2, hb.2.2.2.2.2.2.2.1 z⟩
def kAtm (G : p_G) (Y : Nat → Nat) (h0 : p_H) (D : Nat) (bs : Int → Int) (sz s : Int) (w0 : Int → Int) (dep : Int) : Prop := ∀ (P : (Option Value) ⊕ String → m_X → Prop) (J : Int → Int) (V : Nat → Int) (C : Nat → Int → Int) (E : Int → Int → Prop) (n lp : Int) (st fo : Int → Int) (cur : zLv) (outer : List zLv), mPs bs sz s w0 V C E n lp st dep → (outer.length : Int) = dep → (V 20 ≤ 3 * V 31 + 3 ∧ V 21 ≤ 5 * V 31) → (∀ p, n < p → (zEp fo cur).1 p = 0) → (V 31 < sz ∧ zAt (bs (V 31))) → (∀ V' C', mErr bs sz (V 31) (((n, lp), st, fo), cur, outer) V V' C C' → P (.inl (some (.int (iI 0)))) (V', C', J)) → (∀ V' C' E' n' lp' st' fo' Q, mAtT bs sz s w0 V C E n lp st fo dep cur outer V' C' E' n' lp' st' fo' Q → P (.inl (some (.int (iI 1)))) (V', C', J)) → RM G mX11_readsAtom (m_I Y h0) [.ref (Y 38), .int (iI s)] D 0 0 P (V, C, J)
def kPie (G : p_G) (Y : Nat → Nat) (h0 : p_H) (D : Nat) (bs : Int → Int) (sz s : Int) (w0 : Int → Int) (dep : Int) : Prop := ∀ (P : (Option Value) ⊕ String → m_X → Prop) (J : Int → Int) (V : Nat → Int) (C : Nat → Int → Int) (E : Int → Int → Prop) (n lp : Int) (st fo : Int → Int) (cur : zLv) (outer : List zLv), mPs bs sz s w0 V C E n lp st dep → (outer.length : Int) = dep → (V 20 ≤ 3 * V 31 + 3 ∧ V 21 ≤ 5 * V 31) → (∀ p, n < p → (zEp fo cur).1 p = 0) → (V 31 < sz ∧ zAt (bs (V 31))) → (∀ V' C', mErr bs sz (V 31) (((n, lp), st, fo), cur, outer) V V' C C' → P (.inl (some (.int (iI 0)))) (V', C', J)) → (∀ V' C' E' n' lp' st' fo' Q, mAtT bs sz s w0 V C E n lp st fo dep cur outer V' C' E' n' lp' st' fo' Q → (V' 31 < sz → ¬ zOpr (bs (V' 31))) → P (.inl (some (.int (iI 1)))) (V', C', J)) → RM G mX11_readsPiece (m_I Y h0) [.ref (Y 38), .int (iI s)] D 0 0 P (V, C, J)
def kBra (G : p_G) (Y : Nat → Nat) (h0 : p_H) (D : Nat) (bs : Int → Int) (sz s : Int) (w0 : Int → Int) (dep : Int) : Prop := ∀ (P : (Option Value) ⊕ String → m_X → Prop) (J : Int → Int) (V : Nat → Int) (C : Nat → Int → Int) (E : Int → Int → Prop) (n lp : Int) (st fo : Int → Int) (ch : zPt) (outer : List zLv), mPs bs sz s w0 V C E n lp st dep → (outer.length : Int) = dep → (V 20 ≤ 3 * V 31 + 2 ∧ V 21 ≤ 5 * V 31) → (∀ p, n < p → fo p = 0) → (∀ V' C', mErr bs sz (V 31) (((n, lp), st, fo), (ch, (true, 0, 0), none), outer) V V' C C' → P (.inl (some (.int (iI 0)))) (V', C', J)) → (∀ V' C' E' n' lp' st' fo' cur', mBrT bs sz s w0 V C E n lp st fo dep ch outer V' C' E' n' lp' st' fo' cur' (V' 34) → V' 33 = V 20 → (V' 31 < sz → ¬ zAt (bs (V' 31))) → P (.inl (some (.int (iI 1)))) (V', C', J)) → RM G mX11_readsBranch (m_I Y h0) [.ref (Y 38), .int (iI s)] D 0 0 P (V, C, J)
def kPat (G : p_G) (Y : Nat → Nat) (h0 : p_H) (D : Nat) (bs : Int → Int) (sz s : Int) (w0 : Int → Int) (dep : Int) : Prop := ∀ (P : (Option Value) ⊕ String → m_X → Prop) (J : Int → Int) (V : Nat → Int) (C : Nat → Int → Int) (E : Int → Int → Prop) (n lp : Int) (st fo : Int → Int) (outer : List zLv), mPs bs sz s w0 V C E n lp st dep → (outer.length : Int) = dep → (V 20 ≤ 3 * V 31 ∧ V 21 ≤ 5 * V 31) → (∀ p, n < p → fo p = 0) → (∀ V' C', mErr bs sz (V 31) (((n, lp), st, fo), zL0, outer) V V' C C' → P (.inl (some (.int (iI 0)))) (V', C', J)) → (∀ V' C' E' n' lp' st' fo' cur', mPaT bs sz s w0 V C E n lp st fo dep outer V' C' E' n' lp' st' fo' cur' → P (.inl (some (.int (iI 1)))) (V', C', J)) → RM G mX11_readsPattern (m_I Y h0) [.ref (Y 38), .int (iI s)] D 0 0 P (V, C, J)
end M32g
section M32
variable {G : p_G} {Y : Nat → Nat} {h0 : p_H} {P : (Option Value) ⊕ String → m_X → Prop} {d : Nat} {V : Nat → Int} {C : Nat → Int → Int} {J : Int → Int}
variable {bs : Int → Int} {sz s : Int} {w0 : Int → Int} {dep : Int}
theorem m_gen {P : (Option Value) ⊕ String → m_X → Prop} {o : (Option Value) ⊕ String} {V : Nat → Int} {C : Nat → Int → Int} {J : Int → Int} (kk : ∀ V1, V1 = V → ∀ C1, C1 = C → ∀ J1, J1 = J → P o (V1, C1, J1)) : P o (V, C, J) := kk V rfl C rfl J rfl
theorem m_genR {M' : p_M} {As : List Value} {V : Nat → Int} {C : Nat → Int → Int} {J : Int → Int} (kk : ∀ V1, V1 = V → ∀ C1, C1 = C → ∀ J1, J1 = J → RM G M' (m_I Y h0) As d 0 0 P (V1, C1, J1)) : RM G M' (m_I Y h0) As d 0 0 P (V, C, J) := kk V rfl C rfl J rfl
theorem k_nodeR (h1 : 0 ≤ V 20 ∧ V 20 < 1400) (hp : P (.inl (some (.int (iI (V 20))))) (vu V 20 (V 20 + 1), cu (cu (cu C 13 (zu (C 13) (V 20) (-1))) 16 (zu (C 16) (V 20) 0)) 17 (zu (C 17) (V 20) 0), J)) : RM G mX11_node (m_I Y h0) [.ref (Y 38)] (d) 0 0 P (V, C, J) := by
  refine k_node h1 ?_
  rw [show V 20 + 1 - 1 = V 20 by omega]
  exact hp
theorem k_atom {D : Nat} (hrec : dep < 20 → kPat G Y h0 D bs sz s w0 (dep + 1)) : kAtm G Y h0 (D + 1) bs sz s w0 dep := by
  intro P J V C E n lp st fo cur outer h hlen hb hz hat hpF hpT
  refine RM.of (L := [some (.ref (Y 38)), some (.int (iI s))]) cfX11_readsAtom rfl (Nat.le_of_ble_eq_true rfl) ?_
  have a0 := h.1
  have a1 := h.hd
  have a2 := h.nn
  have h36 : V 36 = n := h.1.1.2.2.1
  refine i_aload_n dX11_readsAtom_0 rfl ?_
  refine t_callV (As := []) dX11_readsAtom_1 cfX11_ahead imX11_ahead seX11_ahead lX11_128 rfl rfl rfl (Nat.le_of_ble_eq_true rfl) ?_
  refine k_aheadP (a := V 31) rfl h.1.1.2.1 h.1.2.1 h.1.2.2.1 h.2.1.1 (RK.v ?_)
  refine i_bipush dX11_readsAtom_4 (by decide) ?_
  refine i_icmp_ne (tgt := 91) dX11_readsAtom_6 (by decide) (by omega) (by omega) (fun c6 => ?_) (fun c6 => ?_)
  · -- jumps
    refine i_aload_n dX11_readsAtom_91 rfl ?_
    refine t_getI dX11_readsAtom_92 fX11_169 (by decide) rfl ?_
    refine i_bipush dX11_readsAtom_95 (by decide) ?_
    refine i_icmp_ne (tgt := 106) dX11_readsAtom_97 (by decide) (by omega) (by omega) (fun c97 => ?_) (fun c97 => ?_)
    · -- jumps
      refine i_aload_n dX11_readsAtom_106 rfl ?_
      refine i_dup dX11_readsAtom_107 rfl ?_
      refine t_getI dX11_readsAtom_108 fX11_169 (by decide) rfl ?_
      refine i_const dX11_readsAtom_111 ?_
      refine i_add dX11_readsAtom_112 ?_
      refine t_put dX11_readsAtom_113 fX11_169 (by decide) rfl rfl ?_
      refine i_aload_n dX11_readsAtom_116 rfl ?_
      refine i_iload_n dX11_readsAtom_117 rfl ?_
      refine i_bipush dX11_readsAtom_118 (by decide) ?_
      refine i_aload_n dX11_readsAtom_120 rfl ?_
      refine t_getI (v := V 36 + 1) dX11_readsAtom_121 fX11_169 (by decide) rfl ?_
      refine i_add dX11_readsAtom_124 ?_
      refine i_aload_n dX11_readsAtom_125 rfl ?_
      refine t_callV (As := []) dX11_readsAtom_126 cfX11_ahead imX11_ahead seX11_ahead lX11_128 rfl rfl rfl (Nat.le_of_ble_eq_true rfl) ?_
      refine k_aheadP (a := V 31) rfl h.1.1.2.1 h.1.2.1 h.1.2.2.1 h.2.1.1 (RK.v ?_)
      refine i_bipush dX11_readsAtom_129 (by decide) ?_
      refine i_icmp_ne (tgt := 139) dX11_readsAtom_131 (by decide) (by omega) (by omega) (fun c131 => ?_) (fun c131 => ?_)
      · -- jumps
        refine i_aload_n dX11_readsAtom_139 rfl ?_
        refine t_callV (As := []) dX11_readsAtom_140 cfX11_ahead imX11_ahead seX11_ahead lX11_128 rfl rfl rfl (Nat.le_of_ble_eq_true rfl) ?_
        refine k_aheadP (a := V 31) rfl h.1.1.2.1 h.1.2.1 h.1.2.2.1 h.2.1.1 (RK.v ?_)
        refine i_bipush dX11_readsAtom_143 (by decide) ?_
        refine i_sub dX11_readsAtom_145 ?_
        refine t_callV (As := [_, _, _]) dX11_readsAtom_146 cfX11_to imX11_to seX11_to lX11_172 rfl rfl rfl (Nat.le_of_ble_eq_true rfl) ?_
        refine k_to (by omega) (RK.n0 ?_)
        refine i_aload_n dX11_readsAtom_149 rfl ?_
        refine i_aload_n dX11_readsAtom_150 rfl ?_
        refine t_callV (As := []) dX11_readsAtom_151 cfX11_node imX11_node seX11_node lX11_131 rfl rfl rfl (Nat.le_of_ble_eq_true rfl) ?_
        refine k_nodeR (by show 0 ≤ V 20 ∧ V 20 < 1400; omega) (RK.v ?_)
        refine t_put dX11_readsAtom_154 fX11_137 (by decide) rfl rfl ?_
        refine i_aload_n dX11_readsAtom_157 rfl ?_
        refine i_aload_n dX11_readsAtom_158 rfl ?_
        refine t_callV (As := []) dX11_readsAtom_159 cfX11_node imX11_node seX11_node lX11_131 rfl rfl rfl (Nat.le_of_ble_eq_true rfl) ?_
        refine k_nodeR (by show 0 ≤ V 20 + 1 ∧ V 20 + 1 < 1400; omega) (RK.v ?_)
        refine t_put dX11_readsAtom_162 fX11_144 (by decide) rfl rfl ?_
        refine i_aload_n dX11_readsAtom_165 rfl ?_
        refine t_getA dX11_readsAtom_166 fX11_42.o rfl ?_
        refine i_aload_n dX11_readsAtom_169 rfl ?_
        refine t_getI (v := V 20) dX11_readsAtom_170 fX11_137 (by decide) rfl ?_
        refine i_aload_n dX11_readsAtom_173 rfl ?_
        refine t_getI (v := V 36 + 1) dX11_readsAtom_174 fX11_169 (by decide) rfl ?_
        refine t_iast (N := 1400) dX11_readsAtom_177 (by decide) (by decide) rfl (by omega) ?_
        refine i_aload_n dX11_readsAtom_178 rfl ?_
        refine t_getA dX11_readsAtom_179 fX11_51.o rfl ?_
        refine i_aload_n dX11_readsAtom_182 rfl ?_
        refine t_getI (v := V 36 + 1) dX11_readsAtom_183 fX11_169 (by decide) rfl ?_
        refine i_aload_n dX11_readsAtom_186 rfl ?_
        refine t_getI (v := V 20 + 1) dX11_readsAtom_187 fX11_144 (by decide) rfl ?_
        refine t_iast (N := 25) dX11_readsAtom_190 (by decide) (by decide) rfl (by omega) ?_
        refine i_aload_n dX11_readsAtom_191 rfl ?_
        refine i_dup dX11_readsAtom_192 rfl ?_
        refine t_getI (v := V 31) dX11_readsAtom_193 fX11_125 (by decide) rfl ?_
        refine i_const dX11_readsAtom_196 ?_
        refine i_add dX11_readsAtom_197 ?_
        refine t_put dX11_readsAtom_198 fX11_125 (by decide) rfl rfl ?_
        refine i_const dX11_readsAtom_201 ?_
        refine i_ireturn dX11_readsAtom_202 rfl rfl ?_
        refine m_gen (fun V1 hV1 C1 hC1 J1 hJ1 => ?_)
        have v1_7 : V1 7 = V 7 := by rw [hV1]; rfl
        have v1_8 : V1 8 = V 8 := by rw [hV1]; rfl
        have v1_9 : V1 9 = V 9 := by rw [hV1]; rfl
        have v1_20 : V1 20 = V 20 + 1 + 1 := by rw [hV1]; rfl
        have v1_21 : V1 21 = V 21 := by rw [hV1]; rfl
        have v1_31 : V1 31 = V 31 + 1 := by rw [hV1]; rfl
        have v1_32 : V1 32 = V 32 := by rw [hV1]; rfl
        have v1_33 : V1 33 = V 20 := by rw [hV1]; rfl
        have v1_34 : V1 34 = V 20 + 1 := by rw [hV1]; rfl
        have v1_35 : V1 35 = V 35 := by rw [hV1]; rfl
        have v1_36 : V1 36 = V 36 + 1 := by rw [hV1]; rfl
        have sv1 : sV gwV V V1 := by rw [hV1]; repeat' (first | exact sV.rfl | refine sV.vu ?_ (by decide))
        have c1_0 : C1 0 = zu (C 0) (476 * s + (31 + (V 36 + 1))) (zHd bs sz (V 31) - 97) := by rw [hC1]; rfl
        have c1_6 : C1 6 = C 6 := by rw [hC1]; rfl
        have c1_13 : C1 13 = zu (zu (C 13) (V 20) (-1)) (V 20 + 1) (-1) := by rw [hC1]; rfl
        have c1_14 : C1 14 = C 14 := by rw [hC1]; rfl
        have c1_15 : C1 15 = C 15 := by rw [hC1]; rfl
        have c1_16 : C1 16 = zu (zu (zu (C 16) (V 20) 0) (V 20 + 1) 0) (V 20) (V 36 + 1) := by rw [hC1]; rfl
        have c1_17 : C1 17 = zu (zu (C 17) (V 20) 0) (V 20 + 1) 0 := by rw [hC1]; rfl
        have c1_19 : C1 19 = zu (C 19) (V 36 + 1) (V 20 + 1) := by rw [hC1]; rfl
        have sc1 : sC gwC C C1 := by rw [hC1]; repeat' (first | exact sC.rfl | refine sC.cu ?_ (by decide))
        clear hV1 hC1; subst hJ1
        have hcc : zHd bs sz (V 31) - 97 = if bs (V 31) = 46 then 6 else bs (V 31) - 97 := by first | (rw [if_pos (by omega)]; done) | (rw [if_neg (by omega)]; omega)
        rw [hcc] at c1_0
        have hP9 := h.atom (V1 := V1) (C1 := C1) (by omega) (by omega) (by omega) (by omega) (by omega) (by omega) (by omega) (by omega) (by omega) (by omega) (by omega) c1_6 c1_13 c1_14 c1_15 (by rw [c1_16, h36]) c1_17 (by rw [c1_19, h36]) (by rw [c1_0, h36]) (by rw [← hcc]; omega)
        exact hpT _ _ E (n + 1) lp _ _ _ (mAtT.pos h hP9 hb hz (by omega) (by omega) (by omega) (by omega) (by omega) (by omega) (by omega) (by omega) (by rw [c1_19, h36]) sv1 sc1)
      · -- on
        refine i_bipush dX11_readsAtom_134 (by decide) ?_
        refine i_goto (tgt := 146) dX11_readsAtom_136 (by decide) ?_
        refine t_callV (As := [_, _, _]) dX11_readsAtom_146 cfX11_to imX11_to seX11_to lX11_172 rfl rfl rfl (Nat.le_of_ble_eq_true rfl) ?_
        refine k_to (by omega) (RK.n0 ?_)
        refine i_aload_n dX11_readsAtom_149 rfl ?_
        refine i_aload_n dX11_readsAtom_150 rfl ?_
        refine t_callV (As := []) dX11_readsAtom_151 cfX11_node imX11_node seX11_node lX11_131 rfl rfl rfl (Nat.le_of_ble_eq_true rfl) ?_
        refine k_nodeR (by show 0 ≤ V 20 ∧ V 20 < 1400; omega) (RK.v ?_)
        refine t_put dX11_readsAtom_154 fX11_137 (by decide) rfl rfl ?_
        refine i_aload_n dX11_readsAtom_157 rfl ?_
        refine i_aload_n dX11_readsAtom_158 rfl ?_
        refine t_callV (As := []) dX11_readsAtom_159 cfX11_node imX11_node seX11_node lX11_131 rfl rfl rfl (Nat.le_of_ble_eq_true rfl) ?_
        refine k_nodeR (by show 0 ≤ V 20 + 1 ∧ V 20 + 1 < 1400; omega) (RK.v ?_)
        refine t_put dX11_readsAtom_162 fX11_144 (by decide) rfl rfl ?_
        refine i_aload_n dX11_readsAtom_165 rfl ?_
        refine t_getA dX11_readsAtom_166 fX11_42.o rfl ?_
        refine i_aload_n dX11_readsAtom_169 rfl ?_
        refine t_getI (v := V 20) dX11_readsAtom_170 fX11_137 (by decide) rfl ?_
        refine i_aload_n dX11_readsAtom_173 rfl ?_
        refine t_getI (v := V 36 + 1) dX11_readsAtom_174 fX11_169 (by decide) rfl ?_
        refine t_iast (N := 1400) dX11_readsAtom_177 (by decide) (by decide) rfl (by omega) ?_
        refine i_aload_n dX11_readsAtom_178 rfl ?_
        refine t_getA dX11_readsAtom_179 fX11_51.o rfl ?_
        refine i_aload_n dX11_readsAtom_182 rfl ?_
        refine t_getI (v := V 36 + 1) dX11_readsAtom_183 fX11_169 (by decide) rfl ?_
        refine i_aload_n dX11_readsAtom_186 rfl ?_
        refine t_getI (v := V 20 + 1) dX11_readsAtom_187 fX11_144 (by decide) rfl ?_
        refine t_iast (N := 25) dX11_readsAtom_190 (by decide) (by decide) rfl (by omega) ?_
        refine i_aload_n dX11_readsAtom_191 rfl ?_
        refine i_dup dX11_readsAtom_192 rfl ?_
        refine t_getI (v := V 31) dX11_readsAtom_193 fX11_125 (by decide) rfl ?_
        refine i_const dX11_readsAtom_196 ?_
        refine i_add dX11_readsAtom_197 ?_
        refine t_put dX11_readsAtom_198 fX11_125 (by decide) rfl rfl ?_
        refine i_const dX11_readsAtom_201 ?_
        refine i_ireturn dX11_readsAtom_202 rfl rfl ?_
        refine m_gen (fun V2 hV2 C2 hC2 J2 hJ2 => ?_)
        have v2_7 : V2 7 = V 7 := by rw [hV2]; rfl
        have v2_8 : V2 8 = V 8 := by rw [hV2]; rfl
        have v2_9 : V2 9 = V 9 := by rw [hV2]; rfl
        have v2_20 : V2 20 = V 20 + 1 + 1 := by rw [hV2]; rfl
        have v2_21 : V2 21 = V 21 := by rw [hV2]; rfl
        have v2_31 : V2 31 = V 31 + 1 := by rw [hV2]; rfl
        have v2_32 : V2 32 = V 32 := by rw [hV2]; rfl
        have v2_33 : V2 33 = V 20 := by rw [hV2]; rfl
        have v2_34 : V2 34 = V 20 + 1 := by rw [hV2]; rfl
        have v2_35 : V2 35 = V 35 := by rw [hV2]; rfl
        have v2_36 : V2 36 = V 36 + 1 := by rw [hV2]; rfl
        have sv2 : sV gwV V V2 := by rw [hV2]; repeat' (first | exact sV.rfl | refine sV.vu ?_ (by decide))
        have c2_0 : C2 0 = zu (C 0) (476 * s + (31 + (V 36 + 1))) 6 := by rw [hC2]; rfl
        have c2_6 : C2 6 = C 6 := by rw [hC2]; rfl
        have c2_13 : C2 13 = zu (zu (C 13) (V 20) (-1)) (V 20 + 1) (-1) := by rw [hC2]; rfl
        have c2_14 : C2 14 = C 14 := by rw [hC2]; rfl
        have c2_15 : C2 15 = C 15 := by rw [hC2]; rfl
        have c2_16 : C2 16 = zu (zu (zu (C 16) (V 20) 0) (V 20 + 1) 0) (V 20) (V 36 + 1) := by rw [hC2]; rfl
        have c2_17 : C2 17 = zu (zu (C 17) (V 20) 0) (V 20 + 1) 0 := by rw [hC2]; rfl
        have c2_19 : C2 19 = zu (C 19) (V 36 + 1) (V 20 + 1) := by rw [hC2]; rfl
        have sc2 : sC gwC C C2 := by rw [hC2]; repeat' (first | exact sC.rfl | refine sC.cu ?_ (by decide))
        clear hV2 hC2; subst hJ2
        have hcc : 6 = if bs (V 31) = 46 then 6 else bs (V 31) - 97 := by first | (rw [if_pos (by omega)]; done) | (rw [if_neg (by omega)]; omega)
        rw [hcc] at c2_0
        have hP9 := h.atom (V1 := V2) (C1 := C2) (by omega) (by omega) (by omega) (by omega) (by omega) (by omega) (by omega) (by omega) (by omega) (by omega) (by omega) c2_6 c2_13 c2_14 c2_15 (by rw [c2_16, h36]) c2_17 (by rw [c2_19, h36]) (by rw [c2_0, h36]) (by rw [← hcc]; omega)
        exact hpT _ _ E (n + 1) lp _ _ _ (mAtT.pos h hP9 hb hz (by omega) (by omega) (by omega) (by omega) (by omega) (by omega) (by omega) (by omega) (by rw [c2_19, h36]) sv2 sc2)
    · -- on
      refine i_aload_n dX11_readsAtom_100 rfl ?_
      refine i_const dX11_readsAtom_101 ?_
      refine t_callV (As := [_]) dX11_readsAtom_102 cfX11_fail imX11_fail seX11_fail lX11_163 rfl rfl rfl (Nat.le_of_ble_eq_true rfl) ?_
      refine k_failP h.1.1.1 (RK.v ?_)
      refine i_ireturn dX11_readsAtom_105 rfl rfl ?_
      refine hpF _ _ (mErr.at (zRn_l (by omega) (by omega) (zStep_p2 (by omega) (by show n = 24; omega))) (by decide) (by omega) sV.rfl sC.rfl)
  · -- on
    refine i_aload_n dX11_readsAtom_9 rfl ?_
    refine t_getI dX11_readsAtom_10 fX11_160 (by decide) rfl ?_
    refine i_bipush dX11_readsAtom_13 (by decide) ?_
    refine i_icmp_ne (tgt := 24) dX11_readsAtom_15 (by decide) (by omega) (by omega) (fun c15 => ?_) (fun c15 => ?_)
    · -- jumps
      refine i_aload_n dX11_readsAtom_24 rfl ?_
      refine i_dup dX11_readsAtom_25 rfl ?_
      refine t_getI dX11_readsAtom_26 fX11_160 (by decide) rfl ?_
      refine i_const dX11_readsAtom_29 ?_
      refine i_add dX11_readsAtom_30 ?_
      refine t_put dX11_readsAtom_31 fX11_160 (by decide) rfl rfl ?_
      refine i_aload_n dX11_readsAtom_34 rfl ?_
      refine i_dup dX11_readsAtom_35 rfl ?_
      refine t_getI (v := V 31) dX11_readsAtom_36 fX11_125 (by decide) rfl ?_
      refine i_const dX11_readsAtom_39 ?_
      refine i_add dX11_readsAtom_40 ?_
      refine t_put dX11_readsAtom_41 fX11_125 (by decide) rfl rfl ?_
      refine i_aload_n dX11_readsAtom_44 rfl ?_
      refine i_iload_n dX11_readsAtom_45 rfl ?_
      refine t_callV (As := [_]) dX11_readsAtom_46 cfX11_readsPattern imX11_readsPattern seX11_readsPattern lX11_166 rfl rfl rfl (Nat.le_of_ble_eq_true rfl) ?_
      refine m_genR (fun V3 hV3 C3 hC3 J3 hJ3 => ?_)
      have v3_7 : V3 7 = V 7 := by rw [hV3]; rfl
      have v3_8 : V3 8 = V 8 := by rw [hV3]; rfl
      have v3_9 : V3 9 = V 9 := by rw [hV3]; rfl
      have v3_20 : V3 20 = V 20 := by rw [hV3]; rfl
      have v3_21 : V3 21 = V 21 := by rw [hV3]; rfl
      have v3_31 : V3 31 = V 31 + 1 := by rw [hV3]; rfl
      have v3_32 : V3 32 = V 32 + 1 := by rw [hV3]; rfl
      have v3_33 : V3 33 = V 33 := by rw [hV3]; rfl
      have v3_34 : V3 34 = V 34 := by rw [hV3]; rfl
      have v3_35 : V3 35 = V 35 := by rw [hV3]; rfl
      have v3_36 : V3 36 = V 36 := by rw [hV3]; rfl
      have sv3 : sV gwV V V3 := by rw [hV3]; repeat' (first | exact sV.rfl | refine sV.vu ?_ (by decide))
      clear hV3; subst hC3; subst hJ3
      have hP3 := h.cg (V1 := V3) (lp1 := lp) (dep1 := (dep + 1)) (by omega) (by omega) (by omega) (by omega) (by omega) (by omega) (by omega) (by omega) (by omega) (by omega) (by omega)
      have hr : zRn bs sz (V 31) (((n, lp), st, fo), cur, outer) = zRn bs sz (V3 31) (((n, lp), st, (zEp fo cur).1), zL0, (cur.1, (zEp fo cur).2, none) :: outer) := by rw [show V3 31 = V 31 + 1 by omega]; exact zRn_i (by omega) (by omega) (zStep_g (by omega) (by show outer.length ≠ 20; omega))
      refine hrec (by omega) _ _ _ _ _ _ _ _ _ ((cur.1, (zEp fo cur).2, none) :: outer) hP3 (by rw [List.length_cons]; omega) (by omega) hz (fun V4 C4 hb4 => RK.v ?_) (fun V4 C4 E4 n4 lp4 st4 fo4 cur4 hb4 => RK.v ?_)
      · -- case
        refine i_if_ne (tgt := 54) dX11_readsAtom_49 (by decide) (by decide) (fun c49 => by omega) (fun c49 => ?_)
        refine i_const dX11_readsAtom_52 ?_
        refine i_ireturn dX11_readsAtom_53 rfl rfl ?_
        exact hpF _ _ (hb4.up hr sv3 sC.rfl)
      · -- case
        refine i_if_ne (tgt := 54) dX11_readsAtom_49 (by decide) (by decide) (fun c49 => ?_) (fun c49 => by omega)
        have a3 := hb4.1.1
        have a4 := hb4.1.hd
        have a5 := hb4.1.nn
        have a6 := hb4.2.1.1
        have a7 := hb4.2.2.2.2.2.2.2
        refine i_aload_n dX11_readsAtom_54 rfl ?_
        refine t_callV (As := []) dX11_readsAtom_55 cfX11_ahead imX11_ahead seX11_ahead lX11_128 rfl rfl rfl (Nat.le_of_ble_eq_true rfl) ?_
        refine k_aheadP (a := V4 31) rfl hb4.1.1.1.2.1 hb4.1.1.2.1 hb4.1.1.2.2.1 hb4.1.2.1.1 (RK.v ?_)
        refine i_bipush dX11_readsAtom_58 (by decide) ?_
        refine i_icmp_eq (tgt := 69) dX11_readsAtom_60 (by decide) (by omega) (by omega) (fun c60 => ?_) (fun c60 => ?_)
        · -- jumps
          refine i_aload_n dX11_readsAtom_69 rfl ?_
          refine i_dup dX11_readsAtom_70 rfl ?_
          refine t_getI dX11_readsAtom_71 fX11_160 (by decide) rfl ?_
          refine i_const dX11_readsAtom_74 ?_
          refine i_sub dX11_readsAtom_75 ?_
          refine t_put dX11_readsAtom_76 fX11_160 (by decide) rfl rfl ?_
          refine i_aload_n dX11_readsAtom_79 rfl ?_
          refine i_dup dX11_readsAtom_80 rfl ?_
          refine t_getI (v := V4 31) dX11_readsAtom_81 fX11_125 (by decide) rfl ?_
          refine i_const dX11_readsAtom_84 ?_
          refine i_add dX11_readsAtom_85 ?_
          refine t_put dX11_readsAtom_86 fX11_125 (by decide) rfl rfl ?_
          refine i_const dX11_readsAtom_89 ?_
          refine i_ireturn dX11_readsAtom_90 rfl rfl ?_
          refine m_gen (fun V5 hV5 C5 hC5 J5 hJ5 => ?_)
          have v5_7 : V5 7 = V4 7 := by rw [hV5]; rfl
          have v5_8 : V5 8 = V4 8 := by rw [hV5]; rfl
          have v5_9 : V5 9 = V4 9 := by rw [hV5]; rfl
          have v5_20 : V5 20 = V4 20 := by rw [hV5]; rfl
          have v5_21 : V5 21 = V4 21 := by rw [hV5]; rfl
          have v5_31 : V5 31 = V4 31 + 1 := by rw [hV5]; rfl
          have v5_32 : V5 32 = V4 32 - 1 := by rw [hV5]; rfl
          have v5_33 : V5 33 = V4 33 := by rw [hV5]; rfl
          have v5_34 : V5 34 = V4 34 := by rw [hV5]; rfl
          have v5_35 : V5 35 = V4 35 := by rw [hV5]; rfl
          have v5_36 : V5 36 = V4 36 := by rw [hV5]; rfl
          have sv5 : sV gwV V4 V5 := by rw [hV5]; repeat' (first | exact sV.rfl | refine sV.vu ?_ (by decide))
          clear hV5; subst hC5; subst hJ5
          have hP5 := hb4.1.cg (V1 := V5) (lp1 := lp4) (dep1 := dep) (by omega) (by omega) (by omega) (by omega) (by omega) (by omega) (by omega) (by omega) (by omega) (by omega) (by omega)
          obtain ⟨q1, q2, q3, q4, q5, q6, q7, q8, q9⟩ := hb4
          refine hpT _ _ E4 n4 lp4 st4 (zEb fo4 cur4).1 (zEb fo4 cur4).2 ⟨hP5, ⟨by omega, fun x y hx => q2.2.1 x y (by omega), fun x y hx e => by have := q2.2.2.1 x y (by omega) e; omega, q2.2.2.2.1, (sv3.tr q2.2.2.2.2.1 (fun _ z => z)).tr sv5 (fun _ z => z), q2.2.2.2.2.2⟩, by omega, ?_, ?_, q5, q6, by omega, by omega⟩
          · rw [hr, q3, show V5 31 = V4 31 + 1 by omega]
            exact zRn_i (by omega) (by omega) (zStep_c (x := (((n4, lp4), st4, fo4), cur4, (cur.1, (zEp fo cur).2, none) :: outer)) (o := (cur.1, (zEp fo cur).2, none)) (show bs (V4 31) = 41 by omega) rfl)
          · rw [show V5 33 = V4 33 by omega, show V5 34 = V4 34 by omega, show V5 20 = V4 20 by omega, show V 20 = V3 20 by omega]
            exact q4
        · -- on
          refine i_aload_n dX11_readsAtom_63 rfl ?_
          refine i_const dX11_readsAtom_64 ?_
          refine t_callV (As := [_]) dX11_readsAtom_65 cfX11_fail imX11_fail seX11_fail lX11_163 rfl rfl rfl (Nat.le_of_ble_eq_true rfl) ?_
          refine k_failP hb4.1.1.1.1 (RK.v ?_)
          refine i_ireturn dX11_readsAtom_68 rfl rfl ?_
          refine hpF _ _ (mErr.at ?_ (by decide) (by omega) (sv3.tr hb4.2.1.2.2.2.2.1 (fun _ z => z)) hb4.2.1.2.2.2.2.2)
          rw [hr, hb4.2.2.1]
          by_cases hz3 : V4 31 < sz
          · exact zRn_l (by omega) hz3 (zStep_x (hb4.2.2.2.2.2.2.1 hz3).1 (hb4.2.2.2.2.2.2.1 hz3).2.1 (fun q => by omega) (hb4.2.2.2.2.2.2.1 hz3).2.2)
          · exact zRn_z (by omega) rfl
    · -- on
      refine i_aload_n dX11_readsAtom_18 rfl ?_
      refine i_const dX11_readsAtom_19 ?_
      refine t_callV (As := [_]) dX11_readsAtom_20 cfX11_fail imX11_fail seX11_fail lX11_163 rfl rfl rfl (Nat.le_of_ble_eq_true rfl) ?_
      refine k_failP h.1.1.1 (RK.v ?_)
      refine i_ireturn dX11_readsAtom_23 rfl rfl ?_
      refine hpF _ _ (mErr.at (zRn_l (by omega) (by omega) (zStep_g3 (by omega) (by show outer.length = 20; omega))) (by decide) (by omega) sV.rfl sC.rfl)
theorem k_pie_l {V : Nat → Int} {C : Nat → Int → Int} {E : Int → Int → Prop} {n lp : Int} {st fo : Int → Int} {cur : zLv} {outer : List zLv}  (hpT : ∀ V' C' E' n' lp' st' fo' Q, mAtT bs sz s w0 V C E n lp st fo dep cur outer V' C' E' n' lp' st' fo' Q → (V' 31 < sz → ¬ zOpr (bs (V' 31))) → P (.inl (some (.int (iI 1)))) (V', C', J)) : ∀ (zz : Nat) (V' : Nat → Int) (C' : Nat → Int → Int) (E' : Int → Int → Prop) (n' : Int) (lp' : Int) (st' : Int → Int) (fo' : Int → Int) (Q : zPt), zz = (sz - V' 31).toNat → (mAtT bs sz s w0 V C E n lp st fo dep cur outer V' C' E' n' lp' st' fo' Q) → RW G mX11_readsPiece (m_I Y h0) P (d + 1) 0 0 10 [some (.ref (Y 38)), some (.int (iI s)), none, none, none] [] (V', C', J) := by
  intro zz
  induction zz using Nat.strongRecOn with
  | _ zz ih =>
    intro V' C' E' n' lp' st' fo' Q hzz hT
    have a3 := hT.1.1
    have a4 := hT.1.hd
    have a5 := hT.1.nn
    have a6 := hT.2.1.1
    have a7 := hT.2.2.2.2.2.2.2
    have a8 := hT.2.2.2.2.1.1.1
    refine i_aload_n dX11_readsPiece_10 rfl ?_
    refine t_callV (As := []) dX11_readsPiece_11 cfX11_ahead imX11_ahead seX11_ahead lX11_128 rfl rfl rfl (Nat.le_of_ble_eq_true rfl) ?_
    refine k_aheadP (a := V' 31) rfl hT.1.1.1.2.1 hT.1.1.2.1 hT.1.1.2.2.1 hT.1.2.1.1 (RK.v ?_)
    refine i_bipush dX11_readsPiece_14 (by decide) ?_
    refine i_icmp_eq (tgt := 37) dX11_readsPiece_16 (by decide) (by omega) (by omega) (fun c16 => ?_) (fun c16 => ?_)
    · -- jumps
      refine i_aload_n dX11_readsPiece_37 rfl ?_
      refine t_callV (As := []) dX11_readsPiece_38 cfX11_ahead imX11_ahead seX11_ahead lX11_128 rfl rfl rfl (Nat.le_of_ble_eq_true rfl) ?_
      refine k_aheadP (a := V' 31) rfl hT.1.1.1.2.1 hT.1.1.2.1 hT.1.1.2.2.1 hT.1.2.1.1 (RK.v ?_)
      refine i_istore_n dX11_readsPiece_41 (L' := [some _, some _, some _, none, none]) (by decide) rfl ?_
      refine i_aload_n dX11_readsPiece_42 rfl ?_
      refine t_callV (As := []) dX11_readsPiece_43 cfX11_node imX11_node seX11_node lX11_131 rfl rfl rfl (Nat.le_of_ble_eq_true rfl) ?_
      have n1 := hT.1.nn
      refine k_nodeP hT.1 (by omega) (fun V1 C1 hP1 hN1 hL1 hv1 hc1 => RK.v ?_)
      have e1_7 : V1 7 = V' 7 := hv1 7 (by decide)
      have e1_8 : V1 8 = V' 8 := hv1 8 (by decide)
      have e1_9 : V1 9 = V' 9 := hv1 9 (by decide)
      have e1_21 : V1 21 = V' 21 := hv1 21 (by decide)
      have e1_31 : V1 31 = V' 31 := hv1 31 (by decide)
      have e1_32 : V1 32 = V' 32 := hv1 32 (by decide)
      have e1_33 : V1 33 = V' 33 := hv1 33 (by decide)
      have e1_34 : V1 34 = V' 34 := hv1 34 (by decide)
      have e1_35 : V1 35 = V' 35 := hv1 35 (by decide)
      have e1_36 : V1 36 = V' 36 := hv1 36 (by decide)
      have G1 := hT.2.1.keep (by omega) (by omega) (hc1 19 (by decide)) (sV.rfl.t2 hv1 (S := []) (U := gwV) (by decide) (by decide)) (sC.rfl.t2 hc1 (S := []) (U := gwC) (by decide) (by decide))
      have q1 := (hc1 19 (by decide)).trans (Eq.refl (C' 19))
      refine i_istore_n dX11_readsPiece_46 (L' := [some _, some _, some _, some _, none]) (by decide) rfl ?_
      refine i_aload_n dX11_readsPiece_47 rfl ?_
      refine t_callV (As := []) dX11_readsPiece_48 cfX11_node imX11_node seX11_node lX11_131 rfl rfl rfl (Nat.le_of_ble_eq_true rfl) ?_
      have n2 := hP1.nn
      refine k_nodeP hP1 (by omega) (fun V2 C2 hP2 hN2 hL2 hv2 hc2 => RK.v ?_)
      have e2_7 : V2 7 = V1 7 := hv2 7 (by decide)
      have e2_8 : V2 8 = V1 8 := hv2 8 (by decide)
      have e2_9 : V2 9 = V1 9 := hv2 9 (by decide)
      have e2_21 : V2 21 = V1 21 := hv2 21 (by decide)
      have e2_31 : V2 31 = V1 31 := hv2 31 (by decide)
      have e2_32 : V2 32 = V1 32 := hv2 32 (by decide)
      have e2_33 : V2 33 = V1 33 := hv2 33 (by decide)
      have e2_34 : V2 34 = V1 34 := hv2 34 (by decide)
      have e2_35 : V2 35 = V1 35 := hv2 35 (by decide)
      have e2_36 : V2 36 = V1 36 := hv2 36 (by decide)
      have G2 := G1.keep (by omega) (by omega) (hc2 19 (by decide)) (sV.rfl.t2 hv2 (S := []) (U := gwV) (by decide) (by decide)) (sC.rfl.t2 hc2 (S := []) (U := gwC) (by decide) (by decide))
      have q2 := (hc2 19 (by decide)).trans q1
      refine RW.ti (show V1 20 = V' 20 + 1 by omega) ?_
      refine i_istore dX11_readsPiece_51 (L' := [some _, some _, some _, some _, some _]) (by decide) rfl ?_
      refine i_aload_n dX11_readsPiece_53 rfl ?_
      refine i_iload_n dX11_readsPiece_54 rfl ?_
      refine i_aload_n dX11_readsPiece_55 rfl ?_
      refine t_getI (v := V' 33) dX11_readsPiece_56 fX11_137 (by decide) (by omega) ?_
      refine t_callV (As := [_, _]) dX11_readsPiece_59 cfX11_edge imX11_edge seX11_edge lX11_140 rfl rfl rfl (Nat.le_of_ble_eq_true rfl) ?_
      have n3 := hP2.nn
      refine k_edgeP hP2 (by omega) (by omega) (by omega) (by omega) (fun V3 C3 hP3 hM3 hv3 hc3 => RK.n0 ?_)
      have e3_7 : V3 7 = V2 7 := hv3 7 (by decide)
      have e3_8 : V3 8 = V2 8 := hv3 8 (by decide)
      have e3_9 : V3 9 = V2 9 := hv3 9 (by decide)
      have e3_20 : V3 20 = V2 20 := hv3 20 (by decide)
      have e3_31 : V3 31 = V2 31 := hv3 31 (by decide)
      have e3_32 : V3 32 = V2 32 := hv3 32 (by decide)
      have e3_33 : V3 33 = V2 33 := hv3 33 (by decide)
      have e3_34 : V3 34 = V2 34 := hv3 34 (by decide)
      have e3_35 : V3 35 = V2 35 := hv3 35 (by decide)
      have e3_36 : V3 36 = V2 36 := hv3 36 (by decide)
      have G3 := G2.edge (a := (V' 20)) (b := (V' 33)) (by omega) (by omega) (hv3 20 (by decide)) (hv3 31 (by decide)) (hc3 19 (by decide)) (sV.rfl.t2 hv3 (S := []) (U := gwV) (by decide) (by decide)) (sC.rfl.t2 hc3 (S := []) (U := gwC) (by decide) (by decide))
      have q3 := (hc3 19 (by decide)).trans q2
      refine i_aload_n dX11_readsPiece_62 rfl ?_
      refine i_aload_n dX11_readsPiece_63 rfl ?_
      refine t_getI (v := V' 34) dX11_readsPiece_64 fX11_144 (by decide) (by omega) ?_
      refine i_iload dX11_readsPiece_67 rfl ?_
      refine t_callV (As := [_, _]) dX11_readsPiece_69 cfX11_edge imX11_edge seX11_edge lX11_140 rfl rfl rfl (Nat.le_of_ble_eq_true rfl) ?_
      have n4 := hP3.nn
      refine k_edgeP hP3 (by omega) (by omega) (by omega) (by omega) (fun V4 C4 hP4 hM4 hv4 hc4 => RK.n0 ?_)
      have e4_7 : V4 7 = V3 7 := hv4 7 (by decide)
      have e4_8 : V4 8 = V3 8 := hv4 8 (by decide)
      have e4_9 : V4 9 = V3 9 := hv4 9 (by decide)
      have e4_20 : V4 20 = V3 20 := hv4 20 (by decide)
      have e4_31 : V4 31 = V3 31 := hv4 31 (by decide)
      have e4_32 : V4 32 = V3 32 := hv4 32 (by decide)
      have e4_33 : V4 33 = V3 33 := hv4 33 (by decide)
      have e4_34 : V4 34 = V3 34 := hv4 34 (by decide)
      have e4_35 : V4 35 = V3 35 := hv4 35 (by decide)
      have e4_36 : V4 36 = V3 36 := hv4 36 (by decide)
      have G4 := G3.edge (a := (V' 34)) (b := (V' 20 + 1)) (by omega) (by omega) (hv4 20 (by decide)) (hv4 31 (by decide)) (hc4 19 (by decide)) (sV.rfl.t2 hv4 (S := []) (U := gwV) (by decide) (by decide)) (sC.rfl.t2 hc4 (S := []) (U := gwC) (by decide) (by decide))
      have q4 := (hc4 19 (by decide)).trans q3
      refine i_iload_n dX11_readsPiece_72 rfl ?_
      refine i_bipush dX11_readsPiece_73 (by decide) ?_
      refine i_icmp_eq (tgt := 85) dX11_readsPiece_75 (by decide) (by omega) (by omega) (fun c75 => ?_) (fun c75 => ?_)
      · -- jumps
        refine i_iload_n dX11_readsPiece_85 rfl ?_
        refine i_bipush dX11_readsPiece_86 (by decide) ?_
        refine i_icmp_eq (tgt := 113) dX11_readsPiece_88 (by decide) (by omega) (by omega) (fun c88 => ?_) (fun c88 => ?_)
        · -- jumps
          refine i_aload_n dX11_readsPiece_113 rfl ?_
          refine i_iload_n dX11_readsPiece_114 rfl ?_
          refine t_put dX11_readsPiece_115 fX11_137 (by decide) rfl rfl ?_
          refine i_aload_n dX11_readsPiece_118 rfl ?_
          refine i_iload dX11_readsPiece_119 rfl ?_
          refine t_put dX11_readsPiece_121 fX11_144 (by decide) rfl rfl ?_
          refine i_aload_n dX11_readsPiece_124 rfl ?_
          refine i_dup dX11_readsPiece_125 rfl ?_
          refine t_getI (v := V4 31) dX11_readsPiece_126 fX11_125 (by decide) rfl ?_
          refine i_const dX11_readsPiece_129 ?_
          refine i_add dX11_readsPiece_130 ?_
          refine t_put dX11_readsPiece_131 fX11_125 (by decide) rfl rfl ?_
          refine i_goto (tgt := 10) dX11_readsPiece_134 (by decide) ?_
          refine RW.wk (L' := [some _, some _, none, none, none]) (p_subL.at (by repeat (first | exact subL_nil | refine subL_s ?_ | refine subL_n ?_))) ?_
          refine RW.gen (fun V5 hV5 C5 hC5 J5 hJ5 => ?_)
          have v5_7 : V5 7 = V4 7 := by rw [hV5]; rfl
          have v5_8 : V5 8 = V4 8 := by rw [hV5]; rfl
          have v5_9 : V5 9 = V4 9 := by rw [hV5]; rfl
          have v5_20 : V5 20 = V4 20 := by rw [hV5]; rfl
          have v5_21 : V5 21 = V4 21 := by rw [hV5]; rfl
          have v5_31 : V5 31 = V4 31 + 1 := by rw [hV5]; rfl
          have v5_32 : V5 32 = V4 32 := by rw [hV5]; rfl
          have v5_33 : V5 33 = V' 20 := by rw [hV5]; rfl
          have v5_34 : V5 34 = V' 20 + 1 := by rw [hV5]; rfl
          have v5_35 : V5 35 = V4 35 := by rw [hV5]; rfl
          have v5_36 : V5 36 = V4 36 := by rw [hV5]; rfl
          have sv5 : sV gwV V4 V5 := by rw [hV5]; repeat' (first | exact sV.rfl | refine sV.vu ?_ (by decide))
          clear hV5; subst hC5; subst hJ5
          have hP5 := hP4.cg (V1 := V5) (lp1 := (lp')) (dep1 := dep) (by omega) (by omega) (by omega) (by omega) (by omega) (by omega) (by omega) (by omega) (by omega) (by omega) (by omega)
          have hsv : sV gwV V V5 := G4.2.2.2.2.1.tr sv5 (fun _ z => z)
          refine ih _ ?_ _ _ _ _ _ _ _ _ rfl (mAtT.op hT (by omega) (by show _ ∨ _ ∨ _; omega) hP5 (by rw [(show decide (bs (V' 31) ≠ 43) = false from decide_eq_false (by omega)), (show decide (bs (V' 31) ≠ 63) = false from decide_eq_false (by omega))]; rfl) (by first | (rw [if_pos (by omega)]; done) | (rw [if_neg (by omega)]; done)) (by omega) (by omega) (by omega) (by omega) (by omega) q4 hsv G4.2.2.2.2.2)
          omega
        · -- on
          refine i_aload_n dX11_readsPiece_91 rfl ?_
          refine i_aload_n dX11_readsPiece_92 rfl ?_
          refine t_getI (v := V' 34) dX11_readsPiece_93 fX11_144 (by decide) (by omega) ?_
          refine i_aload_n dX11_readsPiece_96 rfl ?_
          refine t_getI (v := V' 33) dX11_readsPiece_97 fX11_137 (by decide) (by omega) ?_
          refine t_callV (As := [_, _]) dX11_readsPiece_100 cfX11_edge imX11_edge seX11_edge lX11_140 rfl rfl rfl (Nat.le_of_ble_eq_true rfl) ?_
          have n6 := hP4.nn
          refine k_edgeP hP4 (by omega) (by omega) (by omega) (by omega) (fun V6 C6 hP6 hM6 hv6 hc6 => RK.n0 ?_)
          have e6_7 : V6 7 = V4 7 := hv6 7 (by decide)
          have e6_8 : V6 8 = V4 8 := hv6 8 (by decide)
          have e6_9 : V6 9 = V4 9 := hv6 9 (by decide)
          have e6_20 : V6 20 = V4 20 := hv6 20 (by decide)
          have e6_31 : V6 31 = V4 31 := hv6 31 (by decide)
          have e6_32 : V6 32 = V4 32 := hv6 32 (by decide)
          have e6_33 : V6 33 = V4 33 := hv6 33 (by decide)
          have e6_34 : V6 34 = V4 34 := hv6 34 (by decide)
          have e6_35 : V6 35 = V4 35 := hv6 35 (by decide)
          have e6_36 : V6 36 = V4 36 := hv6 36 (by decide)
          have G6 := G4.edge (a := (V' 34)) (b := (V' 33)) (by omega) (by omega) (hv6 20 (by decide)) (hv6 31 (by decide)) (hc6 19 (by decide)) (sV.rfl.t2 hv6 (S := []) (U := gwV) (by decide) (by decide)) (sC.rfl.t2 hc6 (S := []) (U := gwC) (by decide) (by decide))
          have q6 := (hc6 19 (by decide)).trans q4
          refine i_aload_n dX11_readsPiece_103 rfl ?_
          refine i_dup dX11_readsPiece_104 rfl ?_
          refine t_getI dX11_readsPiece_105 fX11_157 (by decide) rfl ?_
          refine i_const dX11_readsPiece_108 ?_
          refine i_add dX11_readsPiece_109 ?_
          refine t_put dX11_readsPiece_110 fX11_157 (by decide) rfl rfl ?_
          refine i_aload_n dX11_readsPiece_113 rfl ?_
          refine i_iload_n dX11_readsPiece_114 rfl ?_
          refine t_put dX11_readsPiece_115 fX11_137 (by decide) rfl rfl ?_
          refine i_aload_n dX11_readsPiece_118 rfl ?_
          refine i_iload dX11_readsPiece_119 rfl ?_
          refine t_put dX11_readsPiece_121 fX11_144 (by decide) rfl rfl ?_
          refine i_aload_n dX11_readsPiece_124 rfl ?_
          refine i_dup dX11_readsPiece_125 rfl ?_
          refine t_getI (v := V6 31) dX11_readsPiece_126 fX11_125 (by decide) rfl ?_
          refine i_const dX11_readsPiece_129 ?_
          refine i_add dX11_readsPiece_130 ?_
          refine t_put dX11_readsPiece_131 fX11_125 (by decide) rfl rfl ?_
          refine i_goto (tgt := 10) dX11_readsPiece_134 (by decide) ?_
          refine RW.wk (L' := [some _, some _, none, none, none]) (p_subL.at (by repeat (first | exact subL_nil | refine subL_s ?_ | refine subL_n ?_))) ?_
          refine RW.gen (fun V7 hV7 C7 hC7 J7 hJ7 => ?_)
          have v7_7 : V7 7 = V6 7 := by rw [hV7]; rfl
          have v7_8 : V7 8 = V6 8 := by rw [hV7]; rfl
          have v7_9 : V7 9 = V6 9 := by rw [hV7]; rfl
          have v7_20 : V7 20 = V6 20 := by rw [hV7]; rfl
          have v7_21 : V7 21 = V6 21 := by rw [hV7]; rfl
          have v7_31 : V7 31 = V6 31 + 1 := by rw [hV7]; rfl
          have v7_32 : V7 32 = V6 32 := by rw [hV7]; rfl
          have v7_33 : V7 33 = V' 20 := by rw [hV7]; rfl
          have v7_34 : V7 34 = V' 20 + 1 := by rw [hV7]; rfl
          have v7_35 : V7 35 = V6 35 + 1 := by rw [hV7]; rfl
          have v7_36 : V7 36 = V6 36 := by rw [hV7]; rfl
          have sv7 : sV gwV V6 V7 := by rw [hV7]; repeat' (first | exact sV.rfl | refine sV.vu ?_ (by decide))
          clear hV7; subst hC7; subst hJ7
          have hP7 := hP6.cg (V1 := V7) (lp1 := (lp' + 1)) (dep1 := dep) (by omega) (by omega) (by omega) (by omega) (by omega) (by omega) (by omega) (by omega) (by omega) (by omega) (by omega)
          have hsv : sV gwV V V7 := G6.2.2.2.2.1.tr sv7 (fun _ z => z)
          refine ih _ ?_ _ _ _ _ _ _ _ _ rfl (mAtT.op hT (by omega) (by show _ ∨ _ ∨ _; omega) hP7 (by rw [(show decide (bs (V' 31) ≠ 43) = false from decide_eq_false (by omega)), (show decide (bs (V' 31) ≠ 63) = true from decide_eq_true (by omega))]; rfl) (by first | (rw [if_pos (by omega)]; done) | (rw [if_neg (by omega)]; done)) (by omega) (by omega) (by omega) (by omega) (by omega) q6 hsv G6.2.2.2.2.2)
          omega
      · -- on
        refine i_aload_n dX11_readsPiece_78 rfl ?_
        refine i_iload_n dX11_readsPiece_79 rfl ?_
        refine i_iload dX11_readsPiece_80 rfl ?_
        refine t_callV (As := [_, _]) dX11_readsPiece_82 cfX11_edge imX11_edge seX11_edge lX11_140 rfl rfl rfl (Nat.le_of_ble_eq_true rfl) ?_
        have n8 := hP4.nn
        refine k_edgeP hP4 (by omega) (by omega) (by omega) (by omega) (fun V8 C8 hP8 hM8 hv8 hc8 => RK.n0 ?_)
        have e8_7 : V8 7 = V4 7 := hv8 7 (by decide)
        have e8_8 : V8 8 = V4 8 := hv8 8 (by decide)
        have e8_9 : V8 9 = V4 9 := hv8 9 (by decide)
        have e8_20 : V8 20 = V4 20 := hv8 20 (by decide)
        have e8_31 : V8 31 = V4 31 := hv8 31 (by decide)
        have e8_32 : V8 32 = V4 32 := hv8 32 (by decide)
        have e8_33 : V8 33 = V4 33 := hv8 33 (by decide)
        have e8_34 : V8 34 = V4 34 := hv8 34 (by decide)
        have e8_35 : V8 35 = V4 35 := hv8 35 (by decide)
        have e8_36 : V8 36 = V4 36 := hv8 36 (by decide)
        have G8 := G4.edge (a := (V' 20)) (b := (V' 20 + 1)) (by omega) (by omega) (hv8 20 (by decide)) (hv8 31 (by decide)) (hc8 19 (by decide)) (sV.rfl.t2 hv8 (S := []) (U := gwV) (by decide) (by decide)) (sC.rfl.t2 hc8 (S := []) (U := gwC) (by decide) (by decide))
        have q8 := (hc8 19 (by decide)).trans q4
        refine i_iload_n dX11_readsPiece_85 rfl ?_
        refine i_bipush dX11_readsPiece_86 (by decide) ?_
        refine i_icmp_eq (tgt := 113) dX11_readsPiece_88 (by decide) (by omega) (by omega) (fun c88 => ?_) (fun c88 => ?_)
        · -- jumps
          refine i_aload_n dX11_readsPiece_113 rfl ?_
          refine i_iload_n dX11_readsPiece_114 rfl ?_
          refine t_put dX11_readsPiece_115 fX11_137 (by decide) rfl rfl ?_
          refine i_aload_n dX11_readsPiece_118 rfl ?_
          refine i_iload dX11_readsPiece_119 rfl ?_
          refine t_put dX11_readsPiece_121 fX11_144 (by decide) rfl rfl ?_
          refine i_aload_n dX11_readsPiece_124 rfl ?_
          refine i_dup dX11_readsPiece_125 rfl ?_
          refine t_getI (v := V8 31) dX11_readsPiece_126 fX11_125 (by decide) rfl ?_
          refine i_const dX11_readsPiece_129 ?_
          refine i_add dX11_readsPiece_130 ?_
          refine t_put dX11_readsPiece_131 fX11_125 (by decide) rfl rfl ?_
          refine i_goto (tgt := 10) dX11_readsPiece_134 (by decide) ?_
          refine RW.wk (L' := [some _, some _, none, none, none]) (p_subL.at (by repeat (first | exact subL_nil | refine subL_s ?_ | refine subL_n ?_))) ?_
          refine RW.gen (fun V9 hV9 C9 hC9 J9 hJ9 => ?_)
          have v9_7 : V9 7 = V8 7 := by rw [hV9]; rfl
          have v9_8 : V9 8 = V8 8 := by rw [hV9]; rfl
          have v9_9 : V9 9 = V8 9 := by rw [hV9]; rfl
          have v9_20 : V9 20 = V8 20 := by rw [hV9]; rfl
          have v9_21 : V9 21 = V8 21 := by rw [hV9]; rfl
          have v9_31 : V9 31 = V8 31 + 1 := by rw [hV9]; rfl
          have v9_32 : V9 32 = V8 32 := by rw [hV9]; rfl
          have v9_33 : V9 33 = V' 20 := by rw [hV9]; rfl
          have v9_34 : V9 34 = V' 20 + 1 := by rw [hV9]; rfl
          have v9_35 : V9 35 = V8 35 := by rw [hV9]; rfl
          have v9_36 : V9 36 = V8 36 := by rw [hV9]; rfl
          have sv9 : sV gwV V8 V9 := by rw [hV9]; repeat' (first | exact sV.rfl | refine sV.vu ?_ (by decide))
          clear hV9; subst hC9; subst hJ9
          have hP9 := hP8.cg (V1 := V9) (lp1 := (lp')) (dep1 := dep) (by omega) (by omega) (by omega) (by omega) (by omega) (by omega) (by omega) (by omega) (by omega) (by omega) (by omega)
          have hsv : sV gwV V V9 := G8.2.2.2.2.1.tr sv9 (fun _ z => z)
          refine ih _ ?_ _ _ _ _ _ _ _ _ rfl (mAtT.op hT (by omega) (by show _ ∨ _ ∨ _; omega) hP9 (by rw [(show decide (bs (V' 31) ≠ 43) = true from decide_eq_true (by omega)), (show decide (bs (V' 31) ≠ 63) = false from decide_eq_false (by omega))]; rfl) (by first | (rw [if_pos (by omega)]; done) | (rw [if_neg (by omega)]; done)) (by omega) (by omega) (by omega) (by omega) (by omega) q8 hsv G8.2.2.2.2.2)
          omega
        · -- on
          refine i_aload_n dX11_readsPiece_91 rfl ?_
          refine i_aload_n dX11_readsPiece_92 rfl ?_
          refine t_getI (v := V' 34) dX11_readsPiece_93 fX11_144 (by decide) (by omega) ?_
          refine i_aload_n dX11_readsPiece_96 rfl ?_
          refine t_getI (v := V' 33) dX11_readsPiece_97 fX11_137 (by decide) (by omega) ?_
          refine t_callV (As := [_, _]) dX11_readsPiece_100 cfX11_edge imX11_edge seX11_edge lX11_140 rfl rfl rfl (Nat.le_of_ble_eq_true rfl) ?_
          have n10 := hP8.nn
          refine k_edgeP hP8 (by omega) (by omega) (by omega) (by omega) (fun V10 C10 hP10 hM10 hv10 hc10 => RK.n0 ?_)
          have e10_7 : V10 7 = V8 7 := hv10 7 (by decide)
          have e10_8 : V10 8 = V8 8 := hv10 8 (by decide)
          have e10_9 : V10 9 = V8 9 := hv10 9 (by decide)
          have e10_20 : V10 20 = V8 20 := hv10 20 (by decide)
          have e10_31 : V10 31 = V8 31 := hv10 31 (by decide)
          have e10_32 : V10 32 = V8 32 := hv10 32 (by decide)
          have e10_33 : V10 33 = V8 33 := hv10 33 (by decide)
          have e10_34 : V10 34 = V8 34 := hv10 34 (by decide)
          have e10_35 : V10 35 = V8 35 := hv10 35 (by decide)
          have e10_36 : V10 36 = V8 36 := hv10 36 (by decide)
          have G10 := G8.edge (a := (V' 34)) (b := (V' 33)) (by omega) (by omega) (hv10 20 (by decide)) (hv10 31 (by decide)) (hc10 19 (by decide)) (sV.rfl.t2 hv10 (S := []) (U := gwV) (by decide) (by decide)) (sC.rfl.t2 hc10 (S := []) (U := gwC) (by decide) (by decide))
          have q10 := (hc10 19 (by decide)).trans q8
          refine i_aload_n dX11_readsPiece_103 rfl ?_
          refine i_dup dX11_readsPiece_104 rfl ?_
          refine t_getI dX11_readsPiece_105 fX11_157 (by decide) rfl ?_
          refine i_const dX11_readsPiece_108 ?_
          refine i_add dX11_readsPiece_109 ?_
          refine t_put dX11_readsPiece_110 fX11_157 (by decide) rfl rfl ?_
          refine i_aload_n dX11_readsPiece_113 rfl ?_
          refine i_iload_n dX11_readsPiece_114 rfl ?_
          refine t_put dX11_readsPiece_115 fX11_137 (by decide) rfl rfl ?_
          refine i_aload_n dX11_readsPiece_118 rfl ?_
          refine i_iload dX11_readsPiece_119 rfl ?_
          refine t_put dX11_readsPiece_121 fX11_144 (by decide) rfl rfl ?_
          refine i_aload_n dX11_readsPiece_124 rfl ?_
          refine i_dup dX11_readsPiece_125 rfl ?_
          refine t_getI (v := V10 31) dX11_readsPiece_126 fX11_125 (by decide) rfl ?_
          refine i_const dX11_readsPiece_129 ?_
          refine i_add dX11_readsPiece_130 ?_
          refine t_put dX11_readsPiece_131 fX11_125 (by decide) rfl rfl ?_
          refine i_goto (tgt := 10) dX11_readsPiece_134 (by decide) ?_
          refine RW.wk (L' := [some _, some _, none, none, none]) (p_subL.at (by repeat (first | exact subL_nil | refine subL_s ?_ | refine subL_n ?_))) ?_
          refine RW.gen (fun V11 hV11 C11 hC11 J11 hJ11 => ?_)
          have v11_7 : V11 7 = V10 7 := by rw [hV11]; rfl
          have v11_8 : V11 8 = V10 8 := by rw [hV11]; rfl
          have v11_9 : V11 9 = V10 9 := by rw [hV11]; rfl
          have v11_20 : V11 20 = V10 20 := by rw [hV11]; rfl
          have v11_21 : V11 21 = V10 21 := by rw [hV11]; rfl
          have v11_31 : V11 31 = V10 31 + 1 := by rw [hV11]; rfl
          have v11_32 : V11 32 = V10 32 := by rw [hV11]; rfl
          have v11_33 : V11 33 = V' 20 := by rw [hV11]; rfl
          have v11_34 : V11 34 = V' 20 + 1 := by rw [hV11]; rfl
          have v11_35 : V11 35 = V10 35 + 1 := by rw [hV11]; rfl
          have v11_36 : V11 36 = V10 36 := by rw [hV11]; rfl
          have sv11 : sV gwV V10 V11 := by rw [hV11]; repeat' (first | exact sV.rfl | refine sV.vu ?_ (by decide))
          clear hV11; subst hC11; subst hJ11
          have hP11 := hP10.cg (V1 := V11) (lp1 := (lp' + 1)) (dep1 := dep) (by omega) (by omega) (by omega) (by omega) (by omega) (by omega) (by omega) (by omega) (by omega) (by omega) (by omega)
          have hsv : sV gwV V V11 := G10.2.2.2.2.1.tr sv11 (fun _ z => z)
          refine ih _ ?_ _ _ _ _ _ _ _ _ rfl (mAtT.op hT (by omega) (by show _ ∨ _ ∨ _; omega) hP11 (by rw [(show decide (bs (V' 31) ≠ 43) = true from decide_eq_true (by omega)), (show decide (bs (V' 31) ≠ 63) = true from decide_eq_true (by omega))]; rfl) (by first | (rw [if_pos (by omega)]; done) | (rw [if_neg (by omega)]; done)) (by omega) (by omega) (by omega) (by omega) (by omega) q10 hsv G10.2.2.2.2.2)
          omega
    · -- on
      refine i_aload_n dX11_readsPiece_19 rfl ?_
      refine t_callV (As := []) dX11_readsPiece_20 cfX11_ahead imX11_ahead seX11_ahead lX11_128 rfl rfl rfl (Nat.le_of_ble_eq_true rfl) ?_
      refine k_aheadP (a := V' 31) rfl hT.1.1.1.2.1 hT.1.1.2.1 hT.1.1.2.2.1 hT.1.2.1.1 (RK.v ?_)
      refine i_bipush dX11_readsPiece_23 (by decide) ?_
      refine i_icmp_eq (tgt := 37) dX11_readsPiece_25 (by decide) (by omega) (by omega) (fun c25 => ?_) (fun c25 => ?_)
      · -- jumps
        refine i_aload_n dX11_readsPiece_37 rfl ?_
        refine t_callV (As := []) dX11_readsPiece_38 cfX11_ahead imX11_ahead seX11_ahead lX11_128 rfl rfl rfl (Nat.le_of_ble_eq_true rfl) ?_
        refine k_aheadP (a := V' 31) rfl hT.1.1.1.2.1 hT.1.1.2.1 hT.1.1.2.2.1 hT.1.2.1.1 (RK.v ?_)
        refine i_istore_n dX11_readsPiece_41 (L' := [some _, some _, some _, none, none]) (by decide) rfl ?_
        refine i_aload_n dX11_readsPiece_42 rfl ?_
        refine t_callV (As := []) dX11_readsPiece_43 cfX11_node imX11_node seX11_node lX11_131 rfl rfl rfl (Nat.le_of_ble_eq_true rfl) ?_
        have n12 := hT.1.nn
        refine k_nodeP hT.1 (by omega) (fun V12 C12 hP12 hN12 hL12 hv12 hc12 => RK.v ?_)
        have e12_7 : V12 7 = V' 7 := hv12 7 (by decide)
        have e12_8 : V12 8 = V' 8 := hv12 8 (by decide)
        have e12_9 : V12 9 = V' 9 := hv12 9 (by decide)
        have e12_21 : V12 21 = V' 21 := hv12 21 (by decide)
        have e12_31 : V12 31 = V' 31 := hv12 31 (by decide)
        have e12_32 : V12 32 = V' 32 := hv12 32 (by decide)
        have e12_33 : V12 33 = V' 33 := hv12 33 (by decide)
        have e12_34 : V12 34 = V' 34 := hv12 34 (by decide)
        have e12_35 : V12 35 = V' 35 := hv12 35 (by decide)
        have e12_36 : V12 36 = V' 36 := hv12 36 (by decide)
        have G12 := hT.2.1.keep (by omega) (by omega) (hc12 19 (by decide)) (sV.rfl.t2 hv12 (S := []) (U := gwV) (by decide) (by decide)) (sC.rfl.t2 hc12 (S := []) (U := gwC) (by decide) (by decide))
        have q12 := (hc12 19 (by decide)).trans (Eq.refl (C' 19))
        refine i_istore_n dX11_readsPiece_46 (L' := [some _, some _, some _, some _, none]) (by decide) rfl ?_
        refine i_aload_n dX11_readsPiece_47 rfl ?_
        refine t_callV (As := []) dX11_readsPiece_48 cfX11_node imX11_node seX11_node lX11_131 rfl rfl rfl (Nat.le_of_ble_eq_true rfl) ?_
        have n13 := hP12.nn
        refine k_nodeP hP12 (by omega) (fun V13 C13 hP13 hN13 hL13 hv13 hc13 => RK.v ?_)
        have e13_7 : V13 7 = V12 7 := hv13 7 (by decide)
        have e13_8 : V13 8 = V12 8 := hv13 8 (by decide)
        have e13_9 : V13 9 = V12 9 := hv13 9 (by decide)
        have e13_21 : V13 21 = V12 21 := hv13 21 (by decide)
        have e13_31 : V13 31 = V12 31 := hv13 31 (by decide)
        have e13_32 : V13 32 = V12 32 := hv13 32 (by decide)
        have e13_33 : V13 33 = V12 33 := hv13 33 (by decide)
        have e13_34 : V13 34 = V12 34 := hv13 34 (by decide)
        have e13_35 : V13 35 = V12 35 := hv13 35 (by decide)
        have e13_36 : V13 36 = V12 36 := hv13 36 (by decide)
        have G13 := G12.keep (by omega) (by omega) (hc13 19 (by decide)) (sV.rfl.t2 hv13 (S := []) (U := gwV) (by decide) (by decide)) (sC.rfl.t2 hc13 (S := []) (U := gwC) (by decide) (by decide))
        have q13 := (hc13 19 (by decide)).trans q12
        refine RW.ti (show V12 20 = V' 20 + 1 by omega) ?_
        refine i_istore dX11_readsPiece_51 (L' := [some _, some _, some _, some _, some _]) (by decide) rfl ?_
        refine i_aload_n dX11_readsPiece_53 rfl ?_
        refine i_iload_n dX11_readsPiece_54 rfl ?_
        refine i_aload_n dX11_readsPiece_55 rfl ?_
        refine t_getI (v := V' 33) dX11_readsPiece_56 fX11_137 (by decide) (by omega) ?_
        refine t_callV (As := [_, _]) dX11_readsPiece_59 cfX11_edge imX11_edge seX11_edge lX11_140 rfl rfl rfl (Nat.le_of_ble_eq_true rfl) ?_
        have n14 := hP13.nn
        refine k_edgeP hP13 (by omega) (by omega) (by omega) (by omega) (fun V14 C14 hP14 hM14 hv14 hc14 => RK.n0 ?_)
        have e14_7 : V14 7 = V13 7 := hv14 7 (by decide)
        have e14_8 : V14 8 = V13 8 := hv14 8 (by decide)
        have e14_9 : V14 9 = V13 9 := hv14 9 (by decide)
        have e14_20 : V14 20 = V13 20 := hv14 20 (by decide)
        have e14_31 : V14 31 = V13 31 := hv14 31 (by decide)
        have e14_32 : V14 32 = V13 32 := hv14 32 (by decide)
        have e14_33 : V14 33 = V13 33 := hv14 33 (by decide)
        have e14_34 : V14 34 = V13 34 := hv14 34 (by decide)
        have e14_35 : V14 35 = V13 35 := hv14 35 (by decide)
        have e14_36 : V14 36 = V13 36 := hv14 36 (by decide)
        have G14 := G13.edge (a := (V' 20)) (b := (V' 33)) (by omega) (by omega) (hv14 20 (by decide)) (hv14 31 (by decide)) (hc14 19 (by decide)) (sV.rfl.t2 hv14 (S := []) (U := gwV) (by decide) (by decide)) (sC.rfl.t2 hc14 (S := []) (U := gwC) (by decide) (by decide))
        have q14 := (hc14 19 (by decide)).trans q13
        refine i_aload_n dX11_readsPiece_62 rfl ?_
        refine i_aload_n dX11_readsPiece_63 rfl ?_
        refine t_getI (v := V' 34) dX11_readsPiece_64 fX11_144 (by decide) (by omega) ?_
        refine i_iload dX11_readsPiece_67 rfl ?_
        refine t_callV (As := [_, _]) dX11_readsPiece_69 cfX11_edge imX11_edge seX11_edge lX11_140 rfl rfl rfl (Nat.le_of_ble_eq_true rfl) ?_
        have n15 := hP14.nn
        refine k_edgeP hP14 (by omega) (by omega) (by omega) (by omega) (fun V15 C15 hP15 hM15 hv15 hc15 => RK.n0 ?_)
        have e15_7 : V15 7 = V14 7 := hv15 7 (by decide)
        have e15_8 : V15 8 = V14 8 := hv15 8 (by decide)
        have e15_9 : V15 9 = V14 9 := hv15 9 (by decide)
        have e15_20 : V15 20 = V14 20 := hv15 20 (by decide)
        have e15_31 : V15 31 = V14 31 := hv15 31 (by decide)
        have e15_32 : V15 32 = V14 32 := hv15 32 (by decide)
        have e15_33 : V15 33 = V14 33 := hv15 33 (by decide)
        have e15_34 : V15 34 = V14 34 := hv15 34 (by decide)
        have e15_35 : V15 35 = V14 35 := hv15 35 (by decide)
        have e15_36 : V15 36 = V14 36 := hv15 36 (by decide)
        have G15 := G14.edge (a := (V' 34)) (b := (V' 20 + 1)) (by omega) (by omega) (hv15 20 (by decide)) (hv15 31 (by decide)) (hc15 19 (by decide)) (sV.rfl.t2 hv15 (S := []) (U := gwV) (by decide) (by decide)) (sC.rfl.t2 hc15 (S := []) (U := gwC) (by decide) (by decide))
        have q15 := (hc15 19 (by decide)).trans q14
        refine i_iload_n dX11_readsPiece_72 rfl ?_
        refine i_bipush dX11_readsPiece_73 (by decide) ?_
        refine i_icmp_eq (tgt := 85) dX11_readsPiece_75 (by decide) (by omega) (by omega) (fun c75 => ?_) (fun c75 => ?_)
        · -- jumps
          refine i_iload_n dX11_readsPiece_85 rfl ?_
          refine i_bipush dX11_readsPiece_86 (by decide) ?_
          refine i_icmp_eq (tgt := 113) dX11_readsPiece_88 (by decide) (by omega) (by omega) (fun c88 => ?_) (fun c88 => ?_)
          · -- jumps
            refine i_aload_n dX11_readsPiece_113 rfl ?_
            refine i_iload_n dX11_readsPiece_114 rfl ?_
            refine t_put dX11_readsPiece_115 fX11_137 (by decide) rfl rfl ?_
            refine i_aload_n dX11_readsPiece_118 rfl ?_
            refine i_iload dX11_readsPiece_119 rfl ?_
            refine t_put dX11_readsPiece_121 fX11_144 (by decide) rfl rfl ?_
            refine i_aload_n dX11_readsPiece_124 rfl ?_
            refine i_dup dX11_readsPiece_125 rfl ?_
            refine t_getI (v := V15 31) dX11_readsPiece_126 fX11_125 (by decide) rfl ?_
            refine i_const dX11_readsPiece_129 ?_
            refine i_add dX11_readsPiece_130 ?_
            refine t_put dX11_readsPiece_131 fX11_125 (by decide) rfl rfl ?_
            refine i_goto (tgt := 10) dX11_readsPiece_134 (by decide) ?_
            refine RW.wk (L' := [some _, some _, none, none, none]) (p_subL.at (by repeat (first | exact subL_nil | refine subL_s ?_ | refine subL_n ?_))) ?_
            refine RW.gen (fun V16 hV16 C16 hC16 J16 hJ16 => ?_)
            have v16_7 : V16 7 = V15 7 := by rw [hV16]; rfl
            have v16_8 : V16 8 = V15 8 := by rw [hV16]; rfl
            have v16_9 : V16 9 = V15 9 := by rw [hV16]; rfl
            have v16_20 : V16 20 = V15 20 := by rw [hV16]; rfl
            have v16_21 : V16 21 = V15 21 := by rw [hV16]; rfl
            have v16_31 : V16 31 = V15 31 + 1 := by rw [hV16]; rfl
            have v16_32 : V16 32 = V15 32 := by rw [hV16]; rfl
            have v16_33 : V16 33 = V' 20 := by rw [hV16]; rfl
            have v16_34 : V16 34 = V' 20 + 1 := by rw [hV16]; rfl
            have v16_35 : V16 35 = V15 35 := by rw [hV16]; rfl
            have v16_36 : V16 36 = V15 36 := by rw [hV16]; rfl
            have sv16 : sV gwV V15 V16 := by rw [hV16]; repeat' (first | exact sV.rfl | refine sV.vu ?_ (by decide))
            clear hV16; subst hC16; subst hJ16
            have hP16 := hP15.cg (V1 := V16) (lp1 := (lp')) (dep1 := dep) (by omega) (by omega) (by omega) (by omega) (by omega) (by omega) (by omega) (by omega) (by omega) (by omega) (by omega)
            have hsv : sV gwV V V16 := G15.2.2.2.2.1.tr sv16 (fun _ z => z)
            refine ih _ ?_ _ _ _ _ _ _ _ _ rfl (mAtT.op hT (by omega) (by show _ ∨ _ ∨ _; omega) hP16 (by rw [(show decide (bs (V' 31) ≠ 43) = false from decide_eq_false (by omega)), (show decide (bs (V' 31) ≠ 63) = false from decide_eq_false (by omega))]; rfl) (by first | (rw [if_pos (by omega)]; done) | (rw [if_neg (by omega)]; done)) (by omega) (by omega) (by omega) (by omega) (by omega) q15 hsv G15.2.2.2.2.2)
            omega
          · -- on
            refine i_aload_n dX11_readsPiece_91 rfl ?_
            refine i_aload_n dX11_readsPiece_92 rfl ?_
            refine t_getI (v := V' 34) dX11_readsPiece_93 fX11_144 (by decide) (by omega) ?_
            refine i_aload_n dX11_readsPiece_96 rfl ?_
            refine t_getI (v := V' 33) dX11_readsPiece_97 fX11_137 (by decide) (by omega) ?_
            refine t_callV (As := [_, _]) dX11_readsPiece_100 cfX11_edge imX11_edge seX11_edge lX11_140 rfl rfl rfl (Nat.le_of_ble_eq_true rfl) ?_
            have n17 := hP15.nn
            refine k_edgeP hP15 (by omega) (by omega) (by omega) (by omega) (fun V17 C17 hP17 hM17 hv17 hc17 => RK.n0 ?_)
            have e17_7 : V17 7 = V15 7 := hv17 7 (by decide)
            have e17_8 : V17 8 = V15 8 := hv17 8 (by decide)
            have e17_9 : V17 9 = V15 9 := hv17 9 (by decide)
            have e17_20 : V17 20 = V15 20 := hv17 20 (by decide)
            have e17_31 : V17 31 = V15 31 := hv17 31 (by decide)
            have e17_32 : V17 32 = V15 32 := hv17 32 (by decide)
            have e17_33 : V17 33 = V15 33 := hv17 33 (by decide)
            have e17_34 : V17 34 = V15 34 := hv17 34 (by decide)
            have e17_35 : V17 35 = V15 35 := hv17 35 (by decide)
            have e17_36 : V17 36 = V15 36 := hv17 36 (by decide)
            have G17 := G15.edge (a := (V' 34)) (b := (V' 33)) (by omega) (by omega) (hv17 20 (by decide)) (hv17 31 (by decide)) (hc17 19 (by decide)) (sV.rfl.t2 hv17 (S := []) (U := gwV) (by decide) (by decide)) (sC.rfl.t2 hc17 (S := []) (U := gwC) (by decide) (by decide))
            have q17 := (hc17 19 (by decide)).trans q15
            refine i_aload_n dX11_readsPiece_103 rfl ?_
            refine i_dup dX11_readsPiece_104 rfl ?_
            refine t_getI dX11_readsPiece_105 fX11_157 (by decide) rfl ?_
            refine i_const dX11_readsPiece_108 ?_
            refine i_add dX11_readsPiece_109 ?_
            refine t_put dX11_readsPiece_110 fX11_157 (by decide) rfl rfl ?_
            refine i_aload_n dX11_readsPiece_113 rfl ?_
            refine i_iload_n dX11_readsPiece_114 rfl ?_
            refine t_put dX11_readsPiece_115 fX11_137 (by decide) rfl rfl ?_
            refine i_aload_n dX11_readsPiece_118 rfl ?_
            refine i_iload dX11_readsPiece_119 rfl ?_
            refine t_put dX11_readsPiece_121 fX11_144 (by decide) rfl rfl ?_
            refine i_aload_n dX11_readsPiece_124 rfl ?_
            refine i_dup dX11_readsPiece_125 rfl ?_
            refine t_getI (v := V17 31) dX11_readsPiece_126 fX11_125 (by decide) rfl ?_
            refine i_const dX11_readsPiece_129 ?_
            refine i_add dX11_readsPiece_130 ?_
            refine t_put dX11_readsPiece_131 fX11_125 (by decide) rfl rfl ?_
            refine i_goto (tgt := 10) dX11_readsPiece_134 (by decide) ?_
            refine RW.wk (L' := [some _, some _, none, none, none]) (p_subL.at (by repeat (first | exact subL_nil | refine subL_s ?_ | refine subL_n ?_))) ?_
            refine RW.gen (fun V18 hV18 C18 hC18 J18 hJ18 => ?_)
            have v18_7 : V18 7 = V17 7 := by rw [hV18]; rfl
            have v18_8 : V18 8 = V17 8 := by rw [hV18]; rfl
            have v18_9 : V18 9 = V17 9 := by rw [hV18]; rfl
            have v18_20 : V18 20 = V17 20 := by rw [hV18]; rfl
            have v18_21 : V18 21 = V17 21 := by rw [hV18]; rfl
            have v18_31 : V18 31 = V17 31 + 1 := by rw [hV18]; rfl
            have v18_32 : V18 32 = V17 32 := by rw [hV18]; rfl
            have v18_33 : V18 33 = V' 20 := by rw [hV18]; rfl
            have v18_34 : V18 34 = V' 20 + 1 := by rw [hV18]; rfl
            have v18_35 : V18 35 = V17 35 + 1 := by rw [hV18]; rfl
            have v18_36 : V18 36 = V17 36 := by rw [hV18]; rfl
            have sv18 : sV gwV V17 V18 := by rw [hV18]; repeat' (first | exact sV.rfl | refine sV.vu ?_ (by decide))
            clear hV18; subst hC18; subst hJ18
            have hP18 := hP17.cg (V1 := V18) (lp1 := (lp' + 1)) (dep1 := dep) (by omega) (by omega) (by omega) (by omega) (by omega) (by omega) (by omega) (by omega) (by omega) (by omega) (by omega)
            have hsv : sV gwV V V18 := G17.2.2.2.2.1.tr sv18 (fun _ z => z)
            refine ih _ ?_ _ _ _ _ _ _ _ _ rfl (mAtT.op hT (by omega) (by show _ ∨ _ ∨ _; omega) hP18 (by rw [(show decide (bs (V' 31) ≠ 43) = false from decide_eq_false (by omega)), (show decide (bs (V' 31) ≠ 63) = true from decide_eq_true (by omega))]; rfl) (by first | (rw [if_pos (by omega)]; done) | (rw [if_neg (by omega)]; done)) (by omega) (by omega) (by omega) (by omega) (by omega) q17 hsv G17.2.2.2.2.2)
            omega
        · -- on
          refine i_aload_n dX11_readsPiece_78 rfl ?_
          refine i_iload_n dX11_readsPiece_79 rfl ?_
          refine i_iload dX11_readsPiece_80 rfl ?_
          refine t_callV (As := [_, _]) dX11_readsPiece_82 cfX11_edge imX11_edge seX11_edge lX11_140 rfl rfl rfl (Nat.le_of_ble_eq_true rfl) ?_
          have n19 := hP15.nn
          refine k_edgeP hP15 (by omega) (by omega) (by omega) (by omega) (fun V19 C19 hP19 hM19 hv19 hc19 => RK.n0 ?_)
          have e19_7 : V19 7 = V15 7 := hv19 7 (by decide)
          have e19_8 : V19 8 = V15 8 := hv19 8 (by decide)
          have e19_9 : V19 9 = V15 9 := hv19 9 (by decide)
          have e19_20 : V19 20 = V15 20 := hv19 20 (by decide)
          have e19_31 : V19 31 = V15 31 := hv19 31 (by decide)
          have e19_32 : V19 32 = V15 32 := hv19 32 (by decide)
          have e19_33 : V19 33 = V15 33 := hv19 33 (by decide)
          have e19_34 : V19 34 = V15 34 := hv19 34 (by decide)
          have e19_35 : V19 35 = V15 35 := hv19 35 (by decide)
          have e19_36 : V19 36 = V15 36 := hv19 36 (by decide)
          have G19 := G15.edge (a := (V' 20)) (b := (V' 20 + 1)) (by omega) (by omega) (hv19 20 (by decide)) (hv19 31 (by decide)) (hc19 19 (by decide)) (sV.rfl.t2 hv19 (S := []) (U := gwV) (by decide) (by decide)) (sC.rfl.t2 hc19 (S := []) (U := gwC) (by decide) (by decide))
          have q19 := (hc19 19 (by decide)).trans q15
          refine i_iload_n dX11_readsPiece_85 rfl ?_
          refine i_bipush dX11_readsPiece_86 (by decide) ?_
          refine i_icmp_eq (tgt := 113) dX11_readsPiece_88 (by decide) (by omega) (by omega) (fun c88 => ?_) (fun c88 => ?_)
          · -- jumps
            refine i_aload_n dX11_readsPiece_113 rfl ?_
            refine i_iload_n dX11_readsPiece_114 rfl ?_
            refine t_put dX11_readsPiece_115 fX11_137 (by decide) rfl rfl ?_
            refine i_aload_n dX11_readsPiece_118 rfl ?_
            refine i_iload dX11_readsPiece_119 rfl ?_
            refine t_put dX11_readsPiece_121 fX11_144 (by decide) rfl rfl ?_
            refine i_aload_n dX11_readsPiece_124 rfl ?_
            refine i_dup dX11_readsPiece_125 rfl ?_
            refine t_getI (v := V19 31) dX11_readsPiece_126 fX11_125 (by decide) rfl ?_
            refine i_const dX11_readsPiece_129 ?_
            refine i_add dX11_readsPiece_130 ?_
            refine t_put dX11_readsPiece_131 fX11_125 (by decide) rfl rfl ?_
            refine i_goto (tgt := 10) dX11_readsPiece_134 (by decide) ?_
            refine RW.wk (L' := [some _, some _, none, none, none]) (p_subL.at (by repeat (first | exact subL_nil | refine subL_s ?_ | refine subL_n ?_))) ?_
            refine RW.gen (fun V20 hV20 C20 hC20 J20 hJ20 => ?_)
            have v20_7 : V20 7 = V19 7 := by rw [hV20]; rfl
            have v20_8 : V20 8 = V19 8 := by rw [hV20]; rfl
            have v20_9 : V20 9 = V19 9 := by rw [hV20]; rfl
            have v20_20 : V20 20 = V19 20 := by rw [hV20]; rfl
            have v20_21 : V20 21 = V19 21 := by rw [hV20]; rfl
            have v20_31 : V20 31 = V19 31 + 1 := by rw [hV20]; rfl
            have v20_32 : V20 32 = V19 32 := by rw [hV20]; rfl
            have v20_33 : V20 33 = V' 20 := by rw [hV20]; rfl
            have v20_34 : V20 34 = V' 20 + 1 := by rw [hV20]; rfl
            have v20_35 : V20 35 = V19 35 := by rw [hV20]; rfl
            have v20_36 : V20 36 = V19 36 := by rw [hV20]; rfl
            have sv20 : sV gwV V19 V20 := by rw [hV20]; repeat' (first | exact sV.rfl | refine sV.vu ?_ (by decide))
            clear hV20; subst hC20; subst hJ20
            have hP20 := hP19.cg (V1 := V20) (lp1 := (lp')) (dep1 := dep) (by omega) (by omega) (by omega) (by omega) (by omega) (by omega) (by omega) (by omega) (by omega) (by omega) (by omega)
            have hsv : sV gwV V V20 := G19.2.2.2.2.1.tr sv20 (fun _ z => z)
            refine ih _ ?_ _ _ _ _ _ _ _ _ rfl (mAtT.op hT (by omega) (by show _ ∨ _ ∨ _; omega) hP20 (by rw [(show decide (bs (V' 31) ≠ 43) = true from decide_eq_true (by omega)), (show decide (bs (V' 31) ≠ 63) = false from decide_eq_false (by omega))]; rfl) (by first | (rw [if_pos (by omega)]; done) | (rw [if_neg (by omega)]; done)) (by omega) (by omega) (by omega) (by omega) (by omega) q19 hsv G19.2.2.2.2.2)
            omega
          · -- on
            refine i_aload_n dX11_readsPiece_91 rfl ?_
            refine i_aload_n dX11_readsPiece_92 rfl ?_
            refine t_getI (v := V' 34) dX11_readsPiece_93 fX11_144 (by decide) (by omega) ?_
            refine i_aload_n dX11_readsPiece_96 rfl ?_
            refine t_getI (v := V' 33) dX11_readsPiece_97 fX11_137 (by decide) (by omega) ?_
            refine t_callV (As := [_, _]) dX11_readsPiece_100 cfX11_edge imX11_edge seX11_edge lX11_140 rfl rfl rfl (Nat.le_of_ble_eq_true rfl) ?_
            have n21 := hP19.nn
            refine k_edgeP hP19 (by omega) (by omega) (by omega) (by omega) (fun V21 C21 hP21 hM21 hv21 hc21 => RK.n0 ?_)
            have e21_7 : V21 7 = V19 7 := hv21 7 (by decide)
            have e21_8 : V21 8 = V19 8 := hv21 8 (by decide)
            have e21_9 : V21 9 = V19 9 := hv21 9 (by decide)
            have e21_20 : V21 20 = V19 20 := hv21 20 (by decide)
            have e21_31 : V21 31 = V19 31 := hv21 31 (by decide)
            have e21_32 : V21 32 = V19 32 := hv21 32 (by decide)
            have e21_33 : V21 33 = V19 33 := hv21 33 (by decide)
            have e21_34 : V21 34 = V19 34 := hv21 34 (by decide)
            have e21_35 : V21 35 = V19 35 := hv21 35 (by decide)
            have e21_36 : V21 36 = V19 36 := hv21 36 (by decide)
            have G21 := G19.edge (a := (V' 34)) (b := (V' 33)) (by omega) (by omega) (hv21 20 (by decide)) (hv21 31 (by decide)) (hc21 19 (by decide)) (sV.rfl.t2 hv21 (S := []) (U := gwV) (by decide) (by decide)) (sC.rfl.t2 hc21 (S := []) (U := gwC) (by decide) (by decide))
            have q21 := (hc21 19 (by decide)).trans q19
            refine i_aload_n dX11_readsPiece_103 rfl ?_
            refine i_dup dX11_readsPiece_104 rfl ?_
            refine t_getI dX11_readsPiece_105 fX11_157 (by decide) rfl ?_
            refine i_const dX11_readsPiece_108 ?_
            refine i_add dX11_readsPiece_109 ?_
            refine t_put dX11_readsPiece_110 fX11_157 (by decide) rfl rfl ?_
            refine i_aload_n dX11_readsPiece_113 rfl ?_
            refine i_iload_n dX11_readsPiece_114 rfl ?_
            refine t_put dX11_readsPiece_115 fX11_137 (by decide) rfl rfl ?_
            refine i_aload_n dX11_readsPiece_118 rfl ?_
            refine i_iload dX11_readsPiece_119 rfl ?_
            refine t_put dX11_readsPiece_121 fX11_144 (by decide) rfl rfl ?_
            refine i_aload_n dX11_readsPiece_124 rfl ?_
            refine i_dup dX11_readsPiece_125 rfl ?_
            refine t_getI (v := V21 31) dX11_readsPiece_126 fX11_125 (by decide) rfl ?_
            refine i_const dX11_readsPiece_129 ?_
            refine i_add dX11_readsPiece_130 ?_
            refine t_put dX11_readsPiece_131 fX11_125 (by decide) rfl rfl ?_
            refine i_goto (tgt := 10) dX11_readsPiece_134 (by decide) ?_
            refine RW.wk (L' := [some _, some _, none, none, none]) (p_subL.at (by repeat (first | exact subL_nil | refine subL_s ?_ | refine subL_n ?_))) ?_
            refine RW.gen (fun V22 hV22 C22 hC22 J22 hJ22 => ?_)
            have v22_7 : V22 7 = V21 7 := by rw [hV22]; rfl
            have v22_8 : V22 8 = V21 8 := by rw [hV22]; rfl
            have v22_9 : V22 9 = V21 9 := by rw [hV22]; rfl
            have v22_20 : V22 20 = V21 20 := by rw [hV22]; rfl
            have v22_21 : V22 21 = V21 21 := by rw [hV22]; rfl
            have v22_31 : V22 31 = V21 31 + 1 := by rw [hV22]; rfl
            have v22_32 : V22 32 = V21 32 := by rw [hV22]; rfl
            have v22_33 : V22 33 = V' 20 := by rw [hV22]; rfl
            have v22_34 : V22 34 = V' 20 + 1 := by rw [hV22]; rfl
            have v22_35 : V22 35 = V21 35 + 1 := by rw [hV22]; rfl
            have v22_36 : V22 36 = V21 36 := by rw [hV22]; rfl
            have sv22 : sV gwV V21 V22 := by rw [hV22]; repeat' (first | exact sV.rfl | refine sV.vu ?_ (by decide))
            clear hV22; subst hC22; subst hJ22
            have hP22 := hP21.cg (V1 := V22) (lp1 := (lp' + 1)) (dep1 := dep) (by omega) (by omega) (by omega) (by omega) (by omega) (by omega) (by omega) (by omega) (by omega) (by omega) (by omega)
            have hsv : sV gwV V V22 := G21.2.2.2.2.1.tr sv22 (fun _ z => z)
            refine ih _ ?_ _ _ _ _ _ _ _ _ rfl (mAtT.op hT (by omega) (by show _ ∨ _ ∨ _; omega) hP22 (by rw [(show decide (bs (V' 31) ≠ 43) = true from decide_eq_true (by omega)), (show decide (bs (V' 31) ≠ 63) = true from decide_eq_true (by omega))]; rfl) (by first | (rw [if_pos (by omega)]; done) | (rw [if_neg (by omega)]; done)) (by omega) (by omega) (by omega) (by omega) (by omega) q21 hsv G21.2.2.2.2.2)
            omega
      · -- on
        refine i_aload_n dX11_readsPiece_28 rfl ?_
        refine t_callV (As := []) dX11_readsPiece_29 cfX11_ahead imX11_ahead seX11_ahead lX11_128 rfl rfl rfl (Nat.le_of_ble_eq_true rfl) ?_
        refine k_aheadP (a := V' 31) rfl hT.1.1.1.2.1 hT.1.1.2.1 hT.1.1.2.2.1 hT.1.2.1.1 (RK.v ?_)
        refine i_bipush dX11_readsPiece_32 (by decide) ?_
        refine i_icmp_ne (tgt := 137) dX11_readsPiece_34 (by decide) (by omega) (by omega) (fun c34 => ?_) (fun c34 => ?_)
        · -- jumps
          refine i_const dX11_readsPiece_137 ?_
          refine i_ireturn dX11_readsPiece_138 rfl rfl ?_
          exact hpT _ _ _ _ _ _ _ _ hT (fun q => by show ¬ (_ ∨ _ ∨ _); omega)
        · -- on
          refine i_aload_n dX11_readsPiece_37 rfl ?_
          refine t_callV (As := []) dX11_readsPiece_38 cfX11_ahead imX11_ahead seX11_ahead lX11_128 rfl rfl rfl (Nat.le_of_ble_eq_true rfl) ?_
          refine k_aheadP (a := V' 31) rfl hT.1.1.1.2.1 hT.1.1.2.1 hT.1.1.2.2.1 hT.1.2.1.1 (RK.v ?_)
          refine i_istore_n dX11_readsPiece_41 (L' := [some _, some _, some _, none, none]) (by decide) rfl ?_
          refine i_aload_n dX11_readsPiece_42 rfl ?_
          refine t_callV (As := []) dX11_readsPiece_43 cfX11_node imX11_node seX11_node lX11_131 rfl rfl rfl (Nat.le_of_ble_eq_true rfl) ?_
          have n23 := hT.1.nn
          refine k_nodeP hT.1 (by omega) (fun V23 C23 hP23 hN23 hL23 hv23 hc23 => RK.v ?_)
          have e23_7 : V23 7 = V' 7 := hv23 7 (by decide)
          have e23_8 : V23 8 = V' 8 := hv23 8 (by decide)
          have e23_9 : V23 9 = V' 9 := hv23 9 (by decide)
          have e23_21 : V23 21 = V' 21 := hv23 21 (by decide)
          have e23_31 : V23 31 = V' 31 := hv23 31 (by decide)
          have e23_32 : V23 32 = V' 32 := hv23 32 (by decide)
          have e23_33 : V23 33 = V' 33 := hv23 33 (by decide)
          have e23_34 : V23 34 = V' 34 := hv23 34 (by decide)
          have e23_35 : V23 35 = V' 35 := hv23 35 (by decide)
          have e23_36 : V23 36 = V' 36 := hv23 36 (by decide)
          have G23 := hT.2.1.keep (by omega) (by omega) (hc23 19 (by decide)) (sV.rfl.t2 hv23 (S := []) (U := gwV) (by decide) (by decide)) (sC.rfl.t2 hc23 (S := []) (U := gwC) (by decide) (by decide))
          have q23 := (hc23 19 (by decide)).trans (Eq.refl (C' 19))
          refine i_istore_n dX11_readsPiece_46 (L' := [some _, some _, some _, some _, none]) (by decide) rfl ?_
          refine i_aload_n dX11_readsPiece_47 rfl ?_
          refine t_callV (As := []) dX11_readsPiece_48 cfX11_node imX11_node seX11_node lX11_131 rfl rfl rfl (Nat.le_of_ble_eq_true rfl) ?_
          have n24 := hP23.nn
          refine k_nodeP hP23 (by omega) (fun V24 C24 hP24 hN24 hL24 hv24 hc24 => RK.v ?_)
          have e24_7 : V24 7 = V23 7 := hv24 7 (by decide)
          have e24_8 : V24 8 = V23 8 := hv24 8 (by decide)
          have e24_9 : V24 9 = V23 9 := hv24 9 (by decide)
          have e24_21 : V24 21 = V23 21 := hv24 21 (by decide)
          have e24_31 : V24 31 = V23 31 := hv24 31 (by decide)
          have e24_32 : V24 32 = V23 32 := hv24 32 (by decide)
          have e24_33 : V24 33 = V23 33 := hv24 33 (by decide)
          have e24_34 : V24 34 = V23 34 := hv24 34 (by decide)
          have e24_35 : V24 35 = V23 35 := hv24 35 (by decide)
          have e24_36 : V24 36 = V23 36 := hv24 36 (by decide)
          have G24 := G23.keep (by omega) (by omega) (hc24 19 (by decide)) (sV.rfl.t2 hv24 (S := []) (U := gwV) (by decide) (by decide)) (sC.rfl.t2 hc24 (S := []) (U := gwC) (by decide) (by decide))
          have q24 := (hc24 19 (by decide)).trans q23
          refine RW.ti (show V23 20 = V' 20 + 1 by omega) ?_
          refine i_istore dX11_readsPiece_51 (L' := [some _, some _, some _, some _, some _]) (by decide) rfl ?_
          refine i_aload_n dX11_readsPiece_53 rfl ?_
          refine i_iload_n dX11_readsPiece_54 rfl ?_
          refine i_aload_n dX11_readsPiece_55 rfl ?_
          refine t_getI (v := V' 33) dX11_readsPiece_56 fX11_137 (by decide) (by omega) ?_
          refine t_callV (As := [_, _]) dX11_readsPiece_59 cfX11_edge imX11_edge seX11_edge lX11_140 rfl rfl rfl (Nat.le_of_ble_eq_true rfl) ?_
          have n25 := hP24.nn
          refine k_edgeP hP24 (by omega) (by omega) (by omega) (by omega) (fun V25 C25 hP25 hM25 hv25 hc25 => RK.n0 ?_)
          have e25_7 : V25 7 = V24 7 := hv25 7 (by decide)
          have e25_8 : V25 8 = V24 8 := hv25 8 (by decide)
          have e25_9 : V25 9 = V24 9 := hv25 9 (by decide)
          have e25_20 : V25 20 = V24 20 := hv25 20 (by decide)
          have e25_31 : V25 31 = V24 31 := hv25 31 (by decide)
          have e25_32 : V25 32 = V24 32 := hv25 32 (by decide)
          have e25_33 : V25 33 = V24 33 := hv25 33 (by decide)
          have e25_34 : V25 34 = V24 34 := hv25 34 (by decide)
          have e25_35 : V25 35 = V24 35 := hv25 35 (by decide)
          have e25_36 : V25 36 = V24 36 := hv25 36 (by decide)
          have G25 := G24.edge (a := (V' 20)) (b := (V' 33)) (by omega) (by omega) (hv25 20 (by decide)) (hv25 31 (by decide)) (hc25 19 (by decide)) (sV.rfl.t2 hv25 (S := []) (U := gwV) (by decide) (by decide)) (sC.rfl.t2 hc25 (S := []) (U := gwC) (by decide) (by decide))
          have q25 := (hc25 19 (by decide)).trans q24
          refine i_aload_n dX11_readsPiece_62 rfl ?_
          refine i_aload_n dX11_readsPiece_63 rfl ?_
          refine t_getI (v := V' 34) dX11_readsPiece_64 fX11_144 (by decide) (by omega) ?_
          refine i_iload dX11_readsPiece_67 rfl ?_
          refine t_callV (As := [_, _]) dX11_readsPiece_69 cfX11_edge imX11_edge seX11_edge lX11_140 rfl rfl rfl (Nat.le_of_ble_eq_true rfl) ?_
          have n26 := hP25.nn
          refine k_edgeP hP25 (by omega) (by omega) (by omega) (by omega) (fun V26 C26 hP26 hM26 hv26 hc26 => RK.n0 ?_)
          have e26_7 : V26 7 = V25 7 := hv26 7 (by decide)
          have e26_8 : V26 8 = V25 8 := hv26 8 (by decide)
          have e26_9 : V26 9 = V25 9 := hv26 9 (by decide)
          have e26_20 : V26 20 = V25 20 := hv26 20 (by decide)
          have e26_31 : V26 31 = V25 31 := hv26 31 (by decide)
          have e26_32 : V26 32 = V25 32 := hv26 32 (by decide)
          have e26_33 : V26 33 = V25 33 := hv26 33 (by decide)
          have e26_34 : V26 34 = V25 34 := hv26 34 (by decide)
          have e26_35 : V26 35 = V25 35 := hv26 35 (by decide)
          have e26_36 : V26 36 = V25 36 := hv26 36 (by decide)
          have G26 := G25.edge (a := (V' 34)) (b := (V' 20 + 1)) (by omega) (by omega) (hv26 20 (by decide)) (hv26 31 (by decide)) (hc26 19 (by decide)) (sV.rfl.t2 hv26 (S := []) (U := gwV) (by decide) (by decide)) (sC.rfl.t2 hc26 (S := []) (U := gwC) (by decide) (by decide))
          have q26 := (hc26 19 (by decide)).trans q25
          refine i_iload_n dX11_readsPiece_72 rfl ?_
          refine i_bipush dX11_readsPiece_73 (by decide) ?_
          refine i_icmp_eq (tgt := 85) dX11_readsPiece_75 (by decide) (by omega) (by omega) (fun c75 => ?_) (fun c75 => ?_)
          · -- jumps
            refine i_iload_n dX11_readsPiece_85 rfl ?_
            refine i_bipush dX11_readsPiece_86 (by decide) ?_
            refine i_icmp_eq (tgt := 113) dX11_readsPiece_88 (by decide) (by omega) (by omega) (fun c88 => ?_) (fun c88 => ?_)
            · -- jumps
              refine i_aload_n dX11_readsPiece_113 rfl ?_
              refine i_iload_n dX11_readsPiece_114 rfl ?_
              refine t_put dX11_readsPiece_115 fX11_137 (by decide) rfl rfl ?_
              refine i_aload_n dX11_readsPiece_118 rfl ?_
              refine i_iload dX11_readsPiece_119 rfl ?_
              refine t_put dX11_readsPiece_121 fX11_144 (by decide) rfl rfl ?_
              refine i_aload_n dX11_readsPiece_124 rfl ?_
              refine i_dup dX11_readsPiece_125 rfl ?_
              refine t_getI (v := V26 31) dX11_readsPiece_126 fX11_125 (by decide) rfl ?_
              refine i_const dX11_readsPiece_129 ?_
              refine i_add dX11_readsPiece_130 ?_
              refine t_put dX11_readsPiece_131 fX11_125 (by decide) rfl rfl ?_
              refine i_goto (tgt := 10) dX11_readsPiece_134 (by decide) ?_
              refine RW.wk (L' := [some _, some _, none, none, none]) (p_subL.at (by repeat (first | exact subL_nil | refine subL_s ?_ | refine subL_n ?_))) ?_
              refine RW.gen (fun V27 hV27 C27 hC27 J27 hJ27 => ?_)
              have v27_7 : V27 7 = V26 7 := by rw [hV27]; rfl
              have v27_8 : V27 8 = V26 8 := by rw [hV27]; rfl
              have v27_9 : V27 9 = V26 9 := by rw [hV27]; rfl
              have v27_20 : V27 20 = V26 20 := by rw [hV27]; rfl
              have v27_21 : V27 21 = V26 21 := by rw [hV27]; rfl
              have v27_31 : V27 31 = V26 31 + 1 := by rw [hV27]; rfl
              have v27_32 : V27 32 = V26 32 := by rw [hV27]; rfl
              have v27_33 : V27 33 = V' 20 := by rw [hV27]; rfl
              have v27_34 : V27 34 = V' 20 + 1 := by rw [hV27]; rfl
              have v27_35 : V27 35 = V26 35 := by rw [hV27]; rfl
              have v27_36 : V27 36 = V26 36 := by rw [hV27]; rfl
              have sv27 : sV gwV V26 V27 := by rw [hV27]; repeat' (first | exact sV.rfl | refine sV.vu ?_ (by decide))
              clear hV27; subst hC27; subst hJ27
              have hP27 := hP26.cg (V1 := V27) (lp1 := (lp')) (dep1 := dep) (by omega) (by omega) (by omega) (by omega) (by omega) (by omega) (by omega) (by omega) (by omega) (by omega) (by omega)
              have hsv : sV gwV V V27 := G26.2.2.2.2.1.tr sv27 (fun _ z => z)
              refine ih _ ?_ _ _ _ _ _ _ _ _ rfl (mAtT.op hT (by omega) (by show _ ∨ _ ∨ _; omega) hP27 (by rw [(show decide (bs (V' 31) ≠ 43) = false from decide_eq_false (by omega)), (show decide (bs (V' 31) ≠ 63) = false from decide_eq_false (by omega))]; rfl) (by first | (rw [if_pos (by omega)]; done) | (rw [if_neg (by omega)]; done)) (by omega) (by omega) (by omega) (by omega) (by omega) q26 hsv G26.2.2.2.2.2)
              omega
            · -- on
              refine i_aload_n dX11_readsPiece_91 rfl ?_
              refine i_aload_n dX11_readsPiece_92 rfl ?_
              refine t_getI (v := V' 34) dX11_readsPiece_93 fX11_144 (by decide) (by omega) ?_
              refine i_aload_n dX11_readsPiece_96 rfl ?_
              refine t_getI (v := V' 33) dX11_readsPiece_97 fX11_137 (by decide) (by omega) ?_
              refine t_callV (As := [_, _]) dX11_readsPiece_100 cfX11_edge imX11_edge seX11_edge lX11_140 rfl rfl rfl (Nat.le_of_ble_eq_true rfl) ?_
              have n28 := hP26.nn
              refine k_edgeP hP26 (by omega) (by omega) (by omega) (by omega) (fun V28 C28 hP28 hM28 hv28 hc28 => RK.n0 ?_)
              have e28_7 : V28 7 = V26 7 := hv28 7 (by decide)
              have e28_8 : V28 8 = V26 8 := hv28 8 (by decide)
              have e28_9 : V28 9 = V26 9 := hv28 9 (by decide)
              have e28_20 : V28 20 = V26 20 := hv28 20 (by decide)
              have e28_31 : V28 31 = V26 31 := hv28 31 (by decide)
              have e28_32 : V28 32 = V26 32 := hv28 32 (by decide)
              have e28_33 : V28 33 = V26 33 := hv28 33 (by decide)
              have e28_34 : V28 34 = V26 34 := hv28 34 (by decide)
              have e28_35 : V28 35 = V26 35 := hv28 35 (by decide)
              have e28_36 : V28 36 = V26 36 := hv28 36 (by decide)
              have G28 := G26.edge (a := (V' 34)) (b := (V' 33)) (by omega) (by omega) (hv28 20 (by decide)) (hv28 31 (by decide)) (hc28 19 (by decide)) (sV.rfl.t2 hv28 (S := []) (U := gwV) (by decide) (by decide)) (sC.rfl.t2 hc28 (S := []) (U := gwC) (by decide) (by decide))
              have q28 := (hc28 19 (by decide)).trans q26
              refine i_aload_n dX11_readsPiece_103 rfl ?_
              refine i_dup dX11_readsPiece_104 rfl ?_
              refine t_getI dX11_readsPiece_105 fX11_157 (by decide) rfl ?_
              refine i_const dX11_readsPiece_108 ?_
              refine i_add dX11_readsPiece_109 ?_
              refine t_put dX11_readsPiece_110 fX11_157 (by decide) rfl rfl ?_
              refine i_aload_n dX11_readsPiece_113 rfl ?_
              refine i_iload_n dX11_readsPiece_114 rfl ?_
              refine t_put dX11_readsPiece_115 fX11_137 (by decide) rfl rfl ?_
              refine i_aload_n dX11_readsPiece_118 rfl ?_
              refine i_iload dX11_readsPiece_119 rfl ?_
              refine t_put dX11_readsPiece_121 fX11_144 (by decide) rfl rfl ?_
              refine i_aload_n dX11_readsPiece_124 rfl ?_
              refine i_dup dX11_readsPiece_125 rfl ?_
              refine t_getI (v := V28 31) dX11_readsPiece_126 fX11_125 (by decide) rfl ?_
              refine i_const dX11_readsPiece_129 ?_
              refine i_add dX11_readsPiece_130 ?_
              refine t_put dX11_readsPiece_131 fX11_125 (by decide) rfl rfl ?_
              refine i_goto (tgt := 10) dX11_readsPiece_134 (by decide) ?_
              refine RW.wk (L' := [some _, some _, none, none, none]) (p_subL.at (by repeat (first | exact subL_nil | refine subL_s ?_ | refine subL_n ?_))) ?_
              refine RW.gen (fun V29 hV29 C29 hC29 J29 hJ29 => ?_)
              have v29_7 : V29 7 = V28 7 := by rw [hV29]; rfl
              have v29_8 : V29 8 = V28 8 := by rw [hV29]; rfl
              have v29_9 : V29 9 = V28 9 := by rw [hV29]; rfl
              have v29_20 : V29 20 = V28 20 := by rw [hV29]; rfl
              have v29_21 : V29 21 = V28 21 := by rw [hV29]; rfl
              have v29_31 : V29 31 = V28 31 + 1 := by rw [hV29]; rfl
              have v29_32 : V29 32 = V28 32 := by rw [hV29]; rfl
              have v29_33 : V29 33 = V' 20 := by rw [hV29]; rfl
              have v29_34 : V29 34 = V' 20 + 1 := by rw [hV29]; rfl
              have v29_35 : V29 35 = V28 35 + 1 := by rw [hV29]; rfl
              have v29_36 : V29 36 = V28 36 := by rw [hV29]; rfl
              have sv29 : sV gwV V28 V29 := by rw [hV29]; repeat' (first | exact sV.rfl | refine sV.vu ?_ (by decide))
              clear hV29; subst hC29; subst hJ29
              have hP29 := hP28.cg (V1 := V29) (lp1 := (lp' + 1)) (dep1 := dep) (by omega) (by omega) (by omega) (by omega) (by omega) (by omega) (by omega) (by omega) (by omega) (by omega) (by omega)
              have hsv : sV gwV V V29 := G28.2.2.2.2.1.tr sv29 (fun _ z => z)
              refine ih _ ?_ _ _ _ _ _ _ _ _ rfl (mAtT.op hT (by omega) (by show _ ∨ _ ∨ _; omega) hP29 (by rw [(show decide (bs (V' 31) ≠ 43) = false from decide_eq_false (by omega)), (show decide (bs (V' 31) ≠ 63) = true from decide_eq_true (by omega))]; rfl) (by first | (rw [if_pos (by omega)]; done) | (rw [if_neg (by omega)]; done)) (by omega) (by omega) (by omega) (by omega) (by omega) q28 hsv G28.2.2.2.2.2)
              omega
          · -- on
            refine i_aload_n dX11_readsPiece_78 rfl ?_
            refine i_iload_n dX11_readsPiece_79 rfl ?_
            refine i_iload dX11_readsPiece_80 rfl ?_
            refine t_callV (As := [_, _]) dX11_readsPiece_82 cfX11_edge imX11_edge seX11_edge lX11_140 rfl rfl rfl (Nat.le_of_ble_eq_true rfl) ?_
            have n30 := hP26.nn
            refine k_edgeP hP26 (by omega) (by omega) (by omega) (by omega) (fun V30 C30 hP30 hM30 hv30 hc30 => RK.n0 ?_)
            have e30_7 : V30 7 = V26 7 := hv30 7 (by decide)
            have e30_8 : V30 8 = V26 8 := hv30 8 (by decide)
            have e30_9 : V30 9 = V26 9 := hv30 9 (by decide)
            have e30_20 : V30 20 = V26 20 := hv30 20 (by decide)
            have e30_31 : V30 31 = V26 31 := hv30 31 (by decide)
            have e30_32 : V30 32 = V26 32 := hv30 32 (by decide)
            have e30_33 : V30 33 = V26 33 := hv30 33 (by decide)
            have e30_34 : V30 34 = V26 34 := hv30 34 (by decide)
            have e30_35 : V30 35 = V26 35 := hv30 35 (by decide)
            have e30_36 : V30 36 = V26 36 := hv30 36 (by decide)
            have G30 := G26.edge (a := (V' 20)) (b := (V' 20 + 1)) (by omega) (by omega) (hv30 20 (by decide)) (hv30 31 (by decide)) (hc30 19 (by decide)) (sV.rfl.t2 hv30 (S := []) (U := gwV) (by decide) (by decide)) (sC.rfl.t2 hc30 (S := []) (U := gwC) (by decide) (by decide))
            have q30 := (hc30 19 (by decide)).trans q26
            refine i_iload_n dX11_readsPiece_85 rfl ?_
            refine i_bipush dX11_readsPiece_86 (by decide) ?_
            refine i_icmp_eq (tgt := 113) dX11_readsPiece_88 (by decide) (by omega) (by omega) (fun c88 => ?_) (fun c88 => ?_)
            · -- jumps
              refine i_aload_n dX11_readsPiece_113 rfl ?_
              refine i_iload_n dX11_readsPiece_114 rfl ?_
              refine t_put dX11_readsPiece_115 fX11_137 (by decide) rfl rfl ?_
              refine i_aload_n dX11_readsPiece_118 rfl ?_
              refine i_iload dX11_readsPiece_119 rfl ?_
              refine t_put dX11_readsPiece_121 fX11_144 (by decide) rfl rfl ?_
              refine i_aload_n dX11_readsPiece_124 rfl ?_
              refine i_dup dX11_readsPiece_125 rfl ?_
              refine t_getI (v := V30 31) dX11_readsPiece_126 fX11_125 (by decide) rfl ?_
              refine i_const dX11_readsPiece_129 ?_
              refine i_add dX11_readsPiece_130 ?_
              refine t_put dX11_readsPiece_131 fX11_125 (by decide) rfl rfl ?_
              refine i_goto (tgt := 10) dX11_readsPiece_134 (by decide) ?_
              refine RW.wk (L' := [some _, some _, none, none, none]) (p_subL.at (by repeat (first | exact subL_nil | refine subL_s ?_ | refine subL_n ?_))) ?_
              refine RW.gen (fun V31 hV31 C31 hC31 J31 hJ31 => ?_)
              have v31_7 : V31 7 = V30 7 := by rw [hV31]; rfl
              have v31_8 : V31 8 = V30 8 := by rw [hV31]; rfl
              have v31_9 : V31 9 = V30 9 := by rw [hV31]; rfl
              have v31_20 : V31 20 = V30 20 := by rw [hV31]; rfl
              have v31_21 : V31 21 = V30 21 := by rw [hV31]; rfl
              have v31_31 : V31 31 = V30 31 + 1 := by rw [hV31]; rfl
              have v31_32 : V31 32 = V30 32 := by rw [hV31]; rfl
              have v31_33 : V31 33 = V' 20 := by rw [hV31]; rfl
              have v31_34 : V31 34 = V' 20 + 1 := by rw [hV31]; rfl
              have v31_35 : V31 35 = V30 35 := by rw [hV31]; rfl
              have v31_36 : V31 36 = V30 36 := by rw [hV31]; rfl
              have sv31 : sV gwV V30 V31 := by rw [hV31]; repeat' (first | exact sV.rfl | refine sV.vu ?_ (by decide))
              clear hV31; subst hC31; subst hJ31
              have hP31 := hP30.cg (V1 := V31) (lp1 := (lp')) (dep1 := dep) (by omega) (by omega) (by omega) (by omega) (by omega) (by omega) (by omega) (by omega) (by omega) (by omega) (by omega)
              have hsv : sV gwV V V31 := G30.2.2.2.2.1.tr sv31 (fun _ z => z)
              refine ih _ ?_ _ _ _ _ _ _ _ _ rfl (mAtT.op hT (by omega) (by show _ ∨ _ ∨ _; omega) hP31 (by rw [(show decide (bs (V' 31) ≠ 43) = true from decide_eq_true (by omega)), (show decide (bs (V' 31) ≠ 63) = false from decide_eq_false (by omega))]; rfl) (by first | (rw [if_pos (by omega)]; done) | (rw [if_neg (by omega)]; done)) (by omega) (by omega) (by omega) (by omega) (by omega) q30 hsv G30.2.2.2.2.2)
              omega
            · -- on
              refine i_aload_n dX11_readsPiece_91 rfl ?_
              refine i_aload_n dX11_readsPiece_92 rfl ?_
              refine t_getI (v := V' 34) dX11_readsPiece_93 fX11_144 (by decide) (by omega) ?_
              refine i_aload_n dX11_readsPiece_96 rfl ?_
              refine t_getI (v := V' 33) dX11_readsPiece_97 fX11_137 (by decide) (by omega) ?_
              refine t_callV (As := [_, _]) dX11_readsPiece_100 cfX11_edge imX11_edge seX11_edge lX11_140 rfl rfl rfl (Nat.le_of_ble_eq_true rfl) ?_
              have n32 := hP30.nn
              refine k_edgeP hP30 (by omega) (by omega) (by omega) (by omega) (fun V32 C32 hP32 hM32 hv32 hc32 => RK.n0 ?_)
              have e32_7 : V32 7 = V30 7 := hv32 7 (by decide)
              have e32_8 : V32 8 = V30 8 := hv32 8 (by decide)
              have e32_9 : V32 9 = V30 9 := hv32 9 (by decide)
              have e32_20 : V32 20 = V30 20 := hv32 20 (by decide)
              have e32_31 : V32 31 = V30 31 := hv32 31 (by decide)
              have e32_32 : V32 32 = V30 32 := hv32 32 (by decide)
              have e32_33 : V32 33 = V30 33 := hv32 33 (by decide)
              have e32_34 : V32 34 = V30 34 := hv32 34 (by decide)
              have e32_35 : V32 35 = V30 35 := hv32 35 (by decide)
              have e32_36 : V32 36 = V30 36 := hv32 36 (by decide)
              have G32 := G30.edge (a := (V' 34)) (b := (V' 33)) (by omega) (by omega) (hv32 20 (by decide)) (hv32 31 (by decide)) (hc32 19 (by decide)) (sV.rfl.t2 hv32 (S := []) (U := gwV) (by decide) (by decide)) (sC.rfl.t2 hc32 (S := []) (U := gwC) (by decide) (by decide))
              have q32 := (hc32 19 (by decide)).trans q30
              refine i_aload_n dX11_readsPiece_103 rfl ?_
              refine i_dup dX11_readsPiece_104 rfl ?_
              refine t_getI dX11_readsPiece_105 fX11_157 (by decide) rfl ?_
              refine i_const dX11_readsPiece_108 ?_
              refine i_add dX11_readsPiece_109 ?_
              refine t_put dX11_readsPiece_110 fX11_157 (by decide) rfl rfl ?_
              refine i_aload_n dX11_readsPiece_113 rfl ?_
              refine i_iload_n dX11_readsPiece_114 rfl ?_
              refine t_put dX11_readsPiece_115 fX11_137 (by decide) rfl rfl ?_
              refine i_aload_n dX11_readsPiece_118 rfl ?_
              refine i_iload dX11_readsPiece_119 rfl ?_
              refine t_put dX11_readsPiece_121 fX11_144 (by decide) rfl rfl ?_
              refine i_aload_n dX11_readsPiece_124 rfl ?_
              refine i_dup dX11_readsPiece_125 rfl ?_
              refine t_getI (v := V32 31) dX11_readsPiece_126 fX11_125 (by decide) rfl ?_
              refine i_const dX11_readsPiece_129 ?_
              refine i_add dX11_readsPiece_130 ?_
              refine t_put dX11_readsPiece_131 fX11_125 (by decide) rfl rfl ?_
              refine i_goto (tgt := 10) dX11_readsPiece_134 (by decide) ?_
              refine RW.wk (L' := [some _, some _, none, none, none]) (p_subL.at (by repeat (first | exact subL_nil | refine subL_s ?_ | refine subL_n ?_))) ?_
              refine RW.gen (fun V33 hV33 C33 hC33 J33 hJ33 => ?_)
              have v33_7 : V33 7 = V32 7 := by rw [hV33]; rfl
              have v33_8 : V33 8 = V32 8 := by rw [hV33]; rfl
              have v33_9 : V33 9 = V32 9 := by rw [hV33]; rfl
              have v33_20 : V33 20 = V32 20 := by rw [hV33]; rfl
              have v33_21 : V33 21 = V32 21 := by rw [hV33]; rfl
              have v33_31 : V33 31 = V32 31 + 1 := by rw [hV33]; rfl
              have v33_32 : V33 32 = V32 32 := by rw [hV33]; rfl
              have v33_33 : V33 33 = V' 20 := by rw [hV33]; rfl
              have v33_34 : V33 34 = V' 20 + 1 := by rw [hV33]; rfl
              have v33_35 : V33 35 = V32 35 + 1 := by rw [hV33]; rfl
              have v33_36 : V33 36 = V32 36 := by rw [hV33]; rfl
              have sv33 : sV gwV V32 V33 := by rw [hV33]; repeat' (first | exact sV.rfl | refine sV.vu ?_ (by decide))
              clear hV33; subst hC33; subst hJ33
              have hP33 := hP32.cg (V1 := V33) (lp1 := (lp' + 1)) (dep1 := dep) (by omega) (by omega) (by omega) (by omega) (by omega) (by omega) (by omega) (by omega) (by omega) (by omega) (by omega)
              have hsv : sV gwV V V33 := G32.2.2.2.2.1.tr sv33 (fun _ z => z)
              refine ih _ ?_ _ _ _ _ _ _ _ _ rfl (mAtT.op hT (by omega) (by show _ ∨ _ ∨ _; omega) hP33 (by rw [(show decide (bs (V' 31) ≠ 43) = true from decide_eq_true (by omega)), (show decide (bs (V' 31) ≠ 63) = true from decide_eq_true (by omega))]; rfl) (by first | (rw [if_pos (by omega)]; done) | (rw [if_neg (by omega)]; done)) (by omega) (by omega) (by omega) (by omega) (by omega) q32 hsv G32.2.2.2.2.2)
              omega
theorem k_piece {D : Nat} (hA : kAtm G Y h0 (D + 1) bs sz s w0 dep) : kPie G Y h0 (D + 2) bs sz s w0 dep := by
  intro P J V C E n lp st fo cur outer h hlen hb hz hat hpF hpT
  refine RM.of (L := [some (.ref (Y 38)), some (.int (iI s)), none, none, none]) cfX11_readsPiece rfl (Nat.le_of_ble_eq_true rfl) ?_
  refine i_aload_n dX11_readsPiece_0 rfl ?_
  refine i_iload_n dX11_readsPiece_1 rfl ?_
  refine t_callV (As := [_]) dX11_readsPiece_2 cfX11_readsAtom imX11_readsAtom seX11_readsAtom lX11_154 rfl rfl rfl (Nat.le_of_ble_eq_true rfl) ?_
  refine hA _ _ _ _ _ _ _ _ _ cur outer h hlen hb hz hat (fun V1 C1 hb1 => RK.v ?_) (fun V1 C1 E1 n1 lp1 st1 fo1 Q1 hb1 => RK.v ?_)
  · -- case
    refine i_if_ne (tgt := 10) dX11_readsPiece_5 (by decide) (by decide) (fun c5 => by omega) (fun c5 => ?_)
    refine i_const dX11_readsPiece_8 ?_
    refine i_ireturn dX11_readsPiece_9 rfl rfl ?_
    exact hpF _ _ hb1
  · -- case
    refine i_if_ne (tgt := 10) dX11_readsPiece_5 (by decide) (by decide) (fun c5 => ?_) (fun c5 => by omega)
    exact k_pie_l hpT _ _ _ _ _ _ _ _ _ rfl hb1
theorem k_bra_l {D : Nat} {V : Nat → Int} {C : Nat → Int → Int} {E : Int → Int → Prop} {n lp : Int} {st fo : Int → Int} {ch : zPt} {outer : List zLv} (hPi : kPie G Y h0 (D + 2) bs sz s w0 dep) (hlen : (outer.length : Int) = dep) (hpF : ∀ V' C', mErr bs sz (V 31) (((n, lp), st, fo), (ch, (true, 0, 0), none), outer) V V' C C' → P (.inl (some (.int (iI 0)))) (V', C', J)) (hpT : ∀ V' C' E' n' lp' st' fo' cur', mBrT bs sz s w0 V C E n lp st fo dep ch outer V' C' E' n' lp' st' fo' cur' (V' 34) → V' 33 = V 20 → (V' 31 < sz → ¬ zAt (bs (V' 31))) → P (.inl (some (.int (iI 1)))) (V', C', J)) : ∀ (zz : Nat) (V' : Nat → Int) (C' : Nat → Int → Int) (E' : Int → Int → Prop) (n' : Int) (lp' : Int) (st' : Int → Int) (fo' : Int → Int) (cur' : zLv) (t : Int), zz = (sz - V' 31).toNat → (mBrT bs sz s w0 V C E n lp st fo dep ch outer V' C' E' n' lp' st' fo' cur' t) → RW G mX11_readsBranch (m_I Y h0) P (D + 3) 0 0 7 [some (.ref (Y 38)), some (.int (iI s)), some (.int (iI (V 20))), some (.int (iI t))] [] (V', C', J) := by
  intro zz
  induction zz using Nat.strongRecOn with
  | _ zz ih =>
    intro V' C' E' n' lp' st' fo' cur' t hzz hB
    have a3 := hB.1.1
    have a4 := hB.1.hd
    have a5 := hB.1.nn
    have a6 := hB.2.1.1
    have a7 := hB.2.2.2.2.2.2.2.2
    have a8 := hB.2.2.2.2.1.1.1
    refine i_aload_n dX11_readsBranch_7 rfl ?_
    refine t_callV (As := []) dX11_readsBranch_8 cfX11_isAtom imX11_isAtom seX11_isAtom lX11_147 rfl rfl rfl (Nat.le_of_ble_eq_true rfl) ?_
    refine k_isAtom hB.1 (RK.v ?_)
    refine i_ifeq_b (tgt := 41) dX11_readsBranch_11 (by decide) (fun c11 => ?_) (fun c11 => ?_)
    · -- jumps
      refine i_aload_n dX11_readsBranch_41 rfl ?_
      refine i_iload_n dX11_readsBranch_42 rfl ?_
      refine t_put dX11_readsBranch_43 fX11_137 (by decide) rfl rfl ?_
      refine i_aload_n dX11_readsBranch_46 rfl ?_
      refine i_iload_n dX11_readsBranch_47 rfl ?_
      refine t_put dX11_readsBranch_48 fX11_144 (by decide) rfl rfl ?_
      refine i_const dX11_readsBranch_51 ?_
      refine i_ireturn dX11_readsBranch_52 rfl rfl ?_
      refine m_gen (fun V1 hV1 C1 hC1 J1 hJ1 => ?_)
      have v1_7 : V1 7 = V' 7 := by rw [hV1]; rfl
      have v1_8 : V1 8 = V' 8 := by rw [hV1]; rfl
      have v1_9 : V1 9 = V' 9 := by rw [hV1]; rfl
      have v1_20 : V1 20 = V' 20 := by rw [hV1]; rfl
      have v1_21 : V1 21 = V' 21 := by rw [hV1]; rfl
      have v1_31 : V1 31 = V' 31 := by rw [hV1]; rfl
      have v1_32 : V1 32 = V' 32 := by rw [hV1]; rfl
      have v1_33 : V1 33 = V 20 := by rw [hV1]; rfl
      have v1_34 : V1 34 = t := by rw [hV1]; rfl
      have v1_35 : V1 35 = V' 35 := by rw [hV1]; rfl
      have v1_36 : V1 36 = V' 36 := by rw [hV1]; rfl
      have sv1 : sV gwV V' V1 := by rw [hV1]; repeat' (first | exact sV.rfl | refine sV.vu ?_ (by decide))
      clear hV1; subst hC1; subst hJ1
      have hP1 := hB.1.cg (V1 := V1) (lp1 := lp') (dep1 := dep) (by omega) (by omega) (by omega) (by omega) (by omega) (by omega) (by omega) (by omega) (by omega) (by omega) (by omega)
      exact hpT _ _ _ _ _ _ _ _ (hB.fin hP1 (by omega) (by omega) (by omega) (by omega) sv1) (by omega) (fun q => by have := c11; show ¬ (_ ∨ _ ∨ _); rw [show V1 31 = V' 31 by omega]; omega)
    · -- on
      refine i_aload_n dX11_readsBranch_14 rfl ?_
      refine i_iload_n dX11_readsBranch_15 rfl ?_
      refine t_callV (As := [_]) dX11_readsBranch_16 cfX11_readsPiece imX11_readsPiece seX11_readsPiece lX11_151 rfl rfl rfl (Nat.le_of_ble_eq_true rfl) ?_
      refine hPi _ _ _ _ _ _ _ _ _ cur' outer hB.1 hlen (by omega) hB.2.2.2.2.2.2.1 ⟨by omega, by have := c11; show _ ∨ _ ∨ _; omega⟩ (fun V2 C2 hb2 => RK.v ?_) (fun V2 C2 E2 n2 lp2 st2 fo2 Q2 hb2 ho2 => RK.v ?_)
      · -- case
        refine i_if_ne (tgt := 24) dX11_readsBranch_19 (by decide) (by decide) (fun c19 => by omega) (fun c19 => ?_)
        refine i_const dX11_readsBranch_22 ?_
        refine i_ireturn dX11_readsBranch_23 rfl rfl ?_
        exact hpF _ _ (hb2.up hB.2.2.1 hB.2.1.2.2.2.2.1 hB.2.1.2.2.2.2.2)
      · -- case
        refine i_if_ne (tgt := 24) dX11_readsBranch_19 (by decide) (by decide) (fun c19 => ?_) (fun c19 => by omega)
        have b3 := hb2.1.1
        have b5 := hb2.1.nn
        have b6 := hb2.2.1.1
        have b7 := hb2.2.2.2.2.2.2.2
        have b8 := hb2.2.2.2.2.1.1.1
        have b9 := hb2.2.2.1
        refine i_aload_n dX11_readsBranch_24 rfl ?_
        refine i_iload_n dX11_readsBranch_25 rfl ?_
        refine i_aload_n dX11_readsBranch_26 rfl ?_
        refine t_getI (v := V2 33) dX11_readsBranch_27 fX11_137 (by decide) (by omega) ?_
        refine t_callV (As := [_, _]) dX11_readsBranch_30 cfX11_edge imX11_edge seX11_edge lX11_140 rfl rfl rfl (Nat.le_of_ble_eq_true rfl) ?_
        have n3 := hb2.1.nn
        refine k_edgeP hb2.1 (by omega) (by omega) (by omega) (by omega) (fun V3 C3 hP3 hM3 hv3 hc3 => RK.n0 ?_)
        have e3_7 : V3 7 = V2 7 := hv3 7 (by decide)
        have e3_8 : V3 8 = V2 8 := hv3 8 (by decide)
        have e3_9 : V3 9 = V2 9 := hv3 9 (by decide)
        have e3_20 : V3 20 = V2 20 := hv3 20 (by decide)
        have e3_31 : V3 31 = V2 31 := hv3 31 (by decide)
        have e3_32 : V3 32 = V2 32 := hv3 32 (by decide)
        have e3_33 : V3 33 = V2 33 := hv3 33 (by decide)
        have e3_34 : V3 34 = V2 34 := hv3 34 (by decide)
        have e3_35 : V3 35 = V2 35 := hv3 35 (by decide)
        have e3_36 : V3 36 = V2 36 := hv3 36 (by decide)
        have G3 := (hB.2.1.tr hb2.2.1).edge (a := t) (b := (V2 33)) (by omega) (by omega) (hv3 20 (by decide)) (hv3 31 (by decide)) (hc3 19 (by decide)) (sV.rfl.t2 hv3 (S := []) (U := gwV) (by decide) (by decide)) (sC.rfl.t2 hc3 (S := []) (U := gwC) (by decide) (by decide))
        refine i_aload_n dX11_readsBranch_33 rfl ?_
        refine t_getI (v := V2 34) dX11_readsBranch_34 fX11_144 (by decide) (by omega) ?_
        refine i_istore_n dX11_readsBranch_37 (L' := [some _, some _, some _, some _]) (by decide) rfl ?_
        refine i_goto (tgt := 7) dX11_readsBranch_38 (by decide) ?_
        refine ih _ ?_ _ _ _ _ _ _ _ _ _ rfl (mBrT.add hB hb2 ho2 hP3 G3 (by omega) (by omega) (by omega) (hc3 19 (by decide)))
        omega
theorem k_branch {D : Nat} (hPi : kPie G Y h0 (D + 2) bs sz s w0 dep) : kBra G Y h0 (D + 3) bs sz s w0 dep := by
  intro P J V C E n lp st fo ch outer h hlen hb hz hpF hpT
  refine RM.of (L := [some (.ref (Y 38)), some (.int (iI s)), none, none]) cfX11_readsBranch rfl (Nat.le_of_ble_eq_true rfl) ?_
  have a0 := h.1
  have a2 := h.nn
  have G0 := mGw.rfl h
  refine i_aload_n dX11_readsBranch_0 rfl ?_
  refine t_callV (As := []) dX11_readsBranch_1 cfX11_node imX11_node seX11_node lX11_131 rfl rfl rfl (Nat.le_of_ble_eq_true rfl) ?_
  have n1 := h.nn
  refine k_nodeP h (by omega) (fun V1 C1 hP1 hN1 hL1 hv1 hc1 => RK.v ?_)
  have e1_7 : V1 7 = V 7 := hv1 7 (by decide)
  have e1_8 : V1 8 = V 8 := hv1 8 (by decide)
  have e1_9 : V1 9 = V 9 := hv1 9 (by decide)
  have e1_21 : V1 21 = V 21 := hv1 21 (by decide)
  have e1_31 : V1 31 = V 31 := hv1 31 (by decide)
  have e1_32 : V1 32 = V 32 := hv1 32 (by decide)
  have e1_33 : V1 33 = V 33 := hv1 33 (by decide)
  have e1_34 : V1 34 = V 34 := hv1 34 (by decide)
  have e1_35 : V1 35 = V 35 := hv1 35 (by decide)
  have e1_36 : V1 36 = V 36 := hv1 36 (by decide)
  have G1 := G0.keep (by omega) (by omega) (hc1 19 (by decide)) (sV.rfl.t2 hv1 (S := []) (U := gwV) (by decide) (by decide)) (sC.rfl.t2 hc1 (S := []) (U := gwC) (by decide) (by decide))
  refine i_istore_n dX11_readsBranch_4 (L' := [some _, some _, some _, none]) (by decide) rfl ?_
  refine i_iload_n dX11_readsBranch_5 rfl ?_
  refine i_istore_n dX11_readsBranch_6 (L' := [some _, some _, some _, some _]) (by decide) rfl ?_
  exact k_bra_l hPi hlen hpF hpT _ _ _ _ _ _ _ _ _ _ rfl (mBrT.nil h hz hP1 G1 (by omega) (by omega) (by omega) hb)
theorem k_pat_l {D : Nat} {V : Nat → Int} {C : Nat → Int → Int} {E : Int → Int → Prop} {n lp : Int} {st fo : Int → Int} {outer : List zLv} (hBr : kBra G Y h0 (D + 3) bs sz s w0 dep) (hlen : (outer.length : Int) = dep) (hpF : ∀ V' C', mErr bs sz (V 31) (((n, lp), st, fo), zL0, outer) V V' C C' → P (.inl (some (.int (iI 0)))) (V', C', J)) (hpT : ∀ V' C' E' n' lp' st' fo' cur', mPaT bs sz s w0 V C E n lp st fo dep outer V' C' E' n' lp' st' fo' cur' → P (.inl (some (.int (iI 1)))) (V', C', J)) : ∀ (zz : Nat) (V' : Nat → Int) (C' : Nat → Int → Int) (E' : Int → Int → Prop) (n' : Int) (lp' : Int) (st' : Int → Int) (fo' : Int → Int) (ch : zPt), zz = (sz - V' 31).toNat → (mPaI bs sz s w0 V C E n lp st fo dep outer V' C' E' n' lp' st' fo' ch) → RW G mX11_readsPattern (m_I Y h0) P (D + 4) 0 0 18 [some (.ref (Y 38)), some (.int (iI s)), some (.int (iI (V 20))), some (.int (iI (V 20 + 1))), none] [] (V', C', J) := by
  intro zz
  induction zz using Nat.strongRecOn with
  | _ zz ih =>
    intro V' C' E' n' lp' st' fo' ch hzz hI
    have a3 := hI.1.1
    have a5 := hI.1.nn
    have a6 := hI.2.1.1
    have a7 := hI.2.2.2.2.2.2
    have a8 := hI.2.2.2.1.1.1.1
    refine i_aload_n dX11_readsPattern_18 rfl ?_
    refine i_iload_n dX11_readsPattern_19 rfl ?_
    refine t_callV (As := [_]) dX11_readsPattern_20 cfX11_readsBranch imX11_readsBranch seX11_readsBranch lX11_134 rfl rfl rfl (Nat.le_of_ble_eq_true rfl) ?_
    refine hBr _ _ _ _ _ _ _ _ _ ch outer hI.1 hlen (by omega) hI.2.2.2.2.2.1 (fun V1 C1 hb1 => RK.v ?_) (fun V1 C1 E1 n1 lp1 st1 fo1 cur1 hb1 hs1 hx1 => RK.v ?_)
    · -- case
      refine i_if_ne (tgt := 28) dX11_readsPattern_23 (by decide) (by decide) (fun c23 => by omega) (fun c23 => ?_)
      refine i_const dX11_readsPattern_26 ?_
      refine i_ireturn dX11_readsPattern_27 rfl rfl ?_
      exact hpF _ _ (hb1.up hI.2.2.1 hI.2.1.2.2.2.2.1 hI.2.1.2.2.2.2.2)
    · -- case
      refine i_if_ne (tgt := 28) dX11_readsPattern_23 (by decide) (by decide) (fun c23 => ?_) (fun c23 => by omega)
      have b3 := hb1.1.1
      have b4 := hb1.1.hd
      have b5 := hb1.1.nn
      have b6 := hb1.2.1.1
      have b7 := hb1.2.2.2.2.2.2.2.2
      have b8 := hb1.2.2.2.2.1.1.1
      refine i_aload_n dX11_readsPattern_28 rfl ?_
      refine i_iload_n dX11_readsPattern_29 rfl ?_
      refine i_aload_n dX11_readsPattern_30 rfl ?_
      refine t_getI (v := V' 20) dX11_readsPattern_31 fX11_137 (by decide) (by omega) ?_
      refine t_callV (As := [_, _]) dX11_readsPattern_34 cfX11_edge imX11_edge seX11_edge lX11_140 rfl rfl rfl (Nat.le_of_ble_eq_true rfl) ?_
      have n2 := hb1.1.nn
      refine k_edgeP hb1.1 (by omega) (by omega) (by omega) (by omega) (fun V2 C2 hP2 hM2 hv2 hc2 => RK.n0 ?_)
      have e2_7 : V2 7 = V1 7 := hv2 7 (by decide)
      have e2_8 : V2 8 = V1 8 := hv2 8 (by decide)
      have e2_9 : V2 9 = V1 9 := hv2 9 (by decide)
      have e2_20 : V2 20 = V1 20 := hv2 20 (by decide)
      have e2_31 : V2 31 = V1 31 := hv2 31 (by decide)
      have e2_32 : V2 32 = V1 32 := hv2 32 (by decide)
      have e2_33 : V2 33 = V1 33 := hv2 33 (by decide)
      have e2_34 : V2 34 = V1 34 := hv2 34 (by decide)
      have e2_35 : V2 35 = V1 35 := hv2 35 (by decide)
      have e2_36 : V2 36 = V1 36 := hv2 36 (by decide)
      have G2 := (hI.2.1.tr hb1.2.1).edge (a := (V 20)) (b := (V' 20)) (by omega) (by omega) (hv2 20 (by decide)) (hv2 31 (by decide)) (hc2 19 (by decide)) (sV.rfl.t2 hv2 (S := []) (U := gwV) (by decide) (by decide)) (sC.rfl.t2 hc2 (S := []) (U := gwC) (by decide) (by decide))
      have q2 := (hc2 19 (by decide)).trans (Eq.refl (C1 19))
      refine i_aload_n dX11_readsPattern_37 rfl ?_
      refine i_aload_n dX11_readsPattern_38 rfl ?_
      refine t_getI (v := V1 34) dX11_readsPattern_39 fX11_144 (by decide) (by omega) ?_
      refine i_iload_n dX11_readsPattern_42 rfl ?_
      refine t_callV (As := [_, _]) dX11_readsPattern_43 cfX11_edge imX11_edge seX11_edge lX11_140 rfl rfl rfl (Nat.le_of_ble_eq_true rfl) ?_
      have n3 := hP2.nn
      refine k_edgeP hP2 (by omega) (by omega) (by omega) (by omega) (fun V3 C3 hP3 hM3 hv3 hc3 => RK.n0 ?_)
      have e3_7 : V3 7 = V2 7 := hv3 7 (by decide)
      have e3_8 : V3 8 = V2 8 := hv3 8 (by decide)
      have e3_9 : V3 9 = V2 9 := hv3 9 (by decide)
      have e3_20 : V3 20 = V2 20 := hv3 20 (by decide)
      have e3_31 : V3 31 = V2 31 := hv3 31 (by decide)
      have e3_32 : V3 32 = V2 32 := hv3 32 (by decide)
      have e3_33 : V3 33 = V2 33 := hv3 33 (by decide)
      have e3_34 : V3 34 = V2 34 := hv3 34 (by decide)
      have e3_35 : V3 35 = V2 35 := hv3 35 (by decide)
      have e3_36 : V3 36 = V2 36 := hv3 36 (by decide)
      have G3 := G2.edge (a := (V1 34)) (b := (V 20 + 1)) (by omega) (by omega) (hv3 20 (by decide)) (hv3 31 (by decide)) (hc3 19 (by decide)) (sV.rfl.t2 hv3 (S := []) (U := gwV) (by decide) (by decide)) (sC.rfl.t2 hc3 (S := []) (U := gwC) (by decide) (by decide))
      have q3 := (hc3 19 (by decide)).trans q2
      refine i_aload_n dX11_readsPattern_46 rfl ?_
      refine t_callV (As := []) dX11_readsPattern_47 cfX11_ahead imX11_ahead seX11_ahead lX11_128 rfl rfl rfl (Nat.le_of_ble_eq_true rfl) ?_
      refine k_aheadP (a := V1 31) (by omega) hP3.1.1.2.1 hP3.1.2.1 hP3.1.2.2.1 hP3.2.1.1 (RK.v ?_)
      refine i_bipush dX11_readsPattern_50 (by decide) ?_
      refine i_icmp_ne (tgt := 59) dX11_readsPattern_52 (by decide) (by omega) (by omega) (fun c52 => ?_) (fun c52 => ?_)
      · -- jumps
        refine i_const dX11_readsPattern_59 ?_
        refine i_istore dX11_readsPattern_60 (L' := [some _, some _, some _, some _, some _]) (by decide) rfl ?_
        refine i_aload_n dX11_readsPattern_62 rfl ?_
        refine i_dup dX11_readsPattern_63 rfl ?_
        refine t_getI (v := V1 31) dX11_readsPattern_64 fX11_125 (by decide) (by omega) ?_
        refine i_iload dX11_readsPattern_67 rfl ?_
        refine i_if_eq (tgt := 76) dX11_readsPattern_69 (by decide) (by decide) (fun c69 => ?_) (fun c69 => by omega)
        refine i_const dX11_readsPattern_76 ?_
        refine i_add dX11_readsPattern_77 ?_
        refine t_put dX11_readsPattern_78 fX11_125 (by decide) rfl rfl ?_
        refine i_goto (tgt := 13) dX11_readsPattern_81 (by decide) ?_
        refine i_iload dX11_readsPattern_13 rfl ?_
        refine i_if_eq (tgt := 84) dX11_readsPattern_15 (by decide) (by decide) (fun c15 => ?_) (fun c15 => by omega)
        refine i_aload_n dX11_readsPattern_84 rfl ?_
        refine i_iload_n dX11_readsPattern_85 rfl ?_
        refine t_put dX11_readsPattern_86 fX11_137 (by decide) rfl rfl ?_
        refine i_aload_n dX11_readsPattern_89 rfl ?_
        refine i_iload_n dX11_readsPattern_90 rfl ?_
        refine t_put dX11_readsPattern_91 fX11_144 (by decide) rfl rfl ?_
        refine i_const dX11_readsPattern_94 ?_
        refine i_ireturn dX11_readsPattern_95 rfl rfl ?_
        refine m_gen (fun V4 hV4 C4 hC4 J4 hJ4 => ?_)
        have v4_7 : V4 7 = V3 7 := by rw [hV4]; rfl
        have v4_8 : V4 8 = V3 8 := by rw [hV4]; rfl
        have v4_9 : V4 9 = V3 9 := by rw [hV4]; rfl
        have v4_20 : V4 20 = V3 20 := by rw [hV4]; rfl
        have v4_21 : V4 21 = V3 21 := by rw [hV4]; rfl
        have v4_31 : V4 31 = V1 31 + 0 := by rw [hV4]; rfl
        have v4_32 : V4 32 = V3 32 := by rw [hV4]; rfl
        have v4_33 : V4 33 = V 20 := by rw [hV4]; rfl
        have v4_34 : V4 34 = V 20 + 1 := by rw [hV4]; rfl
        have v4_35 : V4 35 = V3 35 := by rw [hV4]; rfl
        have v4_36 : V4 36 = V3 36 := by rw [hV4]; rfl
        have sv4 : sV gwV V3 V4 := by rw [hV4]; repeat' (first | exact sV.rfl | refine sV.vu ?_ (by decide))
        clear hV4; subst hC4; subst hJ4
        have hP4 := hP3.cg (V1 := V4) (lp1 := lp1) (dep1 := dep) (by omega) (by omega) (by omega) (by omega) (by omega) (by omega) (by omega) (by omega) (by omega) (by omega) (by omega)
        exact hpT _ _ _ _ _ _ _ _ (mPaI.fin hI hb1 rfl hP4 (G3.keep (by omega) (by omega) (Eq.refl _) sv4 sC.rfl) (by omega) q3 (fun q => ⟨hx1 q, by omega⟩) (by omega) (by omega) (by omega) (by omega))
      · -- on
        refine i_const dX11_readsPattern_55 ?_
        refine i_goto (tgt := 60) dX11_readsPattern_56 (by decide) ?_
        refine i_istore dX11_readsPattern_60 (L' := [some _, some _, some _, some _, some _]) (by decide) rfl ?_
        refine i_aload_n dX11_readsPattern_62 rfl ?_
        refine i_dup dX11_readsPattern_63 rfl ?_
        refine t_getI (v := V1 31) dX11_readsPattern_64 fX11_125 (by decide) (by omega) ?_
        refine i_iload dX11_readsPattern_67 rfl ?_
        refine i_if_eq (tgt := 76) dX11_readsPattern_69 (by decide) (by decide) (fun c69 => by omega) (fun c69 => ?_)
        refine i_const dX11_readsPattern_72 ?_
        refine i_goto (tgt := 77) dX11_readsPattern_73 (by decide) ?_
        refine i_add dX11_readsPattern_77 ?_
        refine t_put dX11_readsPattern_78 fX11_125 (by decide) rfl rfl ?_
        refine i_goto (tgt := 13) dX11_readsPattern_81 (by decide) ?_
        refine i_iload dX11_readsPattern_13 rfl ?_
        refine i_if_eq (tgt := 84) dX11_readsPattern_15 (by decide) (by decide) (fun c15 => by omega) (fun c15 => ?_)
        refine RW.wk (L' := [some _, some _, some _, some _, none]) (p_subL.at (by repeat (first | exact subL_nil | refine subL_s ?_ | refine subL_n ?_))) ?_
        refine RW.gen (fun V5 hV5 C5 hC5 J5 hJ5 => ?_)
        have v5_7 : V5 7 = V3 7 := by rw [hV5]; rfl
        have v5_8 : V5 8 = V3 8 := by rw [hV5]; rfl
        have v5_9 : V5 9 = V3 9 := by rw [hV5]; rfl
        have v5_20 : V5 20 = V3 20 := by rw [hV5]; rfl
        have v5_21 : V5 21 = V3 21 := by rw [hV5]; rfl
        have v5_31 : V5 31 = V1 31 + 1 := by rw [hV5]; rfl
        have v5_32 : V5 32 = V3 32 := by rw [hV5]; rfl
        have v5_33 : V5 33 = V3 33 := by rw [hV5]; rfl
        have v5_34 : V5 34 = V3 34 := by rw [hV5]; rfl
        have v5_35 : V5 35 = V3 35 := by rw [hV5]; rfl
        have v5_36 : V5 36 = V3 36 := by rw [hV5]; rfl
        have sv5 : sV gwV V3 V5 := by rw [hV5]; repeat' (first | exact sV.rfl | refine sV.vu ?_ (by decide))
        clear hV5; subst hC5; subst hJ5
        have hP5 := hP3.cg (V1 := V5) (lp1 := lp1) (dep1 := dep) (by omega) (by omega) (by omega) (by omega) (by omega) (by omega) (by omega) (by omega) (by omega) (by omega) (by omega)
        refine ih _ ?_ _ _ _ _ _ _ _ _ rfl (mPaI.bar hI hb1 rfl hP5 (G3.keep (by omega) (by omega) (Eq.refl _) sv5 sC.rfl) (by omega) q3 (by omega) (by omega) (by omega) (by omega))
        omega
theorem k_pattern {D : Nat} (hBr : kBra G Y h0 (D + 3) bs sz s w0 dep) : kPat G Y h0 (D + 4) bs sz s w0 dep := by
  intro P J V C E n lp st fo outer h hlen hb hz hpF hpT
  refine RM.of (L := [some (.ref (Y 38)), some (.int (iI s)), none, none, none]) cfX11_readsPattern rfl (Nat.le_of_ble_eq_true rfl) ?_
  have a0 := h.1
  have a2 := h.nn
  have G0 := mGw.rfl h
  refine i_aload_n dX11_readsPattern_0 rfl ?_
  refine t_callV (As := []) dX11_readsPattern_1 cfX11_node imX11_node seX11_node lX11_131 rfl rfl rfl (Nat.le_of_ble_eq_true rfl) ?_
  have n1 := h.nn
  refine k_nodeP h (by omega) (fun V1 C1 hP1 hN1 hL1 hv1 hc1 => RK.v ?_)
  have e1_7 : V1 7 = V 7 := hv1 7 (by decide)
  have e1_8 : V1 8 = V 8 := hv1 8 (by decide)
  have e1_9 : V1 9 = V 9 := hv1 9 (by decide)
  have e1_21 : V1 21 = V 21 := hv1 21 (by decide)
  have e1_31 : V1 31 = V 31 := hv1 31 (by decide)
  have e1_32 : V1 32 = V 32 := hv1 32 (by decide)
  have e1_33 : V1 33 = V 33 := hv1 33 (by decide)
  have e1_34 : V1 34 = V 34 := hv1 34 (by decide)
  have e1_35 : V1 35 = V 35 := hv1 35 (by decide)
  have e1_36 : V1 36 = V 36 := hv1 36 (by decide)
  have G1 := G0.keep (by omega) (by omega) (hc1 19 (by decide)) (sV.rfl.t2 hv1 (S := []) (U := gwV) (by decide) (by decide)) (sC.rfl.t2 hc1 (S := []) (U := gwC) (by decide) (by decide))
  refine i_istore_n dX11_readsPattern_4 (L' := [some _, some _, some _, none, none]) (by decide) rfl ?_
  refine i_aload_n dX11_readsPattern_5 rfl ?_
  refine t_callV (As := []) dX11_readsPattern_6 cfX11_node imX11_node seX11_node lX11_131 rfl rfl rfl (Nat.le_of_ble_eq_true rfl) ?_
  have n2 := hP1.nn
  refine k_nodeP hP1 (by omega) (fun V2 C2 hP2 hN2 hL2 hv2 hc2 => RK.v ?_)
  have e2_7 : V2 7 = V1 7 := hv2 7 (by decide)
  have e2_8 : V2 8 = V1 8 := hv2 8 (by decide)
  have e2_9 : V2 9 = V1 9 := hv2 9 (by decide)
  have e2_21 : V2 21 = V1 21 := hv2 21 (by decide)
  have e2_31 : V2 31 = V1 31 := hv2 31 (by decide)
  have e2_32 : V2 32 = V1 32 := hv2 32 (by decide)
  have e2_33 : V2 33 = V1 33 := hv2 33 (by decide)
  have e2_34 : V2 34 = V1 34 := hv2 34 (by decide)
  have e2_35 : V2 35 = V1 35 := hv2 35 (by decide)
  have e2_36 : V2 36 = V1 36 := hv2 36 (by decide)
  have G2 := G1.keep (by omega) (by omega) (hc2 19 (by decide)) (sV.rfl.t2 hv2 (S := []) (U := gwV) (by decide) (by decide)) (sC.rfl.t2 hc2 (S := []) (U := gwC) (by decide) (by decide))
  refine RW.ti (show V1 20 = V 20 + 1 by omega) ?_
  refine i_istore_n dX11_readsPattern_9 (L' := [some _, some _, some _, some _, none]) (by decide) rfl ?_
  refine i_const dX11_readsPattern_10 ?_
  refine i_istore dX11_readsPattern_11 (L' := [some _, some _, some _, some _, some _]) (by decide) rfl ?_
  refine i_iload dX11_readsPattern_13 rfl ?_
  refine i_if_eq (tgt := 84) dX11_readsPattern_15 (by decide) (by decide) (fun c15 => by omega) (fun c15 => ?_)
  refine RW.wk (L' := [some _, some _, some _, some _, none]) (p_subL.at (by repeat (first | exact subL_nil | refine subL_s ?_ | refine subL_n ?_))) ?_
  exact k_pat_l hBr hlen hpF hpT _ _ _ _ _ _ _ _ _ rfl (mPaI.nil h hz hP2 G2 (by omega) (by omega) (by omega) hb)
theorem k_readsP {d : Nat} : ∀ (k : Nat) (dep : Int), 20 - dep ≤ k → kPat G Y h0 (d + (4 * k + 4)) bs sz s w0 dep
  | 0, dep, hk => k_pattern (D := d) (k_branch (k_piece (k_atom (fun q => absurd q (by omega)))))
  | k + 1, dep, hk => by
    have e : d + (4 * (k + 1) + 4) = d + (4 * k + 4) + 4 := by omega
    rw [e]
    exact k_pattern (k_branch (k_piece (k_atom (fun q => k_readsP k (dep + 1) (by omega)))))
end M32
