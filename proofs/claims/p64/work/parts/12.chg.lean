/-! ===== the reference: changes ===== -/
/-- what a change does: the numbers become w', the buffer's length t, the old numbers are remembered -/
def mCh (V V' : Nat → Int) (C C' : Nat → Int → Int) (w' : Int → Int) (t : Int) : Prop := V' 12 = 0 ∧ V' 7 = t ∧ sV (4 :: 7 :: m_sv) V V' ∧ sC (0 :: 2 :: m_sc) C C' ∧ (∀ j, 0 ≤ j → j < 985 → C' 0 j = w' j) ∧ V' 4 = (if V 4 = 8 then 7 else V 4) + 1 ∧ (∀ i j, 0 ≤ i → i < V' 4 - 1 → 0 ≤ j → j < 985 → C' 2 (985 * i + j) = C 2 (985 * (if V 4 = 8 then i + 1 else i) + j)) ∧ ∀ j, 0 ≤ j → j < 985 → C' 2 (985 * (V' 4 - 1) + j) = C 0 j
theorem mCh.of {V V2 V3 : Nat → Int} {C C1 C2 C3 : Nat → Int → Int} {w' : Int → Int} {t : Int} (hr : mRem V2 V3 C2 C3 (C 0)) (hb : sC [1] C C1) (h2 : sC (0 :: m_sc) C1 C2) (hw : ∀ j, 0 ≤ j → j < 985 → C2 0 j = w' j) (hv : sV (7 :: m_sv) V V2) (h7 : V2 7 = t) (h12 : V2 12 = 0) : mCh V V3 C C3 w' t := by
  obtain ⟨r1, r2, r3, r4, r5⟩ := hr
  have e4 : V2 4 = V 4 := hv 4 (by decide)
  have e2 : C2 2 = C 2 := (h2 2 (by decide)).trans (hb 2 (by decide))
  refine ⟨(r1 12 (by decide)).trans h12, (r1 7 (by decide)).trans h7, hv.t2 r1 (by decide) (by decide), (hb.t2 h2 (U := 0 :: m_sc) (by decide) (by decide)).t2 r2 (by decide) (by decide), fun j a b => (congrFun (r2 0 (by decide)) j).trans (hw j a b), ?_, fun i j a b c e => ?_, r5⟩
  · rw [r3, e4]
  · rw [r4 i j a b c e, e4, e2]
