/-! ===== the reference: compile, homeShare, meanSetSize ===== -/
/-- what a compile does that finds no error -/
def mCmp (V V' : Nat → Int) (C C' : Nat → Int → Int) (w' : Int → Int) : Prop := (V' 12 = 0 ∧ V' 7 = 0 ∧ V' 8 = 0 ∧ V' 9 = -1) ∧ sV (4 :: 7 :: 8 :: 9 :: m_sv) V V' ∧ sC (0 :: 2 :: 18 :: m_sc) C C' ∧ (∀ j, 0 ≤ j → j < 985 → C' 0 j = w' j) ∧ V' 4 = (if V 4 = 8 then 7 else V 4) + 1 ∧ (∀ i j, 0 ≤ i → i < V' 4 - 1 → 0 ≤ j → j < 985 → C' 2 (985 * i + j) = C 2 (985 * (if V 4 = 8 then i + 1 else i) + j)) ∧ ∀ j, 0 ≤ j → j < 985 → C' 2 (985 * (V' 4 - 1) + j) = C 0 j
theorem mCmp.of {V V2 V3 : Nat → Int} {C C2 C3 : Nat → Int → Int} {w' : Int → Int} (hr : mRem V2 V3 C2 C3 (C 0)) (h2 : sC (0 :: 18 :: m_sc) C C2) (hw : ∀ j, 0 ≤ j → j < 985 → C2 0 j = w' j) (hv : sV (7 :: 8 :: 9 :: m_sv) V V2) (h7 : V2 7 = 0) (h8 : V2 8 = 0) (h9 : V2 9 = -1) (h12 : V2 12 = 0) : mCmp V V3 C C3 w' := by
  obtain ⟨r1, r2, r3, r4, r5⟩ := hr
  have e4 : V2 4 = V 4 := hv 4 (by decide)
  have e2 : C2 2 = C 2 := h2 2 (by decide)
  refine ⟨⟨(r1 12 (by decide)).trans h12, (r1 7 (by decide)).trans h7, (r1 8 (by decide)).trans h8, (r1 9 (by decide)).trans h9⟩, hv.t2 r1 (by decide) (by decide), h2.t2 r2 (by decide) (by decide), fun j a b => (congrFun (r2 0 (by decide)) j).trans (hw j a b), ?_, fun i j a b c e => ?_, r5⟩
  · rw [r3, e4]
  · rw [r4 i j a b c e, e4, e2]
/-- what a compile does that finds an error -/
def mFai (V V' : Nat → Int) (C C' : Nat → Int → Int) (kd off : Int) : Prop := (V' 12 = 0 ∧ V' 7 = 0 ∧ V' 8 = kd ∧ V' 9 = off) ∧ sV (7 :: 8 :: 9 :: m_sv) V V' ∧ sC (0 :: 18 :: m_sc) C C' ∧ ∀ j, 0 ≤ j → j < 985 → C' 0 j = C 0 j
section M37
variable {G : p_G} {Y : Nat → Nat} {h0 : p_H} {P : (Option Value) ⊕ String → m_X → Prop} {d : Nat} {V : Nat → Int} {C : Nat → Int → Int} {J : Int → Int}
/-- walkers in accepting states -/
def wHm (w : Int → Int) (k : Int) : Int := zsum (fun k => zb (wAcc w (w (953 + 3 * k + 0)) (w (953 + 3 * k + 1)))) k.toNat
theorem wHm_rg {w : Int → Int} {k : Int} (h : 0 ≤ k) : 0 ≤ wHm w k ∧ wHm w k ≤ k := by
  unfold wHm
  have := @zsum_rg (fun k => zb (wAcc w (w (953 + 3 * k + 0)) (w (953 + 3 * k + 1)))) k.toNat (fun j _ _ => zb_01)
  omega
theorem wHm_s {w : Int → Int} {k : Int} (h : 0 ≤ k) : wHm w (k + 1) = wHm w k + zb (wAcc w (w (953 + 3 * k + 0)) (w (953 + 3 * k + 1))) := zsum_s h
/-- the sizes of the first t sets -/
def wSz (w : Int → Int) (s t : Int) : Int := zsum (fun j => zpc 31 (w (476 * s + (56 + j)) - w (476 * s + (56 + j)) % 2).toNat) t.toNat
theorem zpc_rg : ∀ k x : Nat, 0 ≤ zpc k x ∧ zpc k x ≤ k
  | 0, _ => ⟨Int.le_refl _, Int.le_refl _⟩
  | k + 1, x => by
    have := zpc_rg k (x / 2)
    show 0 ≤ ((x % 2 : Nat) : Int) + zpc k (x / 2) ∧ ((x % 2 : Nat) : Int) + zpc k (x / 2) ≤ ((k + 1 : Nat) : Int)
    omega
theorem wSz_rg {w : Int → Int} {s t : Int} (h : 0 ≤ t) : 0 ≤ wSz w s t ∧ wSz w s t ≤ t * 31 := by
  unfold wSz
  have := @zsum_le (fun j => zpc 31 (w (476 * s + (56 + j)) - w (476 * s + (56 + j)) % 2).toNat) 31 t.toNat (fun j _ _ => zpc_rg 31 _)
  omega
end M37
