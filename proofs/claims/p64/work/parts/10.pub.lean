/-! ===== the reference: rows copied, small public calls ===== -/
theorem if_cg {α : Type} {c d : Prop} [Decidable c] [Decidable d] {x y : α} (h : c ↔ d) : (if c then x else y) = if d then x else y := by
  by_cases q : c
  · rw [if_pos q, if_pos (h.mp q)]
  · rw [if_neg q, if_neg (fun z => q (h.mpr z))]
def m_sc : List Nat := [1, 13, 14, 15, 16, 17, 18, 19, 23, 24, 25, 26, 30, 37]
def m_sv : List Nat := [12, 20, 21, 22, 27, 28, 31, 32, 33, 34, 35, 36]
section M10
variable {G : p_G} {Y : Nat → Nat} {h0 : p_H} {P : (Option Value) ⊕ String → m_X → Prop} {d : Nat} {V : Nat → Int} {C : Nat → Int → Int} {J : Int → Int}
theorem RW.gen {G : p_G} {M : p_M} {I : m_X → p_H → Prop} {P : (Option Value) ⊕ String → m_X → Prop} {d k n pc : Nat} {L : p_LL} {st : List Value} {V : Nat → Int} {C : Nat → Int → Int} {J : Int → Int} (kk : ∀ V1, V1 = V → ∀ C1, C1 = C → ∀ J1, J1 = J → RW G M I P d k n pc L st (V1, C1, J1)) : RW G M I P d k n pc L st (V, C, J) := kk V rfl C rfl J rfl
/-- a world is put behind those remembered, of eight the oldest is lost -/
def mRem (V V' : Nat → Int) (C C' : Nat → Int → Int) (w0 : Int → Int) : Prop := sV [4] V V' ∧ sC [2] C C' ∧ V' 4 = (if V 4 = 8 then 7 else V 4) + 1 ∧ (∀ i j, 0 ≤ i → i < V' 4 - 1 → 0 ≤ j → j < 985 → C' 2 (985 * i + j) = C 2 (985 * (if V 4 = 8 then i + 1 else i) + j)) ∧ ∀ j, 0 ≤ j → j < 985 → C' 2 (985 * (V' 4 - 1) + j) = w0 j
end M10
