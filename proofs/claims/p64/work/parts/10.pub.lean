/-! ===== the reference: rows copied, small public calls ===== -/
theorem if_cg {α : Type} {c d : Prop} [Decidable c] [Decidable d] {x y : α} (h : c ↔ d) : (if c then x else y) = if d then x else y := by
  by_cases q : c
  · rw [if_pos q, if_pos (h.mp q)]
  · rw [if_neg q, if_neg (fun z => q (h.mpr z))]
section M10
variable {G : p_G} {Y : Nat → Nat} {h0 : p_H} {d : Nat} {V : Nat → Int} {C : Nat → Int → Int} {J : Int → Int}
/-- a world is put behind those remembered, of eight the oldest is lost -/
def mRem (V V' : Nat → Int) (C C' : Nat → Int → Int) (w0 : Int → Int) : Prop := sV [4] V V' ∧ sC [2] C C' ∧ V' 4 = (if V 4 = 8 then 7 else V 4) + 1 ∧ (∀ i j, 0 ≤ i → i < V' 4 - 1 → 0 ≤ j → j < 985 → C' 2 (985 * i + j) = C 2 (985 * (if V 4 = 8 then i + 1 else i) + j)) ∧ ∀ j, 0 ≤ j → j < 985 → C' 2 (985 * (V' 4 - 1) + j) = w0 j
end M10
