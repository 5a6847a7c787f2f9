/-! ===== the reference: one object, its numbers V, its rows C and J, at the addresses Y ===== -/
section MRrules
variable {G : p_G} {M : p_M} {Y : Nat → Nat} {h0 : p_H} {d pc : Nat} {L : p_LL} {st : List Value} {V : Nat → Int} {C : Nat → Int → Int} {J : Int → Int}
theorem cu_cu {C : Nat → Int → Int} {k : Nat} {f g : Int → Int} : cu (cu C k f) k g = cu C k g := by
  funext j
  unfold cu
  by_cases e : j = k
  · rw [if_pos e, if_pos e]
  · rw [if_neg e, if_neg e, if_neg e]
theorem cu_at {C : Nat → Int → Int} {k : Nat} {f : Int → Int} : cu C k f k = f := if_pos rfl
end MRrules
