/-! ===== the reference: ways written, both home ===== -/
section M25
variable {G : p_G} {Y : Nat → Nat} {h0 : p_H} {d : Nat} {V : Nat → Int} {C : Nat → Int → Int} {J : Int → Int}
theorem zdig_rg : ∀ (m n : Nat), 0 ≤ zdig n m ∧ zdig n m < 6
  | 0, n => by
    show 0 ≤ (((n - 1) % 6 : Nat) : Int) ∧ (((n - 1) % 6 : Nat) : Int) < 6
    omega
  | m + 1, n => zdig_rg m ((n - 1) / 6)
theorem wFin_ex {v e : Int} {Q : Int → Int} {A : Prop} {B : Int → Prop} (h : (v = -1 ∧ A) ∨ (0 ≤ v ∧ ∃ i, 0 ≤ i ∧ i < e ∧ v = Q i ∧ B i)) : ∃ i, v ≠ -1 → (0 ≤ i ∧ i < e ∧ v = Q i) ∧ B i := by
  rcases h with ⟨q, _⟩ | ⟨q0, i, i0, i1, q, q2⟩
  · exact ⟨0, fun z => absurd q z⟩
  · exact ⟨i, fun _ => ⟨⟨i0, i1, q⟩, q2⟩⟩
end M25
