/-! ===== the class: the first street home ===== -/
theorem zfst_c {n c : Nat} (h : c < 6) : zfst (6 * n + c + 1) = if n = 0 then c else zfst n := by
  rw [zfst]
  by_cases z : n = 0
  · rw [if_pos z, if_pos (by omega), z]; omega
  · rw [if_neg z, if_neg (by omega), show (6 * n + c) / 6 = n by omega]
theorem cSr.fst {V : Nat → Int} {C : Nat → Int → Int} {nx : Int → Int → Int} {al : Int → Prop} {s0 k c : Int} {cd : Int → Nat} (h : cSr V C nx al s0 k c cd) {i : Int} (h0 : 1 ≤ i) (h1 : i < V 12) : (C 14 i = 0 ∧ (zfst (cd i) : Int) = C 15 i) ∨ (1 ≤ C 14 i ∧ zfst (cd i) = zfst (cd (C 14 i))) := by
  have q := h.2.2.2.2 i h0 h1
  have e : cd i = 6 * cd (C 14 i) + (C 15 i).toNat + 1 := by omega
  have z0 := h.1.2.1.2
  rw [e, zfst_c (by omega)]
  by_cases z : C 14 i = 0
  · rw [z, z0, if_pos rfl]; exact Or.inl ⟨rfl, by omega⟩
  · have := h.1.2.2.2.1 0 (C 14 i) (by decide) (by omega) (by omega)
    rw [if_neg (by omega)]
    exact Or.inr ⟨by omega, rfl⟩
