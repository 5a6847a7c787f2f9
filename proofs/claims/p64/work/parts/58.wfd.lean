/-! ===== the class: words found are written ===== -/
theorem cSr.lnle {V : Nat → Int} {C : Nat → Int → Int} {nx : Int → Int → Int} {al : Int → Prop} {s0 k c : Int} {cd : Int → Nat} (h : cSr V C nx al s0 k c cd) : ∀ (m : Nat) (i : Int), i = m → i < V 12 → (zln (cd i) : Int) ≤ i := by
  intro m
  induction m using Nat.strongRecOn with
  | _ m ih =>
    intro i e h1
    by_cases z : i = 0
    · rw [z, h.1.2.1.2, zln_0]; decide
    · have q := h.2.2.2.2 i (by omega) h1
      have l := h.ln (i := i) (by omega) h1
      have r := ih (C 14 i).toNat (by omega) (C 14 i) (by omega) (by omega)
      omega
section C58
variable {G : p_G} {Y : Nat → Nat} {h0 : p_H} {P : (Option Value) ⊕ String → c_X → Prop} {d : Nat} {V : Nat → Int} {C : Nat → Int → Int} {J : c_J}
theorem cSI.cg {V V' : Nat → Int} {C C' : Nat → Int → Int} (h : cSI V C) (hV : V' 12 = V 12) (h12 : C' 12 = C 12) (h13 : C' 13 = C 13) : cSI V' C' := by
  unfold cSI
  rw [hV, h12, h13]
  exact h
variable {w : Int → Int}
end C58
