/-! ===== the class: the rows of a search ===== -/
/-- between two searches -/
def cSI (V : Nat → Int) (C : Nat → Int → Int) : Prop := (0 ≤ V 12 ∧ V 12 ≤ 3600) ∧ (∀ y, 0 ≤ y → y < 3600 → C 12 y = 0 ∨ C 12 y = 1) ∧ (∀ i, 0 ≤ i → i < V 12 → 0 ≤ C 13 i ∧ C 13 i < 3600) ∧ ∀ y, 0 ≤ y → y < 3600 → C 12 y = 1 → ∃ i, (0 ≤ i ∧ i < V 12) ∧ C 13 i = y
/-- a search: pairs C 13, found from C 14 by C 15, marked in C 12; V 12 of them -/
def cSr (V : Nat → Int) (C : Nat → Int → Int) (nx : Int → Int → Int) (al : Int → Prop) (s0 k c : Int) (cd : Int → Nat) : Prop :=
  zBfs nx al s0 (C 13) (V 12) k c cd (fun y => (0 ≤ y ∧ y < 3600) ∧ C 12 y = 1) ∧ (∀ y, 0 ≤ y → y < 3600 → C 12 y = 0 ∨ C 12 y = 1) ∧ (∀ i, 0 ≤ i → i < V 12 → 0 ≤ C 13 i ∧ C 13 i < 3600) ∧ (V 12 = zsum (fun y => zb (C 12 y = 1)) 3600 ∧ C 14 0 = -1 ∧ C 15 0 = -1) ∧ ∀ i, 1 ≤ i → i < V 12 → (0 ≤ C 14 i ∧ C 14 i < i) ∧ (0 ≤ C 15 i ∧ C 15 i < 6) ∧ (cd i : Int) = 6 * (cd (C 14 i) : Int) + C 15 i + 1
section C43a
variable {V V' : Nat → Int} {C C' : Nat → Int → Int} {nx : Int → Int → Int} {al : Int → Prop} {s0 k c : Int} {cd : Int → Nat}
theorem cSr.SI (h : cSr V C nx al s0 k c cd) : cSI V C := by
  obtain ⟨h1, h2, h3, h4, h5⟩ := h
  have r := @zsum_rg (fun y => zb (C 12 y = 1)) 3600 (fun j _ _ => zb_01)
  refine ⟨⟨by have := h1.1; omega, by have := h4.1; omega⟩, h2, h3, fun y y0 y1 q => ?_⟩
  obtain ⟨i, i0, i1, e⟩ := (h1.2.2.2.2.2.2 y).mp ⟨⟨y0, y1⟩, q⟩
  exact ⟨i, ⟨i0, i1⟩, e⟩
theorem cSr.le (h : cSr V C nx al s0 k c cd) : 1 ≤ V 12 ∧ V 12 ≤ 3600 := by
  have r := @zsum_rg (fun y => zb (C 12 y = 1)) 3600 (fun j _ _ => zb_01)
  have := h.2.2.2.1.1
  have := h.1.1
  omega
/-- room for one that isn't marked -/
theorem zs_up {f : Int → Int} {y : Int} (hy : 0 ≤ y ∧ y < 3600) (hn : f y ≠ 1) : zsum (fun j => zb (zu f y 1 j = 1)) 3600 = zsum (fun j => zb (f j = 1)) 3600 + 1 := by
  rw [zsum_up (f := fun j => zb (zu f y 1 j = 1)) (g := fun j => zb (f j = 1)) hy.1 _ (by omega) (fun j hj => by simp only [zu_ne hj])]
  simp only [zu_at]
  rw [zb_t trivial, zb_f hn]; omega
theorem cSr.lt (h : cSr V C nx al s0 k c cd) {y : Int} (hy : 0 ≤ y ∧ y < 3600) (hn : C 12 y ≠ 1) : V 12 < 3600 := by
  have e := h.2.2.2.1.1
  have u := zs_up hy hn
  have r := @zsum_rg (fun j => zb (zu (C 12) y 1 j = 1)) 3600 (fun j _ _ => zb_01)
  omega
theorem cSr.init (hs : 0 ≤ s0 ∧ s0 < 3600) (hz : ∀ y, 0 ≤ y → y < 3600 → C 12 y = 0) (h12 : C' 12 = zu (C 12) s0 1) (h13 : C' 13 0 = s0) (h14 : C' 14 0 = -1) (h15 : C' 15 0 = -1) (hV : V 12 = 1) : cSr V C' nx al s0 0 0 (fun _ => 0) := by
  have e : ∀ y, 0 ≤ y → y < 3600 → (C' 12 y = 1 ↔ y = s0) := fun y y0 y1 => by
    rw [h12]
    by_cases z : y = s0
    · rw [z, zu_at]; exact iff_of_true rfl rfl
    · rw [zu_ne z, hz y y0 y1]; exact iff_of_false (by decide) z
  refine ⟨?_, fun y y0 y1 => ?_, fun i i0 i1 => ?_, ⟨?_, h14, h15⟩, fun i i0 i1 => by omega⟩
  · rw [hV]
    refine zBfs.init h13 (fun y => ?_)
    constructor
    · rintro ⟨hy, q⟩; exact (e y hy.1 hy.2).mp q
    · rintro rfl; exact ⟨hs, (e y hs.1 hs.2).mpr rfl⟩
  · rw [h12]
    by_cases z : y = s0
    · rw [z, zu_at]; exact Or.inr rfl
    · rw [zu_ne z, hz y y0 y1]; exact Or.inl rfl
  · obtain rfl : i = 0 := by omega
    rw [h13]; exact hs
  · rw [hV, h12, zs_up hs (by rw [hz s0 hs.1 hs.2]; decide)]
    rw [zsum_cg (g := fun _ => 0) 3600 (fun j j0 j1 => by rw [hz j j0 (by omega), zb_f (by decide)]), zsum_00]
    rfl
theorem cSr.skip (h : cSr V C nx al s0 k c cd) (hk : k < V 12) (hs : ¬ al c ∨ ((0 ≤ nx (C 13 k) c ∧ nx (C 13 k) c < 3600) ∧ C 12 (nx (C 13 k) c) = 1)) : cSr V C nx al s0 k (c + 1) cd := ⟨h.1.skip hk hs, h.2⟩
theorem cSr.next (h : cSr V C nx al s0 k 6 cd) (hk : k < V 12) : cSr V C nx al s0 (k + 1) 0 cd := ⟨h.1.next hk, h.2⟩
theorem cSr.add {y : Int} (h : cSr V C nx al s0 k c cd) (hk : k < V 12) (hc : 0 ≤ c ∧ c < 6) (ha : al c) (hy : y = nx (C 13 k) c) (hr : 0 ≤ y ∧ y < 3600) (hn : C 12 y ≠ 1) (h12 : C' 12 = zu (C 12) y 1) (h13 : C' 13 = zu (C 13) (V 12) y) (h14 : C' 14 = zu (C 14) (V 12) k) (h15 : C' 15 = zu (C 15) (V 12) c) (hV : V' 12 = V 12 + 1) : ∃ cd', cSr V' C' nx al s0 k (c + 1) cd' := by
  obtain ⟨h1, h2, h3, h4, h5⟩ := id h
  have hk0 := h1.1
  obtain ⟨cd', a1, a2, a3⟩ := h1.add hk hc.2 ha (fun q => hn (by rw [hy]; exact q.2)) (q' := C' 13) (seen' := fun j => (0 ≤ j ∧ j < 3600) ∧ C' 12 j = 1) (fun j => by rw [h13, hy]) (fun j => by
    rw [h12, ← hy]
    by_cases z : j = y
    · rw [z, zu_at]; exact iff_of_true ⟨hr, rfl⟩ (Or.inr rfl)
    · rw [zu_ne z]; exact ⟨Or.inl, fun q => q.elim id (fun q => absurd q z)⟩)
  refine ⟨cd', by rw [hV]; exact a1, fun j j0 j1 => ?_, fun i i0 i1 => ?_, ⟨?_, ?_, ?_⟩, fun i i0 i1 => ?_⟩
  · rw [h12]
    by_cases z : j = y
    · rw [z, zu_at]; exact Or.inr rfl
    · rw [zu_ne z]; exact h2 j j0 j1
  · rw [h13]
    by_cases z : i = V 12
    · rw [z, zu_at]; exact hr
    · rw [zu_ne z]; exact h3 i i0 (by omega)
  · rw [h12, zs_up hr hn, hV, h4.1]
  · rw [h14, zu_ne (by omega)]; exact h4.2.1
  · rw [h15, zu_ne (by omega)]; exact h4.2.2
  · rw [h14, h15]
    by_cases z : i = V 12
    · rw [z, zu_at, zu_at, a2 k (by omega)]
      exact ⟨by omega, hc, a3⟩
    · rw [zu_ne z, zu_ne z]
      have q := h5 i i0 (by omega)
      rw [a2 i z, a2 (C 14 i) (by omega)]
      exact q
end C43a
section C43
variable {G : p_G} {Y : Nat → Nat} {h0 : p_H} {P : (Option Value) ⊕ String → c_X → Prop} {d : Nat} {V : Nat → Int} {C : Nat → Int → Int} {J : c_J}
/-- the steps of the way back -/
theorem cSr.ln {V : Nat → Int} {C : Nat → Int → Int} {nx : Int → Int → Int} {al : Int → Prop} {s0 k c : Int} {cd : Int → Nat} (h : cSr V C nx al s0 k c cd) {i : Int} (h0 : 1 ≤ i) (h1 : i < V 12) : zln (cd i) = zln (cd (C 14 i)) + 1 := by
  have q := h.2.2.2.2 i h0 h1
  have e : cd i = 6 * cd (C 14 i) + (C 15 i).toNat + 1 := by omega
  rw [e]
  exact zln_s (by omega)
end C43
