/-! ===== the reference: pairs of states ===== -/
abbrev wNx2 (w : Int → Int) (s s2 : Int) : Int → Int → Int := fun y c => 60 * w (476 * s + (116 + 6 * (y / 60) + c)) + w (476 * s2 + (116 + 6 * (y % 60) + c))
abbrev wG0 (w : Int → Int) : Int → Prop := fun y => ¬ (wAcc w 0 (y / 60) ↔ wAcc w 1 (y % 60))
abbrev wG1 (w : Int → Int) (s s2 : Int) : Int → Prop := fun y => wAcc w s (y / 60) ∧ wAcc w s2 (y % 60)
abbrev zTr : Int → Prop := fun _ => True
/-- a pair is valid -/
abbrev wVal (w : Int → Int) (s s2 y : Int) : Prop := 0 ≤ y ∧ y < 3600 ∧ y / 60 < w (476 * s + 5) ∧ y % 60 < w (476 * s2 + 5)
theorem wVal.nx {w : Int → Int} (hO : wOK w) {s s2 y c : Int} (hs : s = 0 ∨ s = 1) (hs2 : s2 = 0 ∨ s2 = 1) (h : wVal w s s2 y) (c0 : 0 ≤ c) (c1 : c < 6) : wVal w s s2 (wNx2 w s s2 y c) := by
  have a := hO.nxt hs (t := y / 60) (by omega) h.2.2.1 c0 c1
  have b := hO.nxt hs2 (t := y % 60) (by omega) h.2.2.2 c0 c1
  have m1 := hO.sts hs
  have m2 := hO.sts hs2
  unfold wVal wNx2
  have e1 : (60 * w (476 * s + (116 + 6 * (y / 60) + c)) + w (476 * s2 + (116 + 6 * (y % 60) + c))) / 60 = w (476 * s + (116 + 6 * (y / 60) + c)) := by omega
  have e2 : (60 * w (476 * s + (116 + 6 * (y / 60) + c)) + w (476 * s2 + (116 + 6 * (y % 60) + c))) % 60 = w (476 * s2 + (116 + 6 * (y % 60) + c)) := by omega
  rw [e1, e2]
  omega
/-- the first node of the queue that has G, of those before k -/
def wHit (nx : Int → Int → Int) (al : Int → Prop) (s0 : Int) (G : Int → Prop) (Q : Int → Int) (v e k : Int) (cd : Int → Nat) : Prop := (v = -1 ∧ ∀ i, 0 ≤ i → i < k → ¬ G (Q i)) ∨ ∃ i, 0 ≤ i ∧ i < e ∧ v = Q i ∧ zMin nx al s0 G (cd i)
/-- where a node comes from -/
def wCh (Q Fr Al : Int → Int) (e : Int) (cd : Int → Nat) : Prop := Fr (Q 0) = -1 ∧ ∀ i, 0 < i → i < e → ∃ j, 0 ≤ j ∧ j < i ∧ Fr (Q i) = Q j ∧ (cd i : Int) = 6 * cd j + Al (Q i) + 1 ∧ 0 ≤ Al (Q i) ∧ Al (Q i) < 6
section WH
variable {nx : Int → Int → Int} {al : Int → Prop} {s0 v e k : Int} {G : Int → Prop} {Q : Int → Int} {cd : Int → Nat}
theorem wHit.add (h : wHit nx al s0 G Q v e k cd) (hk : k ≤ e) {Q' : Int → Int} {cd' : Int → Nat} {y : Int} (hq : ∀ j, Q' j = zu Q e y j) (hc : ∀ i, i ≠ e → cd' i = cd i) : wHit nx al s0 G Q' v (e + 1) k cd' := by
  rcases h with ⟨h1, h2⟩ | ⟨i, i0, i1, h1, h2⟩
  · exact Or.inl ⟨h1, fun i i0 i1 => by rw [hq, zu_ne (by omega)]; exact h2 i i0 i1⟩
  · exact Or.inr ⟨i, i0, by omega, by rw [hq, zu_ne (by omega)]; exact h1, by rw [hc i (by omega)]; exact h2⟩
theorem wHit.next (h : wHit nx al s0 G Q v e k cd) (hG : v = -1 → ¬ G (Q k)) : wHit nx al s0 G Q v e (k + 1) cd := by
  rcases h with ⟨h1, h2⟩ | h
  · refine Or.inl ⟨h1, fun i i0 i1 => ?_⟩
    by_cases z : i = k
    · rw [z]; exact hG h1
    · exact h2 i i0 (by omega)
  · exact Or.inr h
theorem wHit.hit {seen : Int → Prop} (h : wHit nx al s0 G Q (-1) e k cd) (hB : zBfs nx al s0 Q e k 0 cd seen) (hk : k < e) (hQ : ∀ i, 0 ≤ i → i < e → 0 ≤ Q i) (hG : G (Q k)) : wHit nx al s0 G Q (Q k) e (k + 1) cd := by
  have k0 := hB.1.2.1
  refine Or.inr ⟨k, k0, hk, rfl, hB.hit hk hG ?_⟩
  rcases h with ⟨_, h2⟩ | ⟨i, i0, i1, h1, _⟩
  · exact h2
  · have := hQ i i0 i1; omega
theorem wHit.rg (h : wHit nx al s0 G Q v e k cd) (hQ : ∀ i, 0 ≤ i → i < e → 0 ≤ Q i ∧ Q i < 3600) : -1 ≤ v ∧ v < 3600 := by
  rcases h with ⟨h1, _⟩ | ⟨i, i0, i1, h1, _⟩
  · omega
  · have := hQ i i0 i1
    omega
theorem wHit.fin {seen : Int → Prop} (h : wHit nx al s0 G Q v e e cd) (hB : zBfs nx al s0 Q e e 0 cd seen) (hQ : ∀ i, 0 ≤ i → i < e → 0 ≤ Q i) : (v = -1 ∧ zNo nx al s0 G) ∨ (0 ≤ v ∧ ∃ i, 0 ≤ i ∧ i < e ∧ v = Q i ∧ zMin nx al s0 G (cd i)) := by
  rcases h with ⟨h1, h2⟩ | ⟨i, i0, i1, h1, h2⟩
  · exact Or.inl ⟨h1, hB.no h2⟩
  · exact Or.inr ⟨by rw [h1]; exact hQ i i0 i1, i, i0, i1, h1, h2⟩
theorem wCh.add {Fr Al : Int → Int} (h : wCh Q Fr Al e cd) (he : 1 ≤ e) (k0 : 0 ≤ k) (hk : k < e) {c : Int} (c0 : 0 ≤ c) (c1 : c < 6) {y : Int} (hn : ∀ i, 0 ≤ i → i < e → Q i ≠ y) {cd' : Int → Nat} (hc : ∀ i, i ≠ e → cd' i = cd i) (hce : (cd' e : Int) = 6 * cd k + c + 1) : wCh (zu Q e y) (zu Fr y (Q k)) (zu Al y c) (e + 1) cd' := by
  obtain ⟨h1, h2⟩ := h
  refine ⟨by rw [zu_ne (by omega : (0 : Int) ≠ e), zu_ne (hn 0 (by omega) (by omega))]; exact h1, fun i i0 i1 => ?_⟩
  by_cases z : i = e
  · subst z
    refine ⟨k, k0, hk, ?_, ?_, ?_⟩
    · rw [zu_at, zu_at, zu_ne (by omega)]
    · rw [zu_at, zu_at, hc k (by omega)]; exact hce
    · rw [zu_at, zu_at]; exact ⟨c0, c1⟩
  · obtain ⟨j, j0, j1, j2, j3, j4⟩ := h2 i i0 (by omega)
    have q := hn i (by omega) (by omega)
    refine ⟨j, j0, j1, ?_, ?_, ?_⟩
    · rw [zu_ne z, zu_ne q, zu_ne (by omega)]; exact j2
    · rw [zu_ne z, zu_ne q, hc i z, hc j (by omega)]; exact j3
    · rw [zu_ne z, zu_ne q]; exact j4
end WH
/-- all pairs that words reach -/
def wPr (w : Int → Int) (V : Nat → Int) (C : Nat → Int → Int) (e k c : Int) (cd : Int → Nat) : Prop := wQ (wNx2 w 0 1) zTr 0 3600 (C 23) (C 26) e k c cd ∧ (∀ i, 0 ≤ i → i < e → wVal w 0 1 (C 23 i)) ∧ wCh (C 23) (C 24) (C 25) e cd
