/-! ===== the class: all its cells together ===== -/
section C96a
variable {Y Y' : Nat → Nat} {A' : Nat → Option p_E} {h h2 h' : p_H} {V : Nat → Int} {C : Nat → Int → Int} {J : c_J} {a p3 p4 : Nat} {R : Nat → Nat}
/-- the reader's cells stay what they are -/
theorem c_cell_b {X : c_X} {J' : c_J} (e : ∀ j, j < 9 ∧ j ≠ 0 ∨ 100 ≤ j → Y' j = Y j) {i : Nat} (hi : b_ok i) : c_cell Y' (X.1, X.2.1, J') i = c_cell Y X i := by
  obtain ⟨V, C, J⟩ := X
  rcases hi with hi | hi
  · rcases (by omega : i = 1 ∨ i = 2 ∨ i = 3 ∨ i = 4 ∨ i = 5 ∨ i = 6 ∨ i = 7 ∨ i = 8) with rfl | rfl | rfl | rfl | rfl | rfl | rfl | rfl
    · show (.inr (1, [.ref (Y' 2), .int (iI (V 4))]) : p_E) = .inr (1, [.ref (Y 2), .int (iI (V 4))])
      rw [e 2 (by decide)]
    · rfl
    · show (.inr (6, [.ref (Y' 4), .ref (Y' 5), .ref (Y' 6), .ref (Y' 7), .ref (Y' 8), .int (iI (V 5)), .int (iI (V 6)), .int (iI (V 7)), .int (iI (V 8)), .ref (Y' 100), .ref (Y' (100 + 4 * (V 9).toNat))]) : p_E) = .inr (6, [.ref (Y 4), .ref (Y 5), .ref (Y 6), .ref (Y 7), .ref (Y 8), .int (iI (V 5)), .int (iI (V 6)), .int (iI (V 7)), .int (iI (V 8)), .ref (Y 100), .ref (Y (100 + 4 * (V 9).toNat))])
      rw [e 4 (by decide), e 5 (by decide), e 6 (by decide), e 7 (by decide), e 8 (by decide), e 100 (by decide), e (100 + 4 * (V 9).toNat) (by omega)]
    · rfl
    · rfl
    · rfl
    · rfl
    · rfl
  · obtain ⟨v, k, hv, hk, rfl⟩ : ∃ v k, v < 21 ∧ k < 4 ∧ i = 100 + 4 * v + k := ⟨(i - 100) / 4, (i - 100) % 4, by omega, by omega, by omega⟩
    by_cases z : k = 0
    · subst z
      rw [Nat.add_zero, c_cellL hv, c_cellL hv]
      unfold c_lfs
      rw [e (100 + 4 * (v - 1)) (by omega), e (100 + 4 * (v + 1)) (by omega), e (101 + 4 * v) (by omega), e (102 + 4 * v) (by omega), e (103 + 4 * v) (by omega)]
    · rw [c_cellQ hv (by omega), c_cellQ hv (by omega)]
theorem c_all (hI : b_I Y h (V, C, J) h2) (hna : ∀ i, b_ok i → Y i ≠ a) (ha : h2 a = some (.inr (10, gl 13 N10))) (H : hA (fun c => if c = a then none else h2 c) h' Y' A') (hE : cEnd Y Y' A' a (Y 1) (Y 3) p3 p4) (hV : ∀ i, (i < 4 ∨ 10 ≤ i ∧ i < 200) → V i = c_V0 i) (hC : ∀ i, 9 ≤ i → C i = fun _ => 0) (hJ : J.1 = fun _ => 0) (hR : ∀ u, R (2 * u) = p3 ∧ R (2 * u + 1) = p4) : c_I Y' h (V, C, (J.1, R, J.2.2)) h' := by
  obtain ⟨⟨hY0, hYb⟩, c0, cw, ⟨c9, c10⟩, ⟨c11, c12, c13, c14, c15⟩, ⟨c16, c17⟩, ⟨c18, c19, c20, c21⟩, c22, cn⟩ := hE
  have hbY : ∀ i, b_ok i → Y' i = Y i := fun i hi => hYb i (by omega)
  have hbc : ∀ i, b_ok i → h' (Y' i) = some (c_cell Y' (V, C, (J.1, R, J.2.2)) i) := fun i hi => by
    rw [hbY i hi]
    refine H.old ?_
    show (if Y i = a then none else h2 (Y i)) = _
    rw [if_neg (hna i hi), hI.1.1 i hi]
    exact congrArg some (c_cell_b (X := (V, C, J)) (J' := (J.1, R, J.2.2)) hYb hi).symm
  have hnb : ∀ i, b_ok i → A' i = none := fun i hi => by
    cases c : A' i with
    | none => rfl
    | some e =>
      have := cn i (by rw [c]; exact fun z => nomatch z)
      omega
  have v0 : ∀ i, (i < 4 ∨ 10 ≤ i ∧ i < 200) → i ≠ 2 → ¬ (20 ≤ i ∧ i < 100 ∧ ((i - 20) % 8 = 3 ∨ (i - 20) % 8 = 4)) → V i = 0 := fun i hi h2 hn => by
    rw [hV i hi]
    unfold c_V0
    rw [if_neg h2, if_neg hn]
  have v63 : ∀ i, 20 ≤ i → i < 100 → ((i - 20) % 8 = 3 ∨ (i - 20) % 8 = 4) → V i = 63 := fun i h0 h1 hn => by
    rw [hV i (by omega)]
    unfold c_V0
    rw [if_neg (by omega), if_pos ⟨h0, h1, hn⟩]
  have v2 : V 2 = -1 := hV 2 (by decide)
  have hnc : ∀ i, c_ok i → ¬ b_ok i → ∃ e, A' i = some e ∧ e = c_cell Y' (V, C, (J.1, R, J.2.2)) i := fun i hi hb => by
    rcases (by omega : i = 0 ∨ i = 9 ∨ i = 10 ∨ i = 11 ∨ i = 12 ∨ i = 13 ∨ i = 14 ∨ i = 15 ∨ i = 16 ∨ i = 17 ∨ i = 18 ∨ i = 19 ∨ i = 20 ∨ i = 21 ∨ i = 22 ∨ 30 ≤ i ∧ i < 70) with rfl | rfl | rfl | rfl | rfl | rfl | rfl | rfl | rfl | rfl | rfl | rfl | rfl | rfl | rfl | hw
    · refine ⟨_, c0, ?_⟩
      show (.inr (10, gl 13 (tbF (Y 1) (Y 3) (Y' 30) (Y' 9) (Y' 34) (Y' 11) (Y' 16) (Y' 18) (Y' 22))) : p_E) = .inr (10, [.ref (Y' 1), .ref (Y' 3), .ref (Y' 30), .ref (Y' 9), .ref (Y' 34), .int (iI (V 0)), .int (iI (V 1)), .int (iI (V 2)), .ref (Y' 11), .ref (Y' 16), .ref (Y' 18), .ref (Y' 22), .int (iI (V 3))])
      rw [hYb 1 (by decide), hYb 3 (by decide), v0 0 (by decide) (by decide) (by decide), v0 1 (by decide) (by decide) (by decide), v2, v0 3 (by decide) (by decide) (by decide)]
      rfl
    · refine ⟨_, c9, ?_⟩
      show (.inr (0, gl 3 (fu N0 0 (.ref (Y' 10)))) : p_E) = .inr (0, [.ref (Y' 10), .int (iI (V 10)), .int (iI (V 11))])
      rw [v0 10 (by decide) (by decide) (by decide), v0 11 (by decide) (by decide) (by decide)]
      rfl
    · exact ⟨_, c10, rfl⟩
    · refine ⟨_, c11, ?_⟩
      show (.inr (3, gl 5 (fu (fu (fu (fu N3 0 (.ref (Y' 12))) 1 (.ref (Y' 13))) 2 (.ref (Y' 14))) 3 (.ref (Y' 15)))) : p_E) = .inr (3, [.ref (Y' 12), .ref (Y' 13), .ref (Y' 14), .ref (Y' 15), .int (iI (V 12))])
      rw [v0 12 (by decide) (by decide) (by decide)]
      rfl
    · refine ⟨_, c12, ?_⟩
      show (.inl (2, (3600, .inl (fun _ => 0))) : p_E) = .inl (2, (3600, .inl (fun j => iI (C 12 (j : Int)))))
      rw [hC 12 (by decide)]
      rfl
    · refine ⟨_, c13, ?_⟩
      show eI 3600 = c_ia 3600 (C 13)
      rw [hC 13 (by decide)]
      rfl
    · refine ⟨_, c14, ?_⟩
      show eI 3600 = c_ia 3600 (C 14)
      rw [hC 14 (by decide)]
      rfl
    · refine ⟨_, c15, ?_⟩
      show eI 3600 = c_ia 3600 (C 15)
      rw [hC 15 (by decide)]
      rfl
    · exact ⟨_, c16, rfl⟩
    · refine ⟨_, c17, ?_⟩
      show (.inl (1, (1260, .inr (.inl (fun _ => 0)))) : p_E) = .inl (1, (1260, .inr (.inl (fun j => lI (J.1 (j : Int))))))
      rw [hJ]
      rfl
    · refine ⟨_, c18, ?_⟩
      show (.inr (7, gl 4 (fu (fu (fu N7 0 (.ref (Y' 19))) 1 (.ref (Y' 20))) 2 (.ref (Y' 21)))) : p_E) = .inr (7, [.ref (Y' 19), .ref (Y' 20), .ref (Y' 21), .int (iI (V 13))])
      rw [v0 13 (by decide) (by decide) (by decide)]
      rfl
    · refine ⟨_, c19, ?_⟩
      show eI 60 = c_ia 60 (C 19)
      rw [hC 19 (by decide)]
      rfl
    · refine ⟨_, c20, ?_⟩
      show eI 60 = c_ia 60 (C 20)
      rw [hC 20 (by decide)]
      rfl
    · refine ⟨_, c21, ?_⟩
      show eI 60 = c_ia 60 (C 21)
      rw [hC 21 (by decide)]
      rfl
    · refine ⟨_, c22, ?_⟩
      show eI 3600 = c_ia 3600 (C 22)
      rw [hC 22 (by decide)]
      rfl
    · obtain ⟨u, k, hu, hk, rfl⟩ : ∃ u k, u < 10 ∧ k < 4 ∧ i = 30 + 4 * u + k := ⟨(i - 30) / 4, (i - 30) % 4, by omega, by omega, by omega⟩
      by_cases z : k = 0
      · subst z
        refine ⟨_, (cw u hu).1, ?_⟩
        show _ = c_cell Y' (V, C, (J.1, R, J.2.2)) (30 + 4 * u)
        rw [c_cellW hu]
        unfold c_wfs
        show (.inr (9, gl 10 (wdF p3 p4 (Y' (30 + 4 * u + 1)) (Y' (30 + 4 * u + 2)) (Y' (30 + 4 * u + 3)))) : p_E) = .inr (9, [.int (iI (V (20 + 8 * u))), .int (iI (V (21 + 8 * u))), .int (iI (V (22 + 8 * u))), .ref (R (2 * u)), .ref (R (2 * u + 1)), .int (iI (V (23 + 8 * u))), .int (iI (V (24 + 8 * u))), .ref (Y' (31 + 4 * u)), .ref (Y' (32 + 4 * u)), .ref (Y' (33 + 4 * u))])
        rw [v0 (20 + 8 * u) (by omega) (by omega) (by omega), v0 (21 + 8 * u) (by omega) (by omega) (by omega), v0 (22 + 8 * u) (by omega) (by omega) (by omega), v63 (23 + 8 * u) (by omega) (by omega) (by omega), v63 (24 + 8 * u) (by omega) (by omega) (by omega), (hR u).1, (hR u).2, show 30 + 4 * u + 1 = 31 + 4 * u by omega, show 30 + 4 * u + 2 = 32 + 4 * u by omega, show 30 + 4 * u + 3 = 33 + 4 * u by omega]
        rfl
      · refine ⟨_, (cw u hu).2 k (by omega) (by omega), ?_⟩
        rw [c_cellA hu (by omega)]
        show eI 6 = c_ia 6 (C (30 + 4 * u + k))
        rw [hC (30 + 4 * u + k) (by omega)]
        rfl
  have hcell : ∀ i, c_ok i → h' (Y' i) = some (c_cell Y' (V, C, (J.1, R, J.2.2)) i) := fun i hi => by
    by_cases hb : b_ok i
    · exact hbc i hb
    · obtain ⟨e, e1, e2⟩ := hnc i hi hb
      rw [← e2]
      exact H.get e1
  have hnew : ∀ i, c_ok i → ¬ b_ok i → (fun c => if c = a then none else h2 c) (Y' i) = none := fun i hi hb => by
    obtain ⟨e, e1, _⟩ := hnc i hi hb
    exact (H.1 i e e1).2
  have hold : ∀ i, b_ok i → (fun c => if c = a then none else h2 c) (Y' i) ≠ none := fun i hi => by
    show (if Y' i = a then none else h2 (Y' i)) ≠ none
    rw [hbY i hi, if_neg (hna i hi), hI.1.1 i hi]
    exact fun z => nomatch z
  refine ⟨⟨hcell, fun i hi j hj e => ?_⟩, fun b p hb => ?_, fun q q0 q1 => ?_⟩
  · by_cases bi : b_ok i <;> by_cases bj : b_ok j
    · rw [hbY i bi, hbY j bj] at e
      exact hI.1.2 i bi j bj e
    · exact absurd (by rw [e]; exact hnew j hj bj) (hold i bi)
    · exact absurd (by rw [← e]; exact hnew i hi bi) (hold j bj)
    · obtain ⟨e1, z1, _⟩ := hnc i hi bi
      obtain ⟨e2, z2, _⟩ := hnc j hj bj
      exact H.2.1 i j (by rw [z1]; exact fun z => nomatch z) (by rw [z2]; exact fun z => nomatch z) e
  · obtain ⟨g1, g2, g3⟩ := hI.2.1 b p hb
    have ba : b ≠ a := fun z => by
      rw [z, ha] at g1
      have := congrArg (fun q : Option p_E => match q with | some (.inr t) => t.1 | _ => 0) g1
      exact absurd (show (10 : Nat) = 5 from this) (by decide)
    have pa : ∀ k, k < 5 → p.2.2 k ≠ a := fun k hk z => by
      have := g2 k hk
      rw [z, ha] at this
      cases this
    have o1 : (fun c => if c = a then none else h2 c) b = some (.inr (5, c_pfs p)) := by
      show (if b = a then none else h2 b) = _
      rw [if_neg ba]; exact g1
    have o2 : ∀ k, k < 5 → (fun c => if c = a then none else h2 c) (p.2.2 k) = some (c_ia (c_pl k) (p.2.1 k)) := fun k hk => by
      show (if p.2.2 k = a then none else h2 (p.2.2 k)) = _
      rw [if_neg (pa k hk)]; exact g2 k hk
    refine ⟨H.old o1, fun k hk => H.old (o2 k hk), fun i hi => ?_⟩
    by_cases bi : b_ok i
    · rw [hbY i bi]; exact g3 i bi
    · have hn := hnew i hi bi
      exact ⟨(fun z => by rw [z, o1] at hn; cases hn), (fun k hk z => by rw [z, o2 k hk] at hn; cases hn)⟩
  · have qa : q ≠ a := fun z => q1 0 (by decide) (by rw [hY0]; exact z)
    have hq := hI.2.2 q q0 (fun i hi => by rw [← hbY i hi]; exact q1 i (b_ok_c hi))
    refine ⟨?_, hq.2⟩
    rw [H.2.2 q (fun i hi => by
      have := cn i hi
      exact q1 i (by omega))]
    show (if q = a then none else h2 q) = h q
    rw [if_neg qa]
    exact hq.1
end C96a
