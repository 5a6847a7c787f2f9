/-! ===== the states in the order in which they are found ===== -/
/-- the place of a set among the first m, m if it isn't there -/
def zIx (S : Int → Int) (y : Int) : Nat → Nat
  | 0 => 0
  | m + 1 => if zIx S y m = m then (if S (m : Int) = y then m else m + 1) else zIx S y m
theorem zIx_spec (S : Int → Int) (y : Int) : ∀ m : Nat, zIx S y m ≤ m ∧ (zIx S y m < m → S (zIx S y m : Int) = y) ∧ ∀ j : Nat, j < zIx S y m → S (j : Int) ≠ y
  | 0 => ⟨Nat.le_refl _, fun h => absurd h (Nat.not_lt_zero _), fun j h => absurd h (Nat.not_lt_zero _)⟩
  | m + 1 => by
    obtain ⟨h1, h2, h3⟩ := zIx_spec S y m
    show (if zIx S y m = m then (if S (m : Int) = y then m else m + 1) else zIx S y m) ≤ m + 1 ∧ ((if zIx S y m = m then (if S (m : Int) = y then m else m + 1) else zIx S y m) < m + 1 → S (((if zIx S y m = m then (if S (m : Int) = y then m else m + 1) else zIx S y m) : Nat) : Int) = y) ∧ ∀ j : Nat, j < (if zIx S y m = m then (if S (m : Int) = y then m else m + 1) else zIx S y m) → S (j : Int) ≠ y
    by_cases e : zIx S y m = m
    · rw [if_pos e]
      by_cases e2 : S (m : Int) = y
      · rw [if_pos e2]
        exact ⟨by omega, fun _ => e2, fun j hj => h3 j (by omega)⟩
      · rw [if_neg e2]
        refine ⟨Nat.le_refl _, fun z => by omega, fun j hj => ?_⟩
        by_cases z : j = m
        · rw [z]; exact e2
        · exact h3 j (by omega)
    · rw [if_neg e]
      exact ⟨by omega, fun _ => h2 (by omega), h3⟩
theorem zIx_uq {S : Int → Int} {y : Int} {m r : Nat} (h1 : r ≤ m) (h2 : r < m → S (r : Int) = y) (h3 : ∀ j : Nat, j < r → S (j : Int) ≠ y) : zIx S y m = r := by
  obtain ⟨a1, a2, a3⟩ := zIx_spec S y m
  rcases Nat.lt_trichotomy (zIx S y m) r with z | z | z
  · exact absurd (a2 (by omega)) (h3 _ z)
  · exact z
  · exact absurd (h2 (by omega)) (a3 _ z)
theorem zIx_cg {S S' : Int → Int} {y : Int} {m : Nat} (h : ∀ j : Nat, j < m → S (j : Int) = S' (j : Int)) : zIx S y m = zIx S' y m := by
  obtain ⟨a1, a2, a3⟩ := zIx_spec S' y m
  exact zIx_uq a1 (fun z => by rw [h _ z]; exact a2 z) (fun j z => by rw [h _ (by omega)]; exact a3 j z)
def zDn (x : Nat × (Int → Int) × (Int → Int)) (y : Int) (N : Nat) : Nat × (Int → Int) × (Int → Int) := (if zIx x.2.1 y x.1 = x.1 then x.1 + 1 else x.1, if zIx x.2.1 y x.1 = x.1 then zu x.2.1 x.1 y else x.2.1, zu x.2.2 N (zIx x.2.1 y x.1))
/-- the states behind N steps: how many, their sets, the steps -/
def zD (ld : Int → Int → Int) : Nat → Nat × (Int → Int) × (Int → Int)
  | 0 => (1, fun j => if j = 0 then 1 else 0, fun _ => 0)
  | N + 1 => zDn (zD ld N) (ld ((zD ld N).2.1 ((N / 6 : Nat) : Int)) ((N % 6 : Nat) : Int)) N
theorem zDn_c (x : Nat × (Int → Int) × (Int → Int)) (y : Int) (N : Nat) : (zIx x.2.1 y x.1 = x.1 ∧ zDn x y N = (x.1 + 1, zu x.2.1 x.1 y, zu x.2.2 N (x.1 : Int))) ∨ (zIx x.2.1 y x.1 < x.1 ∧ zDn x y N = (x.1, x.2.1, zu x.2.2 N (zIx x.2.1 y x.1 : Int))) := by
  have a := zIx_spec x.2.1 y x.1
  by_cases e : zIx x.2.1 y x.1 = x.1
  · refine Or.inl ⟨e, ?_⟩
    unfold zDn
    rw [if_pos e, if_pos e, e]
  · refine Or.inr ⟨by omega, ?_⟩
    unfold zDn
    rw [if_neg e, if_neg e]
theorem zD_c (ld : Int → Int → Int) (N : Nat) : ∃ (y : Int) (r : Nat), y = ld ((zD ld N).2.1 ((N / 6 : Nat) : Int)) ((N % 6 : Nat) : Int) ∧ ((r = (zD ld N).1 ∧ zD ld (N + 1) = ((zD ld N).1 + 1, zu (zD ld N).2.1 (zD ld N).1 y, zu (zD ld N).2.2 N (r : Int))) ∨ (r < (zD ld N).1 ∧ zD ld (N + 1) = ((zD ld N).1, (zD ld N).2.1, zu (zD ld N).2.2 N (r : Int)))) := by
  refine ⟨_, zIx (zD ld N).2.1 (ld ((zD ld N).2.1 ((N / 6 : Nat) : Int)) ((N % 6 : Nat) : Int)) (zD ld N).1, rfl, ?_⟩
  rcases zDn_c (zD ld N) (ld ((zD ld N).2.1 ((N / 6 : Nat) : Int)) ((N % 6 : Nat) : Int)) N with ⟨a, e⟩ | ⟨a, e⟩
  · exact Or.inl ⟨a, by rw [a]; exact e⟩
  · exact Or.inr ⟨a, e⟩
theorem zD_pos {ld : Int → Int → Int} : ∀ N, 1 ≤ (zD ld N).1
  | 0 => Nat.le_refl _
  | N + 1 => by
    have := zD_pos (ld := ld) N
    obtain ⟨y, r, _, ⟨_, e⟩ | ⟨_, e⟩⟩ := zD_c ld N
    · rw [e]; exact Nat.le_add_left _ _
    · rw [e]; exact this
theorem zD_mono {ld : Int → Int → Int} (N : Nat) : (zD ld N).1 ≤ (zD ld (N + 1)).1 ∧ (zD ld (N + 1)).1 ≤ (zD ld N).1 + 1 := by
  obtain ⟨y, r, _, ⟨_, e⟩ | ⟨_, e⟩⟩ := zD_c ld N
  · rw [e]; exact ⟨Nat.le_succ _, Nat.le_refl _⟩
  · rw [e]; exact ⟨Nat.le_refl _, Nat.le_succ _⟩
theorem zD_rg {ld : Int → Int → Int} (h : ∀ y c, 0 ≤ ld y c ∧ ld y c < 33554432) : ∀ (N : Nat) (j : Int), 0 ≤ j → j < ((zD ld N).1 : Int) → 0 ≤ (zD ld N).2.1 j ∧ (zD ld N).2.1 j < 33554432
  | 0, j, _, _ => by
    show 0 ≤ (if j = 0 then (1 : Int) else 0) ∧ (if j = 0 then (1 : Int) else 0) < 33554432
    split <;> omega
  | N + 1, j, j0, j1 => by
    have ih := zD_rg h N j j0
    obtain ⟨y, r, hy, ⟨a, e⟩ | ⟨a, e⟩⟩ := zD_c ld N
    · rw [e] at j1 ⊢
      have j2 : j < (((zD ld N).1 + 1 : Nat) : Int) := j1
      show 0 ≤ zu _ _ _ j ∧ zu _ _ _ j < 33554432
      by_cases z : j = ((zD ld N).1 : Int)
      · rw [z, zu_at, hy]; exact h _ _
      · rw [zu_ne z]; exact ih (by omega)
    · rw [e] at j1 ⊢
      exact ih j1
theorem zD_nx {ld : Int → Int → Int} : ∀ (N : Nat) (i : Int), 0 ≤ i → i < (N : Int) → 0 ≤ (zD ld N).2.2 i ∧ (zD ld N).2.2 i < ((zD ld N).1 : Int)
  | 0, i, _, _ => by omega
  | N + 1, i, i0, i1 => by
    have ih := zD_nx (ld := ld) N i i0
    have m := @zD_mono ld N
    obtain ⟨y, r, hy, ⟨a, e⟩ | ⟨a, e⟩⟩ := zD_c ld N
    · have e2 : (zD ld (N + 1)).2.2 = zu (zD ld N).2.2 N (r : Int) := by rw [e]
      have e1 : (zD ld (N + 1)).1 = (zD ld N).1 + 1 := by rw [e]
      rw [e2]
      by_cases z : i = (N : Int)
      · rw [z, zu_at]; omega
      · rw [zu_ne z]; have := ih (by omega); omega
    · have e2 : (zD ld (N + 1)).2.2 = zu (zD ld N).2.2 N (r : Int) := by rw [e]
      have e1 : (zD ld (N + 1)).1 = (zD ld N).1 := by rw [e]
      rw [e2]
      by_cases z : i = (N : Int)
      · rw [z, zu_at]; omega
      · rw [zu_ne z]; have := ih (by omega); omega
/-- the sets' numbers don't change the way from set to set -/
theorem wAft_cg {w w' : Int → Int} {s y : Int} (h : ∀ k, 0 ≤ k → k < 56 → k ≠ 5 → w' (476 * s + k) = w (476 * s + k)) : ∀ k : Nat, k ≤ 24 → wAft w' s y k = wAft w s y k
  | 0, _ => by
    show (if y % 2 = 1 then w' (476 * s + 2) else 0) = (if y % 2 = 1 then w (476 * s + 2) else 0)
    rw [h 2 (by decide) (by decide) (by decide)]
  | k + 1, hk => by
    show zo _ (if zt y ((k : Int) + 1) then w' (476 * s + (6 + ((k : Int) + 1))) else 0) = zo _ (if zt y ((k : Int) + 1) then w (476 * s + (6 + ((k : Int) + 1))) else 0)
    rw [wAft_cg h k (by omega), h (6 + ((k : Int) + 1)) (by omega) (by omega) (by omega)]
theorem wThen_cg {w w' : Int → Int} {s a c : Int} (h : ∀ k, 0 ≤ k → k < 56 → k ≠ 5 → w' (476 * s + k) = w (476 * s + k)) : ∀ k : Nat, k ≤ 24 → wThen w' s a c k = wThen w s a c k
  | 0, _ => rfl
  | k + 1, hk => by
    show zo _ (if zt a ((k : Int) + 1) ∧ (w' (476 * s + (31 + ((k : Int) + 1))) = 6 ∨ w' (476 * s + (31 + ((k : Int) + 1))) = c) then _ else 0) = zo _ (if zt a ((k : Int) + 1) ∧ (w (476 * s + (31 + ((k : Int) + 1))) = 6 ∨ w (476 * s + (31 + ((k : Int) + 1))) = c) then _ else 0)
    rw [wThen_cg h k (by omega), h (31 + ((k : Int) + 1)) (by omega) (by omega) (by omega)]
theorem wLead_cg {w w' : Int → Int} {s y c : Int} (h : ∀ k, 0 ≤ k → k < 56 → k ≠ 5 → w' (476 * s + k) = w (476 * s + k)) (hn : 0 ≤ w (476 * s + 0) ∧ w (476 * s + 0) ≤ 24) : wLead w' s y c = wLead w s y c := by
  unfold wLead
  rw [h 0 (by decide) (by decide) (by decide), wAft_cg h _ (by omega), wThen_cg h _ (by omega)]
theorem wRaw_cg {w w' : Int → Int} {s : Int} (h : ∀ k, 0 ≤ k → k < 56 → k ≠ 5 → w' (476 * s + k) = w (476 * s + k)) (hR : wRaw w s) : wRaw w' s := by
  refine ⟨?_, fun k hk => ?_, fun p p0 p1 => ?_⟩
  · rw [h 0 (by decide) (by decide) (by decide)]; exact hR.1
  · rw [h k (by omega) (by omega) (by omega)]; exact hR.2.1 k hk
  · rw [h (31 + p) (by omega) (by omega) (by omega)]; exact hR.2.2 p p0 p1
/-- the row of a pattern behind N steps -/
def wDI (w0 w' : Int → Int) (s : Int) (N : Nat) : Prop := (∀ j, j ≠ 476 * s + 5 → ¬ (476 * s + 56 ≤ j ∧ j < 476 * s + 56 + ((zD (wLead w0 s) N).1 : Int)) → ¬ (476 * s + 116 ≤ j ∧ j < 476 * s + 116 + (N : Int)) → w' j = w0 j) ∧ w' (476 * s + 5) = ((zD (wLead w0 s) N).1 : Int) ∧ (∀ j : Int, 0 ≤ j → j < ((zD (wLead w0 s) N).1 : Int) → w' (476 * s + (56 + j)) = (zD (wLead w0 s) N).2.1 j) ∧ ∀ i : Int, 0 ≤ i → i < (N : Int) → w' (476 * s + (116 + i)) = (zD (wLead w0 s) N).2.2 i
section DI
variable {w0 w' : Int → Int} {s : Int} {N : Nat}
theorem wDI.lo (h : wDI w0 w' s N) : ∀ k, 0 ≤ k → k < 56 → k ≠ 5 → w' (476 * s + k) = w0 (476 * s + k) := fun k k0 k1 k2 => h.1 _ (by omega) (by omega) (by omega)
theorem wDI.rg (h : wDI w0 w' s N) (hR : wRaw w0 s) {j : Int} (j0 : 0 ≤ j) (j1 : j < w' (476 * s + 5)) : 0 ≤ w' (476 * s + (56 + j)) ∧ w' (476 * s + (56 + j)) < 33554432 := by
  rw [h.2.1] at j1
  rw [h.2.2.1 j j0 j1]
  exact zD_rg (fun y c => wLead_rg hR) N j j0 j1
/-- the step N leads to the r-th state -/
theorem wDI.old (h : wDI w0 w' s N) (hR : wRaw w0 s) {t c r : Int} (ht : 0 ≤ t ∧ t < w' (476 * s + 5)) (hm : w' (476 * s + 5) ≤ 60) (hc : 0 ≤ c ∧ c < 6) (hN : (N : Int) = 6 * t + c) (r0 : 0 ≤ r) (r1 : r < w' (476 * s + 5)) (hr : w' (476 * s + (56 + r)) = wLead w' s (w' (476 * s + (56 + t))) c) (hb : ∀ j, 0 ≤ j → j < r → w' (476 * s + (56 + j)) ≠ wLead w' s (w' (476 * s + (56 + t))) c) : wDI w0 (zu w' (476 * s + (116 + 6 * t + c)) r) s (N + 1) := by
  obtain ⟨h1, h2, h3, h4⟩ := id h
  have hl : wLead w' s (w' (476 * s + (56 + t))) c = wLead w0 s ((zD (wLead w0 s) N).2.1 ((N / 6 : Nat) : Int)) ((N % 6 : Nat) : Int) := by
    rw [wLead_cg h.lo hR.1, h3 t ht.1 (by omega), show ((N / 6 : Nat) : Int) = t by omega, show ((N % 6 : Nat) : Int) = c by omega]
  rw [hl] at hr hb
  have hx : zIx (zD (wLead w0 s) N).2.1 (wLead w0 s ((zD (wLead w0 s) N).2.1 ((N / 6 : Nat) : Int)) ((N % 6 : Nat) : Int)) (zD (wLead w0 s) N).1 = r.toNat := by
    refine zIx_uq (by omega) (fun _ => ?_) (fun j hj => ?_)
    · rw [Int.toNat_of_nonneg r0, ← h3 r r0 (by omega)]; exact hr
    · rw [← h3 j (by omega) (by omega)]; exact hb j (by omega) (by omega)
  have e : zD (wLead w0 s) (N + 1) = ((zD (wLead w0 s) N).1, (zD (wLead w0 s) N).2.1, zu (zD (wLead w0 s) N).2.2 N (r.toNat : Int)) := by
    show zDn _ _ _ = _
    unfold zDn
    rw [hx, if_neg (by omega), if_neg (by omega)]
  have ec : (zD (wLead w0 s) (N + 1)).1 = (zD (wLead w0 s) N).1 := by rw [e]
  refine ⟨fun j j0 j1 j2 => ?_, ?_, fun j j0 j1 => ?_, fun i i0 i1 => ?_⟩
  · rw [zu_ne (by omega)]; exact h1 j j0 (by omega) (by omega)
  · rw [zu_ne (by omega), e]; exact h2
  · rw [e] at j1 ⊢
    rw [zu_ne (by have : ((zD (wLead w0 s) N).1 : Int) ≤ 60 := by omega
                  change j < ((zD (wLead w0 s) N).1 : Int) at j1
                  omega)]
    exact h3 j j0 j1
  · rw [e]
    show _ = zu _ _ _ i
    by_cases z : i = (N : Int)
    · rw [z, zu_at, show 476 * s + (116 + (N : Int)) = 476 * s + (116 + 6 * t + c) by omega, zu_at, Int.toNat_of_nonneg r0]
    · rw [zu_ne z, zu_ne (by omega)]; exact h4 i i0 (by omega)
theorem wDI.new (h : wDI w0 w' s N) (hR : wRaw w0 s) {t c y : Int} (ht : 0 ≤ t ∧ t < w' (476 * s + 5)) (hm : w' (476 * s + 5) < 60) (hc : 0 ≤ c ∧ c < 6) (hN : (N : Int) = 6 * t + c) (hy : y = wLead w' s (w' (476 * s + (56 + t))) c) (hb : ∀ j, 0 ≤ j → j < w' (476 * s + 5) → w' (476 * s + (56 + j)) ≠ y) : wDI w0 (zu (zu (zu w' (476 * s + (56 + w' (476 * s + 5))) y) (476 * s + 5) (w' (476 * s + 5) + 1)) (476 * s + (116 + 6 * t + c)) (w' (476 * s + 5))) s (N + 1) := by
  obtain ⟨h1, h2, h3, h4⟩ := id h
  have hl : y = wLead w0 s ((zD (wLead w0 s) N).2.1 ((N / 6 : Nat) : Int)) ((N % 6 : Nat) : Int) := by
    rw [hy, wLead_cg h.lo hR.1, h3 t ht.1 (by omega), show ((N / 6 : Nat) : Int) = t by omega, show ((N % 6 : Nat) : Int) = c by omega]
  have hx : zIx (zD (wLead w0 s) N).2.1 (wLead w0 s ((zD (wLead w0 s) N).2.1 ((N / 6 : Nat) : Int)) ((N % 6 : Nat) : Int)) (zD (wLead w0 s) N).1 = (zD (wLead w0 s) N).1 := by
    refine zIx_uq (Nat.le_refl _) (fun z => absurd z (Nat.lt_irrefl _)) (fun j hj => ?_)
    rw [← h3 j (by omega) (by omega), ← hl]; exact hb j (by omega) (by omega)
  have e : zD (wLead w0 s) (N + 1) = ((zD (wLead w0 s) N).1 + 1, zu (zD (wLead w0 s) N).2.1 (zD (wLead w0 s) N).1 y, zu (zD (wLead w0 s) N).2.2 N ((zD (wLead w0 s) N).1 : Int)) := by
    show zDn _ _ _ = _
    unfold zDn
    rw [hx, if_pos rfl, if_pos rfl, ← hl]
  have ec : (zD (wLead w0 s) (N + 1)).1 = (zD (wLead w0 s) N).1 + 1 := by rw [e]
  refine ⟨fun j j0 j1 j2 => ?_, ?_, fun j j0 j1 => ?_, fun i i0 i1 => ?_⟩
  · rw [zu_ne (by omega), zu_ne (by omega), zu_ne (by omega)]; exact h1 j j0 (by omega) (by omega)
  · rw [zu_ne (by omega), zu_at, e, h2]; rfl
  · rw [e] at j1 ⊢
    change j < (((zD (wLead w0 s) N).1 + 1 : Nat) : Int) at j1
    show _ = zu _ _ _ j
    rw [zu_ne (by omega), zu_ne (by omega)]
    by_cases z : j = ((zD (wLead w0 s) N).1 : Int)
    · rw [z, zu_at, ← h2, zu_at]
    · rw [zu_ne z, zu_ne (by omega)]; exact h3 j j0 (by omega)
  · rw [e]
    show _ = zu _ _ _ i
    by_cases z : i = (N : Int)
    · rw [z, zu_at, show 476 * s + (116 + (N : Int)) = 476 * s + (116 + 6 * t + c) by omega, zu_at, h2]
    · rw [zu_ne z, zu_ne (by omega), zu_ne (by omega), zu_ne (by omega)]; exact h4 i i0 (by omega)
/-- no room for the set to which the step N leads -/
theorem wDI.full (h : wDI w0 w' s N) (hR : wRaw w0 s) {t c : Int} (ht : 0 ≤ t ∧ t < w' (476 * s + 5)) (hc : 0 ≤ c ∧ c < 6) (hN : (N : Int) = 6 * t + c) (hb : ∀ j, 0 ≤ j → j < w' (476 * s + 5) → w' (476 * s + (56 + j)) ≠ wLead w' s (w' (476 * s + (56 + t))) c) : (zD (wLead w0 s) (N + 1)).1 = (zD (wLead w0 s) N).1 + 1 := by
  obtain ⟨h1, h2, h3, h4⟩ := id h
  have hl : wLead w' s (w' (476 * s + (56 + t))) c = wLead w0 s ((zD (wLead w0 s) N).2.1 ((N / 6 : Nat) : Int)) ((N % 6 : Nat) : Int) := by
    rw [wLead_cg h.lo hR.1, h3 t ht.1 (by omega), show ((N / 6 : Nat) : Int) = t by omega, show ((N % 6 : Nat) : Int) = c by omega]
  rw [hl] at hb
  have hx : zIx (zD (wLead w0 s) N).2.1 (wLead w0 s ((zD (wLead w0 s) N).2.1 ((N / 6 : Nat) : Int)) ((N % 6 : Nat) : Int)) (zD (wLead w0 s) N).1 = (zD (wLead w0 s) N).1 := by
    refine zIx_uq (Nat.le_refl _) (fun z => absurd z (Nat.lt_irrefl _)) (fun j hj => ?_)
    rw [← h3 j (by omega) (by omega)]; exact hb j (by omega) (by omega)
  show (if _ then _ else _) = _
  rw [if_pos hx]
end DI
section M28
variable {G : p_G} {Y : Nat → Nat} {h0 : p_H} {d : Nat} {V : Nat → Int} {C : Nat → Int → Int} {J : Int → Int}
theorem wDI.base {w0 w' : Int → Int} {s : Int} (h : w' = zu (zu (zu w0 (476 * s + 5) 0) (476 * s + (56 + 0)) 1) (476 * s + 5) (0 + 1)) : wDI w0 w' s 0 := by
  subst h
  refine ⟨fun j j0 j1 _ => ?_, ?_, fun j j0 j1 => ?_, fun i i0 i1 => by omega⟩
  · have j2 : ¬ (476 * s + 56 ≤ j ∧ j < 476 * s + 56 + 1) := j1
    rw [zu_ne j0, zu_ne (by omega), zu_ne j0]
  · rw [zu_at]; rfl
  · have j2 : j < 1 := j1
    obtain rfl : j = 0 := by omega
    rw [zu_ne (by omega), zu_at]; rfl
end M28
