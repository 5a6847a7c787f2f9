/-! ===== words as numbers, searches by breadth ===== -/
/-- the node behind a word; words are numbers of base six without a zero: 0 the empty one, 6 * n + c + 1 the word n and then c -/
def zrun (nx : Int → Int → Int) (s0 : Int) : Nat → Int
  | 0 => s0
  | n + 1 => nx (zrun nx s0 (n / 6)) ((n % 6 : Nat) : Int)
termination_by n => n
decreasing_by omega
def zal (al : Int → Prop) : Nat → Prop
  | 0 => True
  | n + 1 => al ((n % 6 : Nat) : Int) ∧ zal al (n / 6)
termination_by n => n
decreasing_by omega
def zln : Nat → Nat
  | 0 => 0
  | n + 1 => zln (n / 6) + 1
termination_by n => n
decreasing_by omega
def zfst : Nat → Nat
  | 0 => 0
  | n + 1 => if n < 6 then n else zfst (n / 6)
termination_by n => n
decreasing_by omega
/-- a word behind a letter -/
def zpre (c : Nat) (n : Nat) : Nat := (c + 1) * 6 ^ zln n + n
theorem zrun_0 {nx : Int → Int → Int} {s0 : Int} : zrun nx s0 0 = s0 := by rw [zrun]
theorem zrun_s {nx : Int → Int → Int} {s0 : Int} {n c : Nat} (h : c < 6) : zrun nx s0 (6 * n + c + 1) = nx (zrun nx s0 n) (c : Int) := by
  rw [zrun, show (6 * n + c) / 6 = n by omega, show (6 * n + c) % 6 = c by omega]
theorem zal_0 {al : Int → Prop} : zal al 0 := by rw [zal]; trivial
theorem zal_s {al : Int → Prop} {n c : Nat} (h : c < 6) : zal al (6 * n + c + 1) ↔ al (c : Int) ∧ zal al n := by
  rw [zal, show (6 * n + c) / 6 = n by omega, show (6 * n + c) % 6 = c by omega]
theorem zln_0 : zln 0 = 0 := by rw [zln]
theorem zln_s {n c : Nat} (h : c < 6) : zln (6 * n + c + 1) = zln n + 1 := by
  rw [zln, show (6 * n + c) / 6 = n by omega]
theorem zcase (n : Nat) : n = 0 ∨ ∃ m c, c < 6 ∧ m < n ∧ n = 6 * m + c + 1 := by
  rcases n with _ | n
  · exact Or.inl rfl
  · exact Or.inr ⟨n / 6, n % 6, by omega, by omega, by omega⟩
theorem zind {Q : Nat → Prop} (h0 : Q 0) (hs : ∀ m c, c < 6 → Q m → Q (6 * m + c + 1)) (n : Nat) : Q n := by
  induction n using Nat.strongRecOn with
  | _ n ih =>
    rcases zcase n with rfl | ⟨m, c, hc, hm, rfl⟩
    · exact h0
    · exact hs m c hc (ih m hm)
theorem zln_mono : ∀ n m : Nat, n ≤ m → zln n ≤ zln m := by
  intro n
  refine zind (Q := fun n => ∀ m, n ≤ m → zln n ≤ zln m) ?_ (fun a c hc ih => ?_) n
  · intro m _
    rw [zln_0]
    omega
  · intro m hm
    rcases zcase m with rfl | ⟨b, e, he, _, rfl⟩
    · omega
    · rw [zln_s hc, zln_s he]
      have := ih b (by omega)
      omega
theorem zln_0' {n : Nat} (h : zln n = 0) : n = 0 := by
  rcases zcase n with rfl | ⟨b, e, he, _, rfl⟩
  · rfl
  · rw [zln_s he] at h; omega
theorem zln_near : ∀ n m : Nat, zln n = zln m → n < m + 6 ^ zln n := by
  intro n
  refine zind (Q := fun n => ∀ m, zln n = zln m → n < m + 6 ^ zln n) ?_ (fun a c hc ih => ?_) n
  · intro m _
    rw [zln_0]
    omega
  · intro m hm
    rcases zcase m with rfl | ⟨b, e, he, _, rfl⟩
    · rw [zln_s hc, zln_0] at hm; omega
    · rw [zln_s hc, zln_s he] at hm
      have := ih b (by omega)
      rw [zln_s hc, Nat.pow_succ]
      omega
theorem zpre_0 {c : Nat} : zpre c 0 = c + 1 := by
  unfold zpre
  rw [zln_0]
  omega
theorem zpre_s {c n e : Nat} (he : e < 6) : zpre c (6 * n + e + 1) = 6 * zpre c n + e + 1 := by
  unfold zpre
  rw [zln_s he, Nat.pow_succ, Nat.mul_add, ← Nat.mul_assoc, Nat.mul_comm _ 6]
  omega
theorem zpre_ln {c n : Nat} (hc : c < 6) : zln (zpre c n) = zln n + 1 := by
  refine zind (Q := fun n => zln (zpre c n) = zln n + 1) ?_ (fun a e he ih => ?_) n
  · rw [zpre_0, zln_0, show c + 1 = 6 * 0 + c + 1 by omega, zln_s hc, zln_0]
  · rw [zpre_s he, zln_s he, zln_s he, ih]
theorem zpre_run {nx : Int → Int → Int} {s0 : Int} {c n : Nat} (hc : c < 6) : zrun nx s0 (zpre c n) = zrun nx (nx s0 (c : Int)) n := by
  refine zind (Q := fun n => zrun nx s0 (zpre c n) = zrun nx (nx s0 (c : Int)) n) ?_ (fun a e he ih => ?_) n
  · rw [zpre_0, show c + 1 = 6 * 0 + c + 1 by omega, zrun_s hc, zrun_0, zrun_0]
  · rw [zpre_s he, zrun_s he, zrun_s he, ih]
theorem zpre_al {al : Int → Prop} {c n : Nat} (hc : c < 6) : zal al (zpre c n) ↔ al (c : Int) ∧ zal al n := by
  refine zind (Q := fun n => zal al (zpre c n) ↔ al (c : Int) ∧ zal al n) ?_ (fun a e he ih => ?_) n
  · rw [zpre_0, show c + 1 = 6 * 0 + c + 1 by omega, zal_s hc]
  · rw [zpre_s he, zal_s he, zal_s he, ih]
    exact ⟨fun h => ⟨h.2.1, h.1, h.2.2⟩, fun h => ⟨h.2.1, h.1, h.2.2⟩⟩
theorem zpre_fst {c n : Nat} (hc : c < 6) : zfst (zpre c n) = c := by
  refine zind (Q := fun n => zfst (zpre c n) = c) ?_ (fun a e he ih => ?_) n
  · rw [zpre_0, zfst, if_pos hc]
  · have h6 : 1 ≤ zpre c a := by
      unfold zpre
      have : 0 < (c + 1) * 6 ^ zln a := Nat.mul_pos (by omega) (Nat.pow_pos (by decide))
      omega
    rw [zpre_s he, zfst, if_neg (by omega), show (6 * zpre c a + e) / 6 = zpre c a by omega, ih]
theorem zpre_ex : ∀ n : Nat, n ≠ 0 → ∃ c u, c < 6 ∧ n = zpre c u := by
  intro n
  refine zind (Q := fun n => n ≠ 0 → ∃ c u, c < 6 ∧ n = zpre c u) (fun h => absurd rfl h) (fun a e he ih => ?_) n
  intro _
  by_cases h : a = 0
  · exact ⟨e, 0, he, by rw [zpre_0, h]; omega⟩
  · obtain ⟨c, u, hc, hu⟩ := ih h
    exact ⟨c, 6 * u + e + 1, hc, by rw [zpre_s he, ← hu]⟩
/-- the least word, all allowed, whose node has G -/
def zMin (nx : Int → Int → Int) (al : Int → Prop) (s0 : Int) (G : Int → Prop) (n : Nat) : Prop := zal al n ∧ G (zrun nx s0 n) ∧ ∀ m, zal al m → G (zrun nx s0 m) → n ≤ m
def zNo (nx : Int → Int → Int) (al : Int → Prop) (s0 : Int) (G : Int → Prop) : Prop := ∀ m, zal al m → ¬ G (zrun nx s0 m)
theorem zMin.uq {nx : Int → Int → Int} {al : Int → Prop} {s0 : Int} {G : Int → Prop} {n m : Nat} (h : zMin nx al s0 G n) (h2 : zMin nx al s0 G m) : n = m := Nat.le_antisymm (h.2.2 m h2.1 h2.2.1) (h2.2.2 n h.1 h.2.1)
theorem zMin.no {nx : Int → Int → Int} {al : Int → Prop} {s0 : Int} {G : Int → Prop} {n : Nat} (h : zMin nx al s0 G n) (h2 : zNo nx al s0 G) : False := h2 n h.1 h.2.1
theorem zMin_ex {nx : Int → Int → Int} {al : Int → Prop} {s0 : Int} {G : Int → Prop} (h : ∃ n, zal al n ∧ G (zrun nx s0 n)) : ∃ n, zMin nx al s0 G n := by
  obtain ⟨n, hn⟩ := h
  induction n using Nat.strongRecOn with
  | _ n ih =>
    by_cases z : ∃ m, m < n ∧ zal al m ∧ G (zrun nx s0 m)
    · obtain ⟨m, hm, h2⟩ := z
      exact ih m hm h2
    · exact ⟨n, hn.1, hn.2, fun m ha hg => Nat.le_of_not_lt (fun hlt => z ⟨m, hlt, ha, hg⟩)⟩
/-- a search by breadth: the queue q of e nodes with the words cd, up to the street c of the k-th -/
def zBfs (nx : Int → Int → Int) (al : Int → Prop) (s0 : Int) (q : Int → Int) (e k c : Int) (cd : Int → Nat) (seen : Int → Prop) : Prop :=
  (1 ≤ e ∧ 0 ≤ k ∧ k ≤ e ∧ 0 ≤ c) ∧ (q 0 = s0 ∧ cd 0 = 0) ∧ (∀ i, 0 ≤ i → i < e → zrun nx s0 (cd i) = q i ∧ zal al (cd i)) ∧ (∀ i j, 0 ≤ i → i < j → j < e → cd i < cd j) ∧ (k < e → ∀ i, 0 ≤ i → i < e → (cd i : Int) < 6 * cd k + c + 1) ∧ (∀ i c', 0 ≤ i → 0 ≤ c' → c' < 6 → al c' → (i < k ∨ i = k ∧ k < e ∧ c' < c) → ∃ j, 0 ≤ j ∧ j < e ∧ q j = nx (q i) c' ∧ (cd j : Int) ≤ 6 * cd i + c' + 1) ∧ ∀ y, seen y ↔ ∃ i, 0 ≤ i ∧ i < e ∧ q i = y
section BFS
variable {nx : Int → Int → Int} {al : Int → Prop} {s0 : Int} {q : Int → Int} {e k c : Int} {cd : Int → Nat} {seen : Int → Prop} {G : Int → Prop}
theorem zBfs.init (h0 : q 0 = s0) (hs : ∀ y, seen y ↔ y = s0) : zBfs nx al s0 q 1 0 0 (fun _ => 0) seen := by
  refine ⟨by omega, ⟨h0, rfl⟩, fun i i0 i1 => ?_, fun i j i0 i1 i2 => by omega, fun _ i i0 i1 => ?_, fun i c' i0 c0 c1 ha hd => by omega, fun y => ?_⟩
  · obtain rfl : i = 0 := by omega
    exact ⟨by rw [zrun_0, h0], zal_0⟩
  · show ((0 : Nat) : Int) < 6 * ((0 : Nat) : Int) + 0 + 1
    omega
  · rw [hs]
    constructor
    · intro z
      exact ⟨0, by omega, by omega, by rw [h0, z]⟩
    · rintro ⟨i, i0, i1, z⟩
      obtain rfl : i = 0 := by omega
      rw [← z, h0]
/-- a street that isn't allowed, or leads to a node that was found -/
theorem zBfs.skip (h : zBfs nx al s0 q e k c cd seen) (hk : k < e) (hs : ¬ al c ∨ seen (nx (q k) c)) : zBfs nx al s0 q e k (c + 1) cd seen := by
  obtain ⟨h1, h2, h3, h4, h5, h6, h7⟩ := h
  refine ⟨by omega, h2, h3, h4, fun _ i i0 i1 => by have := h5 hk i i0 i1; omega, fun i c' i0 c0 c1 ha hd => ?_, h7⟩
  by_cases z : i = k ∧ c' = c
  · obtain ⟨rfl, rfl⟩ := z
    rcases hs with hs | hs
    · exact absurd ha hs
    · obtain ⟨j, j0, j1, hj⟩ := (h7 _).mp hs
      exact ⟨j, j0, j1, hj, by have := h5 hk j j0 j1; omega⟩
  · exact h6 i c' i0 c0 c1 ha (by omega)
/-- a new node -/
theorem zBfs.add (h : zBfs nx al s0 q e k c cd seen) (hk : k < e) (hc : c < 6) (ha : al c) (hn : ¬ seen (nx (q k) c)) {q' : Int → Int} {seen' : Int → Prop} (hq : ∀ j, q' j = zu q e (nx (q k) c) j) (hs : ∀ y, seen' y ↔ seen y ∨ y = nx (q k) c) :
    ∃ cd' : Int → Nat, zBfs nx al s0 q' (e + 1) k (c + 1) cd' seen' ∧ (∀ i, i ≠ e → cd' i = cd i) ∧ (cd' e : Int) = 6 * cd k + c + 1 := by
  obtain ⟨h1, h2, h3, h4, h5, h6, h7⟩ := h
  have q1 : ∀ i, i ≠ e → q' i = q i := fun i hi => (hq i).trans (zu_ne hi)
  have q2 : q' e = nx (q k) c := (hq e).trans zu_at
  have c1 : ∀ i, i ≠ e → (fun i => if i = e then 6 * cd k + c.toNat + 1 else cd i) i = cd i := fun i hi => if_neg hi
  have c2 : (fun i => if i = e then 6 * cd k + c.toNat + 1 else cd i) e = 6 * cd k + c.toNat + 1 := if_pos rfl
  generalize hcd : (fun i => if i = e then 6 * cd k + c.toNat + 1 else cd i) = cd' at c1 c2
  have c3 : (cd' e : Int) = 6 * cd k + c + 1 := by rw [c2]; omega
  refine ⟨cd', ⟨by omega, ⟨(q1 0 (by omega)).trans h2.1, (c1 0 (by omega)).trans h2.2⟩, fun i i0 i1 => ?_, fun i j i0 i1 i2 => ?_, fun _ i i0 i1 => ?_, fun i c' i0 c0 c1' ha' hd => ?_, fun y => ?_⟩, c1, c3⟩
  · by_cases z : i = e
    · subst z
      rw [q2, c2, zrun_s (by omega), zal_s (by omega), (h3 k h1.2.1 hk).1, Int.toNat_of_nonneg h1.2.2.2]
      exact ⟨rfl, ha, (h3 k h1.2.1 hk).2⟩
    · rw [q1 i z, c1 i z]
      exact h3 i i0 (by omega)
  · rw [c1 i (by omega)]
    by_cases z : j = e
    · subst z
      have := h5 hk i i0 i1
      omega
    · rw [c1 j z]
      exact h4 i j i0 i1 (by omega)
  · rw [c1 k (by omega)]
    by_cases z : i = e
    · rw [z, c3]; omega
    · rw [c1 i z]
      have := h5 hk i i0 (by omega)
      omega
  · have hie : i ≠ e := by omega
    rw [q1 i hie, c1 i hie]
    by_cases z : i = k ∧ c' = c
    · obtain ⟨rfl, rfl⟩ := z
      exact ⟨e, by omega, by omega, q2, by rw [c3]; omega⟩
    · obtain ⟨j, j0, j1, j2, j3⟩ := h6 i c' i0 c0 c1' ha' (by omega)
      exact ⟨j, j0, by omega, by rw [q1 j (by omega)]; exact j2, by rw [c1 j (by omega)]; exact j3⟩
  · rw [hs, h7]
    constructor
    · rintro (⟨i, i0, i1, z⟩ | z)
      · exact ⟨i, i0, by omega, by rw [q1 i (by omega)]; exact z⟩
      · exact ⟨e, by omega, by omega, by rw [q2, z]⟩
    · rintro ⟨i, i0, i1, z⟩
      by_cases z2 : i = e
      · rw [z2, q2] at z
        exact Or.inr z.symm
      · rw [q1 i z2] at z
        exact Or.inl ⟨i, i0, by omega, z⟩
theorem zBfs.next (h : zBfs nx al s0 q e k 6 cd seen) (hk : k < e) : zBfs nx al s0 q e (k + 1) 0 cd seen := by
  obtain ⟨h1, h2, h3, h4, h5, h6, h7⟩ := h
  refine ⟨by omega, h2, h3, h4, fun hk2 i i0 i1 => ?_, fun i c' i0 c0 c1 ha hd => ?_, h7⟩
  · have a := h5 hk i i0 i1
    have b := h4 k (k + 1) h1.2.1 (by omega) hk2
    omega
  · exact h6 i c' i0 c0 c1 ha (by omega)
/-- every word: found by a word that is no greater, or the present one is no greater -/
theorem zBfs.all (h : zBfs nx al s0 q e k 0 cd seen) (n : Nat) : zal al n → (∃ i, 0 ≤ i ∧ i < e ∧ q i = zrun nx s0 n ∧ cd i ≤ n) ∨ (k < e ∧ cd k ≤ n) := by
  obtain ⟨h1, h2, h3, h4, h5, h6, h7⟩ := h
  refine zind (Q := fun n => zal al n → (∃ i, 0 ≤ i ∧ i < e ∧ q i = zrun nx s0 n ∧ cd i ≤ n) ∨ (k < e ∧ cd k ≤ n)) ?_ (fun m c' hc ih => ?_) n
  · intro _
    exact Or.inl ⟨0, by omega, by omega, by rw [zrun_0]; exact h2.1, by rw [h2.2]; exact Nat.le_refl _⟩
  · intro ha
    rw [zal_s hc] at ha
    rcases ih ha.2 with ⟨i, i0, i1, i2, i3⟩ | ⟨k1, k2⟩
    · by_cases z : i < k
      · obtain ⟨j, j0, j1, j2, j3⟩ := h6 i c' i0 (by omega) (by omega) ha.1 (Or.inl z)
        exact Or.inl ⟨j, j0, j1, by rw [zrun_s hc, ← i2]; exact j2, by omega⟩
      · refine Or.inr ⟨by omega, ?_⟩
        by_cases z2 : i = k
        · subst z2; omega
        · have := h4 k i h1.2.1 (by omega) i1
          omega
    · exact Or.inr ⟨k1, by omega⟩
/-- the first in the queue that has G is found by the least word -/
theorem zBfs.hit (h : zBfs nx al s0 q e k 0 cd seen) (hk : k < e) (hG : G (q k)) (hn : ∀ i, 0 ≤ i → i < k → ¬ G (q i)) : zMin nx al s0 G (cd k) := by
  have h3 := h.2.2.1 k h.1.2.1 hk
  refine ⟨h3.2, by rw [h3.1]; exact hG, fun m ha hm => ?_⟩
  rcases h.all m ha with ⟨i, i0, i1, i2, i3⟩ | ⟨_, k2⟩
  · by_cases z : i < k
    · rw [← i2] at hm
      exact absurd hm (hn i i0 z)
    · by_cases z2 : i = k
      · subst z2; exact i3
      · have := h.2.2.2.1 k i h.1.2.1 (by omega) i1
        omega
  · exact k2
theorem zBfs.no (h : zBfs nx al s0 q e e 0 cd seen) (hn : ∀ i, 0 ≤ i → i < e → ¬ G (q i)) : zNo nx al s0 G := by
  intro m ha hm
  rcases h.all m ha with ⟨i, i0, i1, i2, i3⟩ | ⟨k1, _⟩
  · rw [← i2] at hm
    exact hn i i0 i1 hm
  · omega
theorem zBfs.re (h : zBfs nx al s0 q e e 0 cd seen) (y : Int) : seen y ↔ ∃ n, zal al n ∧ zrun nx s0 n = y := by
  rw [h.2.2.2.2.2.2 y]
  constructor
  · rintro ⟨i, i0, i1, z⟩
    exact ⟨cd i, (h.2.2.1 i i0 i1).2, (h.2.2.1 i i0 i1).1.trans z⟩
  · rintro ⟨n, ha, z⟩
    rcases h.all n ha with ⟨i, i0, i1, i2, _⟩ | ⟨k1, _⟩
    · exact ⟨i, i0, i1, i2.trans z⟩
    · omega
theorem zBfs.pos (h : zBfs nx al s0 q e k c cd seen) {i j : Int} (i0 : 0 ≤ i) (i1 : i < e) (j0 : 0 ≤ j) (j1 : j < e) (hq : cd i = cd j) : i = j := by
  rcases Int.lt_trichotomy i j with z | z | z
  · have := h.2.2.2.1 i j i0 z j1; omega
  · exact z
  · have := h.2.2.2.1 j i j0 z i1; omega
end BFS
