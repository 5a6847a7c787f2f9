/-! ===== graphs: reaching, parts of a graph ===== -/
/-- b is reached from a -/
def zR (E : Int → Int → Prop) (a b : Int) : Prop := ∀ S : Int → Prop, S a → (∀ x y, E x y → S x → S y) → S b
section GPH
variable {E E' : Int → Int → Prop} {a b c u v lo hi n : Int}
theorem zR.rfl : zR E a a := fun _ h _ => h
theorem zR.tr (h1 : zR E a b) (h2 : zR E b c) : zR E a c := fun S ha hs => h2 S (h1 S ha hs) hs
theorem zR.one (h : E a b) : zR E a b := fun _ ha hs => hs _ _ h ha
theorem zR.mono (q : zR E a b) (h : ∀ x y, E x y → E' x y) : zR E' a b := fun S ha hs => q S ha (fun x y e => hs x y (h x y e))
/-- one more edge -/
def zE (E : Int → Int → Prop) (u v : Int) : Int → Int → Prop := fun x y => E x y ∨ (x = u ∧ y = v)
theorem zR_e : zR (zE E u v) a b ↔ zR E a b ∨ (zR E a u ∧ zR E v b) := by
  constructor
  · intro h
    refine h (fun b => zR E a b ∨ (zR E a u ∧ zR E v b)) (Or.inl zR.rfl) (fun x y e s => ?_)
    rcases e with e | ⟨rfl, rfl⟩
    · rcases s with s | ⟨s1, s2⟩
      · exact Or.inl (s.tr (zR.one e))
      · exact Or.inr ⟨s1, s2.tr (zR.one e)⟩
    · rcases s with s | ⟨s1, s2⟩
      · exact Or.inr ⟨s, zR.rfl⟩
      · exact Or.inr ⟨s1, zR.rfl⟩
  · rintro (h | ⟨h1, h2⟩)
    · exact h.mono (fun _ _ e => Or.inl e)
    · exact (h1.mono (fun _ _ e => Or.inl e)).tr ((zR.one (Or.inr ⟨rfl, rfl⟩)).tr (h2.mono (fun _ _ e => Or.inl e)))
/-- no edge leaves lo .. hi -/
def zCl (E : Int → Int → Prop) (lo hi : Int) : Prop := ∀ x y, E x y → lo ≤ x ∧ x < hi → lo ≤ y ∧ y < hi
theorem zCl.r (hc : zCl E lo hi) (ha : lo ≤ a ∧ a < hi) (h : zR E a b) : lo ≤ b ∧ b < hi := h (fun z => lo ≤ z ∧ z < hi) ha hc
theorem zCl.cg (hc : zCl E lo hi) (he : ∀ x y, lo ≤ x ∧ x < hi → (E' x y ↔ E x y)) (ha : lo ≤ a ∧ a < hi) : zR E' a b ↔ zR E a b := by
  constructor
  · intro h
    exact (h (fun z => zR E a z ∧ lo ≤ z ∧ z < hi) ⟨zR.rfl, ha⟩ (fun x y e s => ⟨s.1.tr (zR.one ((he x y s.2).mp e)), hc x y ((he x y s.2).mp e) s.2⟩)).1
  · intro h
    exact (h (fun z => zR E' a z ∧ lo ≤ z ∧ z < hi) ⟨zR.rfl, ha⟩ (fun x y e s => ⟨s.1.tr (zR.one ((he x y s.2).mpr e)), hc x y e s.2⟩)).1
theorem zCl.cg2 (hc : zCl E lo hi) (he : ∀ x y, lo ≤ x ∧ x < hi → (E' x y ↔ E x y)) : zCl E' lo hi := fun x y e hx => hc x y ((he x y hx).mp e) hx
/-- all edges lie below n -/
def zBd (E : Int → Int → Prop) (n : Int) : Prop := ∀ x y, E x y → (0 ≤ x ∧ x < n) ∧ (0 ≤ y ∧ y < n)
theorem zBd.le (h : zBd E a) (hab : a ≤ b) : zBd E b := fun x y e => by have := h x y e; omega
theorem zBd.e (h : zBd E n) (hu : 0 ≤ u ∧ u < n) (hv : 0 ≤ v ∧ v < n) : zBd (zE E u v) n := fun x y e => by
  rcases e with e | ⟨rfl, rfl⟩
  · exact h x y e
  · exact ⟨hu, hv⟩
/-- from a node without edges; to one -/
theorem zR.out (h : ∀ y, ¬ E a y) : zR E a b ↔ b = a := by
  constructor
  · intro q
    exact q (fun z => z = a) (Eq.refl _) (fun x y e s => by rw [s] at e; exact absurd e (h y))
  · rintro rfl; exact zR.rfl
theorem zR.inn (h : ∀ x, ¬ E x b) : zR E a b ↔ a = b := by
  constructor
  · intro q
    exact q (fun z => z = b → a = b) (fun z => z) (fun x y e s z => by rw [z] at e; exact absurd e (h x)) (Eq.refl _)
  · rintro rfl; exact zR.rfl
theorem zBd.out (h : zBd E n) (ha : n ≤ a) : zR E a b ↔ b = a := zR.out (fun y e => by have := h a y e; omega)
theorem zBd.inn (h : zBd E n) (hb : n ≤ b) : zR E a b ↔ a = b := zR.inn (fun x e => by have := h x b e; omega)
end GPH
/-! masks -/
theorem zt_zo {a b q : Int} : zt (zo a b) q ↔ zt a q ∨ zt b q := by
  unfold zt zo
  rw [Int.toNat_natCast, Nat.testBit_or, Bool.or_eq_true]
theorem zt_zp {p q : Int} (hp : 0 ≤ p) (hq : 0 ≤ q) : zt (zp p) q ↔ q = p := by
  unfold zt zp
  rw [Int.toNat_natCast, Nat.testBit_two_pow]
  simp only [decide_eq_true_eq]
  omega
theorem zt_0 {q : Int} : ¬ zt 0 q := by
  unfold zt
  simp
theorem zt_ext {a b : Int} (ha : 0 ≤ a) (hb : 0 ≤ b) (h : ∀ q, 0 ≤ q → (zt a q ↔ zt b q)) : a = b := by
  have : a.toNat = b.toNat := Nat.eq_of_testBit_eq (fun i => by
    have := h i (by omega)
    unfold zt at this
    rw [Int.toNat_natCast] at this
    cases h1 : a.toNat.testBit i <;> cases h2 : b.toNat.testBit i <;> simp_all)
  omega
/-- a set of positions above lo, up to hi -/
def zM (m lo hi : Int) : Prop := 0 ≤ m ∧ ∀ q, 0 ≤ q → zt m q → lo < q ∧ q ≤ hi
theorem zM.z {lo hi : Int} : zM 0 lo hi := ⟨by decide, fun _ _ h => absurd h zt_0⟩
theorem zM.o {a b lo hi : Int} (ha : zM a lo hi) (hb : zM b lo hi) : zM (zo a b) lo hi := ⟨zo_nn, fun q q0 h => by
  rcases zt_zo.mp h with h | h
  · exact ha.2 q q0 h
  · exact hb.2 q q0 h⟩
theorem zM.p {p lo hi : Int} (hp : 0 ≤ p) (h : lo < p ∧ p ≤ hi) : zM (zp p) lo hi := ⟨zp_nn, fun q q0 h' => by
  rw [zt_zp hp q0] at h'
  omega⟩
theorem zM.w {a lo hi lo' hi' : Int} (h : zM a lo hi) (h1 : lo' ≤ lo) (h2 : hi ≤ hi') : zM a lo' hi' := ⟨h.1, fun q q0 hq => by have := h.2 q q0 hq; omega⟩
/-- what follows the ends is joined by the begins -/
def zAF (b x : Int) (fo : Int → Int) : Int → Int := fun p => if 1 ≤ p ∧ p ≤ 24 ∧ zt b p then zo (fo p) x else fo p
/-- a part of the graph: nodes a0 .. a1, positions behind p0 up to p1, from s to t; e, f, l, fo say what its words are -/
def zFr (E : Int → Int → Prop) (inn : Int → Int) (a0 a1 p0 p1 s t : Int) (e : Bool) (f l : Int) (fo : Int → Int) : Prop :=
  (((0 ≤ a0 ∧ 0 ≤ p0 ∧ p0 ≤ p1 ∧ p1 ≤ 24) ∧ (a0 ≤ s ∧ s < a1) ∧ (a0 ≤ t ∧ t < a1)) ∧ (∀ p, p0 < p → p ≤ p1 → a0 ≤ inn p ∧ inn p + 1 < a1) ∧ zCl E a0 a1) ∧
  ((zR E s t ↔ e = true) ∧ (∀ q, p0 < q → q ≤ p1 → (zR E s (inn q) ↔ zt f q)) ∧ (∀ p, p0 < p → p ≤ p1 → (zR E (inn p + 1) t ↔ zt l p)) ∧ ∀ p q, p0 < p → p ≤ p1 → p0 < q → q ≤ p1 → (zR E (inn p + 1) (inn q) ↔ zt (fo p) q)) ∧
  zM f p0 p1 ∧ zM l p0 p1 ∧ ∀ p, p0 < p → p ≤ p1 → zM (fo p) p0 p1
section FRG
variable {E E' : Int → Int → Prop} {inn inn' : Int → Int} {a0 a1 a2 p0 p1 p2 s t s1 t1 s2 t2 f l f1 l1 f2 l2 : Int} {e e1 e2 : Bool} {fo fo' : Int → Int}
/-- the rest of the graph grows -/
theorem zFr.cg (h : zFr E inn a0 a1 p0 p1 s t e f l fo) (he : ∀ x y, a0 ≤ x ∧ x < a1 → (E' x y ↔ E x y)) (hi : ∀ q, p0 < q → q ≤ p1 → inn' q = inn q) (hf : ∀ p, p0 < p → p ≤ p1 → fo' p = fo p) : zFr E' inn' a0 a1 p0 p1 s t e f l fo' := by
  obtain ⟨⟨h1, h2, h3⟩, ⟨h4, h5, h6, h7⟩, h8, h9, h10⟩ := h
  refine ⟨⟨h1, fun p x y => by rw [hi p x y]; exact h2 p x y, h3.cg2 he⟩, ⟨?_, fun q x y => ?_, fun p x y => ?_, fun p q x y x' y' => ?_⟩, h8, h9, fun p x y => by rw [hf p x y]; exact h10 p x y⟩
  · rw [h3.cg he h1.2.1]; exact h4
  · rw [hi q x y, h3.cg he h1.2.1]; exact h5 q x y
  · have := h2 p x y
    rw [hi p x y, h3.cg he (by omega)]; exact h6 p x y
  · have := h2 p x y
    rw [hi p x y, hi q x' y', hf p x y, h3.cg he (by omega)]; exact h7 p q x y x' y'
/-- one position -/
theorem zFr.atom {n : Int} (hb : zBd E n) (hn : 0 ≤ n) (h0 : 0 ≤ p0 ∧ p0 < 24) (hi : inn (p0 + 1) = n) (hf : fo (p0 + 1) = 0) : zFr E inn n (n + 2) p0 (p0 + 1) n (n + 1) false (zp (p0 + 1)) (zp (p0 + 1)) fo := by
  have hc : ∀ x y, n ≤ x → (zR E x y ↔ y = x) := fun x y hx => hb.out hx
  refine ⟨⟨by omega, fun p x y => ?_, fun x y q hx => ?_⟩, ⟨?_, fun q x y => ?_, fun p x y => ?_, fun p q x y x' y' => ?_⟩, zM.p (by omega) (by omega), zM.p (by omega) (by omega), fun p x y => ?_⟩
  · obtain rfl : p = p0 + 1 := by omega
    omega
  · have := hb x y q; omega
  · rw [hc _ _ (by omega)]
    constructor
    · intro z; omega
    · intro z; exact absurd z (by decide)
  · obtain rfl : q = p0 + 1 := by omega
    rw [hc _ _ (by omega), zt_zp (by omega) (by omega), hi]
    exact iff_of_true rfl rfl
  · obtain rfl : p = p0 + 1 := by omega
    rw [hi, hc _ _ (by omega), zt_zp (by omega) (by omega)]
    exact iff_of_true rfl rfl
  · obtain rfl : p = p0 + 1 := by omega
    obtain rfl : q = p0 + 1 := by omega
    rw [hi, hc _ _ (by omega), hf]
    exact iff_of_false (by omega) zt_0
  · obtain rfl : p = p0 + 1 := by omega
    rw [hf]; exact zM.z
/-- no position: a branch at its begin -/
theorem zFr.nil {n : Int} (hb : zBd E n) (hn : 0 ≤ n) (h0 : 0 ≤ p0 ∧ p0 ≤ 24) : zFr E inn n (n + 1) p0 p0 n n true 0 0 fo := by
  refine ⟨⟨by omega, fun p x y => by omega, fun x y q hx => ?_⟩, ⟨?_, fun q x y => by omega, fun p x y => by omega, fun p q x y x' y' => by omega⟩, zM.z, zM.z, fun p x y => by omega⟩
  · have := hb x y q; omega
  · exact iff_of_true zR.rfl rfl
/-- a choice of nothing -/
theorem zFr.non {n : Int} (hb : zBd E n) (hn : 0 ≤ n) (h0 : 0 ≤ p0 ∧ p0 ≤ 24) : zFr E inn n (n + 2) p0 p0 n (n + 1) false 0 0 fo := by
  refine ⟨⟨by omega, fun p x y => by omega, fun x y q hx => ?_⟩, ⟨?_, fun q x y => by omega, fun p x y => by omega, fun p q x y x' y' => by omega⟩, zM.z, zM.z, fun p x y => by omega⟩
  · have := hb x y q; omega
  · rw [hb.out (Int.le_refl n)]
    exact iff_of_false (by omega) (by decide)
/-- one behind another -/
theorem zFr.cat (h : zFr E inn a0 a1 p0 p1 s1 t1 e1 f1 l1 fo) (h' : zFr E inn a1 a2 p1 p2 s2 t2 e2 f2 l2 fo) : zFr (zE E t1 s2) inn a0 a2 p0 p2 s1 t2 (e1 && e2) (if e1 = true then zo f1 f2 else f1) (if e2 = true then zo l1 l2 else l2) (zAF l1 f2 fo) := by
  obtain ⟨⟨h1, h2, h3⟩, ⟨h4, h5, h6, h7⟩, h8, h9, h10⟩ := h
  obtain ⟨⟨g1, g2, g3⟩, ⟨g4, g5, g6, g7⟩, g8, g9, g10⟩ := h'
  have A : ∀ x y, a0 ≤ x ∧ x < a1 → ¬ (a0 ≤ y ∧ y < a1) → ¬ zR E x y := fun x y hx hy q => hy (h3.r hx q)
  have B : ∀ x y, a1 ≤ x ∧ x < a2 → ¬ (a1 ≤ y ∧ y < a2) → ¬ zR E x y := fun x y hx hy q => hy (g3.r hx q)
  have L1 : ∀ q, 0 ≤ q → zt l1 q → q ≤ p1 := fun q q0 z => (h9.2 q q0 z).2
  refine ⟨⟨by omega, fun p x y => ?_, fun x y q hx => ?_⟩, ⟨?_, fun q x y => ?_, fun p x y => ?_, fun p q x y x' y' => ?_⟩, ?_, ?_, fun p x y => ?_⟩
  · by_cases z : p ≤ p1
    · have := h2 p x z; omega
    · have := g2 p (by omega) y; omega
  · rcases q with q | ⟨rfl, rfl⟩
    · by_cases z : x < a1
      · have := h3 x y q (by omega); omega
      · have := g3 x y q (by omega); omega
    · omega
  · rw [zR_e, iff_of_false (A s1 t2 h1.2.1 (by omega)) (id : ¬ False), h4, g4, Bool.and_eq_true]
    exact ⟨fun z => z.elim False.elim id, Or.inr⟩
  · by_cases z : q ≤ p1
    · have b := h2 q x z
      rw [zR_e, h5 q x z, iff_of_false (B s2 (inn q) g1.2.1 (by omega)) (id : ¬ False)]
      have k2 : ¬ zt f2 q := fun z' => by have := g8.2 q (by omega) z'; omega
      by_cases e : e1 = true
      · rw [if_pos e, zt_zo]
        exact ⟨fun z => Or.inl (z.elim id (fun y => y.2.elim)), fun z => Or.inl (z.elim id (fun y => absurd y k2))⟩
      · rw [if_neg e]
        exact ⟨fun z => z.elim id (fun y => y.2.elim), Or.inl⟩
    · have b := g2 q (by omega) y
      rw [zR_e, iff_of_false (A s1 (inn q) h1.2.1 (by omega)) (id : ¬ False), h4, g5 q (by omega) y]
      have k2 : ¬ zt f1 q := fun z' => by have := h8.2 q (by omega) z'; omega
      by_cases e : e1 = true
      · rw [if_pos e, zt_zo]
        exact ⟨fun z => Or.inr (z.elim False.elim (fun y => y.2)), fun z => Or.inr ⟨e, z.elim (fun y => absurd y k2) id⟩⟩
      · rw [if_neg e]
        exact ⟨fun z => z.elim False.elim (fun y => absurd y.1 e), fun z => absurd z k2⟩
  · by_cases z : p ≤ p1
    · have b := h2 p x z
      rw [zR_e, iff_of_false (A (inn p + 1) t2 (by omega) (by omega)) (id : ¬ False), h6 p x z, g4]
      have k2 : ¬ zt l2 p := fun z' => by have := g9.2 p (by omega) z'; omega
      by_cases e : e2 = true
      · rw [if_pos e, zt_zo]
        exact ⟨fun z => Or.inl (z.elim False.elim (fun y => y.1)), fun z => Or.inr ⟨z.elim id (fun y => absurd y k2), e⟩⟩
      · rw [if_neg e]
        exact ⟨fun z => z.elim False.elim (fun y => absurd y.2 e), fun z => absurd z k2⟩
    · have b := g2 p (by omega) y
      rw [zR_e, g6 p (by omega) y, iff_of_false (B (inn p + 1) t1 (by omega) (by omega)) (id : ¬ False)]
      have k2 : ¬ zt l1 p := fun z' => by have := h9.2 p (by omega) z'; omega
      by_cases e : e2 = true
      · rw [if_pos e, zt_zo]
        exact ⟨fun z => Or.inr (z.elim id (fun y => y.1.elim)), fun z => Or.inl (z.elim (fun y => absurd y k2) id)⟩
      · rw [if_neg e]
        exact ⟨fun z => z.elim id (fun y => y.1.elim), Or.inl⟩
  · unfold zAF
    by_cases z : p ≤ p1
    · have b := h2 p x z
      by_cases z' : q ≤ p1
      · have b' := h2 q x' z'
        rw [zR_e, h7 p q x z x' z', iff_of_false (B s2 (inn q) g1.2.1 (by omega)) (id : ¬ False)]
        have k2 : ¬ zt f2 q := fun z' => by have := g8.2 q (by omega) z'; omega
        by_cases e : zt l1 p
        · rw [if_pos ⟨by omega, by omega, e⟩, zt_zo]
          exact ⟨fun z => Or.inl (z.elim id (fun y => y.2.elim)), fun z => Or.inl (z.elim id (fun y => absurd y k2))⟩
        · rw [if_neg (fun z => e z.2.2)]
          exact ⟨fun z => z.elim id (fun y => y.2.elim), Or.inl⟩
      · have b' := g2 q (by omega) y'
        rw [zR_e, iff_of_false (A (inn p + 1) (inn q) (by omega) (by omega)) (id : ¬ False), h6 p x z, g5 q (by omega) y']
        have k2 : ¬ zt (fo p) q := fun z'' => by have := (h10 p x z).2 q (by omega) z''; omega
        by_cases e : zt l1 p
        · rw [if_pos ⟨by omega, by omega, e⟩, zt_zo]
          exact ⟨fun z => Or.inr (z.elim False.elim (fun y => y.2)), fun z => Or.inr ⟨e, z.elim (fun y => absurd y k2) id⟩⟩
        · rw [if_neg (fun z => e z.2.2)]
          exact ⟨fun z => z.elim False.elim (fun y => absurd y.1 e), fun z => absurd z k2⟩
    · have b := g2 p (by omega) y
      have k3 : ¬ zt l1 p := fun z' => by have := h9.2 p (by omega) z'; omega
      rw [if_neg (fun z => k3 z.2.2), zR_e, iff_of_false (B (inn p + 1) t1 (by omega) (by omega)) (id : ¬ False)]
      by_cases z' : q ≤ p1
      · have b' := h2 q x' z'
        have k2 : ¬ zt (fo p) q := fun z'' => by have := (g10 p (by omega) y).2 q (by omega) z''; omega
        rw [iff_of_false (B (inn p + 1) (inn q) (by omega) (by omega)) (id : ¬ False)]
        exact ⟨fun z => z.elim False.elim (fun y => y.1.elim), fun z => absurd z k2⟩
      · rw [g7 p q (by omega) y (by omega) y']
        exact ⟨fun z => z.elim id (fun y => y.1.elim), Or.inl⟩
  · split
    · exact (h8.w (Int.le_refl _) (by omega)).o (g8.w (by omega) (Int.le_refl _))
    · exact h8.w (Int.le_refl _) (by omega)
  · split
    · exact (h9.w (Int.le_refl _) (by omega)).o (g9.w (by omega) (Int.le_refl _))
    · exact g9.w (by omega) (Int.le_refl _)
  · have hfo : zM (fo p) p0 p2 := by
      by_cases z : p ≤ p1
      · exact (h10 p x z).w (Int.le_refl _) (by omega)
      · exact (g10 p (by omega) y).w (by omega) (Int.le_refl _)
    unfold zAF
    split
    · exact hfo.o (g8.w (by omega) (Int.le_refl _))
    · exact hfo
/-- a choice so far: from a0 to a0 + 1 -/
def zFp (E : Int → Int → Prop) (inn : Int → Int) (a0 a1 p0 p1 : Int) (e : Bool) (f l : Int) (fo : Int → Int) : Prop := zFr E inn a0 a1 p0 p1 a0 (a0 + 1) e f l fo ∧ (∀ x, ¬ E x a0) ∧ (∀ y, ¬ E (a0 + 1) y) ∧ ∀ q, p0 < q → q ≤ p1 → a0 + 2 ≤ inn q
theorem zFp.non {n : Int} (hb : zBd E n) (hn : 0 ≤ n) (h0 : 0 ≤ p0 ∧ p0 ≤ 24) : zFp E inn n (n + 2) p0 p0 false 0 0 fo := ⟨zFr.non hb hn h0, fun x e => by have := hb x n e; omega, fun y e => by have := hb (n + 1) y e; omega, fun q x y => by omega⟩
theorem zFp.cg (h : zFp E inn a0 a1 p0 p1 e f l fo) (he : ∀ x y, x < a1 → (E' x y ↔ E x y)) (hn : ∀ x y, a1 ≤ x → E' x y → a1 ≤ y) (hi : ∀ q, p0 < q → q ≤ p1 → inn' q = inn q) (hf : ∀ p, p0 < p → p ≤ p1 → fo' p = fo p) : zFp E' inn' a0 a1 p0 p1 e f l fo' := by
  obtain ⟨h1, h2, h3, h4⟩ := h
  have b := h1.1.1
  refine ⟨h1.cg (fun x y z => he x y z.2) hi hf, fun x z => ?_, fun y z => ?_, fun q x y => by rw [hi q x y]; exact h4 q x y⟩
  · by_cases c : x < a1
    · exact h2 x ((he x a0 c).mp z)
    · have := hn x a0 (by omega) z; omega
  · exact h3 y ((he _ y (by omega)).mp z)
/-- one more branch -/
theorem zFp.alt (h : zFp E inn a0 a1 p0 p1 e1 f1 l1 fo) (h' : zFr E inn a1 a2 p1 p2 s2 t2 e2 f2 l2 fo) : zFp (zE (zE E a0 s2) t2 (a0 + 1)) inn a0 a2 p0 p2 (e1 || e2) (zo f1 f2) (zo l1 l2) fo := by
  obtain ⟨⟨⟨h1, h2, h3⟩, ⟨h4, h5, h6, h7⟩, h8, h9, h10⟩, hb, hn, hI⟩ := h
  obtain ⟨⟨g1, g2, g3⟩, ⟨g4, g5, g6, g7⟩, g8, g9, g10⟩ := h'
  have A : ∀ x y, a0 ≤ x ∧ x < a1 → ¬ (a0 ≤ y ∧ y < a1) → ¬ zR E x y := fun x y hx hy q => hy (h3.r hx q)
  have B : ∀ x y, a1 ≤ x ∧ x < a2 → ¬ (a1 ≤ y ∧ y < a2) → ¬ zR E x y := fun x y hx hy q => hy (g3.r hx q)
  have K : ∀ x y, zR (zE (zE E a0 s2) t2 (a0 + 1)) x y ↔ (zR E x y ∨ (x = a0 ∧ zR E s2 y)) ∨ ((zR E x t2 ∨ (x = a0 ∧ zR E s2 t2)) ∧ y = a0 + 1) := by
    intro x y
    have k1 : zR E x a0 ↔ x = a0 := zR.inn hb
    have k2 : zR E (a0 + 1) y ↔ y = a0 + 1 := zR.out hn
    have k3 : ¬ zR E (a0 + 1) a0 := fun z => by have := (zR.out hn).mp z; omega
    rw [zR_e, zR_e, zR_e, zR_e, k1, k2, iff_of_false k3 (id : ¬ False)]
    exact ⟨fun z => z.elim Or.inl (fun y => Or.inr ⟨y.1, y.2.elim id (fun w => w.1.elim)⟩), fun z => z.elim Or.inl (fun y => Or.inr ⟨y.1, Or.inl y.2⟩)⟩
  have In : ∀ q, p0 < q → q ≤ p2 → a0 + 2 ≤ inn q ∧ inn q + 1 < a2 := fun q x y => by
    by_cases z : q ≤ p1
    · have := h2 q x z; have := hI q x z; omega
    · have := g2 q (by omega) y; omega
  refine ⟨⟨⟨by omega, fun p x y => ?_, fun x y q hx => ?_⟩, ⟨?_, fun q x y => ?_, fun p x y => ?_, fun p q x y x' y' => ?_⟩, (h8.w (Int.le_refl _) (by omega)).o (g8.w (by omega) (Int.le_refl _)), (h9.w (Int.le_refl _) (by omega)).o (g9.w (by omega) (Int.le_refl _)), fun p x y => ?_⟩, fun x q => ?_, fun y q => ?_, fun q x y => (In q x y).1⟩
  · have := In p x y; omega
  · rcases q with (q | ⟨rfl, rfl⟩) | ⟨rfl, rfl⟩
    · by_cases z : x < a1
      · have := h3 x y q (by omega); omega
      · have := g3 x y q (by omega); omega
    · omega
    · omega
  · rw [K, h4, g4, Bool.or_eq_true]
    have k1 := A a0 t2 (by omega) (by omega)
    have k2 := B s2 (a0 + 1) g1.2.1 (by omega)
    exact ⟨fun z => z.elim (fun z => z.elim Or.inl (fun z => absurd z.2 k2)) (fun z => z.1.elim (fun z => absurd z k1) (fun z => Or.inr z.2)), fun z => z.elim (fun z => Or.inl (Or.inl z)) (fun z => Or.inr ⟨Or.inr ⟨rfl, z⟩, rfl⟩)⟩
  · have b := In q x y
    rw [K, zt_zo]
    have kn : inn q ≠ a0 + 1 := by omega
    by_cases z : q ≤ p1
    · have b' := h2 q x z
      have k1 := B s2 (inn q) g1.2.1 (by omega)
      have k2 : ¬ zt f2 q := fun z' => by have := g8.2 q (by omega) z'; omega
      rw [h5 q x z]
      exact ⟨fun z => z.elim (fun z => z.elim Or.inl (fun z => absurd z.2 k1)) (fun z => absurd z.2 kn), fun z => Or.inl (Or.inl (z.elim id (fun z => absurd z k2)))⟩
    · have b' := g2 q (by omega) y
      have k1 := A a0 (inn q) (by omega) (by omega)
      have k2 : ¬ zt f1 q := fun z' => by have := h8.2 q (by omega) z'; omega
      rw [g5 q (by omega) y]
      exact ⟨fun z => z.elim (fun z => z.elim (fun z => absurd z k1) (fun z => Or.inr z.2)) (fun z => absurd z.2 kn), fun z => Or.inl (Or.inr ⟨rfl, z.elim (fun z => absurd z k2) id⟩)⟩
  · have b := In p x y
    rw [K, zt_zo]
    have kn : inn p + 1 ≠ a0 := by omega
    by_cases z : p ≤ p1
    · have b' := h2 p x z
      have k1 := A (inn p + 1) t2 (by omega) (by omega)
      have k2 : ¬ zt l2 p := fun z' => by have := g9.2 p (by omega) z'; omega
      rw [h6 p x z]
      exact ⟨fun z => z.elim (fun z => z.elim Or.inl (fun z => absurd z.1 kn)) (fun z => z.1.elim (fun z => absurd z k1) (fun z => absurd z.1 kn)), fun z => Or.inl (Or.inl (z.elim id (fun z => absurd z k2)))⟩
    · have b' := g2 p (by omega) y
      have k1 := B (inn p + 1) (a0 + 1) (by omega) (by omega)
      have k2 : ¬ zt l1 p := fun z' => by have := h9.2 p (by omega) z'; omega
      rw [g6 p (by omega) y]
      exact ⟨fun z => z.elim (fun z => z.elim (fun z => absurd z k1) (fun z => absurd z.1 kn)) (fun z => z.1.elim Or.inr (fun z => absurd z.1 kn)), fun z => Or.inr ⟨Or.inl (z.elim (fun z => absurd z k2) id), rfl⟩⟩
  · have b := In p x y
    have b2 := In q x' y'
    have kn : inn p + 1 ≠ a0 := by omega
    have kq : inn q ≠ a0 + 1 := by omega
    have k0 : zR (zE (zE E a0 s2) t2 (a0 + 1)) (inn p + 1) (inn q) ↔ zR E (inn p + 1) (inn q) := by
      rw [K]
      exact ⟨fun z => z.elim (fun z => z.elim id (fun z => absurd z.1 kn)) (fun z => absurd z.2 kq), fun z => Or.inl (Or.inl z)⟩
    rw [k0]
    by_cases z : p ≤ p1
    · have b3 := h2 p x z
      by_cases z' : q ≤ p1
      · exact h7 p q x z x' z'
      · have b4 := g2 q (by omega) y'
        exact iff_of_false (A _ _ (by omega) (by omega)) (fun z'' => by have := (h10 p x z).2 q (by omega) z''; omega)
    · have b3 := g2 p (by omega) y
      by_cases z' : q ≤ p1
      · have b4 := h2 q x' z'
        exact iff_of_false (B _ _ (by omega) (by omega)) (fun z'' => by have := (g10 p (by omega) y).2 q (by omega) z''; omega)
      · exact g7 p q (by omega) y (by omega) y'
  · by_cases z : p ≤ p1
    · exact (h10 p x z).w (Int.le_refl _) (by omega)
    · exact (g10 p (by omega) y).w (by omega) (Int.le_refl _)
  · rcases q with (q | ⟨rfl, q⟩) | ⟨rfl, q⟩
    · exact hb x q
    · omega
    · omega
  · rcases q with (q | ⟨q, rfl⟩) | ⟨q, rfl⟩
    · exact hn y q
    · omega
    · omega
/-- the edges of an operator -/
def zE3 (o : Bool) (E : Int → Int → Prop) (n s t : Int) : Int → Int → Prop := if o = true then zE (zE (zE E n s) t (n + 1)) n (n + 1) else zE (zE E n s) t (n + 1)
def zE4 (o r : Bool) (E : Int → Int → Prop) (n s t : Int) : Int → Int → Prop := if r = true then zE (zE3 o E n s t) t s else zE3 o E n s t
theorem zE3_r {n x y : Int} {o : Bool} (hb : zBd E n) (hn : 0 ≤ n) (hs : 0 ≤ s ∧ s < n) (ht : 0 ≤ t ∧ t < n) : (x ≠ n → y ≠ n + 1 → (zR (zE3 o E n s t) x y ↔ zR E x y)) ∧ (x ≠ n → x ≠ n + 1 → (zR (zE3 o E n s t) x (n + 1) ↔ zR E x t)) ∧ (y ≠ n → y ≠ n + 1 → (zR (zE3 o E n s t) n y ↔ zR E s y)) ∧ (zR (zE3 o E n s t) n (n + 1) ↔ zR E s t ∨ o = true) := by
  have c1 : ∀ x y, zR (zE E n s) x y ↔ zR E x y ∨ (x = n ∧ zR E s y) := fun x y => by rw [zR_e, hb.inn (Int.le_refl n)]
  have hb1 : zBd (zE E n s) (n + 1) := (hb.le (by omega)).e (by omega) (by omega)
  have c2 : ∀ x y, zR (zE (zE E n s) t (n + 1)) x y ↔ zR (zE E n s) x y ∨ (zR (zE E n s) x t ∧ y = n + 1) := fun x y => by rw [zR_e, hb1.out (Int.le_refl _)]
  have c3 : ∀ x y, zR (zE3 o E n s t) x y ↔ zR (zE (zE E n s) t (n + 1)) x y ∨ (o = true ∧ x = n ∧ y = n + 1) := fun x y => by
    unfold zE3
    by_cases e : o = true
    · rw [if_pos e, zR_e]
      have k1 : zR (zE (zE E n s) t (n + 1)) x n ↔ x = n := by
        rw [c2, c1, hb.inn (Int.le_refl n)]
        constructor
        · rintro ((z | z) | z)
          · exact z
          · exact z.1
          · omega
        · exact fun z => Or.inl (Or.inl z)
      have k2 : zR (zE (zE E n s) t (n + 1)) (n + 1) y ↔ y = n + 1 := by
        refine zR.out (fun y z => ?_)
        rcases z with z | z
        · have := hb1 _ _ z; omega
        · omega
      rw [k1, k2]
      exact ⟨fun z => z.elim Or.inl (fun z => Or.inr ⟨e, z⟩), fun z => z.elim Or.inl (fun z => Or.inr z.2)⟩
    · rw [if_neg e]
      exact ⟨Or.inl, fun z => z.elim id (fun z => absurd z.1 e)⟩
  have co : ∀ y, zR E n y ↔ y = n := fun y => hb.out (Int.le_refl n)
  have ci : ∀ x, zR E x (n + 1) ↔ x = n + 1 := fun x => hb.inn (by omega)
  refine ⟨fun hx hy => ?_, fun hx hx' => ?_, fun hy hy' => ?_, ?_⟩
  · rw [c3, c2, c1]
    exact ⟨fun z => z.elim (fun z => z.elim (fun z => z.elim id (fun z => absurd z.1 hx)) (fun z => absurd z.2 hy)) (fun z => absurd z.2.1 hx), fun z => Or.inl (Or.inl (Or.inl z))⟩
  · rw [c3, c2, c1, c1, ci]
    exact ⟨fun z => z.elim (fun z => z.elim (fun z => z.elim (fun z => absurd z hx') (fun z => absurd z.1 hx)) (fun z => z.1.elim id (fun z => absurd z.1 hx))) (fun z => absurd z.2.1 hx), fun z => Or.inl (Or.inr ⟨Or.inl z, rfl⟩)⟩
  · rw [c3, c2, c1, co]
    exact ⟨fun z => z.elim (fun z => z.elim (fun z => z.elim (fun z => absurd z hy) (fun z => z.2)) (fun z => absurd z.2 hy')) (fun z => absurd z.2.2 hy'), fun z => Or.inl (Or.inl (Or.inr ⟨rfl, z⟩))⟩
  · rw [c3, c2, c1, c1, co, co]
    constructor
    · rintro (((z | ⟨_, z⟩) | ⟨z | ⟨_, z⟩, _⟩) | z)
      · omega
      · have := (ci s).mp z; omega
      · omega
      · exact Or.inl z
      · exact Or.inr z.1
    · rintro (z | z)
      · exact Or.inl (Or.inr ⟨Or.inr ⟨rfl, z⟩, rfl⟩)
      · exact Or.inr ⟨z, rfl, rfl⟩
theorem zE4_bd {n : Int} {o r : Bool} (hb : zBd E n) (hn : 0 ≤ n) (hs : 0 ≤ s ∧ s < n) (ht : 0 ≤ t ∧ t < n) : zBd (zE4 o r E n s t) (n + 2) := by
  have h2 : zBd (zE (zE E n s) t (n + 1)) (n + 2) := ((hb.le (by omega)).e (by omega) (by omega)).e (by omega) (by omega)
  have h3 : zBd (zE3 o E n s t) (n + 2) := by
    unfold zE3
    split
    · exact h2.e (by omega) (by omega)
    · exact h2
  unfold zE4
  split
  · exact h3.e (by omega) (by omega)
  · exact h3
/-- an operator behind a piece -/
theorem zFr.op {n : Int} (o r : Bool) (h : zFr E inn a0 n p0 p1 s t e f l fo) (hb : zBd E n) : zFr (zE4 o r E n s t) inn a0 (n + 2) p0 p1 n (n + 1) (e || o) f l (if r = true then zAF l f fo else fo) := by
  obtain ⟨⟨h1, h2, h3⟩, ⟨h4, h5, h6, h7⟩, h8, h9, h10⟩ := h
  have F1 : ∀ x y, x < n → y < n → (zR (zE3 o E n s t) x y ↔ zR E x y) := fun x y hx hy => (zE3_r hb (by omega) (by omega) (by omega)).1 (by omega) (by omega)
  have F2 : ∀ x, x < n → (zR (zE3 o E n s t) x (n + 1) ↔ zR E x t) := fun x hx => (zE3_r (y := 0) hb (by omega) (by omega) (by omega)).2.1 (by omega) (by omega)
  have F3 : ∀ y, y < n → (zR (zE3 o E n s t) n y ↔ zR E s y) := fun y hy => (zE3_r (x := 0) hb (by omega) (by omega) (by omega)).2.2.1 (by omega) (by omega)
  have F4 : zR (zE3 o E n s t) n (n + 1) ↔ zR E s t ∨ o = true := (zE3_r (x := 0) (y := 0) hb (by omega) (by omega) (by omega)).2.2.2
  have K : ∀ x y, zR (zE4 o r E n s t) x y ↔ zR (zE3 o E n s t) x y ∨ (r = true ∧ zR (zE3 o E n s t) x t ∧ zR (zE3 o E n s t) s y) := fun x y => by
    unfold zE4
    by_cases q : r = true
    · rw [if_pos q, zR_e]
      exact ⟨fun z => z.elim Or.inl (fun z => Or.inr ⟨q, z⟩), fun z => z.elim Or.inl (fun z => Or.inr z.2)⟩
    · rw [if_neg q]
      exact ⟨Or.inl, fun z => z.elim id (fun z => absurd z.1 q)⟩
  have c3 : ∀ x y, zE3 o E n s t x y → E x y ∨ (x = n ∧ y = s) ∨ (x = t ∧ y = n + 1) ∨ (x = n ∧ y = n + 1) := fun x y => by
    unfold zE3
    split
    · rintro (((z | z) | z) | z)
      · exact Or.inl z
      · exact Or.inr (Or.inl z)
      · exact Or.inr (Or.inr (Or.inl z))
      · exact Or.inr (Or.inr (Or.inr z))
    · rintro ((z | z) | z)
      · exact Or.inl z
      · exact Or.inr (Or.inl z)
      · exact Or.inr (Or.inr (Or.inl z))
  have c4 : ∀ x y, zE4 o r E n s t x y → E x y ∨ (x = n ∧ y = s) ∨ (x = t ∧ y = n + 1) ∨ (x = n ∧ y = n + 1) ∨ (x = t ∧ y = s) := fun x y => by
    unfold zE4
    split
    · rintro (z | z)
      · rcases c3 x y z with z | z | z | z
        · exact Or.inl z
        · exact Or.inr (Or.inl z)
        · exact Or.inr (Or.inr (Or.inl z))
        · exact Or.inr (Or.inr (Or.inr (Or.inl z)))
      · exact Or.inr (Or.inr (Or.inr (Or.inr z)))
    · intro z
      rcases c3 x y z with z | z | z | z
      · exact Or.inl z
      · exact Or.inr (Or.inl z)
      · exact Or.inr (Or.inr (Or.inl z))
      · exact Or.inr (Or.inr (Or.inr (Or.inl z)))
  refine ⟨⟨by omega, fun p x y => ?_, fun x y q hx => ?_⟩, ⟨?_, fun q x y => ?_, fun p x y => ?_, fun p q x y x' y' => ?_⟩, h8, h9, fun p x y => ?_⟩
  · have := h2 p x y; omega
  · rcases c4 x y q with q | q | q | q | q
    · have b := hb x y q
      have := h3 x y q (by omega); omega
    all_goals omega
  · rw [K, F4, F3 t (by omega), F2 s (by omega), h4, Bool.or_eq_true]
    exact ⟨fun z => z.elim id (fun z => Or.inl z.2.1), Or.inl⟩
  · have b := h2 q x y
    rw [K, F3 _ (by omega), F3 t (by omega), F1 _ _ (by omega) (by omega), h5 q x y]
    exact ⟨fun z => z.elim id (fun z => z.2.2), Or.inl⟩
  · have b := h2 p x y
    rw [K, F2 _ (by omega), F1 _ _ (by omega) (by omega), F2 s (by omega), h6 p x y]
    exact ⟨fun z => z.elim id (fun z => z.2.1), Or.inl⟩
  · have b := h2 p x y
    have b2 := h2 q x' y'
    rw [K, F1 _ _ (by omega) (by omega), F1 _ _ (by omega) (by omega), F1 _ _ (by omega) (by omega), h6 p x y, h5 q x' y', h7 p q x y x' y']
    by_cases q1 : r = true
    · rw [if_pos q1]
      unfold zAF
      by_cases q2 : zt l p
      · rw [if_pos ⟨by omega, by omega, q2⟩, zt_zo]
        exact ⟨fun z => z.elim Or.inl (fun z => Or.inr z.2.2), fun z => z.elim Or.inl (fun z => Or.inr ⟨q1, q2, z⟩)⟩
      · rw [if_neg (fun z => q2 z.2.2)]
        exact ⟨fun z => z.elim id (fun z => absurd z.2.1 q2), Or.inl⟩
    · rw [if_neg q1]
      exact ⟨fun z => z.elim id (fun z => absurd z.1 q1), Or.inl⟩
  · split
    · unfold zAF
      split
      · exact (h10 p x y).o h8
      · exact h10 p x y
    · exact h10 p x y
theorem zE4_lo {n x y a : Int} {o r : Bool} (hs : a ≤ s ∧ s < n) (ht : a ≤ t ∧ t < n) (hx : x < a) (ha : a ≤ n) : zE4 o r E n s t x y ↔ E x y := by
  have c : ∀ {E : Int → Int → Prop} {u v : Int}, a ≤ u → (zE E u v x y ↔ E x y) := fun {E u v} hu => ⟨fun z => z.elim id (fun z => by omega), Or.inl⟩
  unfold zE4 zE3
  cases o <;> cases r <;> simp only [if_true, if_false, Bool.false_eq_true, reduceIte] <;> simp only [c ht.1, c ha]
end FRG
