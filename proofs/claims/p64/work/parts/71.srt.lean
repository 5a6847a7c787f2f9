/-! ===== the class: states sorted into classes ===== -/
section C71a
variable {w : Int → Int} {s : Int} {F G h : Int → Int} {a b c n t : Int}
theorem zSm.rfl : zSm w s F a a := ⟨Eq.refl _, Iff.rfl, fun _ _ _ => Eq.refl _⟩
theorem zSm.sy (q : zSm w s F a b) : zSm w s F b a := ⟨q.1.symm, q.2.1.symm, fun c c0 c1 => (q.2.2 c c0 c1).symm⟩
theorem zSm.tr (q : zSm w s F a b) (r : zSm w s F b c) : zSm w s F a c := ⟨q.1.trans r.1, q.2.1.trans r.2.1, fun c c0 c1 => (q.2.2 c c0 c1).trans (r.2.2 c c0 c1)⟩
/-- how many states come first in their class, of those below n -/
noncomputable def zCn (R : Int → Int → Prop) (n : Int) : Int := zsum (fun i => zc (∀ b, 0 ≤ b → b < i → ¬ R i b)) n.toNat
theorem zCn_cg {R R' : Int → Int → Prop} (hh : ∀ i b, 0 ≤ i → i < n → 0 ≤ b → b < n → (R i b ↔ R' i b)) : zCn R n = zCn R' n := zsum_cg _ (fun i i0 i1 => zc_c ⟨fun z b b0 b1 y => z b b0 b1 ((hh i b i0 (by omega) b0 (by omega)).mpr y), fun z b b0 b1 y => z b b0 b1 ((hh i b i0 (by omega) b0 (by omega)).mp y)⟩)
theorem zc_01 {p : Prop} : 0 ≤ zc p ∧ zc p ≤ 1 := by
  rcases @zc_or p with h | h <;> omega
theorem zCn_rg {R : Int → Int → Prop} (hn : 0 ≤ n) : 0 ≤ zCn R n ∧ zCn R n ≤ n := by
  have := zsum_rg (f := fun i => zc (∀ b, 0 ≤ b → b < i → ¬ R i b)) n.toNat (fun _ _ _ => zc_01)
  unfold zCn
  omega
/-- the first t states are sorted: G their classes, h the first of each class, n classes -/
def cSp (w : Int → Int) (s : Int) (F G h : Int → Int) (n t : Int) : Prop := (0 ≤ n ∧ n ≤ t) ∧ (∀ j, 0 ≤ j → j < n → 0 ≤ h j ∧ h j < t) ∧ (∀ i, 0 ≤ i → i < t → (0 ≤ G i ∧ G i < n) ∧ zSm w s F i (h (G i))) ∧ (∀ i j, 0 ≤ i → i < j → j < n → ¬ zSm w s F (h j) (h i)) ∧ n = zCn (zSm w s F) t
theorem zCn_s {R : Int → Int → Prop} (h0 : 0 ≤ n) : zCn R (n + 1) = zCn R n + zc (∀ b, 0 ≤ b → b < n → ¬ R n b) := zsum_s h0
theorem cSp.old {k : Int} (q : cSp w s F G h n t) (k0 : 0 ≤ k) (k1 : k < n) (z : zSm w s F t (h k)) : cSp w s F (zu G t k) h n (t + 1) := by
  obtain ⟨h1, h2, h3, h4, h5⟩ := q
  have hk := h2 k k0 k1
  refine ⟨by omega, fun j j0 j1 => ?_, fun i i0 i1 => ?_, h4, ?_⟩
  · have := h2 j j0 j1; omega
  · by_cases e : i = t
    · rw [e, zu_at]; exact ⟨⟨k0, k1⟩, z⟩
    · rw [zu_ne e]; exact h3 i i0 (by omega)
  · rw [zCn_s (by omega), zc_f (fun y => y _ hk.1 hk.2 z)]; omega
theorem cSp.new (q : cSp w s F G h n t) (z : ∀ j, 0 ≤ j → j < n → ¬ zSm w s F t (h j)) : cSp w s F (zu G t n) (zu h n t) (n + 1) (t + 1) := by
  obtain ⟨h1, h2, h3, h4, h5⟩ := q
  refine ⟨by omega, fun j j0 j1 => ?_, fun i i0 i1 => ?_, fun i j i0 i1 j1 => ?_, ?_⟩
  · by_cases e : j = n
    · rw [e, zu_at]; omega
    · rw [zu_ne e]; have := h2 j j0 (by omega); omega
  · by_cases e : i = t
    · rw [e, zu_at, zu_at]; exact ⟨by omega, zSm.rfl⟩
    · have hi := h3 i i0 (by omega)
      rw [zu_ne e, zu_ne (show G i ≠ n by omega)]
      exact ⟨by omega, hi.2⟩
  · rw [zu_ne (show i ≠ n by omega)]
    by_cases e : j = n
    · rw [e, zu_at]; exact z i i0 (by omega)
    · rw [zu_ne e]; exact h4 i j i0 i1 (by omega)
  · rw [zCn_s (by omega), zc_t (fun b b0 b1 y => by
      have hb := h3 b b0 b1
      exact z _ hb.1.1 hb.1.2 (y.tr hb.2))]
    omega
theorem cSp.iff (q : cSp w s F G h n t) {i k : Int} (i0 : 0 ≤ i) (i1 : i < t) (k0 : 0 ≤ k) (k1 : k < t) : G i = G k ↔ zSm w s F i k := by
  obtain ⟨h1, h2, h3, h4, h5⟩ := q
  have hi := h3 i i0 i1
  have hk := h3 k k0 k1
  constructor
  · intro e
    rw [← e] at hk
    exact hi.2.tr hk.2.sy
  · intro z
    have y : zSm w s F (h (G i)) (h (G k)) := hi.2.sy.tr (z.tr hk.2)
    rcases Int.lt_trichotomy (G i) (G k) with e | e | e
    · exact absurd y.sy (h4 _ _ hi.1.1 e hk.1.2)
    · exact e
    · exact absurd y (h4 _ _ hk.1.1 e hi.1.2)
theorem cSp.z : cSp w s F G h 0 0 := ⟨by decide, fun j j0 j1 => by omega, fun i i0 i1 => by omega, fun i j i0 i1 j1 => by omega, rfl⟩
/-- the classes of round r -/
def wRl (w : Int → Int) (s : Int) : Nat → Int → Int → Prop
  | 0 => fun _ _ => True
  | r + 1 => wEq w s r
/-- the one before -/
def zPv (f : Nat → Int) : Nat → Int
  | 0 => 0
  | r + 1 => f r
theorem wEq.rfl : ∀ (n : Nat) (a : Int), wEq w s n a a
  | 0, _ => Iff.rfl
  | n + 1, _ => ⟨Iff.rfl, fun _ _ _ => wEq.rfl n _⟩
theorem wEq.sy : ∀ (n : Nat) {a b : Int}, wEq w s n a b → wEq w s n b a
  | 0, _, _, h => Iff.symm h
  | n + 1, _, _, h => ⟨h.1.symm, fun c c0 c1 => wEq.sy n (h.2 c c0 c1)⟩
theorem wEq.tr : ∀ (n : Nat) {a b c : Int}, wEq w s n a b → wEq w s n b c → wEq w s n a c
  | 0, _, _, _, h, h' => Iff.trans h h'
  | n + 1, _, _, _, h, h' => ⟨h.1.trans h'.1, fun c c0 c1 => wEq.tr n (h.2 c c0 c1) (h'.2 c c0 c1)⟩
theorem wEq.dn : ∀ (n : Nat) {a b : Int}, wEq w s (n + 1) a b → wEq w s n a b
  | 0, _, _, h => h.1
  | n + 1, _, _, h => ⟨h.1, fun c c0 c1 => wEq.dn n (h.2 c c0 c1)⟩
theorem wEq.ac : ∀ (n : Nat) {a b : Int}, wEq w s n a b → (wAcc w s a ↔ wAcc w s b)
  | 0, _, _, h => h
  | _ + 1, _, _, h => h.1
theorem wRl.rfl : ∀ (r : Nat) (a : Int), wRl w s r a a
  | 0, _ => trivial
  | r + 1, a => wEq.rfl r a
theorem wRl.sy : ∀ (r : Nat) {a b : Int}, wRl w s r a b → wRl w s r b a
  | 0, _, _, _ => trivial
  | r + 1, _, _, h => wEq.sy r h
theorem wRl.tr : ∀ (r : Nat) {a b c : Int}, wRl w s r a b → wRl w s r b c → wRl w s r a c
  | 0, _, _, _, _, _ => trivial
  | r + 1, _, _, _, h, h' => wEq.tr r h h'
theorem wRl.dn : ∀ (r : Nat) {a b : Int}, wRl w s (r + 1) a b → wRl w s r a b
  | 0, _, _, _ => trivial
  | r + 1, _, _, h => wEq.dn r h
/-- one round more -/
theorem wRl.sm (hO : wP w s) (r : Nat) (hF : ∀ i k, 0 ≤ i → i < w (476 * s + 5) → 0 ≤ k → k < w (476 * s + 5) → (F i = F k ↔ wRl w s r i k)) {a b : Int} (a0 : 0 ≤ a) (a1 : a < w (476 * s + 5)) (b0 : 0 ≤ b) (b1 : b < w (476 * s + 5)) : zSm w s F a b ↔ wRl w s (r + 1) a b := by
  have hn : ∀ c, 0 ≤ c → c < 6 → (F (w (476 * s + (116 + 6 * a + c))) = F (w (476 * s + (116 + 6 * b + c))) ↔ wRl w s r (w (476 * s + (116 + 6 * a + c))) (w (476 * s + (116 + 6 * b + c)))) := fun c c0 c1 => by
    have q1 := hO.2.2.2.2.2 a c a0 a1 c0 c1
    have q2 := hO.2.2.2.2.2 b c b0 b1 c0 c1
    exact hF _ _ q1.1 q1.2 q2.1 q2.2
  match r with
  | 0 => exact ⟨fun z => z.2.1, fun z => ⟨(hF a b a0 a1 b0 b1).mpr trivial, z, fun c c0 c1 => (hn c c0 c1).mpr trivial⟩⟩
  | r + 1 => exact ⟨fun z => ⟨z.2.1, fun c c0 c1 => (hn c c0 c1).mp (z.2.2 c c0 c1)⟩, fun z => ⟨(hF a b a0 a1 b0 b1).mpr (wEq.dn r z), z.1, fun c c0 c1 => (hn c c0 c1).mpr (z.2 c c0 c1)⟩⟩
theorem zsum_mono {f g : Int → Int} : ∀ n : Nat, (∀ j : Int, 0 ≤ j → j < n → f j ≤ g j) → zsum f n ≤ zsum g n
  | 0, _ => Int.le_refl _
  | n + 1, h => by
    have h1 := zsum_mono n (fun j j0 j1 => h j j0 (by omega))
    have h2 := h n (by omega) (by omega)
    show zsum f n + f n ≤ zsum g n + g n
    omega
theorem zsum_meq {f g : Int → Int} : ∀ n : Nat, (∀ j : Int, 0 ≤ j → j < n → f j ≤ g j) → zsum f n = zsum g n → ∀ j : Int, 0 ≤ j → j < n → f j = g j
  | 0, _, _, j, j0, j1 => by omega
  | n + 1, h, e, j, j0, j1 => by
    have h1 := zsum_mono n (fun j j0 j1 => h j j0 (by omega))
    have h2 := h n (by omega) (by omega)
    have e' : zsum f n + f n = zsum g n + g n := e
    by_cases z : j = n
    · rw [z]; omega
    · exact zsum_meq n (fun j j0 j1 => h j j0 (by omega)) (by omega) j j0 (by omega)
/-- a finer sorting has more classes, and as many only if it is the same -/
theorem zCn_le {R R' : Int → Int → Prop} (hd : ∀ a b, R' a b → R a b) : ∀ j : Int, zc (∀ b, 0 ≤ b → b < j → ¬ R j b) ≤ zc (∀ b, 0 ≤ b → b < j → ¬ R' j b) := fun j => by
  by_cases z : ∀ b, 0 ≤ b → b < j → ¬ R j b
  · rw [zc_t z, zc_t (fun b b0 b1 y => z b b0 b1 (hd _ _ y))]; exact Int.le_refl _
  · rw [zc_f z]; exact zc_01.1
theorem zCn_mono {R R' : Int → Int → Prop} (hd : ∀ a b, R' a b → R a b) : zCn R n ≤ zCn R' n := zsum_mono _ (fun j _ _ => zCn_le hd j)
theorem zfirst {R : Int → Int → Prop} (rf : ∀ a, R a a) (tr : ∀ a b c, R a b → R b c → R a c) : ∀ (m : Nat) (i : Int), i.toNat = m → 0 ≤ i → ∃ k, (0 ≤ k ∧ k ≤ i) ∧ R i k ∧ ∀ b, 0 ≤ b → b < k → ¬ R k b := by
  intro m
  induction m using Nat.strongRecOn with
  | _ m ih =>
    intro i hm i0
    by_cases z : ∀ b, 0 ≤ b → b < i → ¬ R i b
    · exact ⟨i, ⟨i0, Int.le_refl _⟩, rf i, z⟩
    · obtain ⟨b, b0, b1, hb⟩ : ∃ b, 0 ≤ b ∧ b < i ∧ R i b := Classical.byContradiction (fun y => z (fun b b0 b1 hb => y ⟨b, b0, b1, hb⟩))
      obtain ⟨k, k1, k2, k3⟩ := ih b.toNat (by omega) b rfl b0
      exact ⟨k, by omega, tr _ _ _ hb k2, k3⟩
theorem zCn_eq {R R' : Int → Int → Prop} (hd : ∀ a b, R' a b → R a b) (rf : ∀ a, R' a a) (sy : ∀ a b, R a b → R b a) (sy' : ∀ a b, R' a b → R' b a) (tr : ∀ a b c, R a b → R b c → R a c) (tr' : ∀ a b c, R' a b → R' b c → R' a c) (e : zCn R n = zCn R' n) {i k : Int} (i0 : 0 ≤ i) (i1 : i < n) (k0 : 0 ≤ k) (k1 : k < n) (h : R i k) : R' i k := by
  have hz := zsum_meq _ (fun j _ _ => zCn_le hd j) e
  have fst : ∀ j, 0 ≤ j → j < n → (∀ b, 0 ≤ b → b < j → ¬ R' j b) → ∀ b, 0 ≤ b → b < j → ¬ R j b := fun j j0 j1 y => by
    have := hz j j0 (by omega)
    rw [zc_t y] at this
    exact Classical.byContradiction (fun z => by rw [zc_f z] at this; omega)
  obtain ⟨a, a1, a2, a3⟩ := zfirst rf tr' _ i rfl i0
  obtain ⟨b, b1, b2, b3⟩ := zfirst rf tr' _ k rfl k0
  have ha := fst a a1.1 (by omega) a3
  have hb := fst b b1.1 (by omega) b3
  have hab : R a b := tr _ _ _ (sy _ _ (hd _ _ a2)) (tr _ _ _ h (hd _ _ b2))
  have e : a = b := by
    rcases Int.lt_trichotomy a b with z | z | z
    · exact absurd (sy _ _ hab) (hb a a1.1 z)
    · exact z
    · exact absurd hab (ha b b1.1 z)
  rw [← e] at b2
  exact tr' _ _ _ a2 (sy' _ _ b2)
/-- once no class is split any more they are those of states that accept the same words -/
theorem wRl.fin (hO : wP w s) (r : Nat) (e : zCn (wRl w s r) (w (476 * s + 5)) = zCn (wRl w s (r + 1)) (w (476 * s + 5))) {a b : Int} (a0 : 0 ≤ a) (a1 : a < w (476 * s + 5)) (b0 : 0 ≤ b) (b1 : b < w (476 * s + 5)) : wRl w s (r + 1) a b ↔ wEqv w s a b := by
  have st : ∀ i k, 0 ≤ i → i < w (476 * s + 5) → 0 ≤ k → k < w (476 * s + 5) → wRl w s r i k → wRl w s (r + 1) i k := fun i k i0 i1 k0 k1 h => zCn_eq (R := wRl w s r) (R' := wRl w s (r + 1)) (fun _ _ => wRl.dn r) (wRl.rfl _) (fun _ _ => wRl.sy r) (fun _ _ => wRl.sy (r + 1)) (fun _ _ _ => wRl.tr r) (fun _ _ _ => wRl.tr (r + 1)) e i0 i1 k0 k1 h
  refine ⟨fun z n => wEqv.of (R := fun a b => ((0 ≤ a ∧ a < w (476 * s + 5)) ∧ 0 ≤ b ∧ b < w (476 * s + 5)) ∧ wRl w s (r + 1) a b) (fun a b h => wEq.ac r h.2) (fun a b c h c0 c1 => ?_) n a b ⟨⟨⟨a0, a1⟩, b0, b1⟩, z⟩, fun z => z r⟩
  have q1 := hO.2.2.2.2.2 a c h.1.1.1 h.1.1.2 c0 c1
  have q2 := hO.2.2.2.2.2 b c h.1.2.1 h.1.2.2 c0 c1
  refine ⟨⟨q1, q2⟩, st _ _ q1.1 q1.2 q2.1 q2.2 ?_⟩
  match r, h.2 with
  | 0, _ => exact trivial
  | r + 1, h => exact h.2 c c0 c1
end C71a
