/-! ===== the class: states sorted into classes ===== -/
section C71a
variable {w : Int → Int} {s : Int} {F G h : Int → Int} {a b c n t : Int}
theorem zSm.rfl : zSm w s F a a := ⟨Eq.refl _, Iff.rfl, fun _ _ _ => Eq.refl _⟩
theorem zSm.sy (q : zSm w s F a b) : zSm w s F b a := ⟨q.1.symm, q.2.1.symm, fun c c0 c1 => (q.2.2 c c0 c1).symm⟩
theorem zSm.tr (q : zSm w s F a b) (r : zSm w s F b c) : zSm w s F a c := ⟨q.1.trans r.1, q.2.1.trans r.2.1, fun c c0 c1 => (q.2.2 c c0 c1).trans (r.2.2 c c0 c1)⟩
/-- how many states come first in their class, of those below n -/
noncomputable def zCn (R : Int → Int → Prop) (n : Int) : Int := zsum (fun i => zc (∀ b, 0 ≤ b → b < i → ¬ R i b)) n.toNat
theorem zCn_cg {R R' : Int → Int → Prop} (hh : ∀ i b, 0 ≤ i → i < n → 0 ≤ b → b < n → (R i b ↔ R' i b)) : zCn R n = zCn R' n := zsum_cg _ (fun i i0 i1 => zc_c ⟨fun z b b0 b1 y => z b b0 b1 ((hh i b i0 (by omega) b0 (by omega)).mpr y), fun z b b0 b1 y => z b b0 b1 ((hh i b i0 (by omega) b0 (by omega)).mp y)⟩)
theorem zc_01 {p : Prop} : 0 ≤ zc p ∧ zc p ≤ 1 := by
  rcases @zc_or p with h | h <;> omega
theorem zCn_rg {R : Int → Int → Prop} (hn : 0 ≤ n) : 0 ≤ zCn R n ∧ zCn R n ≤ n := by
  have := zsum_rg (f := fun i => zc (∀ b, 0 ≤ b → b < i → ¬ R i b)) n.toNat (fun _ _ _ => zc_01)
  unfold zCn
  omega
/-- the first t states are sorted: G their classes, h the first of each class, n classes -/
def cSp (w : Int → Int) (s : Int) (F G h : Int → Int) (n t : Int) : Prop := (0 ≤ n ∧ n ≤ t) ∧ (∀ j, 0 ≤ j → j < n → 0 ≤ h j ∧ h j < t) ∧ (∀ i, 0 ≤ i → i < t → (0 ≤ G i ∧ G i < n) ∧ zSm w s F i (h (G i))) ∧ (∀ i j, 0 ≤ i → i < j → j < n → ¬ zSm w s F (h j) (h i)) ∧ n = zCn (zSm w s F) t
theorem zCn_s {R : Int → Int → Prop} (h0 : 0 ≤ n) : zCn R (n + 1) = zCn R n + zc (∀ b, 0 ≤ b → b < n → ¬ R n b) := zsum_s h0
theorem cSp.old {k : Int} (q : cSp w s F G h n t) (k0 : 0 ≤ k) (k1 : k < n) (z : zSm w s F t (h k)) : cSp w s F (zu G t k) h n (t + 1) := by
  obtain ⟨h1, h2, h3, h4, h5⟩ := q
  have hk := h2 k k0 k1
  refine ⟨by omega, fun j j0 j1 => ?_, fun i i0 i1 => ?_, h4, ?_⟩
  · have := h2 j j0 j1; omega
  · by_cases e : i = t
    · rw [e, zu_at]; exact ⟨⟨k0, k1⟩, z⟩
    · rw [zu_ne e]; exact h3 i i0 (by omega)
  · rw [zCn_s (by omega), zc_f (fun y => y _ hk.1 hk.2 z)]; omega
theorem cSp.new (q : cSp w s F G h n t) (z : ∀ j, 0 ≤ j → j < n → ¬ zSm w s F t (h j)) : cSp w s F (zu G t n) (zu h n t) (n + 1) (t + 1) := by
  obtain ⟨h1, h2, h3, h4, h5⟩ := q
  refine ⟨by omega, fun j j0 j1 => ?_, fun i i0 i1 => ?_, fun i j i0 i1 j1 => ?_, ?_⟩
  · by_cases e : j = n
    · rw [e, zu_at]; omega
    · rw [zu_ne e]; have := h2 j j0 (by omega); omega
  · by_cases e : i = t
    · rw [e, zu_at, zu_at]; exact ⟨by omega, zSm.rfl⟩
    · have hi := h3 i i0 (by omega)
      rw [zu_ne e, zu_ne (show G i ≠ n by omega)]
      exact ⟨by omega, hi.2⟩
  · rw [zu_ne (show i ≠ n by omega)]
    by_cases e : j = n
    · rw [e, zu_at]; exact z i i0 (by omega)
    · rw [zu_ne e]; exact h4 i j i0 i1 (by omega)
  · rw [zCn_s (by omega), zc_t (fun b b0 b1 y => by
      have hb := h3 b b0 b1
      exact z _ hb.1.1 hb.1.2 (y.tr hb.2))]
    omega
theorem cSp.iff (q : cSp w s F G h n t) {i k : Int} (i0 : 0 ≤ i) (i1 : i < t) (k0 : 0 ≤ k) (k1 : k < t) : G i = G k ↔ zSm w s F i k := by
  obtain ⟨h1, h2, h3, h4, h5⟩ := q
  have hi := h3 i i0 i1
  have hk := h3 k k0 k1
  constructor
  · intro e
    rw [← e] at hk
    exact hi.2.tr hk.2.sy
  · intro z
    have y : zSm w s F (h (G i)) (h (G k)) := hi.2.sy.tr (z.tr hk.2)
    rcases Int.lt_trichotomy (G i) (G k) with e | e | e
    · exact absurd y.sy (h4 _ _ hi.1.1 e hk.1.2)
    · exact e
    · exact absurd y (h4 _ _ hk.1.1 e hi.1.2)
theorem cSp.z : cSp w s F G h 0 0 := ⟨by decide, fun j j0 j1 => by omega, fun i i0 i1 => by omega, fun i j i0 i1 j1 => by omega, rfl⟩
/-- the classes of round r -/
def wRl (w : Int → Int) (s : Int) : Nat → Int → Int → Prop
  | 0 => fun _ _ => True
  | r + 1 => wEq w s r
/-- the one before -/
def zPv (f : Nat → Int) : Nat → Int
  | 0 => 0
  | r + 1 => f r
theorem wEq.rfl : ∀ (n : Nat) (a : Int), wEq w s n a a
  | 0, _ => Iff.rfl
  | n + 1, _ => ⟨Iff.rfl, fun _ _ _ => wEq.rfl n _⟩
theorem wEq.sy : ∀ (n : Nat) {a b : Int}, wEq w s n a b → wEq w s n b a
  | 0, _, _, h => Iff.symm h
  | n + 1, _, _, h => ⟨h.1.symm, fun c c0 c1 => wEq.sy n (h.2 c c0 c1)⟩
theorem wEq.tr : ∀ (n : Nat) {a b c : Int}, wEq w s n a b → wEq w s n b c → wEq w s n a c
  | 0, _, _, _, h, h' => Iff.trans h h'
  | n + 1, _, _, _, h, h' => ⟨h.1.trans h'.1, fun c c0 c1 => wEq.tr n (h.2 c c0 c1) (h'.2 c c0 c1)⟩
theorem wEq.dn : ∀ (n : Nat) {a b : Int}, wEq w s (n + 1) a b → wEq w s n a b
  | 0, _, _, h => h.1
  | n + 1, _, _, h => ⟨h.1, fun c c0 c1 => wEq.dn n (h.2 c c0 c1)⟩
theorem wEq.ac : ∀ (n : Nat) {a b : Int}, wEq w s n a b → (wAcc w s a ↔ wAcc w s b)
  | 0, _, _, h => h
  | _ + 1, _, _, h => h.1
theorem wRl.rfl : ∀ (r : Nat) (a : Int), wRl w s r a a
  | 0, _ => trivial
  | r + 1, a => wEq.rfl r a
theorem wRl.sy : ∀ (r : Nat) {a b : Int}, wRl w s r a b → wRl w s r b a
  | 0, _, _, _ => trivial
  | r + 1, _, _, h => wEq.sy r h
theorem wRl.tr : ∀ (r : Nat) {a b c : Int}, wRl w s r a b → wRl w s r b c → wRl w s r a c
  | 0, _, _, _, _, _ => trivial
  | r + 1, _, _, _, h, h' => wEq.tr r h h'
theorem wRl.dn : ∀ (r : Nat) {a b : Int}, wRl w s (r + 1) a b → wRl w s r a b
  | 0, _, _, _ => trivial
  | r + 1, _, _, h => wEq.dn r h
/-- one round more -/
theorem wRl.sm (hO : wP w s) (r : Nat) (hF : ∀ i k, 0 ≤ i → i < w (476 * s + 5) → 0 ≤ k → k < w (476 * s + 5) → (F i = F k ↔ wRl w s r i k)) {a b : Int} (a0 : 0 ≤ a) (a1 : a < w (476 * s + 5)) (b0 : 0 ≤ b) (b1 : b < w (476 * s + 5)) : zSm w s F a b ↔ wRl w s (r + 1) a b := by
  have hn : ∀ c, 0 ≤ c → c < 6 → (F (w (476 * s + (116 + 6 * a + c))) = F (w (476 * s + (116 + 6 * b + c))) ↔ wRl w s r (w (476 * s + (116 + 6 * a + c))) (w (476 * s + (116 + 6 * b + c)))) := fun c c0 c1 => by
    have q1 := hO.2.2.2.2.2 a c a0 a1 c0 c1
    have q2 := hO.2.2.2.2.2 b c b0 b1 c0 c1
    exact hF _ _ q1.1 q1.2 q2.1 q2.2
  match r with
  | 0 => exact ⟨fun z => z.2.1, fun z => ⟨(hF a b a0 a1 b0 b1).mpr trivial, z, fun c c0 c1 => (hn c c0 c1).mpr trivial⟩⟩
  | r + 1 => exact ⟨fun z => ⟨z.2.1, fun c c0 c1 => (hn c c0 c1).mp (z.2.2 c c0 c1)⟩, fun z => ⟨(hF a b a0 a1 b0 b1).mpr (wEq.dn r z), z.1, fun c c0 c1 => (hn c c0 c1).mpr (z.2 c c0 c1)⟩⟩
theorem zsum_mono {f g : Int → Int} : ∀ n : Nat, (∀ j : Int, 0 ≤ j → j < n → f j ≤ g j) → zsum f n ≤ zsum g n
  | 0, _ => Int.le_refl _
  | n + 1, h => by
    have h1 := zsum_mono n (fun j j0 j1 => h j j0 (by omega))
    have h2 := h n (by omega) (by omega)
    show zsum f n + f n ≤ zsum g n + g n
    omega
theorem zsum_meq {f g : Int → Int} : ∀ n : Nat, (∀ j : Int, 0 ≤ j → j < n → f j ≤ g j) → zsum f n = zsum g n → ∀ j : Int, 0 ≤ j → j < n → f j = g j
  | 0, _, _, j, j0, j1 => by omega
  | n + 1, h, e, j, j0, j1 => by
    have h1 := zsum_mono n (fun j j0 j1 => h j j0 (by omega))
    have h2 := h n (by omega) (by omega)
    have e' : zsum f n + f n = zsum g n + g n := e
    by_cases z : j = n
    · rw [z]; omega
    · exact zsum_meq n (fun j j0 j1 => h j j0 (by omega)) (by omega) j j0 (by omega)
/-- a finer sorting has more classes, and as many only if it is the same -/
theorem zCn_le {R R' : Int → Int → Prop} (hd : ∀ a b, R' a b → R a b) : ∀ j : Int, zc (∀ b, 0 ≤ b → b < j → ¬ R j b) ≤ zc (∀ b, 0 ≤ b → b < j → ¬ R' j b) := fun j => by
  by_cases z : ∀ b, 0 ≤ b → b < j → ¬ R j b
  · rw [zc_t z, zc_t (fun b b0 b1 y => z b b0 b1 (hd _ _ y))]; exact Int.le_refl _
  · rw [zc_f z]; exact zc_01.1
theorem zCn_mono {R R' : Int → Int → Prop} (hd : ∀ a b, R' a b → R a b) : zCn R n ≤ zCn R' n := zsum_mono _ (fun j _ _ => zCn_le hd j)
theorem zfirst {R : Int → Int → Prop} (rf : ∀ a, R a a) (tr : ∀ a b c, R a b → R b c → R a c) : ∀ (m : Nat) (i : Int), i.toNat = m → 0 ≤ i → ∃ k, (0 ≤ k ∧ k ≤ i) ∧ R i k ∧ ∀ b, 0 ≤ b → b < k → ¬ R k b := by
  intro m
  induction m using Nat.strongRecOn with
  | _ m ih =>
    intro i hm i0
    by_cases z : ∀ b, 0 ≤ b → b < i → ¬ R i b
    · exact ⟨i, ⟨i0, Int.le_refl _⟩, rf i, z⟩
    · obtain ⟨b, b0, b1, hb⟩ : ∃ b, 0 ≤ b ∧ b < i ∧ R i b := Classical.byContradiction (fun y => z (fun b b0 b1 hb => y ⟨b, b0, b1, hb⟩))
      obtain ⟨k, k1, k2, k3⟩ := ih b.toNat (by omega) b rfl b0
      exact ⟨k, by omega, tr _ _ _ hb k2, k3⟩
theorem zCn_eq {R R' : Int → Int → Prop} (hd : ∀ a b, R' a b → R a b) (rf : ∀ a, R' a a) (sy : ∀ a b, R a b → R b a) (sy' : ∀ a b, R' a b → R' b a) (tr : ∀ a b c, R a b → R b c → R a c) (tr' : ∀ a b c, R' a b → R' b c → R' a c) (e : zCn R n = zCn R' n) {i k : Int} (i0 : 0 ≤ i) (i1 : i < n) (k0 : 0 ≤ k) (k1 : k < n) (h : R i k) : R' i k := by
  have hz := zsum_meq _ (fun j _ _ => zCn_le hd j) e
  have fst : ∀ j, 0 ≤ j → j < n → (∀ b, 0 ≤ b → b < j → ¬ R' j b) → ∀ b, 0 ≤ b → b < j → ¬ R j b := fun j j0 j1 y => by
    have := hz j j0 (by omega)
    rw [zc_t y] at this
    exact Classical.byContradiction (fun z => by rw [zc_f z] at this; omega)
  obtain ⟨a, a1, a2, a3⟩ := zfirst rf tr' _ i rfl i0
  obtain ⟨b, b1, b2, b3⟩ := zfirst rf tr' _ k rfl k0
  have ha := fst a a1.1 (by omega) a3
  have hb := fst b b1.1 (by omega) b3
  have hab : R a b := tr _ _ _ (sy _ _ (hd _ _ a2)) (tr _ _ _ h (hd _ _ b2))
  have e : a = b := by
    rcases Int.lt_trichotomy a b with z | z | z
    · exact absurd (sy _ _ hab) (hb a a1.1 z)
    · exact z
    · exact absurd hab (ha b b1.1 z)
  rw [← e] at b2
  exact tr' _ _ _ a2 (sy' _ _ b2)
/-- once no class is split any more they are those of states that accept the same words -/
theorem wRl.fin (hO : wP w s) (r : Nat) (e : zCn (wRl w s r) (w (476 * s + 5)) = zCn (wRl w s (r + 1)) (w (476 * s + 5))) {a b : Int} (a0 : 0 ≤ a) (a1 : a < w (476 * s + 5)) (b0 : 0 ≤ b) (b1 : b < w (476 * s + 5)) : wRl w s (r + 1) a b ↔ wEqv w s a b := by
  have st : ∀ i k, 0 ≤ i → i < w (476 * s + 5) → 0 ≤ k → k < w (476 * s + 5) → wRl w s r i k → wRl w s (r + 1) i k := fun i k i0 i1 k0 k1 h => zCn_eq (R := wRl w s r) (R' := wRl w s (r + 1)) (fun _ _ => wRl.dn r) (wRl.rfl _) (fun _ _ => wRl.sy r) (fun _ _ => wRl.sy (r + 1)) (fun _ _ _ => wRl.tr r) (fun _ _ _ => wRl.tr (r + 1)) e i0 i1 k0 k1 h
  refine ⟨fun z n => wEqv.of (R := fun a b => ((0 ≤ a ∧ a < w (476 * s + 5)) ∧ 0 ≤ b ∧ b < w (476 * s + 5)) ∧ wRl w s (r + 1) a b) (fun a b h => wEq.ac r h.2) (fun a b c h c0 c1 => ?_) n a b ⟨⟨⟨a0, a1⟩, b0, b1⟩, z⟩, fun z => z r⟩
  have q1 := hO.2.2.2.2.2 a c h.1.1.1 h.1.1.2 c0 c1
  have q2 := hO.2.2.2.2.2 b c h.1.2.1 h.1.2.2 c0 c1
  refine ⟨⟨q1, q2⟩, st _ _ q1.1 q1.2 q2.1 q2.2 ?_⟩
  match r, h.2 with
  | 0, _ => exact trivial
  | r + 1, h => exact h.2 c c0 c1
end C71a
section C71
variable {G : p_G} {Y : Nat → Nat} {h0 : p_H} {P : (Option Value) ⊕ String → c_X → Prop} {d : Nat} {V : Nat → Int} {C : Nat → Int → Int} {J : c_J}
variable {a : Nat} {p : c_P} {w : Int → Int} {s : Int}
theorem lX7_48a : Cond.methodLink mX7_split.1.cls 48 arraycopyName ∈ p_ws := p_in (p_t5 (List.mem_of_getElem? (i := 169) (by decide +kernel))) rfl
theorem q_split_l  (hp : J.2.2 a = some p) (hr : cPt p w s) (hO : wP w s) (hX : wX w s) (hF : ∀ t, 0 ≤ t → t < w (476 * s + 5) → 0 ≤ C 19 t ∧ C 19 t ≤ 60) (hp1 : ∀ V' C', sV [13] V V' → sC [19, 20, 21] C C' → (∀ i k, 0 ≤ i → i < w (476 * s + 5) → 0 ≤ k → k < w (476 * s + 5) → (C' 19 i = C' 19 k ↔ zSm w s (C 19) i k)) → (∀ t, 0 ≤ t → t < w (476 * s + 5) → 0 ≤ C' 19 t ∧ C' 19 t ≤ 60) → V' 13 = zCn (zSm w s (C 19)) (w (476 * s + 5)) → P (.inl none) (V', C', J)) : ∀ (zz : Nat) (t : Int) (V' : Nat → Int) (C' : Nat → Int → Int), zz = (w (476 * s + 5) - t).toNat → (0 ≤ t ∧ t ≤ w (476 * s + 5)) → (sV [13] V V') → (sC [19, 20, 21] C C' ∧ C' 19 = C 19) → (cSp w s (C 19) (C' 20) (C' 21) (V' 13) t) → RW G mX7_split (c_I Y h0) P (d + 4) 0 0 7 [some (.ref (Y 18)), some (.ref a), some (.int (iI t))] [] (V', C', J) := by
  intro zz
  induction zz using Nat.strongRecOn with
  | _ zz ih =>
    intro t V' C' hzz h1 hv hc hI
    have o5 := hO.2.2.2.1
    have r5 := hr.1.2.2.2.2.2
    have e19 := hc.2
    have hc := hc.1
    refine i_iload_n dX7_split_7 rfl ?_
    refine i_aload_n dX7_split_8 rfl ?_
    refine u_getP (vv := .int (iI (p.1 5))) hp dX7_split_9 fX7_39 rfl ?_
    refine i_icmp_ge (tgt := 39) dX7_split_12 (by decide) (by omega) (by omega) (fun c12 => ?_) (fun c12 => ?_)
    · -- jumps
      refine i_aload_n dX7_split_39 rfl ?_
      refine u_get (i := 18) (vv := .ref (Y (20))) dX7_split_40 fX7_15.o (by decide) rfl rfl ?_
      refine i_const dX7_split_43 ?_
      refine i_aload_n dX7_split_44 rfl ?_
      refine u_get (i := 18) (vv := .ref (Y (19))) dX7_split_45 fX7_9.o (by decide) rfl rfl ?_
      refine i_const dX7_split_48 ?_
      refine i_bipush dX7_split_49 (by decide) ?_
      refine u_copy (i := 20) (j := 19) (N := 60) (k := 0) (n := 0) lX7_48a dX7_split_51 (by decide) (by decide) rfl rfl (by decide) rfl (Nat.le_of_ble_eq_true rfl) ?_
      refine i_return dX7_split_54 rfl ?_
      obtain rfl : t = w (476 * s + 5) := by omega
      have h9 : ∀ i, 0 ≤ i → i < w (476 * s + 5) → cu C' 19 (fun q => if 0 ≤ q ∧ q < ((60 : Nat) : Int) then C' 20 q else C' 19 q) 19 i = C' 20 i := fun i i0 i1 => by rw [cu_at, if_pos (by omega)]
      refine hp1 _ _ hv (hc.cu (by decide)) (fun i k i0 i1 k0 k1 => ?_) (fun i i0 i1 => ?_) hI.2.2.2.2
      · rw [h9 i i0 i1, h9 k k0 k1]; exact hI.iff i0 i1 k0 k1
      · rw [h9 i i0 i1]; have h8 := (hI.2.2.1 i i0 i1).1; have h7 := hI.1; omega
    · -- on
      refine i_iload_n dX7_split_15 rfl ?_
      refine i_bipush dX7_split_16 (by decide) ?_
      refine i_icmp_ge (tgt := 39) dX7_split_18 (by decide) (by omega) (by omega) (fun c18 => ?_) (fun c18 => ?_)
      · -- jumps
        refine i_aload_n dX7_split_39 rfl ?_
        refine u_get (i := 18) (vv := .ref (Y (20))) dX7_split_40 fX7_15.o (by decide) rfl rfl ?_
        refine i_const dX7_split_43 ?_
        refine i_aload_n dX7_split_44 rfl ?_
        refine u_get (i := 18) (vv := .ref (Y (19))) dX7_split_45 fX7_9.o (by decide) rfl rfl ?_
        refine i_const dX7_split_48 ?_
        refine i_bipush dX7_split_49 (by decide) ?_
        refine u_copy (i := 20) (j := 19) (N := 60) (k := 0) (n := 0) lX7_48a dX7_split_51 (by decide) (by decide) rfl rfl (by decide) rfl (Nat.le_of_ble_eq_true rfl) ?_
        refine i_return dX7_split_54 rfl ?_
        obtain rfl : t = w (476 * s + 5) := by omega
        have h9 : ∀ i, 0 ≤ i → i < w (476 * s + 5) → cu C' 19 (fun q => if 0 ≤ q ∧ q < ((60 : Nat) : Int) then C' 20 q else C' 19 q) 19 i = C' 20 i := fun i i0 i1 => by rw [cu_at, if_pos (by omega)]
        refine hp1 _ _ hv (hc.cu (by decide)) (fun i k i0 i1 k0 k1 => ?_) (fun i i0 i1 => ?_) hI.2.2.2.2
        · rw [h9 i i0 i1, h9 k k0 k1]; exact hI.iff i0 i1 k0 k1
        · rw [h9 i i0 i1]; have h8 := (hI.2.2.1 i i0 i1).1; have h7 := hI.1; omega
      · -- on
        refine i_aload_n dX7_split_21 rfl ?_
        refine u_get (i := 18) (vv := .ref (Y (20))) dX7_split_22 fX7_15.o (by decide) rfl rfl ?_
        refine i_iload_n dX7_split_25 rfl ?_
        refine i_aload_n dX7_split_26 rfl ?_
        refine i_aload_n dX7_split_27 rfl ?_
        refine i_iload_n dX7_split_28 rfl ?_
        refine u_callV (i := 18) (mc := 0) (ms := 0) (As := [_, _]) dX7_split_29 cfX7_finerClass imX7_finerClass seX7_finerClass lX7_44 (by decide) rfl rfl rfl rfl rfl (Nat.le_of_ble_eq_true rfl) (Nat.zero_add _).symm (Nat.zero_add _).symm ?_
        refine q_finerClass (V := V') (C := C') hp hr hO hX (by rw [e19]; exact hF) (by omega) (by have := hI.1; omega) (fun j j0 j1 => by have := hI.2.1 j j0 j1; omega) (fun k k0 k1 z9 _ => RK.v ?_) (fun z9 => RK.v ?_)
        · -- case
          refine u_iast (i := 20) (N := 60) dX7_split_32 (by decide) rfl (by decide) (by omega) rfl ?_
          refine i_iinc dX7_split_33 rfl (L' := [some _, some _, some _]) (by decide) rfl ?_
          refine i_goto (tgt := 7) dX7_split_36 (by decide) ?_
          rw [e19] at z9
          refine ih _ ?_ (t + 1) _ _ rfl (by omega) hv ⟨hc.cu (by decide), e19⟩ (hI.old k0 k1 z9)
          · omega
        · -- case
          refine u_iast (i := 20) (N := 60) dX7_split_32 (by decide) rfl (by decide) (by omega) rfl ?_
          refine i_iinc dX7_split_33 rfl (L' := [some _, some _, some _]) (by decide) rfl ?_
          refine i_goto (tgt := 7) dX7_split_36 (by decide) ?_
          rw [e19] at z9
          refine ih _ ?_ (t + 1) _ _ rfl (by omega) (hv.vu (by decide)) ⟨(hc.cu (by decide)).cu (by decide), e19⟩ (hI.new z9)
          · omega
theorem q_split  (hp : J.2.2 a = some p) (hr : cPt p w s) (hO : wP w s) (hX : wX w s) (hF : ∀ t, 0 ≤ t → t < w (476 * s + 5) → 0 ≤ C 19 t ∧ C 19 t ≤ 60) (hp1 : ∀ V' C', sV [13] V V' → sC [19, 20, 21] C C' → (∀ i k, 0 ≤ i → i < w (476 * s + 5) → 0 ≤ k → k < w (476 * s + 5) → (C' 19 i = C' 19 k ↔ zSm w s (C 19) i k)) → (∀ t, 0 ≤ t → t < w (476 * s + 5) → 0 ≤ C' 19 t ∧ C' 19 t ≤ 60) → V' 13 = zCn (zSm w s (C 19)) (w (476 * s + 5)) → P (.inl none) (V', C', J)) : RM G mX7_split (c_I Y h0) [.ref (Y 18), .ref a] (d + 4) 0 0 P (V, C, J) := by
  refine RM.of (L := [some (.ref (Y 18)), some (.ref a), none]) cfX7_split rfl (Nat.le_of_ble_eq_true rfl) ?_
  refine i_aload_n dX7_split_0 rfl ?_
  refine i_const dX7_split_1 ?_
  refine u_put (i := 18) (kV := 13) dX7_split_2 fX7_21 (by decide) rfl rfl rfl (Nat.le_of_ble_eq_true rfl) rfl rfl ?_
  refine i_const dX7_split_5 ?_
  refine i_istore_n dX7_split_6 (L' := [some _, some _, some _]) (by decide) rfl ?_
  exact q_split_l hp hr hO hX hF hp1 _ 0 _ C rfl (by have := hO.2.2.2.1; omega) (sV.rfl.vu (by decide)) ⟨sC.rfl, rfl⟩ cSp.z
theorem q_sort_l  (hp : J.2.2 a = some p) (hr : cPt p w s) (hO : wP w s) (hX : wX w s) (hp1 : ∀ V' C', sV [13] V V' → sC [19, 20, 21] C C' → (∀ i k, 0 ≤ i → i < w (476 * s + 5) → 0 ≤ k → k < w (476 * s + 5) → (C' 19 i = C' 19 k ↔ wEqv w s i k)) → (∀ t, 0 ≤ t → t < w (476 * s + 5) → 0 ≤ C' 19 t ∧ C' 19 t ≤ 60) → V' 13 = wMin w s → P (.inl none) (V', C', J)) : ∀ (zz : Nat) (r : Nat) (b : Int) (V' : Nat → Int) (C' : Nat → Int → Int), zz = (60 - (r : Int)).toNat → (r ≤ 60) → (sV [13] V V') → (sC [19, 20, 21] C C') → (V' 13 = zCn (wRl w s r) (w (476 * s + 5))) → (∀ i k, 0 ≤ i → i < w (476 * s + 5) → 0 ≤ k → k < w (476 * s + 5) → (C' 19 i = C' 19 k ↔ wRl w s r i k)) → (∀ t, 0 ≤ t → t < w (476 * s + 5) → 0 ≤ C' 19 t ∧ C' 19 t ≤ 60) → (b = zPv (fun r => zCn (wRl w s r) (w (476 * s + 5))) r) → ((r : Int) + 1 ≤ zCn (wRl w s r) (w (476 * s + 5)) ∨ ∃ r' : Nat, r = r' + 1 ∧ zCn (wRl w s r') (w (476 * s + 5)) = zCn (wRl w s (r' + 1)) (w (476 * s + 5))) → RW G mX7_sort (c_I Y h0) P (d + 5) 0 0 17 [some (.ref (Y 18)), some (.ref a), some (.int (iI b)), some (.int (iI (r : Int)))] [] (V', C', J) := by
  intro zz
  induction zz using Nat.strongRecOn with
  | _ zz ih =>
    intro r b V' C' hzz h1 hv hc hk hC hF hb hg
    have o5 := hO.2.2.2.1
    have hle := zCn_rg (R := wRl w s r) (n := w (476 * s + 5)) (by omega)
    have hbr : 0 ≤ b ∧ b ≤ 60 := by
      rw [hb]
      cases r with
      | zero => exact ⟨Int.le_refl _, by show (0 : Int) ≤ 60; decide⟩
      | succ r => have := zCn_rg (R := wRl w s r) (n := w (476 * s + 5)) (by omega); exact ⟨this.1, by show zCn (wRl w s r) (w (476 * s + 5)) ≤ 60; omega⟩
    refine i_iload_n dX7_sort_17 rfl ?_
    refine i_bipush dX7_sort_18 (by decide) ?_
    refine i_icmp_ge (tgt := 47) dX7_sort_20 (by decide) (by omega) (by omega) (fun c20 => ?_) (fun c20 => ?_)
    · -- jumps
      refine i_return dX7_sort_47 rfl ?_
      have hg2 : ∃ r' : Nat, r = r' + 1 ∧ zCn (wRl w s r') (w (476 * s + 5)) = zCn (wRl w s (r' + 1)) (w (476 * s + 5)) := by
        rcases hg with hg | hg
        · cases r with
          | zero =>
            exfalso
            have hb0 : b = 0 := hb
            omega
          | succ r =>
            refine ⟨r, rfl, ?_⟩
            have hb1 : b = zCn (wRl w s r) (w (476 * s + 5)) := hb
            omega
        · exact hg
      obtain ⟨r', rfl, e⟩ := hg2
      have hfin := fun {i k : Int} (i0 : 0 ≤ i) (i1 : i < w (476 * s + 5)) (k0 : 0 ≤ k) (k1 : k < w (476 * s + 5)) => wRl.fin hO r' e i0 i1 k0 k1
      exact hp1 _ _ hv hc (fun i k i0 i1 k0 k1 => (hC i k i0 i1 k0 k1).trans (hfin i0 i1 k0 k1)) hF (hk.trans (zCn_cg (fun i k i0 i1 k0 k1 => hfin i0 i1 k0 k1)))
    · -- on
      refine i_aload_n dX7_sort_23 rfl ?_
      refine u_get (i := 18) (vv := .int (iI (V' 13))) dX7_sort_24 fX7_21 (by decide) rfl rfl ?_
      refine i_iload_n dX7_sort_27 rfl ?_
      refine i_icmp_eq (tgt := 47) dX7_sort_28 (by decide) (by omega) (by omega) (fun c28 => ?_) (fun c28 => ?_)
      · -- jumps
        refine i_return dX7_sort_47 rfl ?_
        have hg2 : ∃ r' : Nat, r = r' + 1 ∧ zCn (wRl w s r') (w (476 * s + 5)) = zCn (wRl w s (r' + 1)) (w (476 * s + 5)) := by
          rcases hg with hg | hg
          · cases r with
            | zero =>
              exfalso
              have hb0 : b = 0 := hb
              omega
            | succ r =>
              refine ⟨r, rfl, ?_⟩
              have hb1 : b = zCn (wRl w s r) (w (476 * s + 5)) := hb
              omega
          · exact hg
        obtain ⟨r', rfl, e⟩ := hg2
        have hfin := fun {i k : Int} (i0 : 0 ≤ i) (i1 : i < w (476 * s + 5)) (k0 : 0 ≤ k) (k1 : k < w (476 * s + 5)) => wRl.fin hO r' e i0 i1 k0 k1
        exact hp1 _ _ hv hc (fun i k i0 i1 k0 k1 => (hC i k i0 i1 k0 k1).trans (hfin i0 i1 k0 k1)) hF (hk.trans (zCn_cg (fun i k i0 i1 k0 k1 => hfin i0 i1 k0 k1)))
      · -- on
        refine i_aload_n dX7_sort_31 rfl ?_
        refine u_get (i := 18) (vv := .int (iI (V' 13))) dX7_sort_32 fX7_21 (by decide) rfl rfl ?_
        refine i_istore_n dX7_sort_35 (L' := [some _, some _, some _, some _]) (by decide) rfl ?_
        refine i_aload_n dX7_sort_36 rfl ?_
        refine i_aload_n dX7_sort_37 rfl ?_
        refine u_callV (i := 18) (mc := 0) (ms := 0) (As := [_]) dX7_sort_38 cfX7_split imX7_split seX7_split lX7_35 (by decide) rfl rfl rfl rfl rfl (Nat.le_of_ble_eq_true rfl) (Nat.zero_add _).symm (Nat.zero_add _).symm ?_
        refine q_split (V := V') (C := C') hp hr hO hX hF (fun V1 C1 sv1 sc1 hi1 hf1 hn1 => RK.n0 ?_)
        refine i_iinc dX7_sort_41 rfl (L' := [some _, some _, some _, some _]) (by decide) rfl ?_
        refine i_goto (tgt := 17) dX7_sort_44 (by decide) ?_
        have hS : ∀ i k, 0 ≤ i → i < w (476 * s + 5) → 0 ≤ k → k < w (476 * s + 5) → (C1 19 i = C1 19 k ↔ wRl w s (r + 1) i k) := fun i k i0 i1 k0 k1 => (hi1 i k i0 i1 k0 k1).trans (wRl.sm hO r hC i0 i1 k0 k1)
        have hN : V1 13 = zCn (wRl w s (r + 1)) (w (476 * s + 5)) := hn1.trans (zCn_cg (fun i k i0 i1 k0 k1 => wRl.sm hO r hC i0 i1 k0 k1))
        have hm : zCn (wRl w s r) (w (476 * s + 5)) ≤ zCn (wRl w s (r + 1)) (w (476 * s + 5)) := zCn_mono (fun _ _ => wRl.dn r)
        rw [show (r : Int) + 1 = ((r + 1 : Nat) : Int) by omega, hk]
        refine ih _ ?_ (r + 1) (zCn (wRl w s r) (w (476 * s + 5))) V1 C1 rfl (by omega) (hv.tr sv1 (fun _ z => z)) (hc.tr sc1 (fun _ z => z)) hN hS hf1 rfl ?_
        · clear hg; omega
        · rcases hg with hg | hg
          · by_cases z : zCn (wRl w s (r + 1)) (w (476 * s + 5)) = zCn (wRl w s r) (w (476 * s + 5))
            · exact Or.inr ⟨r, rfl, z.symm⟩
            · left; omega
          · obtain ⟨r', rfl, e⟩ := hg
            have hb1 : b = zCn (wRl w s r') (w (476 * s + 5)) := hb
            omega
theorem q_sort  (hp : J.2.2 a = some p) (hr : cPt p w s) (hO : wP w s) (hX : wX w s) (hp1 : ∀ V' C', sV [13] V V' → sC [19, 20, 21] C C' → (∀ i k, 0 ≤ i → i < w (476 * s + 5) → 0 ≤ k → k < w (476 * s + 5) → (C' 19 i = C' 19 k ↔ wEqv w s i k)) → (∀ t, 0 ≤ t → t < w (476 * s + 5) → 0 ≤ C' 19 t ∧ C' 19 t ≤ 60) → V' 13 = wMin w s → P (.inl none) (V', C', J)) : RM G mX7_sort (c_I Y h0) [.ref (Y 18), .ref a] (d + 5) 0 0 P (V, C, J) := by
  refine RM.of (L := [some (.ref (Y 18)), some (.ref a), none, none]) cfX7_sort rfl (Nat.le_of_ble_eq_true rfl) ?_
  refine i_aload_n dX7_sort_0 rfl ?_
  refine u_get (i := 18) (vv := .ref (Y (19))) dX7_sort_1 fX7_9.o (by decide) rfl rfl ?_
  refine i_const dX7_sort_4 ?_
  refine i_callS (mc := 0) (ms := 0) (As := [_, _]) dX7_sort_5 cfJ7_fill_53178 stJ7_fill_53178 lX7_29 rfl rfl (Nat.le_of_ble_eq_true rfl) (Nat.zero_add _).symm (Nat.zero_add _).symm ?_
  refine q_fillA (i := 19) (N := 60) (by decide) (fun _ => rfl) (by decide) (fun C1 sc1 hc1 => RK.n0 ?_)
  refine i_aload_n dX7_sort_8 rfl ?_
  refine i_const dX7_sort_9 ?_
  refine u_put (i := 18) (kV := 13) dX7_sort_10 fX7_21 (by decide) rfl rfl rfl (Nat.le_of_ble_eq_true rfl) rfl rfl ?_
  refine i_const dX7_sort_13 ?_
  refine i_istore_n dX7_sort_14 (L' := [some _, some _, some _, none]) (by decide) rfl ?_
  refine i_const dX7_sort_15 ?_
  refine i_istore_n dX7_sort_16 (L' := [some _, some _, some _, some _]) (by decide) rfl ?_
  have o5 := hO.2.2.2.1
  have h9 : ∀ i, 0 ≤ i → i < w (476 * s + 5) → C1 19 i = 0 := fun i i0 i1 => by rw [hc1, if_pos (by omega)]
  have h1 : zCn (wRl w s 0) (w (476 * s + 5)) = 1 := by
    obtain ⟨m, hm⟩ : ∃ m, (w (476 * s + 5)).toNat = m + 1 := ⟨(w (476 * s + 5)).toNat - 1, by omega⟩
    unfold zCn
    rw [hm, zsum_sh, zc_t (fun b b0 b1 => by omega), zsum_cg (g := fun _ => 0) m (fun j j0 j1 => zc_f (fun z => z 0 (by omega) (by omega) trivial)), zsum_00]
    rfl
  exact q_sort_l hp hr hO hX hp1 _ 0 0 _ _ rfl (by decide) (sV.rfl.vu (by decide)) (fun i hi => sc1 i (by simp only [List.mem_cons, List.not_mem_nil, or_false] at hi ⊢; omega)) (vu_at.trans h1.symm) (fun i k i0 i1 k0 k1 => ⟨fun _ => trivial, fun _ => (h9 i i0 i1).trans (h9 k k0 k1).symm⟩) (fun t t0 t1 => by rw [h9 t t0 t1]; decide) rfl (Or.inl (by rw [h1]; decide))
end C71
