/-! ===== class and reference hold the same ===== -/
section C0a
variable {w w' : Int → Int} {s t x o : Int} {r r' : Int → Int}
theorem wOK.cg (h : wOK w) (hv : ∀ j, 0 ≤ j → j < 985 → w' j = w j) : wOK w' := by
  have o6 := h.2.1
  refine ⟨fun s hs => (h.1 s hs).cgw (fun j j0 j1 => hv _ (by omega) (by omega)), ?_, fun k k0 k1 => ?_, fun c b c0 c1 hb => ?_, ?_⟩
  · rw [hv 952 (by decide) (by decide)]; exact o6
  · rw [hv 952 (by decide) (by decide)] at k1
    have q := h.2.2.1 k k0 k1
    have q1 := q.1
    rw [hv (953 + 3 * k + 0) (by omega) (by omega), hv (953 + 3 * k + 1) (by omega) (by omega), hv (476 * w (953 + 3 * k + 0) + 5) (by omega) (by omega)]
    exact q
  · rw [hv (971 + 2 * c + b) (by omega) (by omega)]; exact h.2.2.2.1 c b c0 c1 hb
  · rw [hv 983 (by decide) (by decide)]; exact h.2.2.2.2
theorem wAll.cg (h : wAll w) (hv : ∀ j, 0 ≤ j → j < 985 → w' j = w j) : wAll w' := ⟨h.1.cg hv, fun s hs => by
  have hp := h.1.1 s hs
  exact ⟨(h.2 s hs).1.cgw hp (fun j j0 j1 => hv _ (by omega) (by omega)), (h.2 s hs).2.cgw hp (fun j j0 j1 => hv _ (by omega) (by omega))⟩⟩
theorem zLen.uq {nx : Int → Int → Int} {al : Int → Prop} {s0 a b : Int} {D : Int → Prop} (h : zLen nx al s0 D a) (h' : zLen nx al s0 D b) : a = b := by
  rcases h with ⟨n, h1, h2⟩ | ⟨h1, h2⟩ <;> rcases h' with ⟨m, k1, k2⟩ | ⟨k1, k2⟩
  · rw [h2, k2, h1.uq k1]
  · exact absurd h1.2.1 (k1 n h1.1)
  · exact absurd k1.2.1 (h1 m k1.1)
  · rw [h2, k2]
theorem wHome.uq {a b : Int} (h : wHome w s t a) (h' : wHome w s t b) : a = b := by
  rcases h with ⟨n, h1, h2⟩ | ⟨h1, h2⟩ <;> rcases h' with ⟨m, k1, k2⟩ | ⟨k1, k2⟩
  · obtain rfl := h1.uq k1
    rcases h2 with ⟨a1, a2⟩ | ⟨a1, a2⟩ <;> rcases k2 with ⟨b1, b2⟩ | ⟨b1, b2⟩
    · rw [a2, b2]
    · exact absurd a1 b1
    · exact absurd b1 a1
    · rw [a2, b2]
  · exact absurd h1.2.1 (k1 n h1.1)
  · exact absurd k1.2.1 (h1 m k1.1)
  · rw [h2, k2]
theorem wDead.uq {a b : Int} (h : wDead w s a) (h' : wDead w s b) : a = b := by
  rcases h.1 with h1 | ⟨h1, h2, h3⟩ <;> rcases h'.1 with k1 | ⟨k1, k2, k3⟩
  · rw [h1, k1]
  · exact absurd k3 (h.2 b k1 k2 (Or.inl h1))
  · exact absurd h3 (h'.2 a h1 h2 (Or.inl k1))
  · rcases Int.lt_trichotomy a b with z | z | z
    · exact absurd h3 (h'.2 a h1 h2 (Or.inr z))
    · exact z
    · exact absurd k3 (h.2 b k1 k2 (Or.inr z))
theorem zsum_up_le {f : Int → Int} (hf : ∀ j, 0 ≤ f j) : ∀ (k n : Nat), zsum f n ≤ zsum f (n + k)
  | 0, _ => Int.le_refl _
  | k + 1, n => by
    have h1 := zsum_up_le hf k n
    have h2 : zsum f (n + (k + 1)) = zsum f (n + k) + f ((n + k : Nat) : Int) := rfl
    have h3 := hf ((n + k : Nat) : Int)
    omega
theorem wNx_ge {k : Nat} {c : Int} : 0 ≤ wNx w s k t c := by
  unfold wNx
  first | exact (wCW_rg _ _).1 | (split <;> first | exact (wCW_rg _ _).1 | exact Int.le_refl 0)
theorem wWord_uq : ∀ (n : Nat) (t x o : Int), wWord w s r n t x o → wWord w s r' n t x o → ∀ i, o ≤ i → i < o + n → r i = r' i
  | 0, _, _, _, _, _, i, i0, i1 => absurd i1 (by omega)
  | n + 1, t, x, o, ⟨c, h1, h2, h3, h4, h5⟩, ⟨c', k1, k2, k3, k4, k5⟩, i, i0, i1 => by
    have e : c = c' := by
      rcases Int.lt_trichotomy c c' with z | z | z
      · obtain ⟨m, hm⟩ : ∃ m, c'.toNat = (c + 1).toNat + m := ⟨c'.toNat - (c + 1).toNat, by omega⟩
        have y := zsum_up_le (f := wNx w s n t) (fun j => wNx_ge) m (c + 1).toNat
        rw [← hm] at y
        omega
      · exact z
      · obtain ⟨m, hm⟩ : ∃ m, c.toNat = (c' + 1).toNat + m := ⟨c.toNat - (c' + 1).toNat, by omega⟩
        have y := zsum_up_le (f := wNx w s n t) (fun j => wNx_ge) m (c' + 1).toNat
        rw [← hm] at y
        omega
    subst e
    by_cases z : i = o
    · rw [z, h4, k4]
    · exact wWord_uq n _ _ _ h5 k5 i (by omega) (by omega)
theorem bPut_cg {b b' : Int → Int} {n x : Int} (h : ∀ j, 0 ≤ j → j < n → b j = b' j ∧ 0 ≤ b' j ∧ b' j < 256) : ∀ j, 0 ≤ j → j < n + 4 → bPut b n x j = bPut b' n x j ∧ 0 ≤ bPut b' n x j ∧ bPut b' n x j < 256 := by
  intro j j0 j1
  have g := @zby_rg
  unfold bPut zu
  by_cases a3 : j = n + 3
  · rw [if_pos a3, if_pos a3]; exact ⟨rfl, g⟩
  rw [if_neg a3, if_neg a3]
  by_cases a2 : j = n + 2
  · rw [if_pos a2, if_pos a2]; exact ⟨rfl, g⟩
  rw [if_neg a2, if_neg a2]
  by_cases a1 : j = n + 1
  · rw [if_pos a1, if_pos a1]; exact ⟨rfl, g⟩
  rw [if_neg a1, if_neg a1]
  by_cases a0 : j = n
  · rw [if_pos a0, if_pos a0]; exact ⟨rfl, g⟩
  rw [if_neg a0, if_neg a0]
  exact h j j0 (by omega)
end C0a
/-- class and reference hold the same -/
def lSm (V : Nat → Int) (C : Nat → Int → Int) (J : c_J) (Vm : Nat → Int) (Cm : Nat → Int → Int) : Prop :=
  (cNow V C J (Cm 0) ∧ wAll (Cm 0)) ∧
  (cHs V C J (Vm 4) (fun i j => Cm 2 (985 * i + j)) ∧ ∀ i, 0 ≤ i → i < Vm 4 → wAll (fun j => Cm 2 (985 * i + j))) ∧
  (V 0 = Vm 5 ∧ (V 0 = 0 ∨ V 0 = 1) ∧ (V 0 = 1 → cWk V C J 1 (Cm 3) ∧ wAll (Cm 3))) ∧
  (V 4 = Vm 7 ∧ (0 ≤ V 4 ∧ V 4 ≤ 200) ∧ ∀ j, 0 ≤ j → j < V 4 → C 2 j = Cm 6 j ∧ 0 ≤ Cm 6 j ∧ Cm 6 j < 256) ∧
  (V 1 = Vm 8 ∧ V 2 = Vm 9) ∧
  (V 3 = Vm 11 ∧ (0 ≤ V 3 ∧ V 3 ≤ 3600) ∧ ∀ j, 0 ≤ j → j < V 3 → C 22 j = Cm 10 j) ∧
  cSI V C
section C0
variable {V V' Vm Vm' : Nat → Int} {C C' Cm Cm' : Nat → Int → Int} {J J' : c_J} {w' : Int → Int} {n : Int}
theorem cNow.cg {w : Int → Int} (h : cNow V C J w) (hV : ∀ i, 20 ≤ i → i < 25 → V' i = V i) (hC : ∀ i, 31 ≤ i → i < 34 → C' i = C i) (hR : J'.2.1 0 = J.2.1 0 ∧ J'.2.1 1 = J.2.1 1) (hP : ∀ a p, J.2.2 a = some p → J'.2.2 a = some p) : cNow V' C' J' w := cWk.cg (x := 0) h hV hC hR hP
theorem cNow.pw {w : Int → Int} (h : cNow V C J w) (hO : wOK w) (hw : ∀ j, 0 ≤ j → j < 985 → w' j = w j) : cNow V C J w' := cWd.pw h hO hw
theorem cWk.pw {w : Int → Int} {u : Nat} (h : cWk V C J u w) (hO : wOK w) (hw : ∀ j, 0 ≤ j → j < 985 → w' j = w j) : cWk V C J u w' := cWd.pw h hO hw
/-- the reference's other numbers and rows -/
theorem lSm.m (h : lSm V C J Vm Cm) (hV : ∀ i ∈ [4, 5, 7, 8, 9, 11], Vm' i = Vm i) (hC : ∀ i ∈ [0, 2, 3, 6, 10], Cm' i = Cm i) : lSm V C J Vm' Cm' := by
  unfold lSm at h ⊢
  rw [hV 4 (by decide), hV 5 (by decide), hV 7 (by decide), hV 8 (by decide), hV 9 (by decide), hV 11 (by decide), hC 0 (by decide), hC 2 (by decide), hC 3 (by decide), hC 6 (by decide), hC 10 (by decide)]
  exact h
/-- the class's other numbers and rows -/
theorem lSm.c (h : lSm V C J Vm Cm) (hV : ∀ i, i ≠ 12 → i ≠ 13 → V' i = V i) (hC : ∀ i, ¬ (12 ≤ i ∧ i < 16) → ¬ (19 ≤ i ∧ i < 22) → C' i = C i) (hJ : J'.2 = J.2) (hS : cSI V' C') : lSm V' C' J' Vm Cm := by
  obtain ⟨⟨a1, a2⟩, ⟨b1, b2⟩, ⟨c1, c2, c3⟩, ⟨d1, d2, d3⟩, e, ⟨f1, f2, f3⟩, -⟩ := h
  have hR : ∀ q, J'.2.1 q = J.2.1 q := fun q => by rw [hJ]
  have hP : ∀ a p, J.2.2 a = some p → J'.2.2 a = some p := fun a p z => by rw [hJ]; exact z
  unfold lSm
  rw [hV 0 (by decide) (by decide), hV 4 (by decide) (by decide), hV 1 (by decide) (by decide), hV 2 (by decide) (by decide), hV 3 (by decide) (by decide), hC 2 (by decide) (by decide), hC 22 (by decide) (by decide)]
  exact ⟨⟨a1.cg (fun i i0 i1 => hV i (by omega) (by omega)) (fun i i0 i1 => hC i (by omega) (by omega)) ⟨hR _, hR _⟩ hP, a2⟩, ⟨b1.cg (fun i hi => hV i (by omega) (by omega)) (fun i i0 i1 => hC i (by omega) (by omega)) (fun q _ _ => hR q) hP, b2⟩, ⟨c1, c2, fun z => ⟨(c3 z).1.cg (fun i i0 i1 => hV i (by omega) (by omega)) (fun i i0 i1 => hC i (by omega) (by omega)) ⟨hR _, hR _⟩ hP, (c3 z).2⟩⟩, ⟨d1, d2, d3⟩, e, ⟨f1, f2, f3⟩, hS⟩
/-- the input is shortened -/
theorem lSm.buf (h : lSm V C J Vm Cm) (hn : 0 ≤ n ∧ n ≤ V 4) : lSm (vu V 4 n) C J (vu Vm 7 n) Cm := by
  obtain ⟨⟨a1, a2⟩, ⟨b1, b2⟩, ⟨c1, c2, c3⟩, ⟨d1, d2, d3⟩, e, ⟨f1, f2, f3⟩, g⟩ := h
  have hV : ∀ i, i ≠ 4 → vu V 4 n i = V i := fun i hi => vu_ne hi
  have hM : ∀ i, i ≠ 7 → vu Vm 7 n i = Vm i := fun i hi => vu_ne hi
  unfold lSm
  rw [hV 0 (by decide), vu_at, vu_at, hV 1 (by decide), hV 2 (by decide), hV 3 (by decide), hM 4 (by decide), hM 5 (by decide), hM 8 (by decide), hM 9 (by decide), hM 11 (by decide)]
  exact ⟨⟨a1.cg (fun i i0 i1 => hV i (by omega)) (fun i i0 i1 => rfl) ⟨rfl, rfl⟩ (fun _ _ z => z), a2⟩, ⟨b1.cg (fun i hi => hV i (by omega)) (fun i i0 i1 => rfl) (fun q _ _ => rfl) (fun _ _ z => z), b2⟩, ⟨c1, c2, fun z => ⟨(c3 z).1.cg (fun i i0 i1 => hV i (by omega)) (fun i i0 i1 => rfl) ⟨rfl, rfl⟩ (fun _ _ z => z), (c3 z).2⟩⟩, ⟨rfl, by omega, fun j j0 j1 => d3 j j0 (by omega)⟩, e, ⟨f1, f2, f3⟩, g.cg (hV 12 (by decide)) rfl rfl⟩
/-- bytes are put behind the input -/
theorem lSm.app {a b c e f : Int} (h : lSm V C J Vm Cm) (hn : V 4 + 20 ≤ 200) (v4 : V' 4 = V 4 + 20) (hV : sV [4] V V') (hC : sC [2] C C') (h2 : C' 2 = bPut (bPut (bPut (bPut (bPut (C 2) (V 4) a) (V 4 + 4) b) (V 4 + 8) c) (V 4 + 12) e) (V 4 + 16) f)
    (v7 : Vm' 7 = Vm 7 + 20) (hVm : sV [7, 12] Vm Vm') (hCm : sC [6] Cm Cm') (h6 : Cm' 6 = bPut (bPut (bPut (bPut (bPut (Cm 6) (Vm 7) a) (Vm 7 + 4) b) (Vm 7 + 8) c) (Vm 7 + 12) e) (Vm 7 + 16) f) : lSm V' C' J Vm' Cm' := by
  obtain ⟨⟨a1, a2⟩, ⟨b1, b2⟩, ⟨c1, c2, c3⟩, ⟨d1, d2, d3⟩, ee, ⟨f1, f2, f3⟩, g⟩ := h
  have hV : ∀ i, i ≠ 4 → V' i = V i := fun i hi => hV i (by simp only [List.mem_cons, List.not_mem_nil, or_false]; exact hi)
  have hC : ∀ i, i ≠ 2 → C' i = C i := fun i hi => hC i (by simp only [List.mem_cons, List.not_mem_nil, or_false]; exact hi)
  have hM : ∀ i, i ≠ 7 → i ≠ 12 → Vm' i = Vm i := fun i hi hj => hVm i (by simp only [List.mem_cons, List.not_mem_nil, or_false]; omega)
  have hD : ∀ i, i ≠ 6 → Cm' i = Cm i := fun i hi => hCm i (by simp only [List.mem_cons, List.not_mem_nil, or_false]; exact hi)
  unfold lSm
  rw [hV 0 (by decide), v4, v7, hV 1 (by decide), hV 2 (by decide), hV 3 (by decide), hC 22 (by decide), hM 4 (by decide) (by decide), hM 5 (by decide) (by decide), hM 8 (by decide) (by decide), hM 9 (by decide) (by decide), hM 11 (by decide) (by decide), hD 0 (by decide), hD 2 (by decide), hD 3 (by decide), hD 10 (by decide), h2, h6]
  refine ⟨⟨a1.cg (fun i i0 i1 => hV i (by omega)) (fun i i0 i1 => hC i (by omega)) ⟨rfl, rfl⟩ (fun _ _ z => z), a2⟩, ⟨b1.cg (fun i hi => hV i (by omega)) (fun i i0 i1 => hC i (by omega)) (fun q _ _ => rfl) (fun _ _ z => z), b2⟩, ⟨c1, c2, fun z => ⟨(c3 z).1.cg (fun i i0 i1 => hV i (by omega)) (fun i i0 i1 => hC i (by omega)) ⟨rfl, rfl⟩ (fun _ _ z => z), (c3 z).2⟩⟩, ⟨by omega, by omega, ?_⟩, ee, ⟨f1, f2, f3⟩, g.cg (hV 12 (by decide)) (hC 12 (by decide)) (hC 13 (by decide))⟩
  rw [← d1]
  have k1 := bPut_cg (x := a) d3
  have k2 := bPut_cg (x := b) k1
  have k3 := bPut_cg (n := V 4 + 8) (x := c) (fun j j0 j1 => k2 j j0 (by omega))
  have k4 := bPut_cg (n := V 4 + 12) (x := e) (fun j j0 j1 => k3 j j0 (by omega))
  have k5 := bPut_cg (n := V 4 + 16) (x := f) (fun j j0 j1 => k4 j j0 (by omega))
  exact fun j j0 j1 => k5 j j0 (by omega)
/-- another report -/
theorem lSm.rep (h : lSm V C J Vm Cm) (hV : ∀ i, i ≠ 3 → i ≠ 12 → V' i = V i) (hC : ∀ i, ¬ (12 ≤ i ∧ i < 16) → i ≠ 22 → C' i = C i) (hJ : J'.2 = J.2) (hS : cSI V' C') (hM : ∀ i ∈ [4, 5, 7, 8, 9], Vm' i = Vm i) (hD : ∀ i ∈ [0, 2, 3, 6], Cm' i = Cm i) (hr : V' 3 = Vm' 11 ∧ (0 ≤ V' 3 ∧ V' 3 ≤ 3600) ∧ ∀ j, 0 ≤ j → j < V' 3 → C' 22 j = Cm' 10 j) : lSm V' C' J' Vm' Cm' := by
  obtain ⟨⟨a1, a2⟩, ⟨b1, b2⟩, ⟨c1, c2, c3⟩, ⟨d1, d2, d3⟩, e, -, -⟩ := h
  have hR : ∀ q, J'.2.1 q = J.2.1 q := fun q => by rw [hJ]
  have hP : ∀ a p, J.2.2 a = some p → J'.2.2 a = some p := fun a p z => by rw [hJ]; exact z
  unfold lSm
  rw [hV 0 (by decide) (by decide), hV 4 (by decide) (by decide), hV 1 (by decide) (by decide), hV 2 (by decide) (by decide), hC 2 (by decide) (by decide), hM 4 (by decide), hM 5 (by decide), hM 7 (by decide), hM 8 (by decide), hM 9 (by decide), hD 0 (by decide), hD 2 (by decide), hD 3 (by decide), hD 6 (by decide)]
  exact ⟨⟨a1.cg (fun i i0 i1 => hV i (by omega) (by omega)) (fun i i0 i1 => hC i (by omega) (by omega)) ⟨hR _, hR _⟩ hP, a2⟩, ⟨b1.cg (fun i hi => hV i (by omega) (by omega)) (fun i i0 i1 => hC i (by omega) (by omega)) (fun q _ _ => hR q) hP, b2⟩, ⟨c1, c2, fun z => ⟨(c3 z).1.cg (fun i i0 i1 => hV i (by omega) (by omega)) (fun i i0 i1 => hC i (by omega) (by omega)) ⟨hR _, hR _⟩ hP, (c3 z).2⟩⟩, ⟨d1, d2, d3⟩, e, hr, hS⟩
/-- the world becomes another, the old one is remembered -/
theorem lSm.new (h : lSm V C J Vm Cm) (hN : cNow V' C' J' w') (hw : wAll w') (hH : cHs V' C' J' ((if Vm 4 = 8 then 7 else Vm 4) + 1) (hPush (Vm 4) (fun i j => Cm 2 (985 * i + j)) (Cm 0)))
    (hV : ∀ i, (i = 0 ∨ i = 3 ∨ i = 12 ∨ 28 ≤ i ∧ i < 33) → V' i = V i) (hC : ∀ i, (i = 2 ∨ i = 12 ∨ i = 13 ∨ i = 22 ∨ 35 ≤ i ∧ i < 38) → C' i = C i) (hR : ∀ q, q = 2 ∨ q = 3 → J'.2.1 q = J.2.1 q) (hP : ∀ a p, J.2.2 a = some p → J'.2.2 a = some p)
    (hb : V' 4 = Vm' 7 ∧ 0 ≤ V' 4 ∧ V' 4 ≤ V 4) (he : V' 1 = Vm' 8 ∧ V' 2 = Vm' 9) (m0 : ∀ j, 0 ≤ j → j < 985 → Cm' 0 j = w' j) (m4 : Vm' 4 = (if Vm 4 = 8 then 7 else Vm 4) + 1) (m2 : ∀ i j, 0 ≤ i → i < Vm' 4 - 1 → 0 ≤ j → j < 985 → Cm' 2 (985 * i + j) = Cm 2 (985 * (if Vm 4 = 8 then i + 1 else i) + j)) (m2' : ∀ j, 0 ≤ j → j < 985 → Cm' 2 (985 * (Vm' 4 - 1) + j) = Cm 0 j)
    (hM : ∀ i ∈ [5, 11], Vm' i = Vm i) (hD : ∀ i ∈ [3, 6, 10], Cm' i = Cm i) : lSm V' C' J' Vm' Cm' := by
  obtain ⟨⟨a1, a2⟩, ⟨b1, b2⟩, ⟨c1, c2, c3⟩, ⟨d1, d2, d3⟩, e, ⟨f1, f2, f3⟩, g⟩ := h
  have n8 := b1.2.1.2
  have hold : ∀ i, 0 ≤ i → i < Vm' 4 → wAll (hPush (Vm 4) (fun i j => Cm 2 (985 * i + j)) (Cm 0) i) := fun i i0 i1 => by
    unfold hPush
    by_cases z : i = (if Vm 4 = 8 then 7 else Vm 4)
    · rw [if_pos z]; exact a2
    · rw [if_neg z]
      refine b2 _ ?_ ?_
      · split <;> omega
      · by_cases y : Vm 4 = 8
        · rw [if_pos y] at m4 z ⊢; omega
        · rw [if_neg y] at m4 z ⊢; omega
  have heq : ∀ i, 0 ≤ i → i < Vm' 4 → ∀ j, 0 ≤ j → j < 985 → Cm' 2 (985 * i + j) = hPush (Vm 4) (fun i j => Cm 2 (985 * i + j)) (Cm 0) i j := fun i i0 i1 j j0 j1 => by
    unfold hPush
    by_cases z : i = (if Vm 4 = 8 then 7 else Vm 4)
    · rw [if_pos z, show i = Vm' 4 - 1 by omega]; exact m2' j j0 j1
    · rw [if_neg z]; exact m2 i j i0 (by omega) j0 j1
  unfold lSm
  rw [hV 0 (by decide), hV 3 (by decide), hC 2 (by decide), hC 22 (by decide), hM 5 (by decide), hM 11 (by decide), hD 3 (by decide), hD 6 (by decide), hD 10 (by decide)]
  refine ⟨⟨hN.pw hw.1 m0, hw.cg m0⟩, ⟨?_, fun i i0 i1 => (hold i i0 i1).cg (heq i i0 i1)⟩, ⟨c1, c2, fun z => ⟨(c3 z).1.cg (fun i i0 i1 => hV i (by omega)) (fun i i0 i1 => hC i (by omega)) ⟨hR 2 (Or.inl rfl), hR 3 (Or.inr rfl)⟩ hP, (c3 z).2⟩⟩, ⟨hb.1, by omega, fun j j0 j1 => d3 j j0 (by omega)⟩, he, ⟨f1, f2, f3⟩, g.cg (hV 12 (by decide)) (hC 12 (by decide)) (hC 13 (by decide))⟩
  rw [m4]
  rw [m4] at hold heq
  exact hH.pw (fun i i0 i1 => (hold i i0 i1).1) heq
theorem lSm.chg {t : Int} (h : lSm V C J Vm Cm) (hc : cChg V V' C C' J J' (Cm 0) w' (Vm 4) (fun i j => Cm 2 (985 * i + j))) (hm : mCh Vm Vm' Cm Cm' w' t) (ht : t = Vm 7) (hw : wAll w') : lSm V' C' J' Vm' Cm' := by
  obtain ⟨q1, q2, q3, q4, q5, q6, q7⟩ := hc
  obtain ⟨m12, m7, mV, mC, m0, m4, m2, m2'⟩ := hm
  have d := h.2.2.2.1
  have e := h.2.2.2.2.1
  have hM : ∀ i ∈ [5, 8, 9, 11], Vm' i = Vm i := fun i hi => mV i (by revert i; decide)
  refine h.new q1 hw q2 (fun i hi => q3 i (by omega)) (fun i hi => q4 i (by omega)) q5 q7 ?_ ?_ m0 m4 m2 m2' (fun i hi => mV i (by revert i; decide)) (fun i hi => mC i (by revert i; decide))
  · rw [q3 4 (by omega), m7, ht]; omega
  · rw [q3 1 (by omega), q3 2 (by omega), hM 8 (by decide), hM 9 (by decide)]; exact e
theorem lSm.walk (h : lSm V C J Vm Cm) (v4 : V' 4 = 0) (hc : cChg (vu V 4 0) V' C C' J J' (Cm 0) w' (Vm 4) (fun i j => Cm 2 (985 * i + j))) (hm : mCh Vm Vm' Cm Cm' w' 0) (hw : wAll w') : lSm V' C' J' Vm' Cm' := by
  obtain ⟨q1, q2, q3, q4, q5, q6, q7⟩ := hc
  obtain ⟨m12, m7, mV, mC, m0, m4, m2, m2'⟩ := hm
  have d := h.2.2.2.1
  have e := h.2.2.2.2.1
  have hM : ∀ i ∈ [5, 8, 9, 11], Vm' i = Vm i := fun i hi => mV i (by revert i; decide)
  refine h.new q1 hw q2 (fun i hi => (q3 i (by omega)).trans (vu_ne (by omega))) (fun i hi => q4 i (by omega)) q5 q7 ?_ ?_ m0 m4 m2 m2' (fun i hi => mV i (by revert i; decide)) (fun i hi => mC i (by revert i; decide))
  · rw [v4, m7]; omega
  · rw [q3 1 (by omega), q3 2 (by omega), hM 8 (by decide), hM 9 (by decide), vu_ne (by decide), vu_ne (by decide)]; exact e
/-- a pattern is refused -/
theorem lSm.fai {kd off : Int} (h : lSm V C J Vm Cm) (v1 : V' 1 = kd) (v2 : V' 2 = off) (v4 : V' 4 = 0) (hV : ∀ i, (i = 0 ∨ i = 3 ∨ 10 ≤ i ∧ i < 200) → V' i = V i) (hC : ∀ i, (i < 4 ∨ 9 ≤ i) → C' i = C i) (hm : mFai Vm Vm' Cm Cm' kd off) : lSm V' C' J Vm' Cm' := by
  obtain ⟨⟨⟨a1, a2⟩, ⟨b1, b2⟩, ⟨c1, c2, c3⟩, ⟨d1, d2, d3⟩, e, ⟨f1, f2, f3⟩, g⟩, ⟨-, m7, m8, m9⟩, mV, mC, m0⟩ := And.intro h hm
  have hM : ∀ i ∈ [4, 5, 11], Vm' i = Vm i := fun i hi => mV i (by revert i; decide)
  have hD : ∀ i ∈ [2, 3, 6, 10], Cm' i = Cm i := fun i hi => mC i (by revert i; decide)
  unfold lSm
  rw [hV 0 (by decide), v4, m7, v1, m8, v2, m9, hV 3 (by decide), hC 2 (by decide), hC 22 (by decide), hM 4 (by decide), hM 5 (by decide), hM 11 (by decide), hD 2 (by decide), hD 3 (by decide), hD 6 (by decide), hD 10 (by decide)]
  exact ⟨⟨(a1.cg (fun i i0 i1 => hV i (by omega)) (fun i i0 i1 => hC i (by omega)) ⟨rfl, rfl⟩ (fun _ _ z => z)).pw a2.1 m0, a2.cg m0⟩, ⟨b1.cg (fun i hi => hV i (by omega)) (fun i i0 i1 => hC i (by omega)) (fun q _ _ => rfl) (fun _ _ z => z), b2⟩, ⟨c1, c2, fun z => ⟨(c3 z).1.cg (fun i i0 i1 => hV i (by omega)) (fun i i0 i1 => hC i (by omega)) ⟨rfl, rfl⟩ (fun _ _ z => z), (c3 z).2⟩⟩, ⟨rfl, by decide, fun j j0 j1 => absurd j1 (by omega)⟩, ⟨rfl, rfl⟩, ⟨f1, f2, f3⟩, g.cg (hV 12 (by decide)) (hC 12 (by decide)) (hC 13 (by decide))⟩
theorem lSm.cmp (h : lSm V C J Vm Cm) (v1 : V' 1 = 0) (v2 : V' 2 = -1) (v4 : V' 4 = 0) (hN : cNow V' C' J' w') (hw : wAll w') (hH : cHs V' C' J' ((if Vm 4 = 8 then 7 else Vm 4) + 1) (hPush (Vm 4) (fun i j => Cm 2 (985 * i + j)) (Cm 0)))
    (hV : ∀ i, (i = 0 ∨ i = 3 ∨ 12 ≤ i ∧ i < 20 ∨ 28 ≤ i ∧ i < 36 ∨ 100 ≤ i ∧ i < 200) → V' i = V i) (hC : ∀ i, (i < 4 ∨ 9 ≤ i ∧ i < 31 ∨ 34 ≤ i ∧ i < 39 ∨ 70 ≤ i) → C' i = C i) (hR : ∀ q, q = 2 ∨ q = 3 → J'.2.1 q = J.2.1 q) (hP : ∀ a p, J.2.2 a = some p → J'.2.2 a = some p) (hm : mCmp Vm Vm' Cm Cm' w') : lSm V' C' J' Vm' Cm' := by
  obtain ⟨⟨m12, m7, m8, m9⟩, mV, mC, m0, m4, m2, m2'⟩ := hm
  have d := h.2.2.2.1
  refine h.new hN hw hH (fun i hi => hV i (by omega)) (fun i hi => hC i (by omega)) hR hP ?_ ?_ m0 m4 m2 m2' (fun i hi => mV i (by revert i; decide)) (fun i hi => mC i (by revert i; decide))
  · rw [v4, m7]; omega
  · rw [v1, v2, m8, m9]; exact ⟨rfl, rfl⟩
theorem lSm.und (h : lSm V C J Vm Cm) (h4 : Vm 4 ≠ 0) (hN : cNow V' C' J' (fun j => Cm 2 (985 * (Vm 4 - 1) + j))) (hH : cHs V' C' J' (Vm 4 - 1) (fun i j => Cm 2 (985 * i + j))) (hF : cFr V V' C C' J J') (m4 : Vm' 4 = Vm 4 - 1) (mV : sV [4, 12] Vm Vm') (mC : sC [0] Cm Cm') (m0 : ∀ j, 0 ≤ j → j < 985 → Cm' 0 j = Cm 2 (985 * (Vm 4 - 1) + j)) : lSm V' C' J' Vm' Cm' := by
  obtain ⟨⟨a1, a2⟩, ⟨b1, b2⟩, ⟨c1, c2, c3⟩, ⟨d1, d2, d3⟩, e, ⟨f1, f2, f3⟩, g⟩ := h
  obtain ⟨q3, q4, q5, q6, q7⟩ := hF
  have n8 := b1.2.1.2
  have hM : ∀ i ∈ [5, 7, 8, 9, 11], Vm' i = Vm i := fun i hi => mV i (by revert i; decide)
  have hD : ∀ i ∈ [2, 3, 6, 10], Cm' i = Cm i := fun i hi => mC i (by revert i; decide)
  have hw := b2 (Vm 4 - 1) (by omega) (by omega)
  unfold lSm
  rw [q3 0 (by omega), q3 4 (by omega), q3 1 (by omega), q3 2 (by omega), q3 3 (by omega), q4 2 (by omega), q4 22 (by omega), m4, hM 5 (by decide), hM 7 (by decide), hM 8 (by decide), hM 9 (by decide), hM 11 (by decide), hD 2 (by decide), hD 3 (by decide), hD 6 (by decide), hD 10 (by decide)]
  exact ⟨⟨hN.pw hw.1 m0, hw.cg m0⟩, ⟨hH, fun i i0 i1 => b2 i i0 (by omega)⟩, ⟨c1, c2, fun z => ⟨(c3 z).1.cg (fun i i0 i1 => q3 i (by omega)) (fun i i0 i1 => q4 i (by omega)) ⟨q5 2 (Or.inl rfl), q5 3 (Or.inr rfl)⟩ q7, (c3 z).2⟩⟩, ⟨d1, d2, d3⟩, e, ⟨f1, f2, f3⟩, g.cg (q3 12 (by omega)) (q4 12 (by omega)) (q4 13 (by omega))⟩
theorem lSm.sav (h : lSm V C J Vm Cm) (hN : cNow V' C' J' (Cm 0)) (hK : cWk V' C' J' 1 (Cm 0)) (v0 : V' 0 = 1) (hV : ∀ i, i ≠ 0 → ¬ (28 ≤ i ∧ i < 33) → V' i = V i) (hC : ∀ i, ¬ (35 ≤ i ∧ i < 38) → C' i = C i) (hR : ∀ q, q ≠ 2 → q ≠ 3 → J'.2.1 q = J.2.1 q) (hJ : J'.2.2 = J.2.2) (mC : sC [3] Cm Cm') (m3 : ∀ j, 0 ≤ j → j < 985 → Cm' 3 j = Cm 0 j) : lSm V' C' J' (vu (vu Vm 12 0) 5 1) Cm' := by
  obtain ⟨⟨a1, a2⟩, ⟨b1, b2⟩, -, ⟨d1, d2, d3⟩, e, ⟨f1, f2, f3⟩, g⟩ := h
  have hM : ∀ i, i ≠ 5 → i ≠ 12 → vu (vu Vm 12 0) 5 1 i = Vm i := fun i hi hj => (vu_ne hi).trans (vu_ne hj)
  have hD : ∀ i ∈ [0, 2, 6, 10], Cm' i = Cm i := fun i hi => mC i (by revert i; decide)
  unfold lSm
  rw [v0, hV 4 (by decide) (by omega), hV 1 (by decide) (by omega), hV 2 (by decide) (by omega), hV 3 (by decide) (by omega), hC 2 (by omega), hC 22 (by omega), vu_at, hM 4 (by decide) (by decide), hM 7 (by decide) (by decide), hM 8 (by decide) (by decide), hM 9 (by decide) (by decide), hM 11 (by decide) (by decide), hD 0 (by decide), hD 2 (by decide), hD 6 (by decide), hD 10 (by decide)]
  exact ⟨⟨hN, a2⟩, ⟨b1.cg (fun i hi => hV i (by omega) (by omega)) (fun i i0 i1 => hC i (by omega)) (fun q q0 q1 => hR q (by omega) (by omega)) (fun a p z => by rw [hJ]; exact z), b2⟩, ⟨rfl, Or.inr rfl, fun _ => ⟨hK.pw a2.1 m3, a2.cg m3⟩⟩, ⟨d1, d2, d3⟩, e, ⟨f1, f2, f3⟩, g.cg (hV 12 (by decide) (by omega)) (hC 12 (by omega)) (hC 13 (by omega))⟩
theorem lSm.rst (h : lSm V C J Vm Cm) (h1 : V 0 = 1) (hN : cNow V' C' J' (Cm 3)) (hK : cWk V' C' J' 1 (Cm 3)) (v11 : V' 11 = 0) (hV : ∀ i, i ≠ 11 → ¬ (20 ≤ i ∧ i < 25) → V' i = V i) (hC : ∀ i, ¬ (31 ≤ i ∧ i < 34) → C' i = C i) (mC : sC [0] Cm Cm') (m0 : ∀ j, 0 ≤ j → j < 985 → Cm' 0 j = Cm 3 j) : lSm V' C' J' (vu (vu Vm 12 0) 4 0) Cm' := by
  obtain ⟨⟨a1, a2⟩, ⟨b1, b2⟩, ⟨c1, c2, c3⟩, ⟨d1, d2, d3⟩, e, ⟨f1, f2, f3⟩, g⟩ := h
  have hM : ∀ i, i ≠ 4 → i ≠ 12 → vu (vu Vm 12 0) 4 0 i = Vm i := fun i hi hj => (vu_ne hi).trans (vu_ne hj)
  have hD : ∀ i ∈ [2, 3, 6, 10], Cm' i = Cm i := fun i hi => mC i (by revert i; decide)
  have hw := (c3 h1).2
  have b10 := b1.1
  have v10 := hV 10 (by decide) (by omega)
  unfold lSm
  rw [hV 0 (by decide) (by omega), hV 4 (by decide) (by omega), hV 1 (by decide) (by omega), hV 2 (by decide) (by omega), hV 3 (by decide) (by omega), hC 2 (by omega), hC 22 (by omega), vu_at, hM 5 (by decide) (by decide), hM 7 (by decide) (by decide), hM 8 (by decide) (by decide), hM 9 (by decide) (by decide), hM 11 (by decide) (by decide), hD 2 (by decide), hD 3 (by decide), hD 6 (by decide), hD 10 (by decide)]
  exact ⟨⟨hN.pw hw.1 m0, hw.cg m0⟩, ⟨⟨by omega, ⟨v11, by decide, by decide⟩, fun i i0 i1 => absurd i1 (by omega)⟩, fun i i0 i1 => absurd i1 (by omega)⟩, ⟨c1, c2, fun _ => ⟨hK, hw⟩⟩, ⟨d1, d2, d3⟩, e, ⟨f1, f2, f3⟩, g.cg (hV 12 (by decide) (by omega)) (hC 12 (by omega)) (hC 13 (by omega))⟩
end C0
