/-! ===== the class: a pattern is read ===== -/
/-- all but the reader stays -/
def rdG (V V' : Nat → Int) (C C' : Nat → Int → Int) : Prop := (∀ i, (i < 5 ∨ 10 ≤ i ∧ i < 200) → V' i = V i) ∧ ∀ i, (i < 4 ∨ 9 ≤ i) → C' i = C i
/-- the states behind N steps -/
def cDI (V : Nat → Int) (C : Nat → Int → Int) (ld : Int → Int → Int) (N : Nat) : Prop := V 7 = ((zD ld N).1 : Int) ∧ (∀ j : Int, 0 ≤ j → j < V 7 → C 7 j = (zD ld N).2.1 j) ∧ ∀ i : Int, 0 ≤ i → i < (N : Int) → C 8 i = (zD ld N).2.2 i
/-- the reader holds a pattern -/
def cGot (V : Nat → Int) (C : Nat → Int → Int) (x : zSt) (N : Nat) : Prop := (V 5 = x.1.1.1 ∧ V 6 = x.1.1.2 ∧ V 9 = 0 ∧ 0 ≤ x.1.1.1 ∧ x.1.1.1 ≤ 24) ∧ (cPa V 0 1 (zEb x.1.2.2 x.2.1).2 ∧ zFe (C 5) (zEb x.1.2.2 x.2.1).1 ∧ zOKf (C 5) ∧ zOKp (zEb x.1.2.2 x.2.1).2) ∧ cSt C x.1.1.1 x.1.2.1 ∧ cDI V C (zLd x) N
section C80a
variable {V V' V1 : Nat → Int} {C C' C1 : Nat → Int → Int} {x : zSt} {y c q a : Int} {ld : Int → Int → Int} {N : Nat}
theorem rdG.rfl : rdG V V C C := ⟨fun _ _ => Eq.refl _, fun _ _ => Eq.refl _⟩
theorem rdG.tr (h : rdG V V1 C C1) (h' : rdG V1 V' C1 C') : rdG V V' C C' := ⟨fun i hi => (h'.1 i hi).trans (h.1 i hi), fun i hi => (h'.2 i hi).trans (h.2 i hi)⟩
theorem rdF.g (h : rdF V V' C C') : rdG V V' C C' := ⟨fun i hi => h.1 i (by omega), h.2⟩
theorem zRow_n : zRow x (476 * 0 + 0) = x.1.1.1 := by
  unfold zRow zRg
  rw [if_pos rfl]
theorem zRow_l : zRow x (476 * 0 + 3) = (zEb x.1.2.2 x.2.1).2.2.2 := by
  unfold zRow zRg
  rw [if_neg (by decide), if_pos rfl]
theorem zRow_lp : zRow x (476 * 0 + 4) = x.1.1.2 := by
  unfold zRow zRg
  rw [if_neg (by decide), if_neg (by decide), if_pos rfl]
theorem zRow_f : zRow x (476 * 0 + 2) = (zEb x.1.2.2 x.2.1).2.2.1 := by
  unfold zRow zRg zRf
  rw [if_neg (by decide), if_neg (by decide), if_neg (by decide), if_pos rfl]
theorem zRow_e : zRow x (476 * 0 + 1) = if (zEb x.1.2.2 x.2.1).2.1 = true then 1 else 0 := by
  unfold zRow zRg zRf
  rw [if_neg (by decide), if_neg (by decide), if_neg (by decide), if_neg (by decide), if_pos rfl]
theorem zRow_fo (hn : x.1.1.1 ≤ 24) (h : 1 ≤ q ∧ q ≤ x.1.1.1) : zRow x (476 * 0 + (6 + q)) = (zEb x.1.2.2 x.2.1).1 q := by
  unfold zRow zRg zRf
  rw [if_neg (by omega), if_neg (by omega), if_neg (by omega), if_neg (by omega), if_neg (by omega), if_pos (by omega), show 476 * 0 + (6 + q) - (476 * 0 + 6) = q by omega]
theorem zRow_st (hn : x.1.1.1 ≤ 24) (h : 1 ≤ q ∧ q ≤ x.1.1.1) : zRow x (476 * 0 + (31 + q)) = x.1.2.1 q := by
  unfold zRow zRg zRf
  rw [if_neg (by omega), if_neg (by omega), if_neg (by omega), if_neg (by omega), if_neg (by omega), if_neg (by omega)]
  unfold zSt0
  rw [if_pos (by omega), show 476 * 0 + (31 + q) - 31 = q by omega]
theorem zLd_t (hn : 0 ≤ x.1.1.1 ∧ x.1.1.1 ≤ 24) (hq : 0 ≤ q) : zt (zLd x y c) q ↔ (1 ≤ q ∧ q ≤ x.1.1.1) ∧ ((y % 2 = 1 ∧ zt (zEb x.1.2.2 x.2.1).2.2.1 q) ∨ ∃ p, (1 ≤ p ∧ p ≤ x.1.1.1) ∧ zt y p ∧ zt ((zEb x.1.2.2 x.2.1).1 p) q) ∧ (x.1.2.1 q = 6 ∨ x.1.2.1 q = c) := by
  unfold zLd
  rw [wLead_t (by rw [zRow_n]; exact hn.1) hq, zRow_n, zRow_f]
  constructor
  · rintro ⟨h1, h2, h3⟩
    rw [zRow_st hn.2 h1] at h3
    refine ⟨h1, h2.imp id ?_, h3⟩
    rintro ⟨p, p1, p2, p3⟩
    rw [zRow_fo hn.2 p1] at p3
    exact ⟨p, p1, p2, p3⟩
  · rintro ⟨h1, h2, h3⟩
    rw [← zRow_st hn.2 h1] at h3
    refine ⟨h1, h2.imp id ?_, h3⟩
    rintro ⟨p, p1, p2, p3⟩
    rw [← zRow_fo hn.2 p1] at p3
    exact ⟨p, p1, p2, p3⟩
theorem zLd_rg (hn : 0 ≤ x.1.1.1 ∧ x.1.1.1 ≤ 24) : 0 ≤ zLd x y c ∧ zLd x y c < 33554432 := wThen_rg _ (by rw [zRow_n]; omega)
/-- the start set, or a set of positions -/
def zSub (n y : Int) : Prop := y = 1 ∨ ∀ q, 0 ≤ q → zt y q → 1 ≤ q ∧ q ≤ n
theorem zD_sub (hn : 0 ≤ x.1.1.1 ∧ x.1.1.1 ≤ 24) : ∀ (N : Nat) (j : Int), 0 ≤ j → j < ((zD (zLd x) N).1 : Int) → zSub x.1.1.1 ((zD (zLd x) N).2.1 j)
  | 0, j, j0, j1 => by
    have j1' : j < ((1 : Nat) : Int) := j1
    left
    show (if j = 0 then (1 : Int) else 0) = 1
    rw [if_pos (by omega)]
  | N + 1, j, j0, j1 => by
    have ih := zD_sub hn N j j0
    obtain ⟨y, r, hy, ⟨a, e⟩ | ⟨a, e⟩⟩ := zD_c (zLd x) N
    · rw [e] at j1 ⊢
      have j2 : j < (((zD (zLd x) N).1 + 1 : Nat) : Int) := j1
      show zSub _ (zu _ _ _ j)
      by_cases z : j = ((zD (zLd x) N).1 : Int)
      · rw [z, zu_at, hy]; exact Or.inr (fun q q0 hq => ((zLd_t hn q0).mp hq).1)
      · rw [zu_ne z]; exact ih (by omega)
    · rw [e] at j1 ⊢
      exact ih j1
/-- the positions behind a set -/
def cAft (C : Nat → Int → Int) (f y a : Int) : Prop := zMr a ∧ ∀ q, 0 ≤ q → (zt a q ↔ (y = 1 ∧ zt f q) ∨ (y ≠ 1 ∧ ∃ p : Int, (1 ≤ p ∧ p ≤ 24) ∧ zt y p ∧ zt (C 5 p) q))
theorem zt_1 (hq : 1 ≤ q) : ¬ zt 1 q := fun h => by
  have := (zt_zp (p := 0) (q := q) (Int.le_refl 0) (by omega)).mp h
  omega
/-- the set behind a street -/
theorem cAft.lead (h : cAft C (zEb x.1.2.2 x.2.1).2.2.1 y a) (hn : 0 ≤ x.1.1.1 ∧ x.1.1.1 ≤ 24) (hf : zFe (C 5) (zEb x.1.2.2 x.2.1).1) (hs : cSt C x.1.1.1 x.1.2.1) (hy : 0 ≤ y) (hu : zSub x.1.1.1 y) (hc : 0 ≤ c ∧ c < 6) : za a (C 6 c) = zLd x y c := by
  refine zt_ext (Int.natCast_nonneg _) (zLd_rg hn).1 (fun q q0 => ?_)
  rw [zt_za, zLd_t hn q0, h.2 q q0, (hs.2 c hc.1 hc.2).2 q q0]
  by_cases y1 : y = 1
  · subst y1
    constructor
    · rintro ⟨h1, h2, h3⟩
      exact ⟨h2, Or.inl ⟨by decide, h1.elim (fun z => z.2) (fun z => absurd (Eq.refl _) z.1)⟩, h3⟩
    · rintro ⟨h1, h2, h3⟩
      refine ⟨Or.inl ⟨Eq.refl _, ?_⟩, h1, h3⟩
      rcases h2 with h2 | ⟨p, p1, p2, _⟩
      · exact h2.2
      · exact absurd p2 (zt_1 p1.1)
  · have hb := hu.resolve_left y1
    have ev : y % 2 = 0 := zt_ev hy (fun z => by have := hb 0 (Int.le_refl 0) z; omega)
    constructor
    · rintro ⟨h1, h2, h3⟩
      refine ⟨h2, Or.inr ?_, h3⟩
      rcases h1 with h1 | ⟨_, p, p1, p2, p3⟩
      · exact absurd h1.1 y1
      · have := hb p (by omega) p2
        rw [hf p p1.1 p1.2] at p3
        exact ⟨p, this, p2, p3⟩
    · rintro ⟨h1, h2, h3⟩
      refine ⟨Or.inr ⟨y1, ?_⟩, h1, h3⟩
      rcases h2 with h2 | ⟨p, p1, p2, p3⟩
      · have := h2.1
        omega
      · rw [← hf p p1.1 (by omega)] at p3
        exact ⟨p, ⟨p1.1, by omega⟩, p2, p3⟩
theorem cDI.z (h7 : V 7 = 1) (h : C 7 0 = 1) : cDI V C ld 0 := ⟨h7, fun j j0 j1 => by
  obtain rfl : j = 0 := by omega
  exact h, fun i i0 i1 => by omega⟩
theorem cDI.ix (h : cDI V C ld N) {k : Int} (k0 : 0 ≤ k) (k1 : k ≤ V 7) (e : k < V 7 → C 7 k = y) (hb : ∀ j, 0 ≤ j → j < k → C 7 j ≠ y) : zIx (zD ld N).2.1 y (zD ld N).1 = k.toNat := by
  obtain ⟨h1, h2, h3⟩ := h
  refine zIx_uq (by omega) (fun hl => ?_) (fun j hj => ?_)
  · rw [Int.toNat_of_nonneg k0, ← h2 k k0 (by omega)]; exact e (by omega)
  · rw [← h2 j (by omega) (by omega)]; exact hb j (by omega) (by omega)
theorem cDI.old (h : cDI V C ld N) {k : Int} (hy : y = ld ((zD ld N).2.1 ((N / 6 : Nat) : Int)) ((N % 6 : Nat) : Int)) (hk : 0 ≤ k ∧ k < V 7) (e : C 7 k = y) (hb : ∀ j, 0 ≤ j → j < k → C 7 j ≠ y) {i : Int} (hi : i = (N : Int)) : cDI V (cu C 8 (zu (C 8) i k)) ld (N + 1) := by
  have hx := h.ix hk.1 (by omega) (fun _ => e) hb
  obtain ⟨h1, h2, h3⟩ := h
  have e1 : zD ld (N + 1) = ((zD ld N).1, (zD ld N).2.1, zu (zD ld N).2.2 N (k.toNat : Int)) := by
    show zDn _ _ _ = _
    unfold zDn
    rw [← hy, hx, if_neg (by omega), if_neg (by omega)]
  refine ⟨?_, fun j j0 j1 => ?_, fun i' i0 i1 => ?_⟩
  · rw [e1]; exact h1
  · rw [e1]; exact h2 j j0 j1
  · rw [e1]
    show zu (C 8) i k i' = zu _ _ _ i'
    by_cases z : i' = (N : Int)
    · rw [z, ← hi, zu_at, hi, zu_at, Int.toNat_of_nonneg hk.1]
    · rw [zu_ne (by omega), zu_ne z]; exact h3 i' i0 (by omega)
theorem cDI.new (h : cDI V C ld N) (hy : y = ld ((zD ld N).2.1 ((N / 6 : Nat) : Int)) ((N % 6 : Nat) : Int)) (hb : ∀ j, 0 ≤ j → j < V 7 → C 7 j ≠ y) {i r : Int} (hi : i = (N : Int)) (hr : r = V 7) : cDI (vu V 7 (V 7 + 1)) (cu (cu C 7 (zu (C 7) (V 7) y)) 8 (zu (C 8) i r)) ld (N + 1) := by
  have hx := h.ix (k := V 7) (by have := h.1; omega) (Int.le_refl _) (fun z => absurd z (Int.lt_irrefl _)) hb
  obtain ⟨h1, h2, h3⟩ := h
  have e1 : zD ld (N + 1) = ((zD ld N).1 + 1, zu (zD ld N).2.1 (zD ld N).1 y, zu (zD ld N).2.2 N ((zD ld N).1 : Int)) := by
    show zDn _ _ _ = _
    unfold zDn
    rw [← hy, hx, if_pos (by omega), if_pos (by omega), show ((V 7).toNat : Int) = ((zD ld N).1 : Int) by omega]
  refine ⟨?_, fun j j0 j1 => ?_, fun i' i0 i1 => ?_⟩
  · rw [e1]; show V 7 + 1 = (((zD ld N).1 + 1 : Nat) : Int); omega
  · have j2 : j < V 7 + 1 := j1
    rw [e1]
    show zu (C 7) (V 7) y j = zu _ _ _ j
    by_cases z : j = V 7
    · rw [z, zu_at, h1, zu_at]
    · rw [zu_ne z, zu_ne (by omega)]; exact h2 j j0 (by omega)
  · rw [e1]
    show zu (C 8) i r i' = zu _ _ _ i'
    by_cases z : i' = (N : Int)
    · rw [z, ← hi, zu_at, hi, zu_at, hr, h1]
    · rw [zu_ne (by omega), zu_ne z]; exact h3 i' i0 (by omega)
theorem cDI.full (h : cDI V C ld N) (hy : y = ld ((zD ld N).2.1 ((N / 6 : Nat) : Int)) ((N % 6 : Nat) : Int)) (hb : ∀ j, 0 ≤ j → j < V 7 → C 7 j ≠ y) : (zD ld (N + 1)).1 = (zD ld N).1 + 1 := by
  have hx := h.ix (k := V 7) (by have := h.1; omega) (Int.le_refl _) (fun z => absurd z (Int.lt_irrefl _)) hb
  have h1 := h.1
  show (if _ then _ else _) = _
  rw [← hy, hx, if_pos (by omega)]
end C80a
section C80
variable {G : p_G} {Y : Nat → Nat} {h0 : p_H} {P : (Option Value) ⊕ String → c_X → Prop} {d : Nat} {V : Nat → Int} {C : Nat → Int → Int} {J : c_J}
variable {x : zSt}
theorem q_rbegin  (hp : ∀ V' C', cRd V' C' zX0 → V' 7 = 0 → rdG V V' C C' → P (.inl none) (V', C', J)) : RM G mX6_begin (c_I Y h0) [.ref (Y 3)] (d + 3) 0 0 P (V, C, J) := by
  refine RM.of (L := [some (.ref (Y 3))]) cfX6_begin rfl (Nat.le_of_ble_eq_true rfl) ?_
  refine i_aload_n dX6_begin_0 rfl ?_
  refine i_aload_n dX6_begin_1 rfl ?_
  refine u_get (i := 3) (vv := .ref (Y (100 + 4 * 0))) dX6_begin_2 fX6_32.o (by decide) rfl rfl ?_
  refine u_putV (u := 0) dX6_begin_5 fX6_40 rfl rfl ?_
  refine i_aload_n dX6_begin_8 rfl ?_
  refine u_get (i := 3) (vv := .ref (Y (100 + 4 * 0))) dX6_begin_9 fX6_40 (by decide) rfl (c_l9 (show vu V 9 ((0 : Nat) : Int) 9 = ((0 : Nat) : Int) from vu_at)) ?_
  refine u_callV (i := 100 + 4 * 0) (mc := 0) (ms := 0) (As := []) dX6_begin_12 cfX2_begin imX2_begin seX2_begin lX6_77 (c_okL (v := 0) (k := 0) (by omega) (by decide)) (c_cellL (v := 0) (by omega)) rfl rfl rfl rfl (Nat.le_of_ble_eq_true rfl) (Nat.zero_add _).symm (Nat.zero_add _).symm ?_
  refine q_lbegin (v := 0) (by decide) (fun V1 bl1 bf1 => RK.n0 ?_)
  refine i_aload_n dX6_begin_15 rfl ?_
  refine i_const dX6_begin_16 ?_
  refine u_put (i := 3) (kV := 5) dX6_begin_17 fX6_78 (by decide) rfl rfl rfl (Nat.le_of_ble_eq_true rfl) rfl rfl ?_
  refine i_aload_n dX6_begin_20 rfl ?_
  refine i_const dX6_begin_21 ?_
  refine u_put (i := 3) (kV := 6) dX6_begin_22 fX6_81 (by decide) rfl rfl rfl (Nat.le_of_ble_eq_true rfl) rfl rfl ?_
  refine i_aload_n dX6_begin_25 rfl ?_
  refine i_const dX6_begin_26 ?_
  refine u_put (i := 3) (kV := 7) dX6_begin_27 fX6_84 (by decide) rfl rfl rfl (Nat.le_of_ble_eq_true rfl) rfl rfl ?_
  refine i_aload_n dX6_begin_30 rfl ?_
  refine u_get (i := 3) (vv := .ref (Y (5))) dX6_begin_31 fX6_15.o (by decide) rfl rfl ?_
  refine i_const dX6_begin_34 ?_
  refine i_callS (mc := 0) (ms := 0) (As := [_, _]) dX6_begin_35 cfJ7_fill_53178 stJ7_fill_53178 lX6_87 rfl rfl (Nat.le_of_ble_eq_true rfl) (Nat.zero_add _).symm (Nat.zero_add _).symm ?_
  refine q_fillA (i := 5) (N := 25) (by decide) (fun _ => rfl) (by decide) (fun C2 sc2 hc2 => RK.n0 ?_)
  refine i_aload_n dX6_begin_38 rfl ?_
  refine u_get (i := 3) (vv := .ref (Y (6))) dX6_begin_39 fX6_18.o (by decide) rfl rfl ?_
  refine i_const dX6_begin_42 ?_
  refine i_callS (mc := 0) (ms := 0) (As := [_, _]) dX6_begin_43 cfJ7_fill_53178 stJ7_fill_53178 lX6_87 rfl rfl (Nat.le_of_ble_eq_true rfl) (Nat.zero_add _).symm (Nat.zero_add _).symm ?_
  refine q_fillA (i := 6) (N := 6) (by decide) (fun _ => rfl) (by decide) (fun C3 sc3 hc3 => RK.n0 ?_)
  refine i_return dX6_begin_46 rfl ?_
  have e5 : ∀ j, 0 ≤ j → j < 25 → C3 5 j = 0 := fun j j0 j1 => by rw [congrFun (sc3 5 (by decide)) j, hc2 j, if_pos (by omega)]
  have e6 : ∀ j, 0 ≤ j → j < 6 → C3 6 j = 0 := fun j j0 j1 => by rw [hc3 j, if_pos (by omega)]
  have ev : ∀ i, 8 ≤ i → vu (vu (vu V1 5 0) 6 0) 7 0 i = V1 i := fun i hi => by rw [vu_ne (by omega), vu_ne (by omega), vu_ne (by omega)]
  refine hp _ _ ⟨⟨⟨?_, by decide⟩, ⟨rfl, rfl⟩, by decide⟩, ⟨bl1.cg (fun i i0 i1 => ev i (by omega)), fun i o hi => nomatch hi⟩, ⟨zOKl_z, fun o ho => nomatch ho⟩, ⟨fun p p0 p1 => e5 p (by omega) (by omega), fun p p0 p1 => ?_⟩, fun q q0 q1 => absurd q1 (by show ¬ q ≤ 0; omega), fun c c0 c1 => ⟨by rw [e6 c c0 c1]; decide, fun q q0 => ?_⟩⟩ rfl ⟨fun i hi => ?_, fun i hi => ?_⟩
  · rw [ev 9 (by decide), bf1 9 (by decide)]; exact vu_at
  · exact (show zMr 0 by decide)
  · rw [e6 c c0 c1]; exact ⟨fun z => absurd z zt_0, fun z => absurd z.1 (by show ¬ (1 ≤ q ∧ q ≤ 0); omega)⟩
  · rw [vu_ne (by omega), vu_ne (by omega), vu_ne (by omega), bf1 i (by omega), vu_ne (by omega)]
  · rw [sc3 i (by simp only [List.mem_cons, List.not_mem_nil, or_false]; omega), sc2 i (by simp only [List.mem_cons, List.not_mem_nil, or_false]; omega)]
theorem q_whole  (h9 : V 9 = ((0 : Nat) : Int)) (hp : P (.inl (some (.ref (Y (100 + 4 * 0 + 1))))) (V, C, J)) : RM G mX6_whole (c_I Y h0) [.ref (Y 3)] (d) 0 0 P (V, C, J) := by
  refine RM.of (L := [some (.ref (Y 3))]) cfX6_whole rfl (Nat.le_of_ble_eq_true rfl) ?_
  refine i_aload_n dX6_whole_0 rfl ?_
  refine u_get (i := 3) (vv := .ref (Y (100 + 4 * 0))) dX6_whole_1 fX6_32.o (by decide) rfl rfl ?_
  refine u_getL (v := 0) (vv := .ref (Y (100 + 4 * 0 + 1))) dX6_whole_4 fX6_47 (by omega) c_lf1 ?_
  refine i_areturn dX6_whole_7 rfl ?_
  exact hp
theorem q_pa_l {y : Int} (hy : 0 ≤ y ∧ y < 33554432) (h9 : V 9 = ((0 : Nat) : Int)) (hf : zOKf (C 5)) (h2 : zMr (V 202)) (hy1 : y ≠ 1) (hp : ∀ a, cAft C (V 202) y a → P (.inl (some (.int (iI a)))) (V, C, J)) : ∀ (zz : Nat) (p a : Int), zz = (25 - p).toNat → (1 ≤ p ∧ p ≤ 25) → (zMr a) → (∀ q, 0 ≤ q → (zt a q ↔ ∃ p' : Int, (1 ≤ p' ∧ p' < p) ∧ zt y p' ∧ zt (C 5 p') q)) → RW G mX6_positionsAfter (c_I Y h0) P (d) 0 0 17 [some (.ref (Y 3)), some (.int (iI y)), some (.int (iI a)), some (.int (iI p))] [] (V, C, J) := by
  intro zz
  induction zz using Nat.strongRecOn with
  | _ zz ih =>
    intro p a hzz h1 hA hI
    refine i_iload_n dX6_positionsAfter_17 rfl ?_
    refine i_bipush dX6_positionsAfter_18 (by decide) ?_
    refine i_icmp_gt (tgt := 46) dX6_positionsAfter_20 (by decide) (by omega) (by omega) (fun c20 => ?_) (fun c20 => ?_)
    · -- jumps
      refine i_iload_n dX6_positionsAfter_46 rfl ?_
      refine i_ireturn dX6_positionsAfter_47 rfl rfl ?_
      obtain rfl : p = 25 := by omega
      refine hp a ⟨hA, fun q q0 => ?_⟩
      rw [hI q q0]
      constructor
      · rintro ⟨p', p1, p2⟩
        exact Or.inr ⟨hy1, p', by omega, p2⟩
      · rintro (z | ⟨_, p', p1, p2⟩)
        · exact absurd z.1 hy1
        · exact ⟨p', by omega, p2⟩
    · -- on
      refine i_iload_n dX6_positionsAfter_23 rfl ?_
      refine i_iload_n dX6_positionsAfter_24 rfl ?_
      refine i_shr dX6_positionsAfter_25 (iI_shr (by omega) (by omega)) ?_
      refine i_const dX6_positionsAfter_26 ?_
      refine i_and dX6_positionsAfter_27 (zs_nn) (by omega) ?_
      refine RW.ti zs_1 ?_
      refine i_ifeq_b (tgt := 40) dX6_positionsAfter_28 (by decide) (fun c28 => ?_) (fun c28 => ?_)
      · -- jumps
        refine i_iinc dX6_positionsAfter_40 rfl (L' := [some _, some _, some _, some _]) (by decide) rfl ?_
        refine i_goto (tgt := 17) dX6_positionsAfter_43 (by decide) ?_
        refine ih _ ?_ (p + 1) _ rfl (by omega) hA (fun q q0 => ?_)
        · omega
        rw [hI q q0]
        constructor
        · rintro ⟨p', p1, p2⟩
          exact ⟨p', by omega, p2⟩
        · rintro ⟨p', p1, p2⟩
          by_cases z9 : p' = p
          · subst z9; exact absurd p2.1 (by assumption)
          · exact ⟨p', by omega, p2⟩
      · -- on
        refine i_iload_n dX6_positionsAfter_31 rfl ?_
        refine i_aload_n dX6_positionsAfter_32 rfl ?_
        refine u_get (i := 3) (vv := .ref (Y (5))) dX6_positionsAfter_33 fX6_15.o (by decide) rfl rfl ?_
        refine i_iload_n dX6_positionsAfter_36 rfl ?_
        have f5 := hf p (by omega) (by omega)
        refine u_iald (i := 5) (N := 25) (v := C 5 p) dX6_positionsAfter_37 (by decide) rfl (by decide) (by omega) rfl ?_
        refine i_or dX6_positionsAfter_38 (by omega) (by omega) ?_
        refine i_istore_n dX6_positionsAfter_39 (L' := [some _, some _, some _, some _]) (by decide) rfl ?_
        refine i_iinc dX6_positionsAfter_40 rfl (L' := [some _, some _, some _, some _]) (by decide) rfl ?_
        refine i_goto (tgt := 17) dX6_positionsAfter_43 (by decide) ?_
        refine ih _ ?_ (p + 1) _ rfl (by omega) (zo_rg hA f5) (fun q q0 => ?_)
        · omega
        rw [zt_zo, hI q q0]
        constructor
        · rintro (⟨p', p1, p2⟩ | p2)
          · exact ⟨p', by omega, p2⟩
          · exact ⟨p, by omega, by assumption, p2⟩
        · rintro ⟨p', p1, p2⟩
          by_cases z9 : p' = p
          · exact Or.inr (z9 ▸ p2.2)
          · exact Or.inl ⟨p', by omega, p2⟩
theorem q_positionsAfter {y : Int} (hy : 0 ≤ y ∧ y < 33554432) (h9 : V 9 = ((0 : Nat) : Int)) (hf : zOKf (C 5)) (h2 : zMr (V 202)) (hp : ∀ a, cAft C (V 202) y a → P (.inl (some (.int (iI a)))) (V, C, J)) : RM G mX6_positionsAfter (c_I Y h0) [.ref (Y 3), .int (iI y)] (d + 1) 0 0 P (V, C, J) := by
  refine RM.of (L := [some (.ref (Y 3)), some (.int (iI y)), none, none]) cfX6_positionsAfter rfl (Nat.le_of_ble_eq_true rfl) ?_
  refine i_iload_n dX6_positionsAfter_0 rfl ?_
  refine i_const dX6_positionsAfter_1 ?_
  refine i_icmp_ne (tgt := 13) dX6_positionsAfter_2 (by decide) (by omega) (by omega) (fun c2 => ?_) (fun c2 => ?_)
  · -- jumps
    refine i_const dX6_positionsAfter_13 ?_
    refine i_istore_n dX6_positionsAfter_14 (L' := [some _, some _, some _, none]) (by decide) rfl ?_
    refine i_const dX6_positionsAfter_15 ?_
    refine i_istore_n dX6_positionsAfter_16 (L' := [some _, some _, some _, some _]) (by decide) rfl ?_
    exact q_pa_l hy h9 hf h2 (by assumption) hp _ 1 0 rfl (by decide) (by decide) (fun q q0 => ⟨fun z => absurd z zt_0, fun ⟨p', p1, _⟩ => by omega⟩)
  · -- on
    refine i_aload_n dX6_positionsAfter_5 rfl ?_
    refine u_callV (i := 3) (mc := 0) (ms := 0) (As := []) dX6_positionsAfter_6 cfX6_whole imX6_whole seX6_whole lX6_160 (by decide) rfl rfl rfl rfl rfl (Nat.le_of_ble_eq_true rfl) (Nat.zero_add _).symm (Nat.zero_add _).symm ?_
    refine q_whole h9 (RK.v ?_)
    refine u_getQ (v := 0) (k := 1) (vv := .int (iI (V (199 + 16 * 0 + 3 * 1)))) dX6_positionsAfter_9 fX6_129 (by omega) (by decide) rfl ?_
    refine i_ireturn dX6_positionsAfter_12 rfl rfl ?_
    subst c2
    exact hp _ ⟨h2, fun q q0 => ⟨fun z => Or.inl ⟨rfl, z⟩, fun z => z.elim (fun z => z.2) (fun z => absurd rfl z.1)⟩⟩
theorem q_ss_l {y : Int} (h7 : 0 ≤ V 7 ∧ V 7 ≤ 60) (hy : 0 ≤ y ∧ y < 33554432) (hr : ∀ j, 0 ≤ j → j < V 7 → zMr (C 7 j)) (hp1 : ∀ k, (0 ≤ k ∧ k < V 7) → C 7 k = y → (∀ j, 0 ≤ j → j < k → C 7 j ≠ y) → P (.inl (some (.int (iI k)))) (V, C, J)) (hp2 : ∀ r, r = V 7 → V 7 < 60 → (∀ j, 0 ≤ j → j < V 7 → C 7 j ≠ y) → P (.inl (some (.int (iI r)))) (vu V 7 (V 7 + 1), cu C 7 (zu (C 7) (V 7) y), J)) (hp3 : V 7 = 60 → (∀ j, 0 ≤ j → j < V 7 → C 7 j ≠ y) → P (.inl (some (.int (iI (-1))))) (V, C, J)) : ∀ (zz : Nat) (k : Int), zz = (60 - k).toNat → (0 ≤ k ∧ k ≤ V 7) → (∀ j, 0 ≤ j → j < k → C 7 j ≠ y) → RW G mX6_stateOfSet (c_I Y h0) P (d + 1) 0 0 2 [some (.ref (Y 3)), some (.int (iI y)), some (.int (iI k))] [] (V, C, J) := by
  intro zz
  induction zz using Nat.strongRecOn with
  | _ zz ih =>
    intro k hzz h1 hI
    refine i_iload_n dX6_stateOfSet_2 rfl ?_
    refine i_bipush dX6_stateOfSet_3 (by decide) ?_
    refine i_icmp_ge (tgt := 34) dX6_stateOfSet_5 (by decide) (by omega) (by omega) (fun c5 => ?_) (fun c5 => ?_)
    · -- jumps
      refine i_aload_n dX6_stateOfSet_34 rfl ?_
      refine u_get (i := 3) (vv := .int (iI (V 7))) dX6_stateOfSet_35 fX6_84 (by decide) rfl rfl ?_
      refine i_bipush dX6_stateOfSet_38 (by decide) ?_
      refine i_callSN (mc := 0) (ms := 0) (As := [_, _]) dX6_stateOfSet_40 cfX10_isIndex stX10_isIndex lX6_109 rfl rfl (Nat.le_of_ble_eq_true rfl) (Nat.zero_add _).symm (Nat.zero_add _).symm ?_
      refine q_isIndex (by omega) (by omega) (RKN.v ?_)
      refine i_ifne_b (tgt := 48) dX6_stateOfSet_43 (by decide) (fun c43 => ?_) (fun c43 => ?_)
      · -- jumps
        refine i_aload_n dX6_stateOfSet_48 rfl ?_
        refine u_get (i := 3) (vv := .ref (Y (7))) dX6_stateOfSet_49 fX6_21.o (by decide) rfl rfl ?_
        refine i_aload_n dX6_stateOfSet_52 rfl ?_
        refine u_get (i := 3) (vv := .int (iI (V 7))) dX6_stateOfSet_53 fX6_84 (by decide) rfl rfl ?_
        refine i_iload_n dX6_stateOfSet_56 rfl ?_
        refine u_iast (i := 7) (N := 60) dX6_stateOfSet_57 (by decide) rfl (by decide) (by omega) rfl ?_
        refine i_aload_n dX6_stateOfSet_58 rfl ?_
        refine i_dup dX6_stateOfSet_59 rfl ?_
        refine u_get (i := 3) (vv := .int (iI (V 7))) dX6_stateOfSet_60 fX6_84 (by decide) rfl rfl ?_
        refine i_const dX6_stateOfSet_63 ?_
        refine i_add dX6_stateOfSet_64 ?_
        refine u_put (i := 3) (kV := 7) dX6_stateOfSet_65 fX6_84 (by decide) rfl rfl rfl (Nat.le_of_ble_eq_true rfl) rfl rfl ?_
        refine i_aload_n dX6_stateOfSet_68 rfl ?_
        refine u_get (i := 3) (vv := .int (iI (V 7 + 1))) dX6_stateOfSet_69 fX6_84 (by decide) rfl rfl ?_
        refine i_const dX6_stateOfSet_72 ?_
        refine i_sub dX6_stateOfSet_73 ?_
        refine i_ireturn dX6_stateOfSet_74 rfl rfl ?_
        exact hp2 _ (by omega) (by omega) (fun j j0 j1 => hI j j0 (by omega))
      · -- on
        refine i_const dX6_stateOfSet_46 ?_
        refine i_ireturn dX6_stateOfSet_47 rfl rfl ?_
        exact hp3 (by omega) (fun j j0 j1 => hI j j0 (by omega))
    · -- on
      refine i_iload_n dX6_stateOfSet_8 rfl ?_
      refine i_aload_n dX6_stateOfSet_9 rfl ?_
      refine u_get (i := 3) (vv := .int (iI (V 7))) dX6_stateOfSet_10 fX6_84 (by decide) rfl rfl ?_
      refine i_icmp_ge (tgt := 34) dX6_stateOfSet_13 (by decide) (by omega) (by omega) (fun c13 => ?_) (fun c13 => ?_)
      · -- jumps
        refine i_aload_n dX6_stateOfSet_34 rfl ?_
        refine u_get (i := 3) (vv := .int (iI (V 7))) dX6_stateOfSet_35 fX6_84 (by decide) rfl rfl ?_
        refine i_bipush dX6_stateOfSet_38 (by decide) ?_
        refine i_callSN (mc := 0) (ms := 0) (As := [_, _]) dX6_stateOfSet_40 cfX10_isIndex stX10_isIndex lX6_109 rfl rfl (Nat.le_of_ble_eq_true rfl) (Nat.zero_add _).symm (Nat.zero_add _).symm ?_
        refine q_isIndex (by omega) (by omega) (RKN.v ?_)
        refine i_ifne_b (tgt := 48) dX6_stateOfSet_43 (by decide) (fun c43 => ?_) (fun c43 => ?_)
        · -- jumps
          refine i_aload_n dX6_stateOfSet_48 rfl ?_
          refine u_get (i := 3) (vv := .ref (Y (7))) dX6_stateOfSet_49 fX6_21.o (by decide) rfl rfl ?_
          refine i_aload_n dX6_stateOfSet_52 rfl ?_
          refine u_get (i := 3) (vv := .int (iI (V 7))) dX6_stateOfSet_53 fX6_84 (by decide) rfl rfl ?_
          refine i_iload_n dX6_stateOfSet_56 rfl ?_
          refine u_iast (i := 7) (N := 60) dX6_stateOfSet_57 (by decide) rfl (by decide) (by omega) rfl ?_
          refine i_aload_n dX6_stateOfSet_58 rfl ?_
          refine i_dup dX6_stateOfSet_59 rfl ?_
          refine u_get (i := 3) (vv := .int (iI (V 7))) dX6_stateOfSet_60 fX6_84 (by decide) rfl rfl ?_
          refine i_const dX6_stateOfSet_63 ?_
          refine i_add dX6_stateOfSet_64 ?_
          refine u_put (i := 3) (kV := 7) dX6_stateOfSet_65 fX6_84 (by decide) rfl rfl rfl (Nat.le_of_ble_eq_true rfl) rfl rfl ?_
          refine i_aload_n dX6_stateOfSet_68 rfl ?_
          refine u_get (i := 3) (vv := .int (iI (V 7 + 1))) dX6_stateOfSet_69 fX6_84 (by decide) rfl rfl ?_
          refine i_const dX6_stateOfSet_72 ?_
          refine i_sub dX6_stateOfSet_73 ?_
          refine i_ireturn dX6_stateOfSet_74 rfl rfl ?_
          exact hp2 _ (by omega) (by omega) (fun j j0 j1 => hI j j0 (by omega))
        · -- on
          refine i_const dX6_stateOfSet_46 ?_
          refine i_ireturn dX6_stateOfSet_47 rfl rfl ?_
          exact hp3 (by omega) (fun j j0 j1 => hI j j0 (by omega))
      · -- on
        refine i_aload_n dX6_stateOfSet_16 rfl ?_
        refine u_get (i := 3) (vv := .ref (Y (7))) dX6_stateOfSet_17 fX6_21.o (by decide) rfl rfl ?_
        refine i_iload_n dX6_stateOfSet_20 rfl ?_
        have r7 := hr (k) (by omega) (by omega)
        refine u_iald (i := 7) (N := 60) (v := C 7 k) dX6_stateOfSet_21 (by decide) rfl (by decide) (by omega) rfl ?_
        refine i_iload_n dX6_stateOfSet_22 rfl ?_
        refine i_icmp_ne (tgt := 28) dX6_stateOfSet_23 (by decide) (by omega) (by omega) (fun c23 => ?_) (fun c23 => ?_)
        · -- jumps
          refine i_iinc dX6_stateOfSet_28 rfl (L' := [some _, some _, some _]) (by decide) rfl ?_
          refine i_goto (tgt := 2) dX6_stateOfSet_31 (by decide) ?_
          refine ih _ ?_ (k + 1) rfl (by omega) (fun j j0 j1 => ?_)
          · omega
          by_cases z9 : j = k
          · rw [z9]; assumption
          · exact hI j j0 (by omega)
        · -- on
          refine i_iload_n dX6_stateOfSet_26 rfl ?_
          refine i_ireturn dX6_stateOfSet_27 rfl rfl ?_
          exact hp1 k (by omega) (by assumption) hI
theorem q_stateOfSet {y : Int} (h7 : 0 ≤ V 7 ∧ V 7 ≤ 60) (hy : 0 ≤ y ∧ y < 33554432) (hr : ∀ j, 0 ≤ j → j < V 7 → zMr (C 7 j)) (hp1 : ∀ k, (0 ≤ k ∧ k < V 7) → C 7 k = y → (∀ j, 0 ≤ j → j < k → C 7 j ≠ y) → P (.inl (some (.int (iI k)))) (V, C, J)) (hp2 : ∀ r, r = V 7 → V 7 < 60 → (∀ j, 0 ≤ j → j < V 7 → C 7 j ≠ y) → P (.inl (some (.int (iI r)))) (vu V 7 (V 7 + 1), cu C 7 (zu (C 7) (V 7) y), J)) (hp3 : V 7 = 60 → (∀ j, 0 ≤ j → j < V 7 → C 7 j ≠ y) → P (.inl (some (.int (iI (-1))))) (V, C, J)) : RM G mX6_stateOfSet (c_I Y h0) [.ref (Y 3), .int (iI y)] (d + 1) 0 0 P (V, C, J) := by
  refine RM.of (L := [some (.ref (Y 3)), some (.int (iI y)), none]) cfX6_stateOfSet rfl (Nat.le_of_ble_eq_true rfl) ?_
  refine i_const dX6_stateOfSet_0 ?_
  refine i_istore_n dX6_stateOfSet_1 (L' := [some _, some _, some _]) (by decide) rfl ?_
  exact q_ss_l h7 hy hr hp1 hp2 hp3 _ 0 rfl (by omega) (fun j j0 j1 => by omega)
theorem q_fs_l1 {yt t a : Int} (hn : 0 ≤ x.1.1.1 ∧ x.1.1.1 ≤ 24) (h9 : V 9 = ((0 : Nat) : Int)) (h2 : V 202 = (zEb x.1.2.2 x.2.1).2.2.1) (hm : zMr (V 202)) (hf : zOKf (C 5)) (hfe : zFe (C 5) (zEb x.1.2.2 x.2.1).1) (hs : cSt C x.1.1.1 x.1.2.1) (ha : zMr a) (hya0 : ∀ c', (0 ≤ c' ∧ c' < 6) → za a (C 6 c') = zLd x yt c') (kk : ∀ V' C', sV [7] V V' → sC [7, 8] C C' → cDI V' C' (zLd x) (6 * (t + 1)).toNat → V' 7 ≤ 60 → (0 ≤ t ∧ t < V' 7) → (∀ N' : Nat, (N' : Int) < 6 * (t + 1) → ((N' / 6 : Nat) : Int) < ((zD (zLd x) N').1 : Int)) → RW G mX6_findStates (c_I Y h0) P (d + 2) 0 0 82 [some (.ref (Y 3)), some (.int (iI t)), none, none, none] [] (V', C', J)) (hpf : ∀ V' C', zOver x → sV [7] V V' → sC [7, 8] C C' → P (.inl (some (.int (iI 0)))) (V', C', J)) (hps : ∀ V' C' N, zDone x N → cDI V' C' (zLd x) N → sV [7] V V' → sC [7, 8] C C' → P (.inl (some (.int (iI 1)))) (V', C', J)) : ∀ (zz : Nat) (c : Int) (V' : Nat → Int) (C' : Nat → Int → Int), zz = (6 - c).toNat → (0 ≤ c ∧ c ≤ 6) → (sV [7] V V') → (sC [7, 8] C C') → (cDI V' C' (zLd x) (6 * t + c).toNat) → (V' 7 ≤ 60) → (0 ≤ t ∧ t < V' 7) → (C' 7 t = yt) → (∀ N' : Nat, (N' : Int) < 6 * t + c → ((N' / 6 : Nat) : Int) < ((zD (zLd x) N').1 : Int)) → RW G mX6_findStates (c_I Y h0) P (d + 2) 0 0 35 [some (.ref (Y 3)), some (.int (iI t)), some (.int (iI a)), some (.int (iI c)), none] [] (V', C', J) := by
  intro zz
  induction zz using Nat.strongRecOn with
  | _ zz ih =>
    intro c V' C' hzz hc0 hV hC hI h60 ht hyt hH
    have h1' : 0 ≤ t ∧ t < V' 7 := ht
    have h6e : C' 6 = C 6 := hC 6 (by decide)
    have hya : ∀ c', (0 ≤ c' ∧ c' < 6) → za a (C' 6 c') = zLd x yt c' := fun c' hc' => by rw [h6e]; exact hya0 c' hc'
    have h17 := hI.1
    have hr7 : ∀ j, 0 ≤ j → j < V' 7 → zMr (C' 7 j) := fun j j0 j1 => by rw [hI.2.1 j j0 j1]; exact zD_rg (ld := zLd x) (fun y c => zLd_rg hn) _ j j0 (by omega)
    have hyy : (0 ≤ c ∧ c < 6) → za a (C' 6 c) = zLd x ((zD (zLd x) (6 * t + c).toNat).2.1 (((6 * t + c).toNat / 6 : Nat) : Int)) (((6 * t + c).toNat % 6 : Nat) : Int) := fun hc => by
      rw [show (((6 * t + c).toNat / 6 : Nat) : Int) = t by omega, show (((6 * t + c).toNat % 6 : Nat) : Int) = c by omega, ← hI.2.1 t ht.1 ht.2, hyt]
      exact hya c hc
    have hN2 : ∀ (V2 : Nat → Int) {C2 : Nat → Int → Int}, cDI V2 C2 (zLd x) ((6 * t + c).toNat + 1) → cDI V2 C2 (zLd x) (6 * t + (c + 1)).toNat := fun V2 C2 h => by
      rw [show (6 * t + (c + 1)).toNat = (6 * t + c).toNat + 1 by omega]; exact h
    have hH2 : c < 6 → (∀ N' : Nat, (N' : Int) < 6 * t + c → ((N' / 6 : Nat) : Int) < ((zD (zLd x) N').1 : Int)) → ∀ N' : Nat, (N' : Int) < 6 * t + (c + 1) → ((N' / 6 : Nat) : Int) < ((zD (zLd x) N').1 : Int) := fun hc6 h N' hN' => by
      by_cases z9 : N' = (6 * t + c).toNat
      · rw [z9]; omega
      · exact h N' (by omega)
    refine i_iload_n dX6_findStates_35 rfl ?_
    refine i_bipush dX6_findStates_36 (by decide) ?_
    refine i_icmp_ge (tgt := 82) dX6_findStates_38 (by decide) (by omega) (by omega) (fun c38 => ?_) (fun c38 => ?_)
    · -- jumps
      refine RW.wk (L' := [some _, some _, none, none, none]) (p_subL.at (by repeat (first | exact subL_nil | refine subL_s ?_ | refine subL_n ?_))) ?_
      obtain rfl : c = 6 := by omega
      exact kk _ _ hV hC (by rw [show 6 * (t + 1) = 6 * t + 6 by omega]; exact hI) h60 ht (by rw [show 6 * (t + 1) = 6 * t + 6 by omega]; exact hH)
    · -- on
      have h1 : 0 ≤ c ∧ c < 6 := by omega
      have hyy := hyy h1
      have c6 := (hs.2 c h1.1 h1.2).1
      rw [← h6e] at c6
      refine i_aload_n dX6_findStates_41 rfl ?_
      refine i_iload_n dX6_findStates_42 rfl ?_
      refine i_aload_n dX6_findStates_43 rfl ?_
      refine u_get (i := 3) (vv := .ref (Y (6))) dX6_findStates_44 fX6_18.o (by decide) rfl rfl ?_
      refine i_iload_n dX6_findStates_47 rfl ?_
      refine u_iald (i := 6) (N := 6) (v := C' 6 c) dX6_findStates_48 (by decide) rfl (by decide) (by omega) rfl ?_
      refine i_and dX6_findStates_49 (by omega) (by omega) ?_
      refine u_callV (i := 3) (mc := 0) (ms := 0) (As := [_]) dX6_findStates_50 cfX6_stateOfSet imX6_stateOfSet seX6_stateOfSet lX6_154 (by decide) rfl rfl rfl rfl rfl (Nat.le_of_ble_eq_true rfl) (Nat.zero_add _).symm (Nat.zero_add _).symm ?_
      refine q_stateOfSet (V := V') (C := C') (y := za a (C' 6 c)) (by omega) (by rw [hya c h1]; exact zLd_rg hn) hr7 (fun k k0 k1 k2 => RK.v ?_) (fun r r0 r1 r2 => RK.v ?_) (fun r0 r2 => RK.v ?_)
      · -- case
        refine i_istore dX6_findStates_53 (L' := [some _, some _, some _, some _, some _]) (by decide) rfl ?_
        refine i_iload dX6_findStates_55 rfl ?_
        refine i_const dX6_findStates_57 ?_
        refine i_icmp_ne (tgt := 63) dX6_findStates_58 (by decide) (by omega) (by omega) (fun c58 => ?_) (fun c58 => ?_)
        · -- jumps
          refine i_aload_n dX6_findStates_63 rfl ?_
          refine u_get (i := 3) (vv := .ref (Y (8))) dX6_findStates_64 fX6_24.o (by decide) rfl rfl ?_
          refine i_iload_n dX6_findStates_67 rfl ?_
          refine i_bipush dX6_findStates_68 (by decide) ?_
          refine i_mul dX6_findStates_70 ?_
          refine i_iload_n dX6_findStates_71 rfl ?_
          refine i_add dX6_findStates_72 ?_
          refine i_iload dX6_findStates_73 rfl ?_
          refine u_iast (i := 8) (N := 360) dX6_findStates_75 (by decide) rfl (by decide) (by omega) rfl ?_
          refine i_iinc dX6_findStates_76 rfl (L' := [some _, some _, some _, some _, some _]) (by decide) rfl ?_
          refine i_goto (tgt := 35) dX6_findStates_79 (by decide) ?_
          refine RW.wk (L' := [some _, some _, some _, some _, none]) (p_subL.at (by repeat (first | exact subL_nil | refine subL_s ?_ | refine subL_n ?_))) ?_
          refine ih _ ?_ (c + 1) V' _ rfl (by omega) hV (hC.cu (by decide)) (hN2 _ (hI.old hyy k0 k1 k2 (by omega))) h60 ht hyt (hH2 (by omega) hH)
          · omega
        · -- on
          refine i_const dX6_findStates_61 ?_
          refine i_ireturn dX6_findStates_62 rfl rfl ?_
          exfalso; omega
      · -- case
        refine i_istore dX6_findStates_53 (L' := [some _, some _, some _, some _, some _]) (by decide) rfl ?_
        refine i_iload dX6_findStates_55 rfl ?_
        refine i_const dX6_findStates_57 ?_
        refine i_icmp_ne (tgt := 63) dX6_findStates_58 (by decide) (by omega) (by omega) (fun c58 => ?_) (fun c58 => ?_)
        · -- jumps
          refine i_aload_n dX6_findStates_63 rfl ?_
          refine u_get (i := 3) (vv := .ref (Y (8))) dX6_findStates_64 fX6_24.o (by decide) rfl rfl ?_
          refine i_iload_n dX6_findStates_67 rfl ?_
          refine i_bipush dX6_findStates_68 (by decide) ?_
          refine i_mul dX6_findStates_70 ?_
          refine i_iload_n dX6_findStates_71 rfl ?_
          refine i_add dX6_findStates_72 ?_
          refine i_iload dX6_findStates_73 rfl ?_
          refine u_iast (i := 8) (N := 360) dX6_findStates_75 (by decide) rfl (by decide) (by omega) rfl ?_
          refine i_iinc dX6_findStates_76 rfl (L' := [some _, some _, some _, some _, some _]) (by decide) rfl ?_
          refine i_goto (tgt := 35) dX6_findStates_79 (by decide) ?_
          refine RW.wk (L' := [some _, some _, some _, some _, none]) (p_subL.at (by repeat (first | exact subL_nil | refine subL_s ?_ | refine subL_n ?_))) ?_
          refine ih _ ?_ (c + 1) _ _ rfl (by omega) (hV.vu (by decide)) ((hC.cu (by decide)).cu (by decide)) (hN2 _ (hI.new hyy r2 (by omega) r0)) (by show V' 7 + 1 ≤ 60; omega) (by show 0 ≤ t ∧ t < V' 7 + 1; omega) ?_ (hH2 (by omega) hH)
          · omega
          · show zu (C' 7) (V' 7) _ t = _
            rw [zu_ne (by omega)]; exact hyt
        · -- on
          refine i_const dX6_findStates_61 ?_
          refine i_ireturn dX6_findStates_62 rfl rfl ?_
          exfalso; omega
      · -- case
        refine i_istore dX6_findStates_53 (L' := [some _, some _, some _, some _, some _]) (by decide) rfl ?_
        refine i_iload dX6_findStates_55 rfl ?_
        refine i_const dX6_findStates_57 ?_
        refine i_icmp_ne (tgt := 63) dX6_findStates_58 (by decide) (by decide) (by decide) (fun c58 => by omega) (fun c58 => ?_)
        refine i_const dX6_findStates_61 ?_
        refine i_ireturn dX6_findStates_62 rfl rfl ?_
        refine hpf _ _ ⟨(6 * t + c).toNat, fun N' hN' => ?_, ?_⟩ hV hC
        · by_cases z9 : N' = (6 * t + c).toNat
          · rw [z9]; omega
          · have := hH N' (by omega); omega
        · rw [hI.full hyy r2]; omega
theorem q_fs_l2  (hn : 0 ≤ x.1.1.1 ∧ x.1.1.1 ≤ 24) (h9 : V 9 = ((0 : Nat) : Int)) (h2 : V 202 = (zEb x.1.2.2 x.2.1).2.2.1) (hm : zMr (V 202)) (hf : zOKf (C 5)) (hfe : zFe (C 5) (zEb x.1.2.2 x.2.1).1) (hs : cSt C x.1.1.1 x.1.2.1) (hpf : ∀ V' C', zOver x → sV [7] V V' → sC [7, 8] C C' → P (.inl (some (.int (iI 0)))) (V', C', J)) (hps : ∀ V' C' N, zDone x N → cDI V' C' (zLd x) N → sV [7] V V' → sC [7, 8] C C' → P (.inl (some (.int (iI 1)))) (V', C', J)) : ∀ (zz : Nat) (t : Int) (V' : Nat → Int) (C' : Nat → Int → Int), zz = (60 - t).toNat → (0 ≤ t ∧ t ≤ V' 7) → (sV [7] V V') → (sC [7, 8] C C') → (cDI V' C' (zLd x) (6 * t).toNat) → (V' 7 ≤ 60) → (∀ N' : Nat, (N' : Int) < 6 * t → ((N' / 6 : Nat) : Int) < ((zD (zLd x) N').1 : Int)) → RW G mX6_findStates (c_I Y h0) P (d + 2) 0 0 8 [some (.ref (Y 3)), some (.int (iI t)), none, none, none] [] (V', C', J) := by
  intro zz
  induction zz using Nat.strongRecOn with
  | _ zz ih =>
    intro t V' C' hzz h1 hV hC hI h60 hH
    have h17 := hI.1
    have h5e : C' 5 = C 5 := hC 5 (by decide)
    have h2e : V' 202 = V 202 := hV 202 (by decide)
    refine i_iload_n dX6_findStates_8 rfl ?_
    refine i_bipush dX6_findStates_9 (by decide) ?_
    refine i_icmp_ge (tgt := 88) dX6_findStates_11 (by decide) (by omega) (by omega) (fun c11 => ?_) (fun c11 => ?_)
    · -- jumps
      refine i_const dX6_findStates_88 ?_
      refine i_ireturn dX6_findStates_89 rfl rfl ?_
      obtain rfl : t = V' 7 := by omega
      refine hps _ _ _ ⟨?_, fun N' hN' => ?_, ?_⟩ hI hV hC
      · omega
      · have := hH N' (by omega); omega
      · omega
    · -- on
      refine i_iload_n dX6_findStates_14 rfl ?_
      refine i_aload_n dX6_findStates_15 rfl ?_
      refine u_get (i := 3) (vv := .int (iI (V' 7))) dX6_findStates_16 fX6_84 (by decide) rfl rfl ?_
      refine i_icmp_ge (tgt := 88) dX6_findStates_19 (by decide) (by omega) (by omega) (fun c19 => ?_) (fun c19 => ?_)
      · -- jumps
        refine i_const dX6_findStates_88 ?_
        refine i_ireturn dX6_findStates_89 rfl rfl ?_
        obtain rfl : t = V' 7 := by omega
        refine hps _ _ _ ⟨?_, fun N' hN' => ?_, ?_⟩ hI hV hC
        · omega
        · have := hH N' (by omega); omega
        · omega
      · -- on
        refine i_aload_n dX6_findStates_22 rfl ?_
        refine i_aload_n dX6_findStates_23 rfl ?_
        refine u_get (i := 3) (vv := .ref (Y (7))) dX6_findStates_24 fX6_21.o (by decide) rfl rfl ?_
        refine i_iload_n dX6_findStates_27 rfl ?_
        refine u_iald (i := 7) (N := 60) (v := C' 7 t) dX6_findStates_28 (by decide) rfl (by decide) (by omega) rfl ?_
        refine u_callV (i := 3) (mc := 0) (ms := 0) (As := [_]) dX6_findStates_29 cfX6_positionsAfter imX6_positionsAfter seX6_positionsAfter lX6_157 (by decide) rfl rfl rfl rfl rfl (Nat.le_of_ble_eq_true rfl) (Nat.zero_add _).symm (Nat.zero_add _).symm ?_
        have r7 := zD_rg (ld := zLd x) (fun y c => zLd_rg hn) (6 * t).toNat t (by omega) (by omega)
        rw [← hI.2.1 t (by omega) (by omega)] at r7
        have hsb := zD_sub hn (6 * t).toNat t (by omega) (by omega)
        rw [← hI.2.1 t (by omega) (by omega)] at hsb
        refine q_positionsAfter (V := V') (C := C') r7 ((hV 9 (by decide)).trans h9) (by rw [h5e]; exact hf) (by rw [h2e]; exact hm) (fun a hA => RK.v ?_)
        refine i_istore_n dX6_findStates_32 (L' := [some _, some _, some _, none, none]) (by decide) rfl ?_
        refine i_const dX6_findStates_33 ?_
        refine i_istore_n dX6_findStates_34 (L' := [some _, some _, some _, some _, none]) (by decide) rfl ?_
        rw [h2e, h2] at hA
        have hs' : cSt C' x.1.1.1 x.1.2.1 := hs.cg (hC 4 (by decide)) (hC 6 (by decide))
        refine q_fs_l1 (V := V') (C := C') (yt := C' 7 t) hn ((hV 9 (by decide)).trans h9) (h2e.trans h2) (by rw [h2e]; exact hm) (by rw [h5e]; exact hf) (by rw [h5e]; exact hfe) hs' hA.1 (fun c' hc' => hA.lead hn (by rw [h5e]; exact hfe) hs' r7.1 hsb hc') (fun V2 C2 sv2 sc2 hI2 h602 ht2 hH2 => ?_) (fun V2 C2 hO sv2 sc2 => hpf _ _ hO (hV.tr sv2 (fun _ z => z)) (hC.tr sc2 (fun _ z => z))) (fun V2 C2 N hd hI2 sv2 sc2 => hps _ _ N hd hI2 (hV.tr sv2 (fun _ z => z)) (hC.tr sc2 (fun _ z => z))) _ 0 V' C' rfl (by decide) sV.rfl sC.rfl (by rw [show 6 * t + 0 = 6 * t by omega]; exact hI) h60 (by omega) rfl (by rw [show 6 * t + 0 = 6 * t by omega]; exact hH)
        refine i_iinc dX6_findStates_82 rfl (L' := [some _, some _, none, none, none]) (by decide) rfl ?_
        refine i_goto (tgt := 8) dX6_findStates_85 (by decide) ?_
        refine ih _ ?_ (t + 1) V2 C2 rfl (by omega) (hV.tr sv2 (fun _ z => z)) (hC.tr sc2 (fun _ z => z)) hI2 h602 hH2
        · omega
theorem q_findStates  (h7 : V 7 = 0) (hn : 0 ≤ x.1.1.1 ∧ x.1.1.1 ≤ 24) (h9 : V 9 = ((0 : Nat) : Int)) (h2 : V 202 = (zEb x.1.2.2 x.2.1).2.2.1) (hm : zMr (V 202)) (hf : zOKf (C 5)) (hfe : zFe (C 5) (zEb x.1.2.2 x.2.1).1) (hs : cSt C x.1.1.1 x.1.2.1) (hpf : ∀ V' C', zOver x → sV [7] V V' → sC [7, 8] C C' → P (.inl (some (.int (iI 0)))) (V', C', J)) (hps : ∀ V' C' N, zDone x N → cDI V' C' (zLd x) N → sV [7] V V' → sC [7, 8] C C' → P (.inl (some (.int (iI 1)))) (V', C', J)) : RM G mX6_findStates (c_I Y h0) [.ref (Y 3)] (d + 2) 0 0 P (V, C, J) := by
  refine RM.of (L := [some (.ref (Y 3)), none, none, none, none]) cfX6_findStates rfl (Nat.le_of_ble_eq_true rfl) ?_
  refine i_aload_n dX6_findStates_0 rfl ?_
  refine i_const dX6_findStates_1 ?_
  refine u_callV (i := 3) (mc := 0) (ms := 0) (As := [_]) dX6_findStates_2 cfX6_stateOfSet imX6_stateOfSet seX6_stateOfSet lX6_154 (by decide) rfl rfl rfl rfl rfl (Nat.le_of_ble_eq_true rfl) (Nat.zero_add _).symm (Nat.zero_add _).symm ?_
  refine q_stateOfSet (y := 1) (by omega) (by decide) (fun j j0 j1 => by omega) (fun k k0 k1 k2 => by omega) (fun r r0 r1 r2 => RK.v ?_) (fun r0 r1 => by omega)
  refine i_pop dX6_findStates_5 rfl ?_
  refine i_const dX6_findStates_6 ?_
  refine i_istore_n dX6_findStates_7 (L' := [some _, some _, none, none, none]) (by decide) rfl ?_
  exact q_fs_l2 hn h9 h2 hm hf hfe hs hpf hps _ 0 _ _ rfl (by show 0 ≤ 0 ∧ 0 ≤ V 7 + 1; omega) (sV.rfl.vu (by decide)) (sC.rfl.cu (by decide)) (cDI.z (by show V 7 + 1 = 1; omega) (by show zu (C 7) (V 7) 1 0 = 1; rw [h7, zu_at])) (by show V 7 + 1 ≤ 60; omega) (fun N' hN' => by omega)
theorem q_read_l  (h4 : 0 ≤ V 4 ∧ V 4 ≤ 200) (hB : ∀ j, 0 ≤ j → j < V 4 → 0 ≤ C 2 j ∧ C 2 j < 256) (hpE : ∀ V' C' kd, zCE (C 2) (V 4) kd (V' 8) → (1 ≤ kd ∧ kd ≤ 4) → rdG V V' C C' → P (.inl (some (.int (iI kd)))) (V', C', J)) (hpS : ∀ V' C' x N, zRn (C 2) (V 4) 0 zX0 = .inr x → zDone x N → cGot V' C' x N → rdG V V' C C' → P (.inl (some (.int (iI 0)))) (V', C', J)) : ∀ (zz : Nat) (i : Int) (x : zSt) (V' : Nat → Int) (C' : Nat → Int → Int), zz = (V 4 - i).toNat → (0 ≤ i ∧ i ≤ V 4) → (cRd V' C' x) → (zRn (C 2) (V 4) 0 zX0 = zRn (C 2) (V 4) i x) → (rdG V V' C C') → (V' 7 = 0) → RW G mX6_read (c_I Y h0) P (d + 5) 0 0 6 [some (.ref (Y 3)), some (.ref (Y 1)), some (.int (iI i)), none] [] (V', C', J) := by
  intro zz
  induction zz using Nat.strongRecOn with
  | _ zz ih =>
    intro i x V' C' hzz h1 hR hZ hG h70
    have e4 : V' 4 = V 4 := hG.1 4 (by decide)
    have e2 : C' 2 = C 2 := hG.2 2 (by decide)
    refine i_iload_n dX6_read_6 rfl ?_
    refine i_aload_n dX6_read_7 rfl ?_
    refine u_callV (i := 1) (mc := 0) (ms := 0) (As := []) dX6_read_8 cfX1_size imX1_size seX1_size lX6_54 (by decide) rfl rfl rfl rfl rfl (Nat.le_of_ble_eq_true rfl) (Nat.zero_add _).symm (Nat.zero_add _).symm ?_
    refine q_size1 (RK.v ?_)
    refine i_icmp_ge (tgt := 41) dX6_read_11 (by decide) (by omega) (by omega) (fun c11 => ?_) (fun c11 => ?_)
    · -- jumps
      refine i_aload_n dX6_read_41 rfl ?_
      refine i_aload_n dX6_read_42 rfl ?_
      refine u_callV (i := 1) (mc := 0) (ms := 0) (As := []) dX6_read_43 cfX1_size imX1_size seX1_size lX6_54 (by decide) rfl rfl rfl rfl rfl (Nat.le_of_ble_eq_true rfl) (Nat.zero_add _).symm (Nat.zero_add _).symm ?_
      refine q_size1 (RK.v ?_)
      refine u_put (i := 3) (kV := 8) dX6_read_46 fX6_43 (by decide) rfl rfl rfl (Nat.le_of_ble_eq_true rfl) rfl rfl ?_
      refine i_aload_n dX6_read_49 rfl ?_
      obtain ⟨⟨a1, ⟨a2, a3⟩, a4⟩, ⟨b1, b2⟩, ⟨c1, c2⟩, ⟨d1, d2⟩, e0⟩ := id hR
      have hf5 := d1.ok d2
      obtain ⟨v, hv⟩ : ∃ v, v = x.2.2.length := ⟨_, rfl⟩
      rw [← hv] at a1 b1
      have h9 : V' 9 = (v : Int) := a1.1
      refine u_get (i := 3) (vv := .ref (Y (100 + 4 * v))) dX6_read_50 fX6_40 (by decide) rfl (c_l9 (show vu V' 8 (V' 4) 9 = _ from h9)) ?_
      cases v with
      | succ u =>
        refine u_getL (v := u + 1) (vv := .ref (Y (100 + 4 * u))) dX6_read_53 fX6_67 (by omega) (c_lf0 (by omega) rfl) ?_
        refine i_ifnull dX6_read_56 ?_
        refine i_const dX6_read_59 ?_
        refine i_ireturn dX6_read_60 rfl rfl ?_
        obtain ⟨o, r, hx⟩ : ∃ o r, x.2.2 = o :: r := List.exists_cons_of_length_eq_add_one hv.symm
        refine hpE _ _ 1 (Or.inl (hZ.trans ((zRn_z (by omega) hx).trans ?_))) (by decide) (hG.tr ⟨fun i' hi => vu_ne (by omega), fun i' hi => rfl⟩)
        rw [show i = V' 4 by omega, vu_at]
      | zero =>
        refine u_getL (v := 0) (vv := .null) dX6_read_53 fX6_67 (by decide) c_lf0z ?_
        refine i_ifnullN (tgt := 61) dX6_read_56 (by decide) ?_
        refine i_aload_n dX6_read_61 rfl ?_
        refine u_callV (i := 3) (mc := 0) (ms := 0) (As := []) dX6_read_62 cfX6_endBranch imX6_endBranch seX6_endBranch lX6_70 (by decide) rfl rfl rfl rfl rfl (Nat.le_of_ble_eq_true rfl) (Nat.zero_add _).symm (Nat.zero_add _).symm ?_
        refine q_endBranch (V := vu V' 8 (V' 4)) (C := C') (v := 0) (l := x.2.1) h9 (by decide) (b1.cg (fun i' i0 i1 => vu_ne (by omega))) c1 hf5 (fun V9 C9 z1 z3 z5 z6 => RK.n0 ?_)
        have q1 := d1.eb (l := x.2.1)
        have q2 := c1.eb d2
        rw [q1.1] at z1
        have zb1 := z1.1
        have hfe : zFe (C9 5) (zEb x.1.2.2 x.2.1).1 := by rw [z3]; exact q1.2
        have hf9 : zOKf (C9 5) := hfe.ok q2.1
        refine i_aload_n dX6_read_65 rfl ?_
        refine u_callV (i := 3) (mc := 0) (ms := 0) (As := []) dX6_read_66 cfX6_findStates imX6_findStates seX6_findStates lX6_73 (by decide) rfl rfl rfl rfl rfl (Nat.le_of_ble_eq_true rfl) (Nat.zero_add _).symm (Nat.zero_add _).symm ?_
        refine q_findStates (V := V9) (C := C9) (x := x) ((z5 7 (by omega)).trans h70) a4 ((z5 9 (by omega)).trans h9) zb1.2.1 (zb1.2.1 ▸ q2.2.1) hf9 hfe (e0.cg (z6 4 (by decide)) (z6 6 (by decide))) (fun V10 C10 hO sv sc => RK.v ?_) (fun V10 C10 N hd hI sv sc => RK.v ?_)
        · -- case
          refine i_if_eq (tgt := 76) dX6_read_69 (by decide) (by decide) (fun c69 => ?_) (fun c69 => by omega)
          refine i_const dX6_read_76 ?_
          refine i_ireturn dX6_read_77 rfl rfl ?_
          have hZe := hZ.trans (zRn_e (show i = V 4 by omega) (List.eq_nil_of_length_eq_zero hv.symm))
          have e9 : ∀ i', i' ≠ 7 → i' < 200 → V10 i' = vu V' 8 (V' 4) i' := fun i' hi hi2 => (sv i' (by simp only [List.mem_cons, List.not_mem_nil, or_false]; exact hi)).trans (z5 i' (by omega))
          have hG2 : rdG V V10 C C10 := hG.tr ⟨fun i' hi => (e9 i' (by omega) (by omega)).trans (vu_ne (by omega)), fun i' hi => (sc i' (by simp only [List.mem_cons, List.not_mem_nil, or_false]; omega)).trans (z6 i' (by simp only [List.mem_cons, List.not_mem_nil, or_false]; omega))⟩
          exact hpE _ _ 4 (Or.inr ⟨x, hZe, hO, rfl, (e9 8 (by decide) (by decide)).trans (vu_at.trans e4)⟩) (by decide) hG2
        · -- case
          refine i_if_eq (tgt := 76) dX6_read_69 (by decide) (by decide) (fun c69 => by omega) (fun c69 => ?_)
          refine i_const dX6_read_72 ?_
          refine i_goto (tgt := 77) dX6_read_73 (by decide) ?_
          refine i_ireturn dX6_read_77 rfl rfl ?_
          have hZe := hZ.trans (zRn_e (show i = V 4 by omega) (List.eq_nil_of_length_eq_zero hv.symm))
          have e9 : ∀ i', i' ≠ 7 → i' < 200 → V10 i' = vu V' 8 (V' 4) i' := fun i' hi hi2 => (sv i' (by simp only [List.mem_cons, List.not_mem_nil, or_false]; exact hi)).trans (z5 i' (by omega))
          have hG2 : rdG V V10 C C10 := hG.tr ⟨fun i' hi => (e9 i' (by omega) (by omega)).trans (vu_ne (by omega)), fun i' hi => (sc i' (by simp only [List.mem_cons, List.not_mem_nil, or_false]; omega)).trans (z6 i' (by simp only [List.mem_cons, List.not_mem_nil, or_false]; omega))⟩
          refine hpS _ _ x N hZe hd ⟨⟨(e9 5 (by decide) (by decide)).trans a2, (e9 6 (by decide) (by decide)).trans a3, (e9 9 (by decide) (by decide)).trans h9, a4⟩, ⟨?_, ?_, ?_, q2.2⟩, e0.cg ((sc 4 (by decide)).trans (z6 4 (by decide))) ((sc 6 (by decide)).trans (z6 6 (by decide))), hI⟩ hG2
          · exact zb1.cg (fun i' i0 i1 => sv i' (by simp only [List.mem_cons, List.not_mem_nil, or_false]; omega))
          · rw [sc 5 (by decide)]; exact hfe
          · rw [sc 5 (by decide)]; exact hf9
    · -- on
      refine i_aload_n dX6_read_14 rfl ?_
      refine i_aload_n dX6_read_15 rfl ?_
      refine i_iload_n dX6_read_16 rfl ?_
      refine u_callV (i := 1) (mc := 0) (ms := 0) (As := [_]) dX6_read_17 cfX1_value imX1_value seX1_value lX6_60 (by decide) rfl rfl rfl rfl rfl (Nat.le_of_ble_eq_true rfl) (Nat.zero_add _).symm (Nat.zero_add _).symm ?_
      have hb := hB i (by omega) (by omega)
      refine q_value (V := V') (C := C') (by omega) (by omega) (fun _ => RK.v ?_) (fun q9 => absurd ⟨by omega, by omega⟩ q9)
      rw [e2]
      refine u_callV (i := 3) (mc := 0) (ms := 0) (As := [_]) dX6_read_20 cfX6_readByte imX6_readByte seX6_readByte lX6_64 (by decide) rfl rfl rfl rfl rfl (Nat.le_of_ble_eq_true rfl) (Nat.zero_add _).symm (Nat.zero_add _).symm ?_
      refine q_readByte (V := V') (C := C') (x := x) hR hb (fun k hk hk1 => RK.v ?_) (fun y V9 C9 hk hR9 hF9 => RK.v ?_)
      · -- case
        refine i_istore_n dX6_read_23 (L' := [some _, some _, some _, some _]) (by decide) rfl ?_
        refine i_iload_n dX6_read_24 rfl ?_
        refine i_if_eq (tgt := 35) dX6_read_25 (by decide) (by omega) (fun c25 => ?_) (fun c25 => ?_)
        · -- jumps
          refine i_iinc dX6_read_35 rfl (L' := [some _, some _, some _, some _]) (by decide) rfl ?_
          refine i_goto (tgt := 6) dX6_read_38 (by decide) ?_
          refine RW.wk (L' := [some _, some _, some _, none]) (p_subL.at (by repeat (first | exact subL_nil | refine subL_s ?_ | refine subL_n ?_))) ?_
          exfalso; omega
        · -- on
          refine i_aload_n dX6_read_28 rfl ?_
          refine i_iload_n dX6_read_29 rfl ?_
          refine u_put (i := 3) (kV := 8) dX6_read_30 fX6_43 (by decide) rfl rfl rfl (Nat.le_of_ble_eq_true rfl) rfl rfl ?_
          refine i_iload_n dX6_read_33 rfl ?_
          refine i_ireturn dX6_read_34 rfl rfl ?_
          exact hpE _ _ k (Or.inl (hZ.trans (zRn_l h1.1 (by omega) hk))) (by omega) (hG.tr ⟨fun i' hi => vu_ne (by omega), fun i' hi => rfl⟩)
      · -- case
        refine i_istore_n dX6_read_23 (L' := [some _, some _, some _, some _]) (by decide) rfl ?_
        refine i_iload_n dX6_read_24 rfl ?_
        refine i_if_eq (tgt := 35) dX6_read_25 (by decide) (by decide) (fun c25 => ?_) (fun c25 => by omega)
        refine i_iinc dX6_read_35 rfl (L' := [some _, some _, some _, some _]) (by decide) rfl ?_
        refine i_goto (tgt := 6) dX6_read_38 (by decide) ?_
        refine RW.wk (L' := [some _, some _, some _, none]) (p_subL.at (by repeat (first | exact subL_nil | refine subL_s ?_ | refine subL_n ?_))) ?_
        refine ih _ ?_ (i + 1) y V9 C9 rfl (by omega) hR9 (hZ.trans (zRn_i h1.1 (by omega) hk)) (hG.tr hF9.g) ((hF9.1 7 (by decide)).trans h70)
        · omega
theorem q_read  (h4 : 0 ≤ V 4 ∧ V 4 ≤ 200) (hB : ∀ j, 0 ≤ j → j < V 4 → 0 ≤ C 2 j ∧ C 2 j < 256) (hpE : ∀ V' C' kd, zCE (C 2) (V 4) kd (V' 8) → (1 ≤ kd ∧ kd ≤ 4) → rdG V V' C C' → P (.inl (some (.int (iI kd)))) (V', C', J)) (hpS : ∀ V' C' x N, zRn (C 2) (V 4) 0 zX0 = .inr x → zDone x N → cGot V' C' x N → rdG V V' C C' → P (.inl (some (.int (iI 0)))) (V', C', J)) : RM G mX6_read (c_I Y h0) [.ref (Y 3), .ref (Y 1)] (d + 5) 0 0 P (V, C, J) := by
  refine RM.of (L := [some (.ref (Y 3)), some (.ref (Y 1)), none, none]) cfX6_read rfl (Nat.le_of_ble_eq_true rfl) ?_
  refine i_aload_n dX6_read_0 rfl ?_
  refine u_callV (i := 3) (mc := 0) (ms := 0) (As := []) dX6_read_1 cfX6_begin imX6_begin seX6_begin lX6_51 (by decide) rfl rfl rfl rfl rfl (Nat.le_of_ble_eq_true rfl) (Nat.zero_add _).symm (Nat.zero_add _).symm ?_
  refine q_rbegin (fun V1 C1 r1 r2 r3 => RK.n0 ?_)
  refine i_const dX6_read_4 ?_
  refine i_istore_n dX6_read_5 (L' := [some _, some _, some _, none]) (by decide) rfl ?_
  exact q_read_l h4 hB hpE hpS _ 0 zX0 V1 C1 rfl (by omega) r1 rfl r3 r2
end C80
