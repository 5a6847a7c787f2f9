/-! ===== the reference: what is reached from a node ===== -/
/-- a search from a: F marks with m what is found, T holds k of these whose edges are still to be gone; x are the labels; of those that ex names the edges are on the way -/
def zDf (N : Int) (E : Int → Int → Prop) (f16 : Int → Int) (a m : Int) (F T : Int → Int) (k x p : Int) (ex : Int → Prop) : Prop :=
  ((0 ≤ k ∧ 0 ≤ p ∧ k + p = zsum (fun y => zb (F y = m)) N.toNat) ∧ (0 ≤ a ∧ a < N ∧ F a = m)) ∧ (∀ i, 0 ≤ i → i < k → 0 ≤ T i ∧ T i < N ∧ F (T i) = m) ∧ (∀ y, 0 ≤ y → y < N → F y = m → zR E a y) ∧ (∀ y, 0 ≤ y → y < N → F y = m → (∃ i, (0 ≤ i ∧ i < k) ∧ T i = y) ∨ ((∀ z, E y z → F z = m ∨ ex y) ∧ (1 ≤ f16 y → zt x (f16 y)))) ∧ ((0 ≤ x ∧ x < 33554432) ∧ ∀ q, 0 ≤ q → zt x q → ∃ y, (0 ≤ y ∧ y < N) ∧ F y = m ∧ f16 y = q ∧ 1 ≤ q) ∧ ∀ y, 0 ≤ y → y < N → 0 ≤ F y ∧ F y ≤ m
section DFS
variable {N : Int} {E : Int → Int → Prop} {f16 : Int → Int} {a m : Int} {F T F0 T0 : Int → Int} {k x p : Int} {ex : Int → Prop}
theorem zu_m {f : Int → Int} {i m y : Int} (h : f y = m) : zu f i m y = m := by
  by_cases z : y = i
  · rw [z, zu_at]
  · rw [zu_ne z]; exact h
theorem zsum_00 : ∀ n : Nat, zsum (fun _ => 0) n = 0
  | 0 => rfl
  | n + 1 => by
    show zsum (fun _ => 0) n + 0 = 0
    rw [zsum_00 n]; rfl
theorem zDf.init (ha : 0 ≤ a ∧ a < N) (hm : 1 ≤ m) (h0 : ∀ y, 0 ≤ y → y < N → 0 ≤ F0 y ∧ F0 y < m) : zDf N E f16 a m (zu F0 a m) (zu T0 0 a) 1 0 0 (fun _ => False) := by
  have hF : ∀ y, 0 ≤ y → y < N → zu F0 a m y = m → y = a := fun y y0 y1 q => by
    by_cases z : y = a
    · exact z
    · rw [zu_ne z] at q
      have := h0 y y0 y1; omega
  refine ⟨⟨⟨by decide, by decide, ?_⟩, ha.1, ha.2, zu_at⟩, fun i i0 i1 => ?_, fun y y0 y1 q => ?_, fun y y0 y1 q => ?_, ⟨by decide, fun q q0 z => absurd z zt_0⟩, fun y y0 y1 => ?_⟩
  · have e : zsum (fun y => zb (zu F0 a m y = m)) N.toNat = zsum (fun y => zb (zu (fun _ => m - 1) a m y = m)) N.toNat := zsum_cg _ (fun j j0 j1 => by
      by_cases z : j = a
      · rw [z, zu_at, zu_at]
      · have := h0 j j0 (by omega)
        rw [zu_ne z, zu_ne z, zb_f (by omega), zb_f (by omega)])
    rw [e, zsum_up (f := fun y => zb (zu (fun _ => m - 1) a m y = m)) (g := fun _ => 0) ha.1 _ (by omega) (fun j hj => by
      show zb (zu (fun _ => m - 1) a m j = m) = 0
      rw [zu_ne hj, zb_f (by omega)]), zsum_00]
    show 1 + 0 = 0 + (zb (zu (fun _ => m - 1) a m a = m) - 0)
    rw [zu_at, zb_t rfl]; rfl
  · obtain rfl : i = 0 := by omega
    rw [zu_at]; exact ⟨ha.1, ha.2, zu_at⟩
  · rw [hF y y0 y1 q]; exact zR.rfl
  · exact Or.inl ⟨0, by omega, by rw [zu_at, hF y y0 y1 q]⟩
  · by_cases z : y = a
    · rw [z, zu_at]; omega
    · rw [zu_ne z]
      have := h0 y y0 y1; omega
theorem zDf.le (h : zDf N E f16 a m F T k x p ex) : k + p ≤ N := by
  have := @zsum_rg (fun y => zb (F y = m)) N.toNat (fun j _ _ => zb_01)
  have h1 := h.1
  omega
theorem zDf.pop (h : zDf N E f16 a m F T k x p (fun _ => False)) {k1 : Int} (hk1 : k1 = k - 1) (hk : 0 < k) {x' : Int} (hx : x' = zo x (if 1 ≤ f16 (T k1) then zp (f16 (T k1)) else 0)) (hl : f16 (T k1) ≤ 24) : zDf N E f16 a m F T k1 x' (p + 1) (fun y => y = T k1) := by
  obtain ⟨⟨h1, h2⟩, h3, h4, h5, h6, h7⟩ := h
  have ht := h3 k1 (by omega) (by omega)
  have hz : ∀ q, zt x q → zt x' q := fun q z => by rw [hx, zt_zo]; exact Or.inl z
  refine ⟨⟨⟨by omega, by omega, by omega⟩, h2⟩, fun i i0 i1 => h3 i i0 (by omega), h4, fun y y0 y1 q => ?_, ⟨?_, fun q q0 z => ?_⟩, h7⟩
  · rcases h5 y y0 y1 q with ⟨i, hi, e⟩ | ⟨k1, k2⟩
    · by_cases z : i = k1
      · rw [z] at e
        refine Or.inr ⟨fun _ _ => Or.inr e.symm, fun l => ?_⟩
        rw [hx, zt_zo, e, if_pos l]
        exact Or.inr ((zt_zp (by omega) (by omega)).mpr rfl)
      · exact Or.inl ⟨i, by omega, e⟩
    · exact Or.inr ⟨fun z e => (k1 z e).elim Or.inl (fun c => c.elim), fun l => hz _ (k2 l)⟩
  · rw [hx]
    refine zo_rg h6.1 ?_
    split
    · exact zp_rg hl
    · decide
  · rw [hx, zt_zo] at z
    rcases z with z | z
    · exact h6.2 q q0 z
    · by_cases c : 1 ≤ f16 (T k1)
      · rw [if_pos c, zt_zp (by omega) q0] at z
        exact ⟨T k1, ⟨ht.1, ht.2.1⟩, ht.2.2, z.symm, by omega⟩
      · rw [if_neg c] at z
        exact absurd z zt_0
theorem zDf.push {y0 z : Int} (h : zDf N E f16 a m F T k x p (fun y => y = y0)) (hy : (0 ≤ y0 ∧ y0 < N) ∧ F y0 = m) (hz : 0 ≤ z ∧ z < N) (he : E y0 z) (hn : F z ≠ m) : zDf N E f16 a m (zu F z m) (zu T k z) (k + 1) x p (fun y => y = y0) := by
  obtain ⟨⟨h1, h2⟩, h3, h4, h5, h6, h7⟩ := h
  have hr := h4 y0 hy.1.1 hy.1.2 hy.2
  have hy7 := h7 y0 hy.1.1 hy.1.2
  refine ⟨⟨⟨by omega, by omega, ?_⟩, h2.1, h2.2.1, zu_m h2.2.2⟩, fun i i0 i1 => ?_, fun y y0 y1 q => ?_, fun y y0 y1 q => ?_, ⟨h6.1, fun q q0 zq => ?_⟩, fun y y0 y1 => ?_⟩
  · rw [zsum_up (f := fun y => zb (zu F z m y = m)) (g := fun y => zb (F y = m)) hz.1 _ (by omega) (fun j hj => by simp only [zu_ne hj]), ← h1.2.2]
    simp only [zu_at]
    rw [zb_t trivial, zb_f hn]; omega
  · by_cases c : i = k
    · rw [c, zu_at]; exact ⟨hz.1, hz.2, zu_at⟩
    · rw [zu_ne c]
      have := h3 i i0 (by omega)
      exact ⟨this.1, this.2.1, zu_m this.2.2⟩
  · by_cases c : y = z
    · rw [c]; exact hr.tr (zR.one he)
    · rw [zu_ne c] at q
      exact h4 y y0 y1 q
  · by_cases c : y = z
    · exact Or.inl ⟨k, by omega, by rw [zu_at, c]⟩
    · rw [zu_ne c] at q
      rcases h5 y y0 y1 q with ⟨i, hi, e⟩ | ⟨k1, k2⟩
      · exact Or.inl ⟨i, by omega, by rw [zu_ne (by omega)]; exact e⟩
      · exact Or.inr ⟨fun z' e => (k1 z' e).elim (fun q => Or.inl (zu_m q)) Or.inr, k2⟩
  · obtain ⟨y, k1, k2, k3⟩ := h6.2 q q0 zq
    exact ⟨y, k1, zu_m k2, k3⟩
  · by_cases c : y = z
    · rw [c, zu_at]; omega
    · rw [zu_ne c]; exact h7 y y0 y1
theorem zDf.don {y0 : Int} (h : zDf N E f16 a m F T k x p (fun y => y = y0)) (hd : ∀ z, E y0 z → F z = m) : zDf N E f16 a m F T k x p (fun _ => False) := by
  obtain ⟨h1, h3, h4, h5, h6, h7⟩ := h
  refine ⟨h1, h3, h4, fun y y0' y1 q => ?_, h6, h7⟩
  rcases h5 y y0' y1 q with k | ⟨k1, k2⟩
  · exact Or.inl k
  · refine Or.inr ⟨fun z e => ?_, k2⟩
    rcases k1 z e with c | c
    · exact Or.inl c
    · rw [c] at e; exact Or.inl (hd z e)
/-- nothing is left: all that is reached is found -/
theorem zDf.end (h : zDf N E f16 a m F T 0 x p (fun _ => False)) (hb : zBd E N) : (∀ y, 0 ≤ y → y < N → (F y = m ↔ zR E a y)) ∧ ∀ q, 0 ≤ q → (zt x q ↔ ∃ y, (0 ≤ y ∧ y < N) ∧ zR E a y ∧ f16 y = q ∧ 1 ≤ q) := by
  obtain ⟨⟨h1, h2⟩, h3, h4, h5, h6, h7⟩ := h
  have hc : ∀ y, zR E a y → (0 ≤ y ∧ y < N) ∧ F y = m := fun y r => r (fun y => (0 ≤ y ∧ y < N) ∧ F y = m) ⟨⟨h2.1, h2.2.1⟩, h2.2.2⟩ (fun u v e s => by
    have b := hb u v e
    refine ⟨b.2, ?_⟩
    rcases h5 u s.1.1 s.1.2 s.2 with ⟨i, hi, _⟩ | ⟨k1, _⟩
    · omega
    · exact (k1 v e).elim id (fun c => c.elim))
  refine ⟨fun y y0 y1 => ⟨h4 y y0 y1, fun r => (hc y r).2⟩, fun q q0 => ⟨fun z => ?_, ?_⟩⟩
  · obtain ⟨y, k1, k2, k3⟩ := h6.2 q q0 z
    exact ⟨y, k1, h4 y k1.1 k1.2 k2, k3⟩
  · rintro ⟨y, k1, k2, rfl, k4⟩
    rcases h5 y k1.1 k1.2 (hc y k2).2 with ⟨i, hi, _⟩ | ⟨_, k5⟩
    · omega
    · exact k5 k4
/-- the edges of y0 behind e lead to what is found -/
def zEd (src f15 F : Int → Int) (m y0 M e : Int) : Prop := (e = -1 ∨ ((0 ≤ e ∧ e < M) ∧ src e = y0)) ∧ ∀ e', e < e' → 0 ≤ e' → e' < M → src e' = y0 → F (f15 e') = m
theorem zEd.init {src f15 : Int → Int} {y0 M : Int} (hM : 0 ≤ M) : zEd src f15 F m y0 M (zMx src y0 M.toNat) := by
  rcases zMx_c src y0 M.toNat with ⟨k1, k2⟩ | ⟨k1, k2, k3, k4⟩
  · exact ⟨Or.inl k1, fun e' e0 e1 e2 z => absurd z (k2 e' e1 (by omega))⟩
  · exact ⟨Or.inr ⟨by omega, k3⟩, fun e' e0 e1 e2 z => absurd z (k4 e' e0 (by omega))⟩
theorem zEd.next {src f15 : Int → Int} {y0 M e : Int} (h : zEd src f15 F m y0 M e) (he : 0 ≤ e ∧ e < M) (hF : F (f15 e) = m) : zEd src f15 F m y0 M (zMx src y0 e.toNat) ∧ -1 ≤ zMx src y0 e.toNat ∧ zMx src y0 e.toNat < e := by
  rcases zMx_c src y0 e.toNat with ⟨k1, k2⟩ | ⟨k1, k2, k3, k4⟩
  · refine ⟨⟨Or.inl k1, fun e' e0 e1 e2 z => ?_⟩, by omega, by omega⟩
    by_cases c : e' < e
    · exact absurd z (k2 e' e1 (by omega))
    · by_cases c2 : e' = e
      · rw [c2]; exact hF
      · exact h.2 e' (by omega) e1 e2 z
  · refine ⟨⟨Or.inr ⟨by omega, k3⟩, fun e' e0 e1 e2 z => ?_⟩, by omega, by omega⟩
    by_cases c : e' < e
    · exact absurd z (k4 e' e0 (by omega))
    · by_cases c2 : e' = e
      · rw [c2]; exact hF
      · exact h.2 e' (by omega) e1 e2 z
theorem zEd.zu {src f15 : Int → Int} {y0 M e z : Int} (h : zEd src f15 F m y0 M e) : zEd src f15 (zu F z m) m y0 M e := ⟨h.1, fun e' e0 e1 e2 q => zu_m (h.2 e' e0 e1 e2 q)⟩
end DFS
/-- the graph's rows, with the edges' sources -/
def mSr (N M : Int) (f13 f14 f15 : Int → Int) (E : Int → Int → Prop) (src : Int → Int) : Prop := (0 ≤ N ∧ 0 ≤ M) ∧ (∀ e, 0 ≤ e → e < M → (0 ≤ src e ∧ src e < N) ∧ (0 ≤ f15 e ∧ f15 e < N) ∧ f14 e = zMx src (src e) e.toNat) ∧ (∀ a, 0 ≤ a → a < N → f13 a = zMx src a M.toNat) ∧ ∀ x y, E x y ↔ ∃ e, (0 ≤ e ∧ e < M) ∧ src e = x ∧ f15 e = y
