/-! ===== a pattern compiled keeps what patterns keep ===== -/
section C83a
variable {ld : Int → Int → Int}
theorem zD_0 : ∀ N : Nat, (zD ld N).2.1 0 = 1
  | 0 => rfl
  | N + 1 => by
    have ih := zD_0 N
    have hp := zD_pos (ld := ld) N
    obtain ⟨y, r, hy, ⟨a, e⟩ | ⟨a, e⟩⟩ := zD_c ld N
    · rw [e]
      show zu _ _ _ 0 = 1
      rw [zu_ne (by omega)]
      exact ih
    · rw [e]; exact ih
theorem zD_hi {S : Int → Prop} (h : ∀ y c, S (ld y c)) : ∀ (N : Nat) (j : Int), 1 ≤ j → j < ((zD ld N).1 : Int) → S ((zD ld N).2.1 j)
  | 0, j, j0, j1 => by
    have j2 : j < ((1 : Nat) : Int) := j1
    omega
  | N + 1, j, j0, j1 => by
    have ih := zD_hi h N j j0
    obtain ⟨y, r, hy, ⟨a, e⟩ | ⟨a, e⟩⟩ := zD_c ld N
    · rw [e] at j1 ⊢
      have j2 : j < (((zD ld N).1 + 1 : Nat) : Int) := j1
      show S (zu _ _ _ j)
      by_cases z : j = ((zD ld N).1 : Int)
      · rw [z, zu_at, hy]; exact h _ _
      · rw [zu_ne z]; exact ih (by omega)
    · rw [e] at j1 ⊢
      exact ih j1
/-- the states found stay where they are; so do the steps -/
theorem zD_st {N M : Nat} (h : N ≤ M) : (zD ld N).1 ≤ (zD ld M).1 ∧ (∀ j : Int, 0 ≤ j → j < ((zD ld N).1 : Int) → (zD ld M).2.1 j = (zD ld N).2.1 j) ∧ ∀ i : Int, 0 ≤ i → i < (N : Int) → (zD ld M).2.2 i = (zD ld N).2.2 i := by
  induction M with
  | zero =>
    obtain rfl : N = 0 := by omega
    exact ⟨Nat.le_refl _, fun _ _ _ => rfl, fun _ _ _ => rfl⟩
  | succ M ih =>
    by_cases z : N = M + 1
    · rw [z]; exact ⟨Nat.le_refl _, fun _ _ _ => rfl, fun _ _ _ => rfl⟩
    · obtain ⟨i1, i2, i3⟩ := ih (by omega)
      obtain ⟨y, r, hy, ⟨a, e⟩ | ⟨a, e⟩⟩ := zD_c ld M
      · rw [e]
        refine ⟨by show _ ≤ (zD ld M).1 + 1; omega, fun j j0 j1 => ?_, fun i i0 i1' => ?_⟩
        · show zu _ _ _ j = _
          rw [zu_ne (by omega)]; exact i2 j j0 j1
        · show zu _ _ _ i = _
          rw [zu_ne (by omega)]; exact i3 i i0 i1'
      · rw [e]
        refine ⟨i1, i2, fun i i0 i1' => ?_⟩
        show zu _ _ _ i = _
        rw [zu_ne (by omega)]; exact i3 i i0 i1'
/-- each step leads to its set -/
theorem zD_to : ∀ (N : Nat) (hh : ∀ N' : Nat, N' < N → N' / 6 < (zD ld N').1) (i : Nat), i < N → (0 ≤ (zD ld N).2.2 i ∧ (zD ld N).2.2 i < ((zD ld N).1 : Int)) ∧ (zD ld N).2.1 ((zD ld N).2.2 i) = ld ((zD ld N).2.1 ((i / 6 : Nat) : Int)) ((i % 6 : Nat) : Int)
  | 0, _, i, h => absurd h (Nat.not_lt_zero _)
  | N + 1, hh, i, h => by
    refine ⟨zD_nx (N + 1) i (by omega) (by omega), ?_⟩
    have hst := zD_st (ld := ld) (Nat.le_succ N)
    by_cases z : i = N
    · subst z
      have hl := hh i (Nat.lt_succ_self i)
      rw [hst.2.1 ((i / 6 : Nat) : Int) (by omega) (by omega)]
      have hx := zIx_spec (zD ld i).2.1 (ld ((zD ld i).2.1 ((i / 6 : Nat) : Int)) ((i % 6 : Nat) : Int)) (zD ld i).1
      rcases zDn_c (zD ld i) (ld ((zD ld i).2.1 ((i / 6 : Nat) : Int)) ((i % 6 : Nat) : Int)) i with ⟨a, e⟩ | ⟨a, e⟩
      · rw [show zD ld (i + 1) = _ from e]
        show zu _ _ _ (zu _ _ _ (i : Int)) = _
        rw [zu_at, zu_at]
      · rw [show zD ld (i + 1) = _ from e]
        show (zD ld i).2.1 (zu _ _ _ (i : Int)) = _
        rw [zu_at]
        exact hx.2.1 a
    · have ih := zD_to N (fun N' hN' => hh N' (by omega)) i (by omega)
      have hl := hh i (by omega)
      have hs2 := zD_st (ld := ld) (show i ≤ N by omega)
      rw [hst.2.2 i (by omega) (by omega), hst.2.1 _ ih.1.1 ih.1.2, hst.2.1 ((i / 6 : Nat) : Int) (by omega) (by omega)]
      exact ih.2
end C83a
section C83b
variable {x : zSt} {N : Nat} {w : Int → Int} {s : Int}
theorem zIv.parts (h : zIv x) (he : x.2.2 = []) : (zFI x.1.1.1 (zEb x.1.2.2 x.2.1).1 ∧ zPI x.1.1.1 (zEb x.1.2.2 x.2.1).1 (zEb x.1.2.2 x.2.1).2 ∧ zNE (zEb x.1.2.2 x.2.1).2) ∧ ∀ p, 1 ≤ p → p ≤ x.1.1.1 → zRc (zEb x.1.2.2 x.2.1).1 (zEb x.1.2.2 x.2.1).2.2.2 p := by
  obtain ⟨⟨b1, b2⟩, ⟨b3, b4⟩, b5⟩ := h.2.2.2.1.1.eb h.2.2.1 h.1.2
  refine ⟨⟨b1, b3, b4⟩, fun p p0 p1 => ?_⟩
  rcases h.2.2.2.2 p p0 p1 with z | ⟨o, ho, _⟩
  · exact b5 p z
  · rw [he] at ho; cases ho
theorem zIv.raw (h : zIv x) (he : x.2.2 = []) : wRaw (zRow x) 0 := by
  obtain ⟨⟨a1, a2, a3⟩, a4⟩ := h.parts he
  exact zRow_raw h.1 h.2.1 a2.1 a2.2.1 (fun p p0 p1 => a1.1 p)
theorem zRow_o (hn : 0 ≤ x.1.1.1 ∧ x.1.1.1 ≤ 24) : zRow x (476 * 0 + 31) = 0 := by
  unfold zRow zRg zRf
  rw [if_neg (by omega), if_neg (by omega), if_neg (by omega), if_neg (by omega), if_neg (by omega), if_neg (by omega)]
  unfold zSt0
  rw [if_neg (by omega)]
theorem wNew.ld (hI : zIv x) (he : x.2.2 = []) (hD : zDone x N) (hw : wNew x N w s) : wLead w s = zLd x := wLead_sh (fun k k0 k1 k5 => hw.1 k k0 k1 k5) (by rw [zRow_n]; exact hI.1)
theorem wNew.n (hI : zIv x) (he : x.2.2 = []) (hD : zDone x N) (hw : wNew x N w s) : w (476 * s + 0) = x.1.1.1 := (hw.1 0 (by decide) (by decide) (by decide)).trans zRow_n
theorem wNew.nx (hI : zIv x) (he : x.2.2 = []) (hD : zDone x N) (hw : wNew x N w s) {t c : Int} (h0 : 0 ≤ t) (h1 : t < w (476 * s + 5)) (c0 : 0 ≤ c) (c1 : c < 6) : (0 ≤ w (476 * s + (116 + 6 * t + c)) ∧ w (476 * s + (116 + 6 * t + c)) < w (476 * s + 5)) ∧ w (476 * s + (56 + w (476 * s + (116 + 6 * t + c)))) = zLd x (w (476 * s + (56 + t))) c := by
  obtain ⟨d1, d2, d3⟩ := hD
  have e5 := hw.2.1
  have hi := zD_to (ld := zLd x) N d2 (6 * t + c).toNat (by omega)
  have hx := hw.2.2.2.2 (6 * t + c) (by omega) (by omega)
  rw [show (((6 * t + c).toNat : Nat) : Int) = 6 * t + c by omega, show (((6 * t + c).toNat / 6 : Nat) : Int) = t by omega, show (((6 * t + c).toNat % 6 : Nat) : Int) = c by omega, ← hx, show 116 + (6 * t + c) = 116 + 6 * t + c by omega] at hi
  rw [e5]
  refine ⟨hi.1, ?_⟩
  rw [hw.2.2.1 _ hi.1.1 hi.1.2, hi.2, hw.2.2.1 t h0 (by omega)]
theorem wNew.wP (hI : zIv x) (he : x.2.2 = []) (hD : zDone x N) (hw : wNew x N w s) (hlp : 0 ≤ x.1.1.2 ∧ x.1.1.2 ≤ 200) : wP w s := by
  have hR := hI.raw he
  have hn := wNew.n hI he hD hw
  have hw' := wRaw_sh hw.1 hR
  have e5 := hw.2.1
  have d3 := hD.2.2
  have hp := zD_pos (ld := zLd x) N
  refine ⟨by rw [hn]; exact hI.1, ?_, fun k k0 k1 => ?_, by omega, hw'.2.2, fun t c t0 t1 c0 c1 => (wNew.nx hI he hD hw t0 t1 c0 c1).1⟩
  · rw [hw.1 1 (by decide) (by decide) (by decide), zRow_e]
    split
    · exact Or.inr rfl
    · exact Or.inl rfl
  · by_cases k56 : k < 56
    · by_cases z5 : k = 5
      · rw [z5, e5]; omega
      by_cases z0 : k = 0
      · rw [z0, hn]; have := hI.1; omega
      by_cases z1 : k = 1
      · rw [z1, hw.1 1 (by decide) (by decide) (by decide), zRow_e]
        split <;> decide
      by_cases z4 : k = 4
      · rw [z4, hw.1 4 (by decide) (by decide) (by decide), zRow_lp]; omega
      by_cases z31 : k = 31
      · rw [z31, hw.1 31 (by decide) (by decide) (by decide), zRow_o hI.1]; decide
      by_cases z6 : k < 31
      · exact hw'.2.1 k (by omega)
      · have := hw'.2.2 (k - 31) (by omega) (by omega)
        rw [show 31 + (k - 31) = k by omega] at this
        omega
    · by_cases z : k - 56 < ((zD (zLd x) N).1 : Int)
      · have h1 := hw.2.2.1 (k - 56) (by omega) z
        rw [show 56 + (k - 56) = k by omega] at h1
        rw [h1]
        exact zD_rg (fun y c => zLd_rg hI.1) N (k - 56) (by omega) z
      · have h1 := hw.2.2.2.1 (k - 56) (by omega) (by omega)
        rw [show 56 + (k - 56) = k by omega] at h1
        rw [h1]
        decide
theorem wNew.wX (hI : zIv x) (he : x.2.2 = []) (hD : zDone x N) (hw : wNew x N w s) : wX w s := by
  obtain ⟨⟨a1, a2, a3⟩, a4⟩ := hI.parts he
  have hn := wNew.n hI he hD hw
  have e5 := hw.2.1
  have hp := zD_pos (ld := zLd x) N
  refine ⟨?_, fun t t0 t1 => ?_, ?_, fun q q0 q1 r r0 hr => ?_⟩
  · rw [hw.2.2.1 0 (by decide) (by omega)]; exact zD_0 N
  · rw [hw.2.2.1 t (by omega) (by omega)]
    exact zD_hi (ld := zLd x) (S := fun y => y % 2 = 0) (fun y c => zt_ev (zLd_rg hI.1).1 (fun z => by have := ((zLd_t hI.1 (Int.le_refl 0)).mp z).1.1; omega)) N t t0 (by omega)
  · rw [hw.1 3 (by decide) (by decide) (by decide), zRow_l]
    exact zt_ev a2.2.1.1 (fun z => by have := a2.2.1.2 0 (Int.le_refl 0) z; omega)
  · rw [hn] at q1 ⊢
    have h24 := hI.1.2
    rw [hw.1 (6 + q) (by omega) (by omega) (by omega), zRow_fo h24 ⟨q0, q1⟩] at hr
    have := (a1.1 q).2 r r0 hr
    omega
theorem wNew.wY (hI : zIv x) (he : x.2.2 = []) (hD : zDone x N) (hw : wNew x N w s) : wY w s := by
  obtain ⟨⟨a1, a2, a3⟩, a4⟩ := hI.parts he
  have hn := wNew.n hI he hD hw
  have h24 := hI.1
  have e5 := hw.2.1
  have d2 := hD.2.1
  have d1 := hD.1
  refine ⟨fun t c t0 t1 c0 c1 => ?_, fun t t0 t1 => ?_, fun q q0 q1 => ?_, ?_⟩
  · rw [(wNew.nx hI he hD hw t0 t1 c0 c1).2, wNew.ld hI he hD hw]
  · have main : ∀ (M : Nat), M ≤ N → ∀ t : Int, 0 ≤ t → t < ((zD (zLd x) M).1 : Int) → ∃ k, wRh w s k t := by
      intro M
      induction M with
      | zero =>
        intro _ t t0 t1
        have t2 : t < ((1 : Nat) : Int) := t1
        exact ⟨0, by show t = 0; omega⟩
      | succ M ih =>
        intro hM t t0 t1
        have ih := ih (by omega)
        by_cases z : t < ((zD (zLd x) M).1 : Int)
        · exact ih t t0 z
        · have hm := zD_mono (ld := zLd x) M
          have hl := d2 M (by omega)
          have hst := zD_st (ld := zLd x) (show M ≤ N by omega)
          have hst1 := zD_st (ld := zLd x) hM
          obtain ⟨k, hk⟩ := ih ((M / 6 : Nat) : Int) (by omega) (by omega)
          refine ⟨k + 1, ((M / 6 : Nat) : Int), ((M % 6 : Nat) : Int), ⟨by omega, by rw [e5]; omega⟩, hk, by omega, ?_⟩
          have hx := hw.2.2.2.2 (M : Int) (by omega) (by omega)
          rw [show 116 + 6 * ((M / 6 : Nat) : Int) + ((M % 6 : Nat) : Int) = 116 + (M : Int) by omega, hx, hst1.2.2 (M : Int) (by omega) (by omega)]
          obtain ⟨y, r, hy, ⟨a, e⟩ | ⟨a, e⟩⟩ := zD_c (zLd x) M
          · rw [e]
            show t = zu _ _ _ (M : Int)
            rw [zu_at, a]
            omega
          · rw [e] at t1
            exact absurd t1 z
    exact main N (Nat.le_refl _) t t0 (by omega)
  · rw [hn] at q1
    have hS := a4 q q0 q1 (fun p => 1 ≤ p → p ≤ x.1.1.1 → ∃ m, wEnd w s m p) (fun r r0 hr _ _ => ⟨0, by show zt (w (476 * s + 3)) r; rw [hw.1 3 (by decide) (by decide) (by decide), zRow_l]; exact hr⟩) (fun a b b1 b2 b0 hab hb c1 c2 => by
      have hb2 := (a1.1 a).2 b b0 hab
      obtain ⟨m, hm⟩ := hb (by omega) (by omega)
      refine ⟨m + 1, b, ⟨by omega, by rw [hn]; omega⟩, ?_, hm⟩
      rw [hw.1 (6 + a) (by omega) (by omega) (by omega), zRow_fo h24.2 ⟨c1, c2⟩]
      exact hab)
    exact hS q0 q1
  · rcases a3 with z | ⟨r, r0, hr⟩
    · left
      rw [hw.1 1 (by decide) (by decide) (by decide), zRow_e, if_pos z]
    · right
      have := a2.1.2 r r0 hr
      refine ⟨r, ⟨by omega, by rw [hn]; omega⟩, ?_⟩
      rw [hw.1 2 (by decide) (by decide) (by decide), zRow_f]
      exact hr
end C83b
