/-! ===== every change keeps what the world keeps ===== -/
def wAll (w : Int → Int) : Prop := wOK w ∧ ∀ s, s = 0 ∨ s = 1 → wX w s ∧ wY w s
section C99
variable {v v' w w' : Int → Int} {t s : Int} {x : zSt} {N : Nat}
theorem wX.cgw (h : wX v t) (hO : wP v t) (hv : ∀ j, 0 ≤ j → j < 476 → v' (476 * t + j) = v (476 * t + j)) : wX v' t := by
  obtain ⟨h1, h2, h3, h4⟩ := h
  have o5 := hO.2.2.2.1
  have o0 := hO.1
  refine ⟨by rw [hv (56 + 0) (by decide) (by decide)]; exact h1, fun k k0 k1 => ?_, by rw [hv 3 (by decide) (by decide)]; exact h3, fun q q0 q1 r r0 hr => ?_⟩
  · rw [hv 5 (by decide) (by decide)] at k1
    rw [hv (56 + k) (by omega) (by omega)]
    exact h2 k k0 k1
  · rw [hv 0 (by decide) (by decide)] at q1 ⊢
    rw [hv (6 + q) (by omega) (by omega)] at hr
    exact h4 q q0 q1 r r0 hr
theorem wEnd_cg (hn : 0 ≤ v (476 * t + 0) ∧ v (476 * t + 0) ≤ 24) (hv : ∀ j, 0 ≤ j → j < 476 → v' (476 * t + j) = v (476 * t + j)) : ∀ (m : Nat) (q : Int), 1 ≤ q → q ≤ v (476 * t + 0) → wEnd v t m q → wEnd v' t m q
  | 0, q, _, _, h => by
    show zt (v' (476 * t + 3)) q
    rw [hv 3 (by decide) (by decide)]
    exact h
  | m + 1, q, q0, q1, ⟨q', a, b, c⟩ => by
    refine ⟨q', by rw [hv 0 (by decide) (by decide)]; exact a, ?_, wEnd_cg hn hv m q' a.1 a.2 c⟩
    rw [hv (6 + q) (by omega) (by omega)]
    exact b
theorem wRh_cg (hO : wP v t) (hv : ∀ j, 0 ≤ j → j < 476 → v' (476 * t + j) = v (476 * t + j)) : ∀ (m : Nat) (k : Int), wRh v t m k → wRh v' t m k
  | 0, _, h => h
  | m + 1, k, ⟨t', c, a, b, c0, d⟩ => by
    have o5 := hO.2.2.2.1
    refine ⟨t', c, by rw [hv 5 (by decide) (by decide)]; exact a, wRh_cg hO hv m t' b, c0, ?_⟩
    rw [hv (116 + 6 * t' + c) (by omega) (by omega)]
    exact d
theorem wY.cgw (h : wY v t) (hO : wP v t) (hv : ∀ j, 0 ≤ j → j < 476 → v' (476 * t + j) = v (476 * t + j)) : wY v' t := by
  obtain ⟨h1, h2, h3, h4⟩ := h
  have o5 := hO.2.2.2.1
  have o0 := hO.1
  have e5 := hv 5 (by decide) (by decide)
  have e0 := hv 0 (by decide) (by decide)
  refine ⟨fun k c k0 k1 c0 c1 => ?_, fun k k0 k1 => ?_, fun q q0 q1 => ?_, ?_⟩
  · rw [e5] at k1
    have n6 := hO.2.2.2.2.2 k c k0 k1 c0 c1
    rw [hv (116 + 6 * k + c) (by omega) (by omega), hv (56 + v (476 * t + (116 + 6 * k + c))) (by omega) (by omega), hv (56 + k) (by omega) (by omega), wLead_cg (w := v) (fun j j0 j1 _ => hv j j0 (by omega)) o0]
    exact h1 k c k0 k1 c0 c1
  · rw [e5] at k1
    obtain ⟨m, hm⟩ := h2 k k0 k1
    exact ⟨m, wRh_cg hO hv m k hm⟩
  · rw [e0] at q1
    obtain ⟨m, hm⟩ := h3 q q0 q1
    exact ⟨m, wEnd_cg o0 hv m q q0 q1 hm⟩
  · rw [hv 1 (by decide) (by decide), hv 2 (by decide) (by decide), e0]
    exact h4
/-- a change of the walkers, gates, night alone -/
theorem wAll.lo (h : wAll w) (hO : wOK w') (hv : ∀ j, j < 952 → w' j = w j) : wAll w' := ⟨hO, fun s hs => by
  have hp := h.1.1 s hs
  exact ⟨(h.2 s hs).1.cgw hp (fun j j0 j1 => hv _ (by omega)), (h.2 s hs).2.cgw hp (fun j j0 j1 => hv _ (by omega))⟩⟩
theorem wOK.pat (hO : wOK w) (hv : ∀ j, j < 952 → w' j = w j) (s : Int) (hs : s = 0 ∨ s = 1) : wP w' s := (hO.1 s hs).cgw (fun j j0 j1 => hv _ (by omega))
theorem wAll.add (h : wAll w) (hs : s = 0 ∨ s = 1) (h6 : w 952 < 6) : wAll (wAdd w s) := by
  have hO := h.1
  have o6 := hO.2.1
  have lo : ∀ j, j < 952 → wAdd w s j = w j := fun j hj => by
    unfold wAdd
    rw [zu_ne (by omega), zu_ne (by omega), zu_ne (by omega), zu_ne (by omega)]
  have hi : ∀ j, 971 ≤ j → wAdd w s j = w j := fun j hj => by
    unfold wAdd
    rw [zu_ne (by omega), zu_ne (by omega), zu_ne (by omega), zu_ne (by omega)]
  have e2 : wAdd w s 952 = w 952 + 1 := zu_at
  refine h.lo ⟨hO.pat lo, by omega, fun k k0 k1 => ?_, fun c b c0 c1 hb => ?_, ?_⟩ lo
  · rw [e2] at k1
    by_cases z : k = w 952
    · have a0 : wAdd w s (953 + 3 * k + 0) = s := by
        unfold wAdd
        rw [z, zu_ne (by omega), zu_ne (by omega), zu_ne (by omega), zu_at]
      have a1 : wAdd w s (953 + 3 * k + 1) = 0 := by
        unfold wAdd
        rw [z, zu_ne (by omega), zu_ne (by omega), zu_at]
      rw [a0, a1, lo _ (by omega)]
      have := (hO.1 s hs).2.2.2.1
      exact ⟨hs, by omega, by omega⟩
    · have e : ∀ r, 0 ≤ r → r < 3 → wAdd w s (953 + 3 * k + r) = w (953 + 3 * k + r) := fun r r0 r1 => by
        unfold wAdd
        rw [zu_ne (by omega), zu_ne (by omega), zu_ne (by omega), zu_ne (by omega)]
      have hk := hO.2.2.1 k k0 (by omega)
      rw [e 0 (by decide) (by decide), e 1 (by decide) (by decide), lo _ (by omega)]
      exact hk
  · rw [hi _ (by omega)]; exact hO.2.2.2.1 c b c0 c1 hb
  · rw [hi _ (by decide)]; exact hO.2.2.2.2
theorem wAll.drop {p : Int} (h : wAll w) (hp : 0 ≤ p ∧ p < w 952) : wAll (wDrop w p) := by
  have hO := h.1
  have o6 := hO.2.1
  have lo : ∀ j, j < 952 → wDrop w p j = w j := fun j hj => by
    unfold wDrop
    rw [if_neg (by omega), if_neg (by omega), if_neg (by omega)]
  have hi : ∀ j, 971 ≤ j → wDrop w p j = w j := fun j hj => by
    unfold wDrop
    rw [if_neg (by omega), if_neg (by omega), if_neg (by omega)]
  have e2 : wDrop w p 952 = w 952 - 1 := if_pos rfl
  refine h.lo ⟨hO.pat lo, by omega, fun k k0 k1 => ?_, fun c b c0 c1 hb => ?_, ?_⟩ lo
  · rw [e2] at k1
    obtain ⟨k', k2, e⟩ : ∃ k', (0 ≤ k' ∧ k' < w 952) ∧ ∀ r, 0 ≤ r → r < 3 → wDrop w p (953 + 3 * k + r) = w (953 + 3 * k' + r) := by
      by_cases z : k < p
      · refine ⟨k, by omega, fun r r0 r1 => ?_⟩
        unfold wDrop
        rw [if_neg (by omega), if_neg (by omega), if_neg (by omega)]
      · refine ⟨k + 1, by omega, fun r r0 r1 => ?_⟩
        unfold wDrop
        rw [if_neg (by omega), if_pos (by omega), show 953 + 3 * k + r + 3 = 953 + 3 * (k + 1) + r by omega]
    have hk := hO.2.2.1 k' k2.1 k2.2
    rw [e 0 (by decide) (by decide), e 1 (by decide) (by decide), lo _ (by omega)]
    exact hk
  · rw [hi _ (by omega)]; exact hO.2.2.2.1 c b c0 c1 hb
  · rw [hi _ (by decide)]; exact hO.2.2.2.2
theorem wAll.rest {p : Int} (h : wAll w) (hp : 0 ≤ p ∧ p < w 952) : wAll (zu (zu w (953 + 3 * p + 1) 0) (953 + 3 * p + 2) 0) := by
  have hO := h.1
  have o6 := hO.2.1
  have e : ∀ j, j ≠ 953 + 3 * p + 1 → j ≠ 953 + 3 * p + 2 → zu (zu w (953 + 3 * p + 1) 0) (953 + 3 * p + 2) 0 j = w j := fun j h1 h2 => by rw [zu_ne h2, zu_ne h1]
  have lo : ∀ j, j < 952 → zu (zu w (953 + 3 * p + 1) 0) (953 + 3 * p + 2) 0 j = w j := fun j hj => e j (by omega) (by omega)
  refine h.lo ⟨hO.pat lo, by rw [e _ (by omega) (by omega)]; exact o6, fun k k0 k1 => ?_, fun c b c0 c1 hb => ?_, ?_⟩ lo
  · rw [e _ (by omega) (by omega)] at k1
    have hk := hO.2.2.1 k k0 k1
    rw [e (953 + 3 * k + 0) (by omega) (by omega), lo (476 * w (953 + 3 * k + 0) + 5) (by omega)]
    refine ⟨hk.1, ?_⟩
    by_cases z : k = p
    · subst z
      rw [zu_ne (by omega), zu_at]
      have := (hO.1 _ hk.1).2.2.2.1
      exact ⟨by omega, by omega⟩
    · rw [e (953 + 3 * k + 1) (by omega) (by omega)]
      exact hk.2
  · rw [e _ (by omega) (by omega)]; exact hO.2.2.2.1 c b c0 c1 hb
  · rw [e _ (by omega) (by omega)]; exact hO.2.2.2.2
theorem wAll.gate {c b o : Int} (h : wAll w) (hc : 0 ≤ c ∧ c < 6) (hb : b = 0 ∨ b = 1) (ho : o = 0 ∨ o = 1) : wAll (zu w (971 + 2 * c + b) o) := by
  have hO := h.1
  have o6 := hO.2.1
  have lo : ∀ j, j < 971 → zu w (971 + 2 * c + b) o j = w j := fun j hj => zu_ne (by omega)
  refine h.lo ⟨hO.pat (fun j hj => lo j (by omega)), by rw [lo _ (by decide)]; exact o6, fun k k0 k1 => ?_, fun c' b' c0 c1 hb' => ?_, ?_⟩ (fun j hj => lo j (by omega))
  · rw [lo _ (by decide)] at k1
    have hk := hO.2.2.1 k k0 k1
    rw [lo _ (by omega), lo _ (by omega), lo _ (by omega)]
    exact hk
  · by_cases z : 971 + 2 * c' + b' = 971 + 2 * c + b
    · rw [z, zu_at]; exact ho
    · rw [zu_ne z]; exact hO.2.2.2.1 c' b' c0 c1 hb'
  · rw [zu_ne (by omega)]; exact hO.2.2.2.2
theorem wAll.night {a : Int} (h : wAll w) (ha : a = 0 ∨ a = 1) : wAll (zu w 983 a) := h.lo (h.1.zn ha) (fun j hj => zu_ne (by omega))
theorem wAll.step {p c : Int} (h : wAll w) (hp : 0 ≤ p ∧ p < w 952) (hc : 0 ≤ c ∧ c < 6) : wAll (wStep w p c) := h.lo (wStep_ok h.1 hp hc) (fun j hj => wStep_lo (by have := h.1.2.1; omega) (by omega))
theorem wAll.walk {b : Int → Int} {p : Int} (h : wAll w) (hp : 0 ≤ p ∧ p < w 952) (n : Nat) (hc : ∀ i : Int, 0 ≤ i → i < n → wCan w b i) : wAll (wWalk w b p n) := h.lo (wWalk_ok h.1 hp n hc) (fun j hj => wWalk_lo (by have := h.1.2.1; omega) n j (Or.inl (by omega)))
/-- another pattern in slot s, its walkers start anew -/
theorem wAll.res (h : wAll w) (hs : s = 0 ∨ s = 1) (hP : wP w' s) (hX : wX w' s) (hY : wY w' s) (ho : ∀ j, ¬ (476 * s + 0 ≤ j ∧ j < 476 * s + 476) → w' j = w j) : wAll (wRes w' s) := by
  have hO := h.1
  have o6 := hO.2.1
  have e2 : w' 952 = w 952 := ho _ (by omega)
  have h6' : 0 ≤ w' 952 ∧ w' 952 ≤ 6 := by omega
  have lo : ∀ j, j < 953 ∨ 971 ≤ j → wRes w' s j = w' j := fun j hj => wRes_lo h6' hj
  have hi : ∀ j, 952 ≤ j → w' j = w j := fun j hj => ho j (by omega)
  have pr : ∀ t, t = 0 ∨ t = 1 → wP w' t ∧ wX w' t ∧ wY w' t := fun t ht => by
    by_cases z : t = s
    · rw [z]; exact ⟨hP, hX, hY⟩
    · have hp := hO.1 t ht
      have ee : ∀ j, 0 ≤ j → j < 476 → w' (476 * t + j) = w (476 * t + j) := fun j j0 j1 => ho _ (by omega)
      exact ⟨hp.cgw ee, (h.2 t ht).1.cgw hp ee, (h.2 t ht).2.cgw hp ee⟩
  have el : ∀ t, t = 0 ∨ t = 1 → ∀ j, 0 ≤ j → j < 476 → wRes w' s (476 * t + j) = w' (476 * t + j) := fun t ht j j0 j1 => lo _ (Or.inl (by omega))
  refine ⟨⟨fun t ht => (pr t ht).1.cgw (el t ht), by rw [lo _ (Or.inl (by decide))]; exact h6', fun k k0 k1 => ?_, fun c b c0 c1 hb => ?_, ?_⟩, fun t ht => ⟨(pr t ht).2.1.cgw (pr t ht).1 (el t ht), (pr t ht).2.2.cgw (pr t ht).1 (el t ht)⟩⟩
  · rw [lo _ (Or.inl (by decide)), e2] at k1
    have hk := hO.2.2.1 k k0 k1
    rw [wRes_0, wRes_r h6' ⟨k0, by omega⟩ (by decide), hi _ (by omega), hi _ (by omega)]
    refine ⟨hk.1, ?_⟩
    have p5 := (pr (w (953 + 3 * k + 0)) hk.1).1.2.2.2.1
    rw [lo _ (Or.inl (by omega))]
    by_cases z : w (953 + 3 * k + 0) = s
    · rw [if_pos z]
      exact ⟨by omega, by omega⟩
    · rw [if_neg z, ho (476 * w (953 + 3 * k + 0) + 5) (by omega)]
      exact hk.2
  · rw [lo _ (Or.inr (by omega)), hi _ (by omega)]; exact hO.2.2.2.1 c b c0 c1 hb
  · rw [lo _ (Or.inr (by decide)), hi _ (by decide)]; exact hO.2.2.2.2
/-- compile -/
theorem wAll.new (h : wAll w) (hs : s = 0 ∨ s = 1) (hI : zIv x) (he : x.2.2 = []) (hlp : 0 ≤ x.1.1.2 ∧ x.1.1.2 ≤ 200) (hD : zDone x N) (hw : wNew x N w' s) (ho : ∀ j, ¬ (476 * s + 0 ≤ j ∧ j < 476 * s + 476) → w' j = w j) : wAll (wRes w' s) := h.res hs (wNew.wP hI he hD hw hlp) (wNew.wX hI he hD hw) (wNew.wY hI he hD hw) ho
/-- what a slot keeps, moved to the other slot -/
theorem wP.mv (h : wP v t) (hv : ∀ j, 0 ≤ j → j < 476 → v' (476 * s + j) = v (476 * t + j)) : wP v' s := by
  obtain ⟨q1, q2, q3, q4, q5, q6⟩ := h
  refine ⟨?_, ?_, fun k k0 k1 => ?_, ?_, fun p p0 p1 => ?_, fun t' c t0 t1 c0 c1 => ?_⟩
  · rw [hv 0 (by decide) (by decide)]; exact q1
  · rw [hv 1 (by decide) (by decide)]; exact q2
  · rw [hv k k0 (by omega)]; exact q3 k k0 k1
  · rw [hv 5 (by decide) (by decide)]; exact q4
  · rw [hv (31 + p) (by omega) (by omega)]; exact q5 p p0 p1
  · rw [hv 5 (by decide) (by decide)] at t1 ⊢
    rw [hv (116 + 6 * t' + c) (by omega) (by omega)]; exact q6 t' c t0 t1 c0 c1
theorem wX.mv (h : wX v t) (hO : wP v t) (hv : ∀ j, 0 ≤ j → j < 476 → v' (476 * s + j) = v (476 * t + j)) : wX v' s := by
  obtain ⟨h1, h2, h3, h4⟩ := h
  have o5 := hO.2.2.2.1
  have o0 := hO.1
  refine ⟨by rw [hv (56 + 0) (by decide) (by decide)]; exact h1, fun k k0 k1 => ?_, by rw [hv 3 (by decide) (by decide)]; exact h3, fun q q0 q1 r r0 hr => ?_⟩
  · rw [hv 5 (by decide) (by decide)] at k1
    rw [hv (56 + k) (by omega) (by omega)]
    exact h2 k k0 k1
  · rw [hv 0 (by decide) (by decide)] at q1 ⊢
    rw [hv (6 + q) (by omega) (by omega)] at hr
    exact h4 q q0 q1 r r0 hr
theorem wEnd_mv (hn : 0 ≤ v (476 * t + 0) ∧ v (476 * t + 0) ≤ 24) (hv : ∀ j, 0 ≤ j → j < 476 → v' (476 * s + j) = v (476 * t + j)) : ∀ (m : Nat) (q : Int), 1 ≤ q → q ≤ v (476 * t + 0) → wEnd v t m q → wEnd v' s m q
  | 0, q, _, _, h => by
    show zt (v' (476 * s + 3)) q
    rw [hv 3 (by decide) (by decide)]
    exact h
  | m + 1, q, q0, q1, ⟨q', a, b, c⟩ => by
    refine ⟨q', by rw [hv 0 (by decide) (by decide)]; exact a, ?_, wEnd_mv hn hv m q' a.1 a.2 c⟩
    rw [hv (6 + q) (by omega) (by omega)]
    exact b
theorem wRh_mv (hO : wP v t) (hv : ∀ j, 0 ≤ j → j < 476 → v' (476 * s + j) = v (476 * t + j)) : ∀ (m : Nat) (k : Int), wRh v t m k → wRh v' s m k
  | 0, _, h => h
  | m + 1, k, ⟨t', c, a, b, c0, d⟩ => by
    have o5 := hO.2.2.2.1
    refine ⟨t', c, by rw [hv 5 (by decide) (by decide)]; exact a, wRh_mv hO hv m t' b, c0, ?_⟩
    rw [hv (116 + 6 * t' + c) (by omega) (by omega)]
    exact d
theorem wLead_mv (hn : 0 ≤ v (476 * t + 0) ∧ v (476 * t + 0) ≤ 24) (hv : ∀ j, 0 ≤ j → j < 476 → v' (476 * s + j) = v (476 * t + j)) : wLead v' s = wLead v t := by
  have h1 : wLead v' s = wLead (fun j => v (476 * t + j)) 0 := wLead_sh (r := fun j => v (476 * t + j)) (fun k k0 k1 _ => by
    rw [hv k k0 (by omega)]
    show _ = v (476 * t + (476 * 0 + k))
    rw [show 476 * t + (476 * 0 + k) = 476 * t + k by omega]) (by
    show 0 ≤ v (476 * t + (476 * 0 + 0)) ∧ v (476 * t + (476 * 0 + 0)) ≤ 24
    rw [show 476 * t + (476 * 0 + 0) = 476 * t + 0 by omega]; exact hn)
  have h2 : wLead v t = wLead (fun j => v (476 * t + j)) 0 := wLead_sh (r := fun j => v (476 * t + j)) (fun k k0 k1 _ => by
    show _ = v (476 * t + (476 * 0 + k))
    rw [show 476 * t + (476 * 0 + k) = 476 * t + k by omega]) (by
    show 0 ≤ v (476 * t + (476 * 0 + 0)) ∧ v (476 * t + (476 * 0 + 0)) ≤ 24
    rw [show 476 * t + (476 * 0 + 0) = 476 * t + 0 by omega]; exact hn)
  rw [h1, h2]
theorem wY.mv (h : wY v t) (hO : wP v t) (hv : ∀ j, 0 ≤ j → j < 476 → v' (476 * s + j) = v (476 * t + j)) : wY v' s := by
  obtain ⟨h1, h2, h3, h4⟩ := h
  have o5 := hO.2.2.2.1
  have o0 := hO.1
  have e5 := hv 5 (by decide) (by decide)
  have e0 := hv 0 (by decide) (by decide)
  refine ⟨fun k c k0 k1 c0 c1 => ?_, fun k k0 k1 => ?_, fun q q0 q1 => ?_, ?_⟩
  · rw [e5] at k1
    have n6 := hO.2.2.2.2.2 k c k0 k1 c0 c1
    rw [hv (116 + 6 * k + c) (by omega) (by omega), hv (56 + v (476 * t + (116 + 6 * k + c))) (by omega) (by omega), hv (56 + k) (by omega) (by omega), wLead_mv o0 hv]
    exact h1 k c k0 k1 c0 c1
  · rw [e5] at k1
    obtain ⟨m, hm⟩ := h2 k k0 k1
    exact ⟨m, wRh_mv hO hv m k hm⟩
  · rw [e0] at q1
    obtain ⟨m, hm⟩ := h3 q q0 q1
    exact ⟨m, wEnd_mv o0 hv m q q0 q1 hm⟩
  · rw [hv 1 (by decide) (by decide), hv 2 (by decide) (by decide), e0]
    exact h4
/-- copyPattern -/
theorem wAll.copy (h : wAll w) (hs : s = 0 ∨ s = 1) : wAll (wRes (wCopy w s) (1 - s)) := by
  have hp := h.1.1 s hs
  have ee : ∀ j, 0 ≤ j → j < 476 → wCopy w s (476 * (1 - s) + j) = w (476 * s + j) := fun j j0 j1 => by
    unfold wCopy
    rw [if_pos (by omega), show 476 * (1 - s) + j - 476 * (1 - s) + 476 * s = 476 * s + j by omega]
  refine h.res (by omega) (hp.mv ee) ((h.2 s hs).1.mv hp ee) ((h.2 s hs).2.mv hp ee) (fun j hj => ?_)
  unfold wCopy
  rw [if_neg hj]
end C99
