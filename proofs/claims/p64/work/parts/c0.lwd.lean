/-! ===== the law: what holds between its checks ===== -/
theorem wBeg.all {w : Int → Int} (h : wBeg w) : wAll w := by
  obtain ⟨⟨w1, w2⟩, w952, wg, w983, w984⟩ := h
  have i1 := zIv.got (sz := 8) (by decide) zT1_rn
  have i2 := zIv.got (sz := 10) (by decide) zT2_rn
  refine ⟨⟨fun s hs => ?_, by omega, fun k k0 k1 => absurd k1 (by omega), fun c b c0 c1 hb => Or.inr (wg _ (by omega) (by omega)), Or.inl w983⟩, fun s hs => ?_⟩
  · rcases hs with rfl | rfl
    · exact wNew.wP i1.1 i1.2.1 zT1_dn w1 i1.2.2
    · exact wNew.wP i2.1 i2.2.1 zT2_dn w2 i2.2.2
  · rcases hs with rfl | rfl
    · exact ⟨wNew.wX i1.1 i1.2.1 zT1_dn w1, wNew.wY i1.1 i1.2.1 zT1_dn w1⟩
    · exact ⟨wNew.wX i2.1 i2.2.1 zT2_dn w2, wNew.wY i2.1 i2.2.1 zT2_dn w2⟩
theorem wNew.mov {x : zSt} {N : Nat} {w w' : Int → Int} {s : Int} (h : wNew x N w s) (hN : N ≤ 360) (hc : (zD (zLd x) N).1 ≤ 60) (hv : ∀ k, 0 ≤ k → k < 476 → w' (476 * s + k) = w (476 * s + k)) : wNew x N w' s := by
  obtain ⟨h1, h2, h3, h4, h5⟩ := h
  exact ⟨fun k k0 k1 k2 => (hv k k0 (by omega)).trans (h1 k k0 k1 k2), (hv 5 (by decide) (by decide)).trans h2, fun j j0 j1 => (hv (56 + j) (by omega) (by omega)).trans (h3 j j0 j1), fun j j0 j1 => (hv (56 + j) (by omega) (by omega)).trans (h4 j j0 j1), fun i i0 i1 => (hv (116 + i) (by omega) (by omega)).trans (h5 i i0 i1)⟩
/-- the numbers of the beginning -/
def wBg : Int → Int := wMad zT1 36 (wMad zT2 36 (fun j => if 971 ≤ j ∧ j ≤ 982 then 1 else 0) 1) 0
theorem wBg_hi {j : Int} (h : 952 ≤ j) : wBg j = if 971 ≤ j ∧ j ≤ 982 then 1 else 0 := (wMad.ot (by omega)).trans (wMad.ot (by omega))
theorem wBg_ok : wBeg wBg := by
  refine ⟨⟨wMad.nw (by decide) zT1_dn.2.2, ?_⟩, (wBg_hi (by decide)).trans rfl, fun k k0 k1 => (wBg_hi (by omega)).trans (if_pos ⟨k0, k1⟩), (wBg_hi (by decide)).trans rfl, (wBg_hi (by decide)).trans rfl⟩
  exact (wMad.nw (w := fun j => if 971 ≤ j ∧ j ≤ 982 then 1 else 0) (s := 1) (by decide) zT2_dn.2.2).mov (by decide) zT2_dn.2.2 (fun k k0 k1 => wMad.ot (by omega))
theorem wBg_G : wG wBg ∧ wBg 952 = 0 := by
  have e2 : wBg 952 = 0 := (wBg_hi (by decide)).trans rfl
  exact ⟨⟨wBg_ok.all, ⟨(wBg_hi (by decide)).trans rfl, fun k k0 k1 => absurd k1 (by omega)⟩, fun k k0 k1 => (wBg_hi (by omega)).trans (if_pos ⟨k0, k1⟩), (wBg_hi (by decide)).trans rfl, by omega⟩, e2⟩
section C0a
variable {w : Int → Int} {s p c : Int}
/-- a walker more -/
theorem wG.add (h : wG w) (hs : s = 0 ∨ s = 1) (h3 : w 952 < 3) : wG (wAdd w s) ∧ wAdd w s 952 = w 952 + 1 := by
  obtain ⟨h1, ⟨h2, h9⟩, h4, h5, h6⟩ := h
  have o := h1.1.2.1
  have e2 : wAdd w s 952 = w 952 + 1 := by
    unfold wAdd
    exact zu_at
  have hi : ∀ j, 971 ≤ j → wAdd w s j = w j := fun j hj => by
    unfold wAdd
    rw [zu_ne (by omega), zu_ne (by omega), zu_ne (by omega), zu_ne (by omega)]
  refine ⟨⟨h1.add hs (by omega), ⟨(hi 984 (by decide)).trans h2, fun k k0 k1 => ?_⟩, fun k k0 k1 => (hi k k0).trans (h4 k k0 k1), (hi 983 (by decide)).trans h5, by omega⟩, e2⟩
  rw [e2] at k1
  unfold wAdd
  by_cases z : k = w 952
  · rw [z, zu_ne (by omega), zu_at]
  · rw [zu_ne (by omega), zu_ne (by omega), zu_ne (by omega), zu_ne (by omega)]
    exact h9 k k0 (by omega)
/-- a step -/
theorem wStep_v (hO : wOK w) (hp : 0 ≤ p ∧ p < w 952) : wStep w p c (953 + 3 * p + 1) = w (476 * w (953 + 3 * p + 0) + (116 + 6 * w (953 + 3 * p + 1) + c)) ∧ wStep w p c (953 + 3 * p + 2) = w (953 + 3 * p + 2) + 1 ∧ wStep w p c 984 = w 984 + 1 := by
  have o := hO.2.1
  unfold wStep
  refine ⟨?_, ?_, zu_at⟩
  · rw [zu_ne (by omega), zu_ne (by omega), zu_at]
  · rw [zu_ne (by omega), zu_at]
end C0a
/-- the law's state: the world w, m worlds remembered -/
def gLw (V : Nat → Int) (C : Nat → Int → Int) (J : c_J) (w : Int → Int) (m : Int) (H : Int → Int → Int) : Prop := cNow V C J w ∧ wG w ∧ cHs V C J m H ∧ (∀ i, 0 ≤ i → i < m → wG (H i)) ∧ V 1 = 0 ∧ V 2 = -1 ∧ V 4 = 0
section C0b
variable {V V' : Nat → Int} {C C' : Nat → Int → Int} {J J' : c_J} {w : Int → Int} {m : Int} {H : Int → Int → Int}
theorem gLw.cg (h : gLw V C J w m H) (hV : ∀ i, i = 1 ∨ i = 2 ∨ (10 ≤ i ∧ i < 12) ∨ (20 ≤ i ∧ i < 100) → V' i = V i) (h4 : V' 4 = 0) (hC : ∀ i, 31 ≤ i → i < 70 → C' i = C i) (hJ : J'.2 = J.2) : gLw V' C' J' w m H := by
  obtain ⟨h1, h2, h3, h5, h6, h7, h8⟩ := h
  exact ⟨h1.cg3 (fun i i0 i1 => hV i (by omega)) (fun i i0 i1 => hC i i0 (by omega)) hJ, h2, h3.cg (fun i hi => hV i (by omega)) (fun i i0 i1 => hC i (by omega) i1) (fun q _ _ => by rw [hJ]) (fun a p hp => by rw [hJ]; exact hp), h5, (hV 1 (by decide)).trans h6, (hV 2 (by decide)).trans h7, h4⟩
theorem gLw.typ (h : gLw V C J w m H) (hV : sV [4] V V') (h4 : V' 4 = 0) (hC : sC [2] C C') : gLw V' C' J w m H :=
  h.cg (fun i hi => hV i (by simp only [List.mem_cons, List.not_mem_nil, or_false]; omega)) h4 (fun i i0 i1 => hC i (by simp only [List.mem_cons, List.not_mem_nil, or_false]; omega)) rfl
theorem gLw.lst (h : gLw V C J w m H) (hV : sV [3] V V') (hC : sC [22] C C') (hJ : J'.2 = J.2) : gLw V' C' J' w m H :=
  h.cg (fun i hi => hV i (by simp only [List.mem_cons, List.not_mem_nil, or_false]; omega)) ((hV 4 (by decide)).trans h.2.2.2.2.2.2) (fun i i0 i1 => hC i (by simp only [List.mem_cons, List.not_mem_nil, or_false]; omega)) hJ
theorem hPush_at (hm : m < 8) : hPush m H w m = w := by
  unfold hPush
  rw [if_neg (show ¬ m = 8 by omega), if_pos rfl]
theorem hPush_lo (hm : m < 8) {i : Int} (hi : i < m) : hPush m H w i = H i := by
  unfold hPush
  rw [if_neg (show ¬ m = 8 by omega), if_neg (by omega), if_neg (by omega)]
/-- worlds remembered are good -/
theorem hPush_G (hm : m < 8) {Q : (Int → Int) → Prop} (hw : Q w) (hH : ∀ i, 0 ≤ i → i < m → Q (H i)) : ∀ i, 0 ≤ i → i < m + 1 → Q (hPush m H w i) := fun i i0 i1 => by
  by_cases z : i = m
  · rw [z, hPush_at hm]; exact hw
  · rw [hPush_lo hm (by omega)]; exact hH i i0 (by omega)
theorem cHs.lo {n : Int} {H' : Int → Int → Int} (h : cHs V C J n H) (hH : ∀ i, 0 ≤ i → i < n → H' i = H i) : cHs V C J n H' := ⟨h.1, h.2.1, fun i i0 i1 => by
  rw [hH i i0 i1]
  exact h.2.2 i i0 i1⟩
end C0b
theorem lg_self {a : Int} : lg_cmp (lI a) (lI a) = iI 0 := by
  unfold lg_cmp
  generalize lI a = x
  rw [if_neg (fun q : x < x => by rw [Int64.lt_iff_toInt_lt] at q; omega), if_pos rfl]
  rfl
