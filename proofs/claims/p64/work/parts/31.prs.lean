/-! ===== the reference reads: its steps ===== -/
def gwV : List Nat := [8, 9, 20, 21, 31, 32, 33, 34, 35, 36]
def gwC : List Nat := [0, 13, 14, 15, 16, 17, 19]
section M31g
variable {bs : Int → Int} {sz s : Int} {w0 : Int → Int} {V V1 V2 : Nat → Int} {C C1 C2 : Nat → Int → Int} {E E1 E2 : Int → Int → Prop} {n lp n1 n2 lp1 : Int} {st st1 : Int → Int} {dep dep1 : Int}
theorem mPs.cg (h : mPs bs sz s w0 V C E n lp st dep) (h8 : V1 8 = 0) (h9 : V1 9 = -1) (h7 : V1 7 = sz) (h36 : V1 36 = n) (h35 : V1 35 = lp1) (h32 : V1 32 = dep1) (h20 : V1 20 = V 20) (h21 : V1 21 = V 21) (h31 : 0 ≤ V1 31 ∧ V1 31 ≤ sz) (hl : 0 ≤ lp1 ∧ lp1 ≤ V1 31) (hd : 0 ≤ dep1 ∧ dep1 ≤ 20) : mPs bs sz s w0 V1 C E n lp1 st dep1 := by
  obtain ⟨⟨a0, a1, a2, a3, a4, a5, a6⟩, b, c, d, e, f⟩ := h
  refine ⟨⟨⟨h8, h7, h36, h35, h32, h9⟩, a1, h31, a3, hl, hd, a6⟩, b, ?_, ?_, ?_, f⟩
  · rw [h20, h21]; exact c
  · rw [h20]; exact d
  · rw [h20]; exact e
theorem mPs.nn (h : mPs bs sz s w0 V C E n lp st dep) : 0 ≤ V 20 ∧ 0 ≤ V 21 := by
  obtain ⟨_, _, ⟨src, h0, _⟩, _⟩ := h
  exact h0
theorem mPs.bd (h : mPs bs sz s w0 V C E n lp st dep) : zBd E (V 20) := h.2.2.1.bd
theorem mPs.hd (h : mPs bs sz s w0 V C E n lp st dep) : (V 31 < sz ∧ zHd bs sz (V 31) = bs (V 31) ∧ 0 ≤ bs (V 31) ∧ bs (V 31) < 256) ∨ (V 31 = sz ∧ zHd bs sz (V 31) = -1) := zHd_c h.1.2.2.1 h.2.1.2
theorem mGw.rfl (h : mPs bs sz s w0 V C E n lp st dep) : mGw V C E n V C E n := ⟨by omega, fun x y _ => Iff.rfl, fun x y hx e => by have := h.bd x y e; omega, fun _ _ => Eq.refl _, sV.rfl, sC.rfl⟩
theorem mGw.tr (h : mGw V C E n V1 C1 E1 n1) (h' : mGw V1 C1 E1 n1 V2 C2 E2 n2) : mGw V C E n V2 C2 E2 n2 := by
  obtain ⟨a1, a2, a3, a4, a5, a6⟩ := h
  obtain ⟨b1, b2, b3, b4, b5, b6⟩ := h'
  refine ⟨by omega, fun x y hx => (b2 x y (by omega)).trans (a2 x y hx), fun x y hx e => ?_, fun q hq => (b4 q (by omega)).trans (a4 q hq), a5.tr b5 (fun _ z => z), a6.tr b6 (fun _ z => z)⟩
  by_cases z : x < V1 20
  · exact a3 x y hx ((b2 x y z).mp e)
  · have := b3 x y (by omega) e; omega
theorem mGw.keep (h : mGw V C E n V1 C1 E1 n1) (h20 : V1 20 ≤ V2 20) (h31 : V1 31 ≤ V2 31) (h19 : C2 19 = C1 19) (hv : sV gwV V1 V2) (hc : sC gwC C1 C2) : mGw V C E n V2 C2 E1 n1 := by
  obtain ⟨a1, a2, a3, a4, a5, a6⟩ := h
  exact ⟨by omega, a2, a3, fun q hq => by rw [h19]; exact a4 q hq, a5.tr hv (fun _ z => z), a6.tr hc (fun _ z => z)⟩
theorem mGw.edge {a b : Int} (h : mGw V C E n V1 C1 E1 n1) (ha : V 20 ≤ a) (hb : V 20 ≤ b) (h20 : V2 20 = V1 20) (h31 : V2 31 = V1 31) (h19 : C2 19 = C1 19) (hv : sV gwV V1 V2) (hc : sC gwC C1 C2) : mGw V C E n V2 C2 (zE E1 a b) n1 := by
  obtain ⟨a1, a2, a3, a4, a5, a6⟩ := h
  refine ⟨by omega, fun x y hx => ⟨fun e => ?_, fun e => Or.inl ((a2 x y hx).mpr e)⟩, fun x y hx e => ?_, fun q hq => by rw [h19]; exact a4 q hq, a5.tr hv (fun _ z => z), a6.tr hc (fun _ z => z)⟩
  · rcases e with e | ⟨rfl, _⟩
    · exact (a2 x y hx).mp e
    · omega
  · rcases e with e | ⟨_, rfl⟩
    · exact a3 x y hx e
    · exact hb
/-- the first error, as it is noted -/
def mErr (bs : Int → Int) (sz a : Int) (x : zSt) (V V' : Nat → Int) (C C' : Nat → Int → Int) : Prop := (∃ kd off, zRn bs sz a x = .inl (kd, off) ∧ (1 ≤ kd ∧ kd ≤ 3) ∧ (0 ≤ off ∧ off ≤ sz) ∧ V' 8 = kd ∧ V' 9 = off) ∧ sV gwV V V' ∧ sC gwC C C'
theorem mErr.up {a a' : Int} {x x' : zSt} (h : mErr bs sz a' x' V1 V2 C1 C2) (e : zRn bs sz a x = zRn bs sz a' x') (hv : sV gwV V V1) (hc : sC gwC C C1) : mErr bs sz a x V V2 C C2 := by
  obtain ⟨⟨kd, off, h1, h2⟩, h3, h4⟩ := h
  exact ⟨⟨kd, off, e.trans h1, h2⟩, hv.tr h3 (fun _ z => z), hc.tr h4 (fun _ z => z)⟩
theorem mErr.at {a kd : Int} {x : zSt} (e : zRn bs sz a x = .inl (kd, V1 31)) (hk : 1 ≤ kd ∧ kd ≤ 3) (h31 : 0 ≤ V1 31 ∧ V1 31 ≤ sz) (hv : sV gwV V V1) (hc : sC gwC C C1) : mErr bs sz a x V (vu (vu V1 8 kd) 9 (V1 31)) C C1 := ⟨⟨kd, V1 31, e, hk, h31, rfl, rfl⟩, (hv.vu (by decide)).vu (by decide), hc⟩
end M31g
