/-! ===== the reference: positions behind positions ===== -/
/-- the graph in its rows -/
def mGf (N M n : Int) (E : Int → Int → Prop) (src inn : Int → Int) (C : Nat → Int → Int) : Prop := mSr N M (C 13) (C 14) (C 15) E src ∧ mLb N n (C 16) (C 19) ∧ ∀ q, 1 ≤ q → q ≤ n → C 19 q = inn q + 1
section FOL
variable {N M n p x s e f l t b : Int} {E : Int → Int → Prop} {src inn fo w0 w' : Int → Int} {C C1 : Nat → Int → Int} {ee : Bool}
theorem mGf.cg (h : mGf N M n E src inn C) (hC : sC [0, 17, 18] C C1) : mGf N M n E src inn C1 := by
  unfold mGf
  rw [hC 13 (by decide), hC 14 (by decide), hC 15 (by decide), hC 16 (by decide), hC 19 (by decide)]
  exact h
theorem mGf.lb (h : mGf N M n E src inn C) (hn : 0 ≤ n ∧ n ≤ 24) (y : Int) (y0 : 0 ≤ y) (y1 : y < N) : 0 ≤ C 16 y ∧ C 16 y ≤ 24 := by
  rcases h.2.1.1 y y0 y1 with k | k <;> omega
/-- the labels that are reached -/
theorem mGf.q (h : mGf N M n E src inn C) {a q : Int} : (∃ y, (0 ≤ y ∧ y < N) ∧ zR E a y ∧ C 16 y = q ∧ 1 ≤ q) ↔ (1 ≤ q ∧ q ≤ n) ∧ zR E a (inn q) := by
  constructor
  · rintro ⟨y, hy, k1, rfl, k3⟩
    rcases h.2.1.1 y hy.1 hy.2 with k | k
    · omega
    · have := h.2.2 _ k.1 k.2.1
      rw [k.2.2] at this
      rw [show inn (C 16 y) = y by omega]
      exact ⟨⟨k.1, k.2.1⟩, k1⟩
  · rintro ⟨hq, k⟩
    have k1 := h.2.1.2 q hq.1 hq.2
    have k2 := h.2.2 q hq.1 hq.2
    exact ⟨inn q, by omega, k, by rw [show inn q = C 19 q - 1 by omega]; exact k1.2.2, hq.1⟩
theorem zFr.feq (h : zFr E inn 0 N 0 n b t ee f l fo) (hx : 0 ≤ x) (hq : ∀ q, 0 ≤ q → (zt x q ↔ (1 ≤ q ∧ q ≤ n) ∧ zR E b (inn q))) : x = f := by
  obtain ⟨_, ⟨_, h5, _⟩, h8, _⟩ := h
  refine zt_ext hx h8.1 (fun q q0 => ?_)
  rw [hq q q0]
  constructor
  · rintro ⟨k, r⟩
    exact (h5 q (by omega) k.2).mp r
  · intro z
    have := h8.2 q q0 z
    exact ⟨by omega, (h5 q (by omega) this.2).mpr z⟩
theorem zFr.foeq (h : zFr E inn 0 N 0 n b t ee f l fo) (hp : 1 ≤ p ∧ p ≤ n) (hx : 0 ≤ x) (hq : ∀ q, 0 ≤ q → (zt x q ↔ (1 ≤ q ∧ q ≤ n) ∧ zR E (inn p + 1) (inn q))) : x = fo p := by
  obtain ⟨_, ⟨_, _, _, h7⟩, _, _, h10⟩ := h
  have h8 := h10 p (by omega) hp.2
  refine zt_ext hx h8.1 (fun q q0 => ?_)
  rw [hq q q0]
  constructor
  · rintro ⟨k, r⟩
    exact (h7 p q (by omega) hp.2 (by omega) k.2).mp r
  · intro z
    have := h8.2 q q0 z
    exact ⟨by omega, (h7 p q (by omega) hp.2 (by omega) this.2).mpr z⟩
theorem zFr.leq (h : zFr E inn 0 N 0 n b t ee f l fo) (hp : 1 ≤ p ∧ p ≤ n) : zt l p ↔ zR E (inn p + 1) t := (h.2.1.2.2.1 p (by omega) hp.2).symm
theorem zls_t (h : ∀ q, 0 ≤ q → (zt x q ↔ zt l q ∧ q < p)) (hp : 0 ≤ p) (hl : zt l p) : ∀ q, 0 ≤ q → (zt (zo x (zp p)) q ↔ zt l q ∧ q < p + 1) := fun q q0 => by
  rw [zt_zo, zt_zp hp q0, h q q0]
  constructor
  · rintro (k | rfl)
    · exact ⟨k.1, by omega⟩
    · exact ⟨hl, by omega⟩
  · intro k
    by_cases c : q = p
    · exact Or.inr c
    · exact Or.inl ⟨k.1, by omega⟩
theorem zls_f (h : ∀ q, 0 ≤ q → (zt x q ↔ zt l q ∧ q < p)) (hl : ¬ zt l p) : ∀ q, 0 ≤ q → (zt (zo x 0) q ↔ zt l q ∧ q < p + 1) := fun q q0 => by
  rw [zt_zo, h q q0]
  constructor
  · rintro (k | k)
    · exact ⟨k.1, by omega⟩
    · exact absurd k zt_0
  · intro k
    by_cases c : q = p
    · rw [c] at k; exact absurd k.1 hl
    · exact Or.inl ⟨k.1, by omega⟩
/-- a pattern's row as its positions are told -/
def zRf (w : Int → Int) (s e f : Int) (fo : Int → Int) (p : Int) : Int → Int := fun j => if j = 476 * s + 2 then f else if j = 476 * s + 1 then e else if 476 * s + 7 ≤ j ∧ j < 476 * s + 6 + p then fo (j - (476 * s + 6)) else w j
theorem zRf_1 (j : Int) : zu (zu w0 (476 * s + 2) f) (476 * s + 1) e j = zRf w0 s e f fo 1 j := by
  unfold zRf
  by_cases c2 : j = 476 * s + 2
  · rw [if_pos c2, zu_ne (by omega), c2, zu_at]
  rw [if_neg c2]
  by_cases c1 : j = 476 * s + 1
  · rw [if_pos c1, c1, zu_at]
  rw [if_neg c1, zu_ne c1, zu_ne c2, if_neg (by omega)]
theorem zRf_s (hw : ∀ j, w' j = zRf w0 s e f fo p j) (hp : 1 ≤ p) (hx : x = fo p) (j : Int) : zu w' (476 * s + (6 + p)) x j = zRf w0 s e f fo (p + 1) j := by
  by_cases c : j = 476 * s + (6 + p)
  · unfold zRf
    rw [c, zu_at, if_neg (by omega), if_neg (by omega), if_pos (by omega), hx]
    exact congrArg fo (by omega)
  · rw [zu_ne c, hw j]
    unfold zRf
    by_cases c2 : j = 476 * s + 2
    · rw [if_pos c2, if_pos c2]
    rw [if_neg c2, if_neg c2]
    by_cases c1 : j = 476 * s + 1
    · rw [if_pos c1, if_pos c1]
    rw [if_neg c1, if_neg c1]
    exact if_cg (by omega)
def zRg (w : Int → Int) (s n lp e f l : Int) (fo : Int → Int) : Int → Int := fun j => if j = 476 * s + 0 then n else if j = 476 * s + 3 then l else if j = 476 * s + 4 then lp else zRf w s e f fo (n + 1) j
theorem zRg_e {lp : Int} (hw : ∀ j, w' j = zRf w0 s e f fo (n + 1) j) (j : Int) : zu (zu (zu w' (476 * s + 3) l) (476 * s + 0) n) (476 * s + 4) lp j = zRg w0 s n lp e f l fo j := by
  unfold zRg
  by_cases c0 : j = 476 * s + 0
  · rw [if_pos c0, zu_ne (by omega), c0, zu_at]
  rw [if_neg c0]
  by_cases c3 : j = 476 * s + 3
  · rw [if_pos c3, zu_ne (by omega), zu_ne (by omega), c3, zu_at]
  rw [if_neg c3]
  by_cases c4 : j = 476 * s + 4
  · rw [if_pos c4, c4, zu_at]
  rw [if_neg c4, zu_ne c4, zu_ne c0, zu_ne c3, hw j]
end FOL
