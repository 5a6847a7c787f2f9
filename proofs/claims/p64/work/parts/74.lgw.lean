/-! ===== longest words ===== -/
/-- as many steps to a last position -/
def wEnd (w : Int → Int) (s : Int) : Nat → Int → Prop
  | 0, q => zt (w (476 * s + 3)) q
  | m + 1, q => ∃ q', (1 ≤ q' ∧ q' ≤ w (476 * s + 0)) ∧ zt (w (476 * s + (6 + q))) q' ∧ wEnd w s m q'
/-- reached by as many steps -/
def wRh (w : Int → Int) (s : Int) : Nat → Int → Prop
  | 0, t => t = 0
  | k + 1, t => ∃ t' c, (0 ≤ t' ∧ t' < w (476 * s + 5)) ∧ wRh w s k t' ∧ (0 ≤ c ∧ c < 6) ∧ t = w (476 * s + (116 + 6 * t' + c))
/-- a pattern's automata belong together, nothing in them is useless -/
def wY (w : Int → Int) (s : Int) : Prop := (∀ t c, 0 ≤ t → t < w (476 * s + 5) → 0 ≤ c → c < 6 → w (476 * s + (56 + w (476 * s + (116 + 6 * t + c)))) = wLead w s (w (476 * s + (56 + t))) c) ∧ (∀ t, 0 ≤ t → t < w (476 * s + 5) → ∃ k, wRh w s k t) ∧ (∀ q, 1 ≤ q → q ≤ w (476 * s + 0) → ∃ m, wEnd w s m q) ∧ (w (476 * s + 1) = 1 ∨ ∃ q, (1 ≤ q ∧ q ≤ w (476 * s + 0)) ∧ zt (w (476 * s + 2)) q)
/-- reached by as many steps, none dead -/
def wAv (w : Int → Int) (s : Int) : Nat → Int → Prop
  | 0, t => t = 0
  | k + 1, t => ∃ t', (0 ≤ t' ∧ t' < w (476 * s + 5)) ∧ wAv w s k t' ∧ ∃ c, 0 ≤ c ∧ c < 6 ∧ t = w (476 * s + (116 + 6 * t' + c)) ∧ wPo w s t ≠ 0
section C74
variable {w : Int → Int} {s : Int}
theorem wAft_t {y q : Int} : ∀ k : Nat, zt (wAft w s y k) q ↔ (y % 2 = 1 ∧ zt (w (476 * s + 2)) q) ∨ ∃ p : Int, (1 ≤ p ∧ p ≤ k) ∧ zt y p ∧ zt (w (476 * s + (6 + p))) q
  | 0 => by
    show zt (if y % 2 = 1 then w (476 * s + 2) else 0) q ↔ _
    by_cases z : y % 2 = 1
    · rw [if_pos z]
      exact ⟨fun h => Or.inl ⟨z, h⟩, fun h => h.elim (fun h => h.2) (fun ⟨p, hp, _⟩ => by omega)⟩
    · rw [if_neg z]
      exact ⟨fun h => absurd h zt_0, fun h => h.elim (fun h => absurd h.1 z) (fun ⟨p, hp, _⟩ => by omega)⟩
  | k + 1 => by
    show zt (zo (wAft w s y k) (if zt y ((k : Int) + 1) then w (476 * s + (6 + ((k : Int) + 1))) else 0)) q ↔ _
    rw [zt_zo, wAft_t k]
    constructor
    · rintro ((h | ⟨p, hp, h⟩) | h)
      · exact Or.inl h
      · exact Or.inr ⟨p, by omega, h⟩
      · by_cases z : zt y ((k : Int) + 1)
        · rw [if_pos z] at h
          exact Or.inr ⟨(k : Int) + 1, by omega, z, h⟩
        · rw [if_neg z] at h
          exact absurd h zt_0
    · rintro (h | ⟨p, hp, h1, h2⟩)
      · exact Or.inl (Or.inl h)
      · by_cases z : p = (k : Int) + 1
        · rw [z] at h1 h2
          exact Or.inr (by rw [if_pos h1]; exact h2)
        · exact Or.inl (Or.inr ⟨p, by omega, h1, h2⟩)
theorem wThen_t {a c q : Int} (hq : 0 ≤ q) : ∀ k : Nat, zt (wThen w s a c k) q ↔ (1 ≤ q ∧ q ≤ k) ∧ zt a q ∧ (w (476 * s + (31 + q)) = 6 ∨ w (476 * s + (31 + q)) = c)
  | 0 => ⟨fun h => absurd h zt_0, fun h => by omega⟩
  | k + 1 => by
    show zt (zo (wThen w s a c k) (if zt a ((k : Int) + 1) ∧ (w (476 * s + (31 + ((k : Int) + 1))) = 6 ∨ w (476 * s + (31 + ((k : Int) + 1))) = c) then zp ((k : Int) + 1) else 0)) q ↔ _
    rw [zt_zo, wThen_t hq k]
    by_cases z : zt a ((k : Int) + 1) ∧ (w (476 * s + (31 + ((k : Int) + 1))) = 6 ∨ w (476 * s + (31 + ((k : Int) + 1))) = c)
    · rw [if_pos z, zt_zp (by omega) hq]
      constructor
      · rintro (⟨h1, h2⟩ | h)
        · exact ⟨by omega, h2⟩
        · rw [h]; exact ⟨by omega, z⟩
      · rintro ⟨h1, h2⟩
        by_cases e : q = (k : Int) + 1
        · exact Or.inr e
        · exact Or.inl ⟨by omega, h2⟩
    · rw [if_neg z]
      constructor
      · rintro (⟨h1, h2⟩ | h)
        · exact ⟨by omega, h2⟩
        · exact absurd h zt_0
      · rintro ⟨h1, h2⟩
        by_cases e : q = (k : Int) + 1
        · rw [e] at h2; exact absurd h2 z
        · exact Or.inl ⟨by omega, h2⟩
/-- where a street leads -/
theorem wLead_t (hn : 0 ≤ w (476 * s + 0)) {y c q : Int} (hq : 0 ≤ q) : zt (wLead w s y c) q ↔ (1 ≤ q ∧ q ≤ w (476 * s + 0)) ∧ ((y % 2 = 1 ∧ zt (w (476 * s + 2)) q) ∨ ∃ p, (1 ≤ p ∧ p ≤ w (476 * s + 0)) ∧ zt y p ∧ zt (w (476 * s + (6 + p))) q) ∧ (w (476 * s + (31 + q)) = 6 ∨ w (476 * s + (31 + q)) = c) := by
  unfold wLead
  rw [wThen_t hq, wAft_t, Int.toNat_of_nonneg hn]
theorem zt_ev {m : Int} (h : 0 ≤ m) (h0 : ¬ zt m 0) : m % 2 = 0 := by
  obtain ⟨n, rfl⟩ := lJ_nat h
  unfold zt at h0
  rw [Int.toNat_natCast, show (0 : Int).toNat = 0 from rfl, Nat.testBit_zero, decide_eq_true_eq] at h0
  omega
theorem zt_som {m : Int} (h : 0 ≤ m) (h0 : m ≠ 0) : ∃ q, 0 ≤ q ∧ zt m q := Classical.byContradiction (fun z => h0 (zt_ext h (Int.le_refl 0) (fun q q0 => ⟨fun y => absurd ⟨q, q0, y⟩ z, fun y => absurd y zt_0⟩)))
theorem za_nz {a b q : Int} (ha : zt a q) (hb : zt b q) : za a b ≠ 0 := fun e => by
  have := zt_za.mpr ⟨ha, hb⟩
  rw [e] at this
  exact zt_0 this
variable (hP : wP w s) (hX : wX w s) (hY : wY w s)
/-- no street leads back to the start -/
theorem wNx_0 (hP : wP w s) (hX : wX w s) (hY : wY w s) {t c : Int} (t0 : 0 ≤ t) (t1 : t < w (476 * s + 5)) (c0 : 0 ≤ c) (c1 : c < 6) : (1 ≤ w (476 * s + (116 + 6 * t + c)) ∧ w (476 * s + (116 + 6 * t + c)) < w (476 * s + 5)) ∧ wPo w s (w (476 * s + (116 + 6 * t + c))) = wLead w s (w (476 * s + (56 + t))) c ∧ w (476 * s + (56 + w (476 * s + (116 + 6 * t + c)))) = wLead w s (w (476 * s + (56 + t))) c := by
  have h1 := hY.1 t c t0 t1 c0 c1
  have h2 := hP.2.2.2.2.2 t c t0 t1 c0 c1
  have h3 := hP.2.2.2.1
  have h4 := hP.2.2.1 (56 + w (476 * s + (116 + 6 * t + c))) (by omega) (by omega)
  have h5 : w (476 * s + (56 + w (476 * s + (116 + 6 * t + c)))) % 2 = 0 := zt_ev h4.1 (by
    rw [h1, wLead_t hP.1.1 (by decide)]
    intro z
    omega)
  have h6 : w (476 * s + (116 + 6 * t + c)) ≠ 0 := fun e => by
    rw [e, hX.1] at h5
    omega
  refine ⟨by omega, ?_, h1⟩
  show _ - _ % 2 = _
  rw [h5, h1, Int.sub_zero]
/-- a street of a position -/
theorem wStr (hP : wP w s) {q : Int} (h : 1 ≤ q ∧ q ≤ w (476 * s + 0)) : ∃ c, (0 ≤ c ∧ c < 6) ∧ (w (476 * s + (31 + q)) = 6 ∨ w (476 * s + (31 + q)) = c) := by
  have h1 := hP.1
  have h2 := hP.2.2.2.2.1 q h.1 (by omega)
  by_cases z : w (476 * s + (31 + q)) = 6
  · exact ⟨0, by decide, Or.inl z⟩
  · exact ⟨_, by omega, Or.inr rfl⟩
theorem wEnd_at (hP : wP w s) (hX : wX w s) (hY : wY w s) : ∀ (m : Nat) (q t : Int), 0 ≤ t → t < w (476 * s + 5) → (1 ≤ q ∧ q ≤ w (476 * s + 0)) → zt (w (476 * s + (56 + t))) q → wEnd w s m q → wAt w s (fun _ => True) m t
  | 0, q, t, t0, t1, hq, hz, he => Or.inl (za_nz hz he)
  | m + 1, q, t, t0, t1, hq, hz, he => by
    obtain ⟨q', hq', hf, he'⟩ := he
    obtain ⟨c, hc, hst⟩ := wStr hP hq'
    have h1 := wNx_0 hP hX hY t0 t1 hc.1 hc.2
    exact ⟨c, hc.1, hc.2, trivial, wEnd_at hP hX hY m q' _ (by omega) h1.1.2 hq' (by rw [h1.2.2, wLead_t hP.1.1 (by omega)]; exact ⟨hq', Or.inr ⟨q, hq, hz, hf⟩, hst⟩) he'⟩
/-- from a state that isn't dead a word is accepted -/
theorem wTrim (hP : wP w s) (hX : wX w s) (hY : wY w s) {t : Int} (t0 : 0 ≤ t) (t1 : t < w (476 * s + 5)) (h : wPo w s t ≠ 0) : ∃ m, wAt w s (fun _ => True) m t := by
  have h4 := hP.2.2.2.1
  have h5 := hP.2.2.1 (56 + t) (by omega) (by omega)
  have ht : t ≠ 0 := fun e => h (by rw [e]; show _ - _ % 2 = 0; rw [hX.1]; decide)
  have h6 := hX.2.1 t (by omega) t1
  have h7 : w (476 * s + (56 + t)) ≠ 0 := fun e => h (by show _ - _ % 2 = 0; rw [e]; decide)
  obtain ⟨k, hk⟩ := hY.2.1 t t0 t1
  match k, hk with
  | 0, hk => exact absurd hk ht
  | k + 1, hk =>
    obtain ⟨t', c, ht', -, hc, e⟩ := hk
    obtain ⟨q, q0, hq⟩ := zt_som h5.1 h7
    have hq2 : 1 ≤ q ∧ q ≤ w (476 * s + 0) := by
      have := hq
      rw [e, hY.1 t' c ht'.1 ht'.2 hc.1 hc.2, wLead_t hP.1.1 q0] at this
      exact this.1
    obtain ⟨m, hm⟩ := hY.2.2.1 q hq2.1 hq2.2
    exact ⟨m, wEnd_at hP hX hY m q t t0 t1 hq2 hq hm⟩
/-- some word is accepted -/
theorem wSome (hP : wP w s) (hX : wX w s) (hY : wY w s) : ∃ m, wAt w s (fun _ => True) m 0 := by
  have h4 := hP.2.2.2.1
  rcases hY.2.2.2 with h | ⟨q, hq, hf⟩
  · exact ⟨0, Or.inr ⟨by rw [hX.1]; decide, h⟩⟩
  · obtain ⟨c, hc, hst⟩ := wStr hP hq
    obtain ⟨m, hm⟩ := hY.2.2.1 q hq.1 hq.2
    have h1 := wNx_0 hP hX hY (t := 0) (Int.le_refl _) (by omega) hc.1 hc.2
    exact ⟨m + 1, c, hc.1, hc.2, trivial, wEnd_at hP hX hY m q _ (by omega) h1.1.2 hq (by rw [h1.2.2, wLead_t hP.1.1 (by omega)]; exact ⟨hq, Or.inl ⟨by rw [hX.1]; decide, hf⟩, hst⟩) hm⟩
/-- a dead state accepts nothing -/
theorem wDeadN (hP : wP w s) (hX : wX w s) (hY : wY w s) : ∀ (m : Nat) (t : Int), 1 ≤ t → t < w (476 * s + 5) → wPo w s t = 0 → ¬ wAt w s (fun _ => True) m t
  | 0, t, t0, t1, h, z => by
    have h6 := hX.2.1 t t0 t1
    have h7 : w (476 * s + (56 + t)) = 0 := by
      have h8 : w (476 * s + (56 + t)) - w (476 * s + (56 + t)) % 2 = 0 := h
      rw [h6] at h8
      omega
    have z' : wAcc w s t := z
    rcases z' with z' | z'
    · rw [h7] at z'
      exact z' (by unfold za; rw [show (0 : Int).toNat = 0 from rfl, Nat.zero_and]; rfl)
    · omega
  | m + 1, t, t0, t1, h, z => by
    obtain ⟨c, c0, c1, -, hz⟩ := z
    have h1 := wNx_0 hP hX hY (show 0 ≤ t by omega) t1 c0 c1
    have h6 := hX.2.1 t t0 t1
    have h7 : w (476 * s + (56 + t)) = 0 := by
      have h8 : w (476 * s + (56 + t)) - w (476 * s + (56 + t)) % 2 = 0 := h
      rw [h6] at h8
      omega
    refine wDeadN hP hX hY m _ h1.1.1 h1.1.2 ?_ hz
    rw [h1.2.1, h7]
    have h9 : 0 ≤ wLead w s 0 c := by
      have e9 : wLead w s 0 c = w (476 * s + (56 + w (476 * s + (116 + 6 * t + c)))) := by rw [h1.2.2, h7]
      rw [e9]
      have h4 := hP.2.2.2.1
      exact (hP.2.2.1 (56 + w (476 * s + (116 + 6 * t + c))) (by omega) (by omega)).1
    refine zt_ext h9 (Int.le_refl 0) (fun q q0 => ⟨fun y => ?_, fun y => absurd y zt_0⟩)
    rw [wLead_t hP.1.1 q0] at y
    rcases y.2.1 with y | ⟨p, -, y, -⟩
    · omega
    · exact absurd y zt_0
theorem wAv_rg (hP : wP w s) : ∀ (k : Nat) (t : Int), wAv w s k t → 0 ≤ t ∧ t < w (476 * s + 5)
  | 0, t, h => by
    have h4 := hP.2.2.2.1
    have h5 : t = 0 := h
    omega
  | k + 1, t, ⟨t', ht', _, c, c0, c1, e, _⟩ => by
    have := hP.2.2.2.2.2 t' c ht'.1 ht'.2 c0 c1
    omega
/-- an accepted word's states -/
theorem wAv_at (hP : wP w s) (hX : wX w s) (hY : wY w s) : ∀ (j : Nat) (k m : Nat) (t : Int), wAv w s k t → wAt w s (fun _ => True) (m + j) t → ∃ t', wAv w s (k + j) t' ∧ wAt w s (fun _ => True) m t'
  | 0, k, m, t, h, h2 => ⟨t, h, h2⟩
  | j + 1, k, m, t, h, h2 => by
    obtain ⟨c, c0, c1, -, hz⟩ := h2
    have hr := wAv_rg hP k t h
    have h1 := wNx_0 hP hX hY hr.1 hr.2 c0 c1
    have hn : wPo w s (w (476 * s + (116 + 6 * t + c))) ≠ 0 := fun e => wDeadN hP hX hY _ _ h1.1.1 h1.1.2 e hz
    obtain ⟨t', a, b⟩ := wAv_at hP hX hY j (k + 1) m _ ⟨t, hr, h, c, c0, c1, rfl, hn⟩ hz
    exact ⟨t', by rw [show k + (j + 1) = k + 1 + j by omega]; exact a, b⟩
theorem wAt_av : ∀ (k m : Nat) (t : Int), wAv w s k t → wAt w s (fun _ => True) m t → wAt w s (fun _ => True) (m + k) 0
  | 0, m, t, h, h2 => by
    have e : t = 0 := h
    rw [← e]; exact h2
  | k + 1, m, t, ⟨t', ht', h, c, c0, c1, e, _⟩, h2 => by
    have := wAt_av k (m + 1) t' h ⟨c, c0, c1, trivial, by rw [← e]; exact h2⟩
    rw [show m + (k + 1) = m + 1 + k by omega]
    exact this
theorem wAt_rh : ∀ (k m : Nat) (t : Int), wRh w s k t → wAt w s (fun _ => True) m t → wAt w s (fun _ => True) (m + k) 0
  | 0, m, t, h, h2 => by
    have e : t = 0 := h
    rw [← e]; exact h2
  | k + 1, m, t, ⟨t', c, ht', h, hc, e⟩, h2 => by
    have := wAt_rh k (m + 1) t' h ⟨c, hc.1, hc.2, trivial, by rw [← e]; exact h2⟩
    rw [show m + (k + 1) = m + 1 + k by omega]
    exact this
/-- more places than values -/
theorem zpig : ∀ (n : Nat) (f : Nat → Int), (∀ i, i ≤ n → 0 ≤ f i ∧ f i < n) → ∃ i j, i < j ∧ j ≤ n ∧ f i = f j
  | 0, f, h => by
    have := h 0 (Nat.le_refl _)
    omega
  | n + 1, f, h => by
    by_cases z : ∃ i, i ≤ n ∧ f i = f (n + 1)
    · obtain ⟨i, i0, e⟩ := z
      exact ⟨i, n + 1, by omega, Nat.le_refl _, e⟩
    · have hv := h (n + 1) (Nat.le_refl _)
      have hne : ∀ i, i ≤ n → f i ≠ f (n + 1) := fun i i0 e => z ⟨i, i0, e⟩
      obtain ⟨i, j, h1, h2, h3⟩ := zpig n (fun i => if f (n + 1) < f i then f i - 1 else f i) (fun i i0 => by
        have h1 := h i (by omega)
        have h2 := hne i i0
        show 0 ≤ (if f (n + 1) < f i then f i - 1 else f i) ∧ (if f (n + 1) < f i then f i - 1 else f i) < n
        split <;> omega)
      have hi := hne i (by omega)
      have hj := hne j h2
      refine ⟨i, j, h1, by omega, ?_⟩
      have h3' : (if f (n + 1) < f i then f i - 1 else f i) = (if f (n + 1) < f j then f j - 1 else f j) := h3
      split at h3' <;> split at h3' <;> omega
/-- steps that aren't dead, from a state on -/
def wSt (w : Int → Int) (s : Int) : Nat → Int → Int → Prop
  | 0, t, u => t = u
  | k + 1, t, u => ∃ v, wSt w s k t v ∧ (0 ≤ v ∧ v < w (476 * s + 5)) ∧ ∃ c, 0 ≤ c ∧ c < 6 ∧ u = w (476 * s + (116 + 6 * v + c)) ∧ wPo w s u ≠ 0
theorem wSt_av : ∀ (k j : Nat) (t u : Int), wAv w s j t → wSt w s k t u → wAv w s (j + k) u
  | 0, j, t, u, h, e => by
    have e' : t = u := e
    rw [← e']; exact h
  | k + 1, j, t, u, h, ⟨v, h1, hv, h2⟩ => ⟨v, hv, wSt_av k j t v h h1, h2⟩
theorem wAv_path : ∀ (k : Nat) (t : Int), wAv w s k t → ∃ f : Nat → Int, f k = t ∧ (∀ i, i ≤ k → wAv w s i (f i)) ∧ ∀ i j, i ≤ j → j ≤ k → wSt w s (j - i) (f i) (f j)
  | 0, t, h => ⟨fun _ => t, rfl, fun i i0 => by rw [show i = 0 by omega]; exact h, fun i j h1 h2 => by rw [show j - i = 0 by omega]; exact rfl⟩
  | k + 1, t, h => by
    obtain ⟨t', ht', h1, h2⟩ := h
    obtain ⟨f, e, h3, h4⟩ := wAv_path k t' h1
    refine ⟨fun i => if i = k + 1 then t else f i, if_pos rfl, fun i i0 => ?_, fun i j i0 j0 => ?_⟩
    · show wAv w s i (if i = k + 1 then t else f i)
      by_cases z : i = k + 1
      · rw [if_pos z, z]; exact ⟨t', ht', h1, h2⟩
      · rw [if_neg z]; exact h3 i (by omega)
    · show wSt w s (j - i) (if i = k + 1 then t else f i) (if j = k + 1 then t else f j)
      by_cases z : j = k + 1
      · rw [if_pos z]
        by_cases y : i = k + 1
        · rw [if_pos y, show j - i = 0 by omega]; exact rfl
        · rw [if_neg y, show j - i = k - i + 1 by omega]
          exact ⟨t', by rw [← e]; exact h4 i k (by omega) (Nat.le_refl _), ht', h2⟩
      · rw [if_neg z, if_neg (by omega)]
        exact h4 i j i0 (by omega)
/-- what the class finds -/
def cLong (w : Int → Int) (s x : Int) : Prop := (x = -1 ∧ ∃ q, wAv w s (w (476 * s + 5)).toNat q) ∨ ((∀ q, ¬ wAv w s (w (476 * s + 5)).toNat q) ∧ 0 ≤ x ∧ (x = 0 ∨ ∃ t, wAv w s x.toNat t ∧ wAcc w s t) ∧ ∀ k : Nat, (k : Int) < w (476 * s + 5) → (∃ t, wAv w s k t ∧ wAcc w s t) → (k : Int) ≤ x)
theorem cLong.eq (hP : wP w s) (hX : wX w s) (hY : wY w s) {x r : Int} (hc : cLong w s x) (hl : wLong w s r) : x = r := by
  have h4 := hP.2.2.2.1
  have hlong : ∀ n : Nat, w (476 * s + 5) ≤ (n : Int) → wAt w s (fun _ => True) n 0 → ∃ q, wAv w s (w (476 * s + 5)).toNat q := fun n hn h => by
    obtain ⟨t', a, -⟩ := wAv_at hP hX hY (w (476 * s + 5)).toNat 0 (n - (w (476 * s + 5)).toNat) 0 rfl (by rw [show n - (w (476 * s + 5)).toNat + (w (476 * s + 5)).toNat = n by omega]; exact h)
    rw [Nat.zero_add] at a
    exact ⟨t', a⟩
  rcases hc with ⟨rfl, q, hq⟩ | ⟨hno, x0, hx, hmax⟩
  · rcases hl with ⟨r0, -, hr⟩ | ⟨hr, -⟩ | ⟨hr, -⟩
    · exfalso
      obtain ⟨f, -, hf, hst⟩ := wAv_path _ q hq
      obtain ⟨i, j, hij, hj, e⟩ := zpig (w (476 * s + 5)).toNat f (fun i hi => by have := wAv_rg hP i _ (hf i hi); omega)
      have hloop : wSt w s (j - i) (f j) (f j) := by
        have := hst i j (by omega) hj
        rw [e] at this
        exact this
      have hmany : ∀ K : Nat, ∃ k : Nat, K ≤ k ∧ wAv w s k (f j) := fun K => by
        induction K with
        | zero => exact ⟨j, Nat.zero_le _, hf j hj⟩
        | succ K ih =>
          obtain ⟨k, hk, h⟩ := ih
          exact ⟨k + (j - i), by omega, wSt_av _ _ _ _ h hloop⟩
      have hne : wPo w s (f j) ≠ 0 := by
        have h1 := hf j hj
        obtain ⟨j', rfl⟩ : ∃ j', j = j' + 1 := ⟨j - 1, by omega⟩
        obtain ⟨_, _, _, _, _, _, _, h2⟩ := h1
        exact h2
      have hrg := wAv_rg hP j _ (hf j hj)
      obtain ⟨m, hm⟩ := wTrim hP hX hY hrg.1 hrg.2 hne
      obtain ⟨k, hk, h⟩ := hmany (r.toNat + 1)
      have := hr _ (wAt_av k m _ h hm)
      omega
    · exact hr.symm
    · exact hr.symm
  · have hlt : ∀ n : Nat, wAt w s (fun _ => True) n 0 → (n : Int) ≤ x := fun n hn => by
      have hn2 : (n : Int) < w (476 * s + 5) := Classical.byContradiction (fun z => by
        obtain ⟨q, hq⟩ := hlong n (by omega) hn
        exact hno q hq)
      obtain ⟨t', a, b⟩ := wAv_at hP hX hY n 0 0 0 rfl (by rw [Nat.zero_add]; exact hn)
      rw [Nat.zero_add] at a
      exact hmax n hn2 ⟨t', a, b⟩
    rcases hl with ⟨r0, ha, hr⟩ | ⟨-, t, n, t0, t1, hn, h⟩ | ⟨-, h⟩
    · have h1 := hlt _ ha
      rcases hx with hx | ⟨t, hx, hac⟩
      · omega
      · have h2 := hr _ (wAt_av x.toNat 0 t hx hac)
        omega
    · exfalso
      obtain ⟨k, hk⟩ := hY.2.1 t t0 t1
      obtain ⟨q, hq⟩ := hlong (n + k) (by omega) (wAt_rh k n t hk h)
      exact hno q hq
    · obtain ⟨m, hm⟩ := wSome hP hX hY
      exact absurd hm (h m)
end C74
