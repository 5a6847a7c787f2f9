/-! ===== the text of a cell is a pattern of few positions ===== -/
/-- the first n bytes of f lead to x -/
def gR (f : Int → Int) (n : Int) (x : zSt) : Prop := ∀ (bs : Int → Int) (sz : Int), (∀ j, 0 ≤ j → j < n → bs j = f j) → n ≤ sz → zRn bs sz 0 zX0 = zRn bs sz n x
/-- with at most k positions, all parentheses closed -/
def gOk (f : Int → Int) (n k : Int) : Prop := ∃ x : zSt, x.2.2 = [] ∧ (0 ≤ x.1.1.1 ∧ x.1.1.1 ≤ k) ∧ gR f n x
section A7a
variable {f g : Int → Int} {n k b b1 b2 b3 : Int} {x y : zSt}
theorem gR.cg (h : gR f n x) (ha : ∀ j, 0 ≤ j → j < n → g j = f j) : gR g n x := fun bs sz hb hsz => h bs sz (fun j j0 j1 => (hb j j0 j1).trans (ha j j0 j1)) hsz
theorem gR.s (h : gR g n x) (hn : 0 ≤ n) (hb : g n = b) (e : zStep b x = .inr y) : gR g (n + 1) y := fun bs sz hbs hsz =>
  (h bs sz (fun j j0 j1 => hbs j j0 (by omega)) (by omega)).trans (zRn_i hn (by omega) ((congrArg (fun z => zStep z x) ((hbs n hn (by omega)).trans hb)).trans e))
theorem gOk_0 {f : Int → Int} : gOk f 0 0 := ⟨zX0, rfl, by decide, fun _ _ _ _ => rfl⟩
theorem gOk.cg (h : gOk f n k) (ha : ∀ j, 0 ≤ j → j < n → g j = f j) : gOk g n k := by
  obtain ⟨x, e, hn, hr⟩ := h
  exact ⟨x, e, hn, hr.cg ha⟩
/-- a position -/
theorem gOk.p (h : gOk f n k) (hn : 0 ≤ n) (hk : k < 24) (hb : g n = b) (hl : b = 46 ∨ (97 ≤ b ∧ b ≤ 102)) (ha : ∀ j, 0 ≤ j → j < n → g j = f j) : gOk g (n + 1) (k + 1) := by
  obtain ⟨x, e, hx, hr⟩ := h
  have h1 := (hr.cg ha).s hn hb (zStep_p (x := x) hl (by omega))
  refine ⟨_, ?_, ?_, h1⟩
  · exact e
  · show 0 ≤ x.1.1.1 + 1 ∧ x.1.1.1 + 1 ≤ k + 1
    omega
/-- a position with an operator -/
theorem gOk.po (h : gOk f n k) (hn : 0 ≤ n) (hk : k < 24) (hb : g n = b) (hl : b = 46 ∨ (97 ≤ b ∧ b ≤ 102)) (hb1 : g (n + 1) = b1) (ho : zOpr b1) (ha : ∀ j, 0 ≤ j → j < n → g j = f j) : gOk g (n + 2) (k + 1) := by
  obtain ⟨x, e, hx, hr⟩ := h
  have h1 := (hr.cg ha).s hn hb (zStep_p (x := x) hl (by omega))
  have h2 := h1.s (by omega) hb1 (zStep_o ho rfl)
  rw [show n + 2 = n + 1 + 1 by omega]
  refine ⟨_, ?_, ?_, h2⟩
  · exact e
  · show 0 ≤ x.1.1.1 + 1 ∧ x.1.1.1 + 1 ≤ k + 1
    omega
/-- a branch sign -/
theorem gOk.br (h : gOk f n k) (hn : 0 ≤ n) (hb : g n = 124) (ha : ∀ j, 0 ≤ j → j < n → g j = f j) : gOk g (n + 1) (k + 1) := by
  obtain ⟨x, e, hx, hr⟩ := h
  have h1 := (hr.cg ha).s hn hb (zStep_b (x := x) rfl)
  refine ⟨_, ?_, ?_, h1⟩
  · exact e
  · show 0 ≤ x.1.1.1 ∧ x.1.1.1 ≤ k + 1
    omega
/-- a position in parentheses with an operator -/
theorem gOk.gr (h : gOk f n k) (hn : 0 ≤ n) (hk : k < 24) (hb : g n = 40) (hb1 : g (n + 1) = b1) (hl : b1 = 46 ∨ (97 ≤ b1 ∧ b1 ≤ 102)) (hb2 : g (n + 1 + 1) = 41) (hb3 : g (n + 1 + 1 + 1) = b3) (ho : zOpr b3) (ha : ∀ j, 0 ≤ j → j < n → g j = f j) : gOk g (n + 4) (k + 1) := by
  obtain ⟨x, e, hx, hr⟩ := h
  have el : x.2.2.length ≠ 20 := by rw [e]; decide
  have h1 := (hr.cg ha).s hn hb (zStep_g (x := x) rfl el)
  have h2 := h1.s (by omega) hb1 (zStep_p hl (show x.1.1.1 ≠ 24 by omega))
  have h3 := h2.s (by omega) hb2 (zStep_c rfl rfl)
  have h4 := h3.s (by omega) hb3 (zStep_o ho rfl)
  rw [show n + 4 = n + 1 + 1 + 1 + 1 by omega]
  refine ⟨_, ?_, ?_, h4⟩
  · exact e
  · show 0 ≤ x.1.1.1 + 1 ∧ x.1.1.1 + 1 ≤ k + 1
    omega
/-- it is read to its end -/
theorem gOk.end (h : gOk f n k) (hg : ∀ j, 0 ≤ j → j < n → g j = f j) : ∃ x, zRn g n 0 zX0 = .inr x ∧ x.2.2 = [] ∧ 0 ≤ x.1.1.1 ∧ x.1.1.1 ≤ k := by
  obtain ⟨x, e, hx, hr⟩ := h
  exact ⟨x, (hr g n hg (Int.le_refl _)).trans (zRn_e rfl e), e, hx⟩
end A7a
/-! few positions, few states -/
theorem gEv {m : Int} (h0 : 0 ≤ m) (h : ∀ q, 0 ≤ q → zt m q → 1 ≤ q ∧ q ≤ 5) : m % 2 = 0 ∧ m < 64 := by
  refine ⟨zt_ev h0 (fun z => by have := h 0 (Int.le_refl _) z; omega), ?_⟩
  have h2 : m.toNat < 2 ^ 6 := Nat.lt_pow_two_of_testBit _ (fun i hi => by
    cases hb : m.toNat.testBit i with
    | false => rfl
    | true =>
      have := h (i : Int) (by omega) (by unfold zt; rw [Int.toNat_natCast]; exact hb)
      omega)
  omega
/-- the states found are different -/
theorem zD_ne {ld : Int → Int → Int} : ∀ (N i j : Nat), i < j → j < (zD ld N).1 → (zD ld N).2.1 (i : Int) ≠ (zD ld N).2.1 (j : Int)
  | 0, i, j, h1, h2 => by
    have h3 : j < 1 := h2
    omega
  | N + 1, i, j, h1, h2 => by
    have ih := zD_ne (ld := ld) N
    have e : zD ld (N + 1) = zDn (zD ld N) (ld ((zD ld N).2.1 ((N / 6 : Nat) : Int)) ((N % 6 : Nat) : Int)) N := rfl
    rw [e] at h2 ⊢
    generalize ld ((zD ld N).2.1 ((N / 6 : Nat) : Int)) ((N % 6 : Nat) : Int) = y at h2 ⊢
    rcases zDn_c (zD ld N) y N with ⟨a1, a2⟩ | ⟨a1, a2⟩
    · rw [a2] at h2 ⊢
      have h3 : j < (zD ld N).1 + 1 := h2
      show zu (zD ld N).2.1 ((zD ld N).1 : Int) y (i : Int) ≠ zu (zD ld N).2.1 ((zD ld N).1 : Int) y (j : Int)
      rw [zu_ne (by omega)]
      by_cases z : j = (zD ld N).1
      · rw [z, zu_at]
        exact (zIx_spec (zD ld N).2.1 y (zD ld N).1).2.2 i (by omega)
      · rw [zu_ne (by omega)]
        exact ih i j h1 (by omega)
    · rw [a2] at h2 ⊢
      exact ih i j h1 h2
theorem gSmall {x : zSt} (hn : 0 ≤ x.1.1.1 ∧ x.1.1.1 ≤ 5) : ¬ zOver x := fun ⟨N, _, hc⟩ => by
  have hS : ∀ y c, 0 ≤ zLd x y c ∧ zLd x y c % 2 = 0 ∧ zLd x y c < 64 := fun y c => by
    have h0 := (zLd_rg (x := x) (y := y) (c := c) (by omega)).1
    have h1 := gEv h0 (fun q q0 hz => by
      have := ((zLd_t (by omega) q0).mp hz).1
      omega)
    exact ⟨h0, h1.1, h1.2⟩
  obtain ⟨i, j, h1, h2, h3⟩ := zpig 32 (fun i => (zD (zLd x) (N + 1)).2.1 ((i + 1 : Nat) : Int) / 2) (fun i hi => by
    have q := zD_hi (S := fun m => 0 ≤ m ∧ m % 2 = 0 ∧ m < 64) hS (N + 1) ((i + 1 : Nat) : Int) (by omega) (by rw [hc]; omega)
    show 0 ≤ (zD (zLd x) (N + 1)).2.1 ((i + 1 : Nat) : Int) / 2 ∧ (zD (zLd x) (N + 1)).2.1 ((i + 1 : Nat) : Int) / 2 < ((32 : Nat) : Int)
    omega)
  have qi := zD_hi (S := fun m => 0 ≤ m ∧ m % 2 = 0 ∧ m < 64) hS (N + 1) ((i + 1 : Nat) : Int) (by omega) (by rw [hc]; omega)
  have qj := zD_hi (S := fun m => 0 ≤ m ∧ m % 2 = 0 ∧ m < 64) hS (N + 1) ((j + 1 : Nat) : Int) (by omega) (by rw [hc]; omega)
  have h4 := zD_ne (ld := zLd x) (N + 1) (i + 1) (j + 1) (by omega) (by rw [hc]; omega)
  refine h4 ?_
  have h5 : (zD (zLd x) (N + 1)).2.1 ((i + 1 : Nat) : Int) / 2 = (zD (zLd x) (N + 1)).2.1 ((j + 1 : Nat) : Int) / 2 := h3
  omega
/-! the array of the text beside the object -/
def tI (Y : Nat → Nat) (h0 : p_H) (X : c_X) (a : Nat) : c_X ⊕ (Int → Int) → p_H → Prop := fun z h => match z with
  | .inl y => c_I Y h0 y h
  | .inr f => (c_I Y h0 X h ∧ h a = some (c_ia 20 f)) ∧ h0 a = none ∧ (∀ i, c_ok i → a ≠ Y i) ∧ c_nt X.2.2.2.2 a
def tP (P : (Option Value) ⊕ String → c_X → Prop) : (Option Value) ⊕ String → c_X ⊕ (Int → Int) → Prop := fun o z => match z with
  | .inl y => P o y
  | .inr _ => False
theorem c_I.foreign {Y : Nat → Nat} {h0 h : p_H} {X : c_X} {a : Nat} {e : p_E} (hI : c_I Y h0 X h) (h1 : h0 a = none) (h2 : ∀ i, c_ok i → a ≠ Y i) (h3 : c_nt X.2.2.2.2 a) : c_I Y h0 X (p_up h a e) := by
  obtain ⟨⟨a1, a2⟩, b, c⟩ := hI
  refine ⟨⟨fun i hi => (p_up_ne (h2 i hi).symm).trans (a1 i hi), a2⟩, fun q p hp => ?_, fun q hq hY => ?_⟩
  · obtain ⟨b1, b2, b3⟩ := b q p hp
    have n := h3 q p hp
    exact ⟨(p_up_ne n.1).trans b1, fun k hk => (p_up_ne (n.2 k hk)).trans (b2 k hk), b3⟩
  · have n : q ≠ a := fun z => hq (z ▸ h1)
    rw [p_up_ne n]
    exact c q hq hY
section A7b
variable {G : p_G} {M : p_M} {Y : Nat → Nat} {h0 : p_H} {P : (Option Value) ⊕ String → c_X → Prop} {d k n pc : Nat} {L : p_LL} {st : List Value} {X : c_X} {a : Nat} {f : Int → Int}
theorem t_out (kk : RW G M (c_I Y h0) P d k n pc L st X) : RW G M (tI Y h0 X a) (tP P) d k n pc L st (.inr f) := fun h hI => SW.mono (kk h hI.1.1) (fun o h' hq => by
  obtain ⟨y, p, i⟩ := hq
  exact ⟨.inl y, p, i⟩)
theorem t_new (hd : decode M.2.1 pc = .ok (.newarray .int, 2)) (kk : ∀ a, RW G M (tI Y h0 X a) (tP P) d k n (pc + 2) L (.ref a :: st) (.inr (fun _ => 0))) : RW G M (c_I Y h0) P d (k + 1) (n + 20) pc L (.int (iI 20) :: st) X := fun h hI => by
  refine r_newaI (N := 20) hd (by decide) (by decide) (by decide) (fun q hq => ?_)
  have f1 : h0 q = none := by
    cases z : h0 q with
    | none => rfl
    | some e =>
      have n1 : h0 q ≠ none := by rw [z]; exact fun y => nomatch y
      have n2 : ∀ i, c_ok i → q ≠ Y i := fun i hi y => by
        have := hI.1.1 i hi
        rw [← y, hq] at this
        cases this
      have := (hI.2.2 q n1 n2).1
      rw [hq, z] at this
      cases this
  have f2 : ∀ i, c_ok i → q ≠ Y i := fun i hi y => by
    have := hI.1.1 i hi
    rw [← y, hq] at this
    cases this
  have f3 : c_nt X.2.2.2.2 q := fun b p hp => by
    obtain ⟨b1, b2, b3⟩ := hI.2.1 b p hp
    refine ⟨fun y => ?_, fun k hk y => ?_⟩
    · rw [y, hq] at b1; cases b1
    · have := b2 k hk
      rw [y, hq] at this
      cases this
  have hT : tI Y h0 X q (.inr (fun _ => 0)) (p_up h q (.inl (0, (20, .inl (fun _ => 0))))) := ⟨⟨hI.foreign f1 f2 f3, p_up_eq⟩, f1, f2, f3⟩
  refine SW.mono (kk q _ hT) (fun o h' hr => ?_)
  obtain ⟨y, p, i⟩ := hr
  match y, p, i with
  | .inl y, p, i => exact ⟨y, p, i⟩
theorem t_ald {j : Int} (hd : decode M.2.1 pc = .ok (.iaload, 1)) (hj : 0 ≤ j ∧ j < 20) (kk : RW G M (tI Y h0 X a) (tP P) d k n (pc + 1) L (.int (iI (f j)) :: st) (.inr f)) : RW G M (tI Y h0 X a) (tP P) d k n pc L (.int (iI j) :: .ref a :: st) (.inr f) := by
  intro h hI
  refine r_iaload (N := 20) (f := fun j => iI (f j)) hd hI.1.2 (iI_in hj.1 hj.2 (by omega)) ?_
  rw [iI_clamp hj.1 (by omega)]
  show SW G M _ d k n h (pc + 1) L (.int (iI (f (j.toNat : Int))) :: st)
  rw [Int.toNat_of_nonneg hj.1]
  exact kk h hI
theorem t_ast {j x : Int} (hd : decode M.2.1 pc = .ok (.iastore, 1)) (hj : 0 ≤ j ∧ j < 20) (kk : RW G M (tI Y h0 X a) (tP P) d k n (pc + 1) L st (.inr (zu f j x))) : RW G M (tI Y h0 X a) (tP P) d k n pc L (.int (iI x) :: .int (iI j) :: .ref a :: st) (.inr f) := by
  intro h hI
  refine r_iastore (N := 20) (f := fun j => iI (f j)) hd hI.1.2 (iI_in hj.1 hj.2 (by omega)) ?_
  rw [iI_clamp hj.1 (by omega), zu_upd hj.1]
  exact kk _ ⟨⟨hI.1.1.foreign hI.2.1 hI.2.2.1 hI.2.2.2, p_up_eq⟩, hI.2⟩
end A7b
