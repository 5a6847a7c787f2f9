/-! ===== reading a pattern byte by byte ===== -/
abbrev zPt : Type := Bool × Int × Int
abbrev zLv : Type := zPt × zPt × Option zPt
abbrev zSt : Type := ((Int × Int) × (Int → Int) × (Int → Int)) × zLv × List zLv
def zJn (B Q : zPt) : zPt := (B.1 && Q.1, if B.1 = true then zo B.2.1 Q.2.1 else B.2.1, if Q.1 = true then zo B.2.2 Q.2.2 else Q.2.2)
def zOr (A B : zPt) : zPt := (A.1 || B.1, zo A.2.1 B.2.1, zo A.2.2 B.2.2)
/-- the branch with its piece -/
def zEp (fo : Int → Int) (v : zLv) : (Int → Int) × zPt := match v.2.2 with
  | none => (fo, v.2.1)
  | some Q => (zAF v.2.1.2.2 Q.2.1 fo, zJn v.2.1 Q)
/-- the choice with its branch -/
def zEb (fo : Int → Int) (v : zLv) : (Int → Int) × zPt := ((zEp fo v).1, zOr v.1 (zEp fo v).2)
def zL0 : zLv := ((false, 0, 0), (true, 0, 0), none)
/-- an operator behind a piece -/
def zOp (b : Int) (fo : Int → Int) (Q : zPt) : (Int → Int) × zPt := (if b ≠ 63 then zAF Q.2.2 Q.2.1 fo else fo, (Q.1 || decide (b ≠ 43), Q.2))
/-- a byte is read: the kind of the error, or what has been read -/
def zStep (b : Int) (x : zSt) : Int ⊕ zSt :=
  if b = 40 then (if x.2.2.length = 20 then .inl 3 else .inr ((x.1.1, x.1.2.1, (zEp x.1.2.2 x.2.1).1), zL0, (x.2.1.1, (zEp x.1.2.2 x.2.1).2, none) :: x.2.2))
  else if b = 41 then (match x.2.2 with
    | [] => .inl 1
    | o :: r => .inr ((x.1.1, x.1.2.1, (zEb x.1.2.2 x.2.1).1), (o.1, o.2.1, some (zEb x.1.2.2 x.2.1).2), r))
  else if b = 124 then .inr ((x.1.1, x.1.2.1, (zEb x.1.2.2 x.2.1).1), ((zEb x.1.2.2 x.2.1).2, (true, 0, 0), none), x.2.2)
  else if b = 42 ∨ b = 43 ∨ b = 63 then (match x.2.1.2.2 with
    | none => .inl 1
    | some Q => .inr (((x.1.1.1, if b ≠ 63 then x.1.1.2 + 1 else x.1.1.2), x.1.2.1, (zOp b x.1.2.2 Q).1), (x.2.1.1, x.2.1.2.1, some (zOp b x.1.2.2 Q).2), x.2.2))
  else if b = 46 ∨ (97 ≤ b ∧ b ≤ 102) then (if x.1.1.1 = 24 then .inl 2 else .inr (((x.1.1.1 + 1, x.1.1.2), zu x.1.2.1 (x.1.1.1 + 1) (if b = 46 then 6 else b - 97), (zEp x.1.2.2 x.2.1).1), (x.2.1.1, (zEp x.1.2.2 x.2.1).2, some (false, zp (x.1.1.1 + 1), zp (x.1.1.1 + 1))), x.2.2))
  else .inl 1
/-- the last k bytes of sz are read: kind and place of the first error, or what has been read -/
def zRun (bs : Int → Int) (sz : Int) : Nat → zSt → (Int × Int) ⊕ zSt
  | 0, x => (match x.2.2 with
    | [] => .inr x
    | _ :: _ => .inl (1, sz))
  | k + 1, x => (match zStep (bs (sz - ((k : Int) + 1))) x with
    | .inl e => .inl (e, sz - ((k : Int) + 1))
    | .inr y => zRun bs sz k y)
def zRn (bs : Int → Int) (sz a : Int) (x : zSt) : (Int × Int) ⊕ zSt := zRun bs sz (sz - a).toNat x
section FLD
variable {bs : Int → Int} {sz a : Int} {x y : zSt}
theorem zRn_i {y : zSt} (h0 : 0 ≤ a) (h : a < sz) (e : zStep (bs a) x = .inr y) : zRn bs sz a x = zRn bs sz (a + 1) y := by
  unfold zRn
  obtain ⟨k, hk⟩ : ∃ k : Nat, (sz - a).toNat = k + 1 := ⟨(sz - a).toNat - 1, by omega⟩
  rw [hk, show (sz - (a + 1)).toNat = k by omega, zRun, show sz - ((k : Int) + 1) = a by omega, e]
theorem zRn_l {k : Int} (h0 : 0 ≤ a) (h : a < sz) (e : zStep (bs a) x = .inl k) : zRn bs sz a x = .inl (k, a) := by
  unfold zRn
  obtain ⟨k, hk⟩ : ∃ k : Nat, (sz - a).toNat = k + 1 := ⟨(sz - a).toNat - 1, by omega⟩
  rw [hk, zRun, show sz - ((k : Int) + 1) = a by omega, e]
theorem zRn_z {o : zLv} {r : List zLv} (h : a = sz) (e : x.2.2 = o :: r) : zRn bs sz a x = .inl (1, a) := by
  subst h
  unfold zRn
  rw [show (a - a).toNat = 0 by omega, zRun, e]
theorem zRn_e (h : a = sz) (e : x.2.2 = []) : zRn bs sz a x = .inr x := by
  subst h
  unfold zRn
  rw [show (a - a).toNat = 0 by omega, zRun, e]
/-- a byte that begins a piece -/
abbrev zAt (b : Int) : Prop := b = 40 ∨ b = 46 ∨ (97 ≤ b ∧ b ≤ 102)
abbrev zOpr (b : Int) : Prop := b = 42 ∨ b = 43 ∨ b = 63
theorem zStep_x {b : Int} (h1 : ¬ zAt b) (h2 : b ≠ 124) (h3 : b = 41 → x.2.2 = []) (h4 : zOpr b → x.2.1.2.2 = none) : zStep b x = .inl 1 := by
  unfold zAt at h1
  unfold zOpr at h4
  unfold zStep
  rw [if_neg (by omega)]
  by_cases c : b = 41
  · rw [if_pos c, h3 c]
  rw [if_neg c, if_neg h2]
  by_cases c2 : b = 42 ∨ b = 43 ∨ b = 63
  · rw [if_pos c2, h4 c2]
  rw [if_neg c2, if_neg (by omega)]
theorem zStep_o {b : Int} {Q : zPt} (h1 : zOpr b) (h2 : x.2.1.2.2 = some Q) : zStep b x = .inr (((x.1.1.1, if b ≠ 63 then x.1.1.2 + 1 else x.1.1.2), x.1.2.1, (zOp b x.1.2.2 Q).1), (x.2.1.1, x.2.1.2.1, some (zOp b x.1.2.2 Q).2), x.2.2) := by
  unfold zOpr at h1
  unfold zStep
  rw [if_neg (by omega), if_neg (by omega), if_neg (by omega), if_pos h1, h2]
theorem zStep_b {b : Int} (h : b = 124) : zStep b x = .inr ((x.1.1, x.1.2.1, (zEb x.1.2.2 x.2.1).1), ((zEb x.1.2.2 x.2.1).2, (true, 0, 0), none), x.2.2) := by
  unfold zStep
  rw [if_neg (by omega), if_neg (by omega), if_pos h]
theorem zStep_c {b : Int} {o : zLv} {r : List zLv} (h : b = 41) (e : x.2.2 = o :: r) : zStep b x = .inr ((x.1.1, x.1.2.1, (zEb x.1.2.2 x.2.1).1), (o.1, o.2.1, some (zEb x.1.2.2 x.2.1).2), r) := by
  unfold zStep
  rw [if_neg (by omega), if_pos h, e]
theorem zStep_g {b : Int} (h : b = 40) (e : x.2.2.length ≠ 20) : zStep b x = .inr ((x.1.1, x.1.2.1, (zEp x.1.2.2 x.2.1).1), zL0, (x.2.1.1, (zEp x.1.2.2 x.2.1).2, none) :: x.2.2) := by
  unfold zStep
  rw [if_pos h, if_neg e]
theorem zStep_g3 {b : Int} (h : b = 40) (e : x.2.2.length = 20) : zStep b x = .inl 3 := by
  unfold zStep
  rw [if_pos h, if_pos e]
theorem zStep_p {b : Int} (h : b = 46 ∨ (97 ≤ b ∧ b ≤ 102)) (e : x.1.1.1 ≠ 24) : zStep b x = .inr (((x.1.1.1 + 1, x.1.1.2), zu x.1.2.1 (x.1.1.1 + 1) (if b = 46 then 6 else b - 97), (zEp x.1.2.2 x.2.1).1), (x.2.1.1, (zEp x.1.2.2 x.2.1).2, some (false, zp (x.1.1.1 + 1), zp (x.1.1.1 + 1))), x.2.2) := by
  unfold zStep
  rw [if_neg (by omega), if_neg (by omega), if_neg (by omega), if_neg (by omega), if_pos h, if_neg e]
theorem zStep_p2 {b : Int} (h : b = 46 ∨ (97 ≤ b ∧ b ≤ 102)) (e : x.1.1.1 = 24) : zStep b x = .inl 2 := by
  unfold zStep
  rw [if_neg (by omega), if_neg (by omega), if_neg (by omega), if_neg (by omega), if_pos h, if_pos e]
end FLD
/-- the byte ahead, -1 at the end -/
def zHd (bs : Int → Int) (sz a : Int) : Int := if a < sz then bs a else -1
theorem zHd_c {bs : Int → Int} {sz a : Int} (h : 0 ≤ a ∧ a ≤ sz) (hb : ∀ j, 0 ≤ j → j < sz → 0 ≤ bs j ∧ bs j < 256) : (a < sz ∧ zHd bs sz a = bs a ∧ 0 ≤ bs a ∧ bs a < 256) ∨ (a = sz ∧ zHd bs sz a = -1) := by
  unfold zHd
  by_cases c : a < sz
  · rw [if_pos c]; exact Or.inl ⟨c, rfl, hb a h.1 c⟩
  · rw [if_neg c]; exact Or.inr ⟨by omega, rfl⟩
/-! ===== the graph in rows ===== -/
/-- the last edge ahead of k that leaves a, -1 if there is none -/
def zMx (src : Int → Int) (a : Int) : Nat → Int
  | 0 => -1
  | k + 1 => if src k = a then k else zMx src a k
theorem zMx_c (src : Int → Int) (a : Int) : ∀ k : Nat, (zMx src a k = -1 ∧ ∀ e : Int, 0 ≤ e → e < k → src e ≠ a) ∨ (0 ≤ zMx src a k ∧ zMx src a k < k ∧ src (zMx src a k) = a ∧ ∀ e : Int, zMx src a k < e → e < k → src e ≠ a)
  | 0 => Or.inl ⟨rfl, fun e e0 e1 => by omega⟩
  | k + 1 => by
    have eq : zMx src a (k + 1) = if src k = a then (k : Int) else zMx src a k := rfl
    by_cases c : src k = a
    · rw [eq, if_pos c]
      exact Or.inr ⟨by omega, by omega, c, fun e e0 e1 => by omega⟩
    · rw [eq, if_neg c]
      rcases zMx_c src a k with ⟨h1, h2⟩ | ⟨h1, h2, h3, h4⟩
      · refine Or.inl ⟨h1, fun e e0 e1 => ?_⟩
        by_cases z : e = k
        · rw [z]; exact c
        · exact h2 e e0 (by omega)
      · refine Or.inr ⟨h1, by omega, h3, fun e e0 e1 => ?_⟩
        by_cases z : e = k
        · rw [z]; exact c
        · exact h4 e e0 (by omega)
theorem zMx_cg {src src' : Int → Int} {a : Int} : ∀ k : Nat, (∀ e : Int, 0 ≤ e → e < k → src' e = src e) → zMx src' a k = zMx src a k
  | 0, _ => rfl
  | k + 1, h => by
    show (if src' k = a then (k : Int) else zMx src' a k) = if src k = a then (k : Int) else zMx src a k
    rw [h k (by omega) (by omega), zMx_cg k (fun e e0 e1 => h e e0 (by omega))]
def mLk (N M : Int) (f13 f14 f15 : Int → Int) (E : Int → Int → Prop) : Prop := ∃ src : Int → Int, (0 ≤ N ∧ 0 ≤ M) ∧ (∀ e, 0 ≤ e → e < M → (0 ≤ src e ∧ src e < N) ∧ (0 ≤ f15 e ∧ f15 e < N) ∧ f14 e = zMx src (src e) e.toNat) ∧ (∀ a, 0 ≤ a → a < N → f13 a = zMx src a M.toNat) ∧ ∀ x y, E x y ↔ ∃ e, (0 ≤ e ∧ e < M) ∧ src e = x ∧ f15 e = y
theorem mLk.bd {N M : Int} {f13 f14 f15 : Int → Int} {E : Int → Int → Prop} (h : mLk N M f13 f14 f15 E) : zBd E N := fun x y q => by
  obtain ⟨src, h0, h1, h2, h3⟩ := h
  obtain ⟨e, he, rfl, rfl⟩ := (h3 x y).mp q
  have := h1 e he.1 he.2
  exact ⟨this.1, this.2.1⟩
theorem mLk.emp {f13 f14 f15 : Int → Int} : mLk 0 0 f13 f14 f15 (fun _ _ => False) := ⟨fun _ => 0, by decide, fun e e0 e1 => by omega, fun a a0 a1 => by omega, fun x y => ⟨False.elim, fun ⟨e, he, _⟩ => by omega⟩⟩
theorem mLk.node {N M : Int} {f13 f14 f15 : Int → Int} {E : Int → Int → Prop} (h : mLk N M f13 f14 f15 E) : mLk (N + 1) M (zu f13 N (-1)) f14 f15 E := by
  obtain ⟨src, h0, h1, h2, h3⟩ := h
  refine ⟨src, by omega, fun e e0 e1 => ?_, fun a a0 a1 => ?_, h3⟩
  · have := h1 e e0 e1
    exact ⟨by omega, by omega, this.2.2⟩
  · by_cases z : a = N
    · rw [z, zu_at]
      rcases zMx_c src N M.toNat with ⟨q, _⟩ | ⟨q1, q2, q3, _⟩
      · exact q.symm
      · have := h1 _ q1 (by omega); omega
    · rw [zu_ne z]; exact h2 a a0 (by omega)
theorem mLk.edge {N M a b : Int} {f13 f14 f15 : Int → Int} {E : Int → Int → Prop} (h : mLk N M f13 f14 f15 E) (ha : 0 ≤ a ∧ a < N) (hb : 0 ≤ b ∧ b < N) : mLk N (M + 1) (zu f13 a M) (zu f14 M (f13 a)) (zu f15 M b) (zE E a b) := by
  obtain ⟨src, h0, h1, h2, h3⟩ := h
  have cg : ∀ (x : Int) (k : Nat), (k : Int) ≤ M → zMx (zu src M a) x k = zMx src x k := fun x k hk => zMx_cg k (fun e e0 e1 => zu_ne (by omega))
  have last : ∀ x : Int, zMx (zu src M a) x (M + 1).toNat = if a = x then M else zMx src x M.toNat := fun x => by
    rw [show (M + 1).toNat = M.toNat + 1 by omega]
    show (if zu src M a (M.toNat : Int) = x then ((M.toNat : Nat) : Int) else zMx (zu src M a) x M.toNat) = _
    rw [show ((M.toNat : Nat) : Int) = M by omega, zu_at, cg x _ (by omega)]
  refine ⟨zu src M a, by omega, fun e e0 e1 => ?_, fun x x0 x1 => ?_, fun x y => ?_⟩
  · by_cases z : e = M
    · rw [z, zu_at, zu_at, zu_at, cg _ _ (by omega)]
      exact ⟨ha, hb, h2 a ha.1 ha.2⟩
    · rw [zu_ne z, zu_ne z, zu_ne z, cg _ _ (by omega)]
      exact h1 e e0 (by omega)
  · rw [last]
    by_cases z : x = a
    · rw [z, zu_at, if_pos rfl]
    · rw [zu_ne z, if_neg (Ne.symm z)]; exact h2 x x0 x1
  · constructor
    · rintro (q | ⟨rfl, rfl⟩)
      · obtain ⟨e, he, k1, k2⟩ := (h3 x y).mp q
        exact ⟨e, by omega, by rw [zu_ne (by omega)]; exact k1, by rw [zu_ne (by omega)]; exact k2⟩
      · exact ⟨M, by omega, zu_at, zu_at⟩
    · rintro ⟨e, he, k1, k2⟩
      by_cases z : e = M
      · rw [z, zu_at] at k1 k2
        exact Or.inr ⟨k1.symm, k2.symm⟩
      · rw [zu_ne z] at k1 k2
        exact Or.inl ((h3 x y).mpr ⟨e, by omega, k1, k2⟩)
/-- the nodes' labels -/
def mLb (N n : Int) (f16 f19 : Int → Int) : Prop := (∀ a, 0 ≤ a → a < N → f16 a = 0 ∨ (1 ≤ f16 a ∧ f16 a ≤ n ∧ f19 (f16 a) = a + 1)) ∧ ∀ q, 1 ≤ q → q ≤ n → 1 ≤ f19 q ∧ f19 q < N ∧ f16 (f19 q - 1) = q
theorem mLb.node {N n : Int} {f16 f19 : Int → Int} (h : mLb N n f16 f19) : mLb (N + 1) n (zu f16 N 0) f19 := by
  refine ⟨fun a a0 a1 => ?_, fun q q0 q1 => ?_⟩
  · by_cases z : a = N
    · rw [z, zu_at]; exact Or.inl rfl
    · rw [zu_ne z]; exact h.1 a a0 (by omega)
  · have := h.2 q q0 q1
    rw [zu_ne (by omega)]
    exact ⟨this.1, by omega, this.2.2⟩
theorem mLb.pos {N n : Int} {f16 f19 : Int → Int} (h : mLb (N + 2) n f16 f19) (hN : 0 ≤ N) (hn : 0 ≤ n) (h1 : f16 N = 0) : mLb (N + 2) (n + 1) (zu f16 N (n + 1)) (zu f19 (n + 1) (N + 1)) := by
  refine ⟨fun a a0 a1 => ?_, fun q q0 q1 => ?_⟩
  · by_cases z : a = N
    · rw [z, zu_at, zu_at]; exact Or.inr ⟨by omega, by omega, rfl⟩
    · rw [zu_ne z]
      rcases h.1 a a0 a1 with k | k
      · exact Or.inl k
      · rw [zu_ne (by omega)]; exact Or.inr ⟨k.1, by omega, k.2.2⟩
  · by_cases z : q = n + 1
    · rw [z, zu_at, show N + 1 - 1 = N by omega, zu_at]
      exact ⟨by omega, by omega, rfl⟩
    · have k := h.2 q q0 (by omega)
      rw [zu_ne z, zu_ne (by intro c; rw [c] at k; omega)]
      exact k
/-- what the reference holds as it reads -/
def mPs (bs : Int → Int) (sz s : Int) (w0 : Int → Int) (V : Nat → Int) (C : Nat → Int → Int) (E : Int → Int → Prop) (n lp : Int) (st : Int → Int) (dep : Int) : Prop :=
  ((V 8 = 0 ∧ V 7 = sz ∧ V 36 = n ∧ V 35 = lp ∧ V 32 = dep ∧ V 9 = -1) ∧ (0 ≤ sz ∧ sz ≤ 200) ∧ (0 ≤ V 31 ∧ V 31 ≤ sz) ∧ (0 ≤ n ∧ n ≤ 24) ∧ (0 ≤ lp ∧ lp ≤ V 31) ∧ (0 ≤ dep ∧ dep ≤ 20) ∧ (s = 0 ∨ s = 1)) ∧ (C 6 = bs ∧ ∀ j, 0 ≤ j → j < sz → 0 ≤ bs j ∧ bs j < 256) ∧ mLk (V 20) (V 21) (C 13) (C 14) (C 15) E ∧ mLb (V 20) n (C 16) (C 19) ∧ (∀ a, 0 ≤ a → a < V 20 → C 17 a = 0) ∧ (∀ k, 1 ≤ k → k ≤ n → C 0 (476 * s + (31 + k)) = st k ∧ 0 ≤ st k ∧ st k ≤ 6) ∧ ∀ j, ¬ (476 * s + 32 ≤ j ∧ j ≤ 476 * s + 31 + n) → C 0 j = w0 j
/-- what is read grows -/
def mGw (V : Nat → Int) (C : Nat → Int → Int) (E : Int → Int → Prop) (n : Int) (V' : Nat → Int) (C' : Nat → Int → Int) (E' : Int → Int → Prop) (n' : Int) : Prop :=
  (V 20 ≤ V' 20 ∧ n ≤ n' ∧ V 31 ≤ V' 31) ∧ (∀ x y, x < V 20 → (E' x y ↔ E x y)) ∧ (∀ x y, V 20 ≤ x → E' x y → V 20 ≤ y) ∧ (∀ q, q ≤ n → C' 19 q = C 19 q) ∧ sV [8, 9, 20, 21, 31, 32, 33, 34, 35, 36] V V' ∧ sC [0, 13, 14, 15, 16, 17, 19] C C'
