/-! ===== more on integers ===== -/
def zs (m p : Int) : Int := ((m.toNat >>> p.toNat : Nat) : Int)
def zp (p : Int) : Int := ((2 ^ p.toNat : Nat) : Int)
theorem zs_nn {m p : Int} : 0 ≤ zs m p := Int.natCast_nonneg _
theorem zp_nn {p : Int} : 0 ≤ zp p := Int.natCast_nonneg _
theorem za_nn {a b : Int} : 0 ≤ za a b := Int.natCast_nonneg _
theorem zo_nn {a b : Int} : 0 ≤ zo a b := Int.natCast_nonneg _
theorem za_le {a b : Int} (ha : 0 ≤ a) : za a b ≤ a := by
  unfold za
  have := @Nat.and_le_left a.toNat b.toNat
  omega
theorem za_le2 {a b : Int} (ha : 0 ≤ b) : za a b ≤ b := by
  unfold za
  have := @Nat.and_le_right a.toNat b.toNat
  omega
theorem zo_lt {a b : Int} {n : Nat} (ha : a < 2 ^ n) (hb : b < 2 ^ n) : zo a b < 2 ^ n := by
  unfold zo
  have h1 : a.toNat < 2 ^ n := by have : ((2 ^ n : Nat) : Int) = 2 ^ n := by norm_cast
                                  have : 0 < (2 : Nat) ^ n := Nat.two_pow_pos n
                                  omega
  have h2 : b.toNat < 2 ^ n := by have : ((2 ^ n : Nat) : Int) = 2 ^ n := by norm_cast
                                  have : 0 < (2 : Nat) ^ n := Nat.two_pow_pos n
                                  omega
  have := Nat.or_lt_two_pow h1 h2
  exact_mod_cast this
theorem zs_1 {m p : Int} : za (zs m p) 1 = zb (zt m p) := by
  unfold za zs zb zt
  rw [Int.toNat_natCast, show (1 : Int).toNat = 1 from rfl, Nat.and_one_is_mod, Nat.shiftRight_eq_div_pow, ← Nat.toNat_testBit]
  cases m.toNat.testBit p.toNat <;> rfl
theorem za_1 {a : Int} (h : 0 ≤ a) : za a 1 = a % 2 := by
  unfold za
  rw [show (1 : Int).toNat = 1 from rfl, Nat.and_one_is_mod]
  omega
theorem iI_shl1n : ∀ n, n < 31 → (1 : Int32) <<< (nI n &&& 31) = nI (2 ^ n) := by decide
theorem iI_shl1 {p : Int} (h : 0 ≤ p ∧ p < 31) : iI 1 <<< (iI p &&& 31) = iI (zp p) := by
  unfold zp
  rw [iI_nat, iI_nn h.1]
  exact iI_shl1n _ (by omega)
theorem iI_shn : ∀ n, n < 32 → ((nI n &&& 31).toBitVec.smod 32).toNat = n := by decide
theorem iI_shr {m p : Int} (hm : 0 ≤ m ∧ m < 2147483648) (hp : 0 ≤ p ∧ p < 32) : iI m >>> (iI p &&& 31) = iI (zs m p) := by
  unfold zs
  rw [iI_nn hm.1, iI_nn hp.1, pk_shrN (by omega) _ p.toNat (iI_shn _ (by omega)), iI_nat, Nat.shiftRight_eq_div_pow]
theorem iI_char {x : Int} (h : 0 ≤ x ∧ x < 65536) : vp_nar .char (iI x) = iI x := by
  rw [iI_nn h.1]
  unfold vp_nar
  rw [(pk_charN (q := x.toNat) (by omega)).1]
theorem iI_i2c {x : Int} (h : 0 ≤ x ∧ x < 65536) : ((iI x).toUInt32 % 65536).toInt32 = iI x := by
  rw [pk_char, iI_nn h.1, pk_tn (by omega), Nat.mod_eq_of_lt (by omega)]
theorem iI_i2l {x : Int} (h : -2147483648 ≤ x ∧ x < 2147483648) : (iI x).toInt64 = lI x := Int32.toInt64_ofInt (by show -2147483648 ≤ x; omega) (by show x ≤ 2147483647; omega)
/-- the sign of a comparison -/
def lcz (a b : Int) : Int := if a < b then -1 else if a = b then 0 else 1
theorem lI_cmp {a b : Int} (ha : -9223372036854775808 ≤ a ∧ a < 9223372036854775808) (hb : -9223372036854775808 ≤ b ∧ b < 9223372036854775808) : lg_cmp (lI a) (lI b) = iI (lcz a b) := by
  have h1 : (lI a > lI b) ↔ b < a := by
    show lI b < lI a ↔ _
    rw [Int64.lt_iff_toInt_lt, lI_toInt ha, lI_toInt hb]
  have h2 : (lI a = lI b) ↔ a = b := ⟨fun q => by have := congrArg Int64.toInt q; rwa [lI_toInt ha, lI_toInt hb] at this, fun q => by rw [q]⟩
  unfold lg_cmp lcz
  by_cases q1 : b < a
  · rw [if_pos (h1.mpr q1), if_neg (by omega), if_neg (by omega)]; rfl
  · rw [if_neg (fun q => q1 (h1.mp q))]
    by_cases q2 : a = b
    · rw [if_pos (h2.mpr q2), if_neg (by omega), if_pos q2]; rfl
    · rw [if_neg (fun q => q2 (h2.mp q)), if_pos (by omega)]; rfl
theorem lc_rg {a b : Int} : -2147483648 ≤ lcz a b ∧ lcz a b < 2147483648 := by
  unfold lcz
  split
  · decide
  · split <;> decide
theorem lc_lt {a b : Int} (h : lcz a b < 0) : a < b := by
  unfold lcz at h
  split at h
  · assumption
  · split at h <;> omega
theorem lc_ge {a b : Int} (h : 0 ≤ lcz a b) : b ≤ a := by
  unfold lcz at h
  split at h <;> omega
theorem lc_le {a b : Int} (h : lcz a b ≤ 0) : a ≤ b := by
  unfold lcz at h
  split at h
  · omega
  · split at h <;> omega
theorem lc_gt {a b : Int} (h : 0 < lcz a b) : b < a := by
  unfold lcz at h
  split at h
  · omega
  · split at h <;> omega
/-- a call's locals may be fewer -/
def p_subL : p_LL → p_LL → Prop
  | [], _ => True
  | none :: a, [] => p_subL a []
  | none :: a, _ :: b => p_subL a b
  | some _ :: _, [] => False
  | some v :: a, x :: b => x = some v ∧ p_subL a b
theorem p_subL.at : ∀ {A B : p_LL}, p_subL A B → ∀ (i : Nat) (v : Value), A[i]? = some (some v) → B[i]? = some (some v)
  | [], _, _, i, v, h => by simp at h
  | none :: a, [], q, i, v, h => by
    match i, h with
    | 0, h => simp at h
    | i + 1, h =>
      have := p_subL.at (A := a) (B := []) q i v (by simpa using h)
      simp at this
  | none :: a, x :: b, q, i, v, h => by
    match i, h with
    | 0, h => simp at h
    | i + 1, h => simpa using p_subL.at (A := a) (B := b) q i v (by simpa using h)
  | some u :: a, [], q, i, v, h => q.elim
  | some u :: a, x :: b, q, i, v, h => by
    match i, h with
    | 0, h =>
      have : u = v := by simpa using h
      subst this
      simpa using q.1
    | i + 1, h => simpa using p_subL.at (A := a) (B := b) q.2 i v (by simpa using h)
theorem subL_nil {B : p_LL} : p_subL [] B := trivial
theorem subL_n {a b : p_LL} {x : Option Value} (h : p_subL a b) : p_subL (none :: a) (x :: b) := h
theorem subL_s {a b : p_LL} {x : Option Value} (h : p_subL a b) : p_subL (x :: a) (x :: b) := by
  cases x with
  | none => exact h
  | some v => exact ⟨Eq.refl _, h⟩
/-- all but the rows and numbers named are the same -/
def sC (S : List Nat) (C C' : Nat → Int → Int) : Prop := ∀ i, i ∉ S → C' i = C i
def sV (S : List Nat) (V V' : Nat → Int) : Prop := ∀ i, i ∉ S → V' i = V i
theorem sC.rfl {S : List Nat} {C : Nat → Int → Int} : sC S C C := fun _ _ => Eq.refl _
theorem sV.rfl {S : List Nat} {C : Nat → Int} : sV S C C := fun _ _ => Eq.refl _
theorem sC.cu {S : List Nat} {C C' : Nat → Int → Int} {k : Nat} {f : Int → Int} (h : sC S C C') (hk : k ∈ S) : sC S C (cu C' k f) := fun i hi => (if_neg (fun (e : i = k) => hi (e ▸ hk))).trans (h i hi)
theorem sV.vu {S : List Nat} {C C' : Nat → Int} {k : Nat} {f : Int} (h : sV S C C') (hk : k ∈ S) : sV S C (vu C' k f) := fun i hi => (if_neg (fun (e : i = k) => hi (e ▸ hk))).trans (h i hi)
theorem sC.tr {S T : List Nat} {A B C : Nat → Int → Int} (h : sC S A B) (h2 : sC T B C) (hT : ∀ i, i ∈ T → i ∈ S) : sC S A C := fun i hi => (h2 i (fun e => hi (hT i e))).trans (h i hi)
theorem sC.t2 {S T U : List Nat} {A B C : Nat → Int → Int} (h : sC S A B) (h2 : sC T B C) (hS : ∀ i, i ∈ S → i ∈ U) (hT : ∀ i, i ∈ T → i ∈ U) : sC U A C := fun i hi => (h2 i (fun e => hi (hT i e))).trans (h i (fun e => hi (hS i e)))
theorem sV.t2 {S T U : List Nat} {A B C : Nat → Int} (h : sV S A B) (h2 : sV T B C) (hS : ∀ i, i ∈ S → i ∈ U) (hT : ∀ i, i ∈ T → i ∈ U) : sV U A C := fun i hi => (h2 i (fun e => hi (hT i e))).trans (h i (fun e => hi (hS i e)))
theorem sV.tr {S T : List Nat} {A B C : Nat → Int} (h : sV S A B) (h2 : sV T B C) (hT : ∀ i, i ∈ T → i ∈ S) : sV S A C := fun i hi => (h2 i (fun e => hi (hT i e))).trans (h i hi)
section M09
variable {G : p_G} {Y : Nat → Nat} {h0 : p_H} {d : Nat} {V : Nat → Int} {C : Nat → Int → Int} {J : Int → Int}
theorem zb_c {p q : Prop} [Decidable p] [Decidable q] (h : p ↔ q) : zb p = zb q := by unfold zb; by_cases c : p <;> simp [c, h.mp, ← h]
def wP (w : Int → Int) (s : Int) : Prop := (0 ≤ w (476 * s + 0) ∧ w (476 * s + 0) ≤ 24) ∧ (w (476 * s + 1) = 0 ∨ w (476 * s + 1) = 1) ∧ (∀ k, 0 ≤ k → k < 116 → 0 ≤ w (476 * s + k) ∧ w (476 * s + k) < 33554432) ∧ (1 ≤ w (476 * s + 5) ∧ w (476 * s + 5) ≤ 60) ∧ (∀ p, 1 ≤ p → p ≤ 24 → 0 ≤ w (476 * s + (31 + p)) ∧ w (476 * s + (31 + p)) ≤ 6) ∧ ∀ t c, 0 ≤ t → t < w (476 * s + 5) → 0 ≤ c → c < 6 → 0 ≤ w (476 * s + (116 + 6 * t + c)) ∧ w (476 * s + (116 + 6 * t + c)) < w (476 * s + 5)
def wOK (w : Int → Int) : Prop := (∀ s, s = 0 ∨ s = 1 → wP w s) ∧ (0 ≤ w 952 ∧ w 952 ≤ 6) ∧ (∀ k, 0 ≤ k → k < w 952 → (w (953 + 3 * k + 0) = 0 ∨ w (953 + 3 * k + 0) = 1) ∧ 0 ≤ w (953 + 3 * k + 1) ∧ w (953 + 3 * k + 1) < w (476 * w (953 + 3 * k + 0) + 5)) ∧ (∀ c b, 0 ≤ c → c < 6 → b = 0 ∨ b = 1 → w (971 + 2 * c + b) = 0 ∨ w (971 + 2 * c + b) = 1) ∧ (w 983 = 0 ∨ w 983 = 1)
/-- accepting states -/
abbrev wAcc (w : Int → Int) (s t : Int) : Prop := za (w (476 * s + (56 + t))) (w (476 * s + 3)) ≠ 0 ∨ w (476 * s + (56 + t)) % 2 = 1 ∧ w (476 * s + 1) = 1
end M09
