/-! ===== the reference: the deterministic automaton ===== -/
/-- the shape of a pattern's numbers ahead of its states -/
def wRaw (w : Int → Int) (s : Int) : Prop := (0 ≤ w (476 * s + 0) ∧ w (476 * s + 0) ≤ 24) ∧ (∀ k, k = 2 ∨ k = 3 ∨ 6 ≤ k ∧ k ≤ 30 → 0 ≤ w (476 * s + k) ∧ w (476 * s + k) < 33554432) ∧ ∀ p, 1 ≤ p → p ≤ 24 → 0 ≤ w (476 * s + (31 + p)) ∧ w (476 * s + (31 + p)) ≤ 6
/-- the positions behind a set, of the first k -/
def wAft (w : Int → Int) (s y : Int) : Nat → Int
  | 0 => if y % 2 = 1 then w (476 * s + 2) else 0
  | k + 1 => zo (wAft w s y k) (if zt y ((k : Int) + 1) then w (476 * s + (6 + ((k : Int) + 1))) else 0)
/-- those of a street -/
def wThen (w : Int → Int) (s a c : Int) : Nat → Int
  | 0 => 0
  | k + 1 => zo (wThen w s a c k) (if zt a ((k : Int) + 1) ∧ (w (476 * s + (31 + ((k : Int) + 1))) = 6 ∨ w (476 * s + (31 + ((k : Int) + 1))) = c) then zp ((k : Int) + 1) else 0)
def wLead (w : Int → Int) (s y c : Int) : Int := wThen w s (wAft w s y (w (476 * s + 0)).toNat) c (w (476 * s + 0)).toNat
theorem wAft_s {w : Int → Int} {s y p : Int} (h : 1 ≤ p) : wAft w s y p.toNat = zo (wAft w s y (p - 1).toNat) (if zt y p then w (476 * s + (6 + p)) else 0) := by
  obtain ⟨k, rfl⟩ : ∃ k : Nat, p = (k : Int) + 1 := ⟨(p - 1).toNat, by omega⟩
  refine (congrArg (wAft w s y) (show ((k : Int) + 1).toNat = k + 1 by omega)).trans ?_
  rw [show ((k : Int) + 1 - 1).toNat = k by omega]
  rfl
theorem wThen_s {w : Int → Int} {s a c p : Int} (h : 1 ≤ p) : wThen w s a c p.toNat = zo (wThen w s a c (p - 1).toNat) (if zt a p ∧ (w (476 * s + (31 + p)) = 6 ∨ w (476 * s + (31 + p)) = c) then zp p else 0) := by
  obtain ⟨k, rfl⟩ : ∃ k : Nat, p = (k : Int) + 1 := ⟨(p - 1).toNat, by omega⟩
  refine (congrArg (wThen w s a c) (show ((k : Int) + 1).toNat = k + 1 by omega)).trans ?_
  rw [show ((k : Int) + 1 - 1).toNat = k by omega]
  rfl
theorem zo_rg {a b : Int} (ha : 0 ≤ a ∧ a < 33554432) (hb : 0 ≤ b ∧ b < 33554432) : 0 ≤ zo a b ∧ zo a b < 33554432 := by
  have h := @zo_lt a b 25 (by simpa using ha.2) (by simpa using hb.2)
  exact ⟨zo_nn, by simpa using h⟩
theorem zp_rg {p : Int} (h : p ≤ 24) : 0 ≤ zp p ∧ zp p < 33554432 := by
  refine ⟨zp_nn, ?_⟩
  unfold zp
  have : (2 : Nat) ^ p.toNat ≤ 2 ^ 24 := Nat.pow_le_pow_right (by decide) (by omega)
  omega
theorem wAft_rg {w : Int → Int} {s y : Int} (hR : wRaw w s) : ∀ k : Nat, k ≤ 24 → 0 ≤ wAft w s y k ∧ wAft w s y k < 33554432
  | 0, _ => by
    have := hR.2.1 2 (by decide)
    show 0 ≤ (if y % 2 = 1 then w (476 * s + 2) else 0) ∧ (if y % 2 = 1 then w (476 * s + 2) else 0) < 33554432
    split <;> omega
  | k + 1, h => by
    refine zo_rg (wAft_rg hR k (by omega)) ?_
    have := hR.2.1 (6 + ((k : Int) + 1)) (by omega)
    split <;> omega
theorem wThen_rg {w : Int → Int} {s a c : Int} : ∀ k : Nat, k ≤ 24 → 0 ≤ wThen w s a c k ∧ wThen w s a c k < 33554432
  | 0, _ => by
    show 0 ≤ (0 : Int) ∧ (0 : Int) < 33554432
    decide
  | k + 1, h => by
    refine zo_rg (wThen_rg k (by omega)) ?_
    have := @zp_rg ((k : Int) + 1) (by omega)
    split <;> omega
theorem wLead_rg {w : Int → Int} {s y c : Int} (hR : wRaw w s) : 0 ≤ wLead w s y c ∧ wLead w s y c < 33554432 := wThen_rg _ (by have := hR.1; omega)
