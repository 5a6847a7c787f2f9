/-! ===== the reference: words counted and written ===== -/
/-- the number of words of a length that are accepted from a state -/
def wCW (w : Int → Int) (s : Int) : Nat → Int → Int
  | 0, t => zb (wAcc w s t)
  | k + 1, t => zsum (fun c => wCW w s k (w (476 * s + (116 + 6 * t + c)))) 6
abbrev wNx (w : Int → Int) (s : Int) (k : Int) (t : Int) : Int → Int := fun c => wCW w s k.toNat (w (476 * s + (116 + 6 * t + c)))
theorem wCW_s {w : Int → Int} {s k t : Int} (h : 0 < k) : wCW w s k.toNat t = zsum (wNx w s (k - 1) t) 6 := by
  rw [show k.toNat = (k - 1).toNat + 1 by omega]
  rfl
theorem zsum_le {f : Int → Int} {b : Int} : ∀ n : Nat, (∀ j : Int, 0 ≤ j → j < n → 0 ≤ f j ∧ f j ≤ b) → 0 ≤ zsum f n ∧ zsum f n ≤ n * b
  | 0, _ => ⟨Int.le_refl _, by show (0 : Int) ≤ ((0 : Nat) : Int) * b; omega⟩
  | n + 1, h => by
    have h1 := zsum_le n (fun j a b => h j a (by omega))
    have h2 := h n (by omega) (by omega)
    show 0 ≤ zsum f n + f n ∧ zsum f n + f n ≤ ((n + 1 : Nat) : Int) * b
    have e : ((n + 1 : Nat) : Int) * b = (n : Int) * b + b := by
      rw [show ((n + 1 : Nat) : Int) = (n : Int) + 1 by omega, Int.add_mul, Int.one_mul]
    omega
theorem wCW_rg {w : Int → Int} {s : Int} : ∀ (k : Nat) (t : Int), 0 ≤ wCW w s k t ∧ wCW w s k t ≤ 6 ^ k
  | 0, t => by
    have := @zb_01 (wAcc w s t) _
    show 0 ≤ zb (wAcc w s t) ∧ zb (wAcc w s t) ≤ 6 ^ 0
    omega
  | k + 1, t => by
    have h := zsum_le (f := fun c => wCW w s k (w (476 * s + (116 + 6 * t + c)))) (b := 6 ^ k) 6 (fun j _ _ => wCW_rg k _)
    show 0 ≤ zsum (fun c => wCW w s k (w (476 * s + (116 + 6 * t + c)))) 6 ∧ zsum (fun c => wCW w s k (w (476 * s + (116 + 6 * t + c)))) 6 ≤ 6 ^ (k + 1)
    rw [Int.pow_succ]
    omega
theorem wCW_20 {w : Int → Int} {s k t : Int} (hk : k ≤ 20) : 0 ≤ wCW w s k.toNat t ∧ wCW w s k.toNat t ≤ 3656158440062976 := by
  have h := @wCW_rg w s k.toNat t
  have h2 : (6 : Int) ^ k.toNat ≤ 6 ^ 20 := by
    have : (6 : Nat) ^ k.toNat ≤ 6 ^ 20 := Nat.pow_le_pow_right (by decide) (by omega)
    exact_mod_cast this
  have h3 : (6 : Int) ^ 20 = 3656158440062976 := by decide
  omega
/-- the word with a number: its letters behind place o -/
def wWord (w : Int → Int) (s : Int) (r : Int → Int) : Nat → Int → Int → Int → Prop
  | 0, _, _, _ => True
  | k + 1, t, x, o => ∃ c, (0 ≤ c ∧ c < 6) ∧ zsum (wNx w s k t) c.toNat ≤ x ∧ x < zsum (wNx w s k t) (c + 1).toNat ∧ r o = 97 + c ∧ wWord w s r k (w (476 * s + (116 + 6 * t + c))) (x - zsum (wNx w s k t) c.toNat) (o + 1)
