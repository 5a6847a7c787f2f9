/-! ===== the reference: copies, leaving walkers, the night, walks ===== -/
/-- sums -/
def zsum (f : Int → Int) : Nat → Int
  | 0 => 0
  | n + 1 => zsum f n + f (n : Int)
theorem zsum_s {f : Int → Int} {k : Int} (h : 0 ≤ k) : zsum f (k + 1).toNat = zsum f k.toNat + f k := by
  rw [show (k + 1).toNat = k.toNat + 1 by omega]
  show zsum f k.toNat + f (k.toNat : Int) = _
  rw [Int.toNat_of_nonneg h]
/-- a pattern is copied into the other slot -/
def wCopy (w : Int → Int) (s : Int) : Int → Int := fun j => if 476 * (1 - s) + 0 ≤ j ∧ j < 476 * (1 - s) + 476 then w (j - 476 * (1 - s) + 476 * s) else w j
/-- a walker leaves -/
def wDrop (w : Int → Int) (p : Int) : Int → Int := fun j => if j = 952 then w 952 - 1 else if 953 + 3 * p ≤ j ∧ j < 953 + 3 * (w 952 - 1) then w (j + 3) else if 953 + 3 * (w 952 - 1) ≤ j ∧ j < 953 + 3 * (w 952 - 1) + 3 then 0 else w j
/-- how many streets are passable -/
def wOpen (w : Int → Int) : Int := zsum (fun c => zb (w (971 + 2 * c + w 983) = 1)) 6
/-- a walk along a word -/
def wWalk (w b : Int → Int) (p : Int) : Nat → Int → Int
  | 0 => w
  | n + 1 => wStep (wWalk w b p n) p (b (n : Int) - 97)
def wCan (w b : Int → Int) (i : Int) : Prop := 0 ≤ b i - 97 ∧ b i - 97 ≤ 5 ∧ w (971 + 2 * (b i - 97) + w 983) = 1
theorem wWalk_s {w b : Int → Int} {p k : Int} (h : 0 ≤ k) : wWalk w b p (k + 1).toNat = wStep (wWalk w b p k.toNat) p (b k - 97) := by
  rw [show (k + 1).toNat = k.toNat + 1 by omega]
  show wStep (wWalk w b p k.toNat) p (b (k.toNat : Int) - 97) = _
  rw [Int.toNat_of_nonneg h]
theorem wWalk_lo {w b : Int → Int} {p : Int} (hp : 0 ≤ p ∧ p < 6) : ∀ (n : Nat) (j : Int), (j < 953 ∨ 971 ≤ j ∧ j ≤ 983) → wWalk w b p n j = w j
  | 0, _, _ => rfl
  | n + 1, j, h => (wStep_lo hp h).trans (wWalk_lo hp n j h)
theorem wWalk_ok {w b : Int → Int} {p : Int} (hO : wOK w) (hp : 0 ≤ p ∧ p < w 952) : ∀ (n : Nat), (∀ i : Int, 0 ≤ i → i < n → wCan w b i) → wOK (wWalk w b p n)
  | 0, _ => hO
  | n + 1, h => by
    have h6 := hO.2.1
    have hc := h n (by omega) (by omega)
    refine wStep_ok (wWalk_ok hO hp n (fun i a c => h i a (by omega))) ?_ ?_
    · rw [wWalk_lo (by omega) n 952 (by omega)]; exact hp
    · unfold wCan at hc; omega
theorem wOK.zn {w : Int → Int} (hO : wOK w) {a : Int} (ha : a = 0 ∨ a = 1) : wOK (zu w 983 a) := by
  have h6 := hO.2.1
  refine ⟨fun s hs => (hO.1 s hs).cg hs (fun j a b => zu_ne (by omega)), ?_, fun k k0 k1 => ?_, fun c' b c0 c1 hb => ?_, ?_⟩
  · rw [zu_ne (by omega)]; exact h6
  · rw [zu_ne (by omega)] at k1
    have q := hO.wk k0 k1
    rw [zu_ne (by omega), zu_ne (by omega), zu_ne (by omega)]
    exact q
  · rw [zu_ne (by omega)]; exact hO.gate c0 c1 hb
  · rw [zu_at]; exact ha
