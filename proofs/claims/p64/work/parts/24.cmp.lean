/-! ===== the reference: the two patterns compared, both home, ways written ===== -/
/-- the length of the least word that leads to G; -1 -/
def zLen (nx : Int → Int → Int) (al : Int → Prop) (s0 : Int) (G : Int → Prop) (r : Int) : Prop := (∃ n, zMin nx al s0 G n ∧ r = (zln n : Int)) ∨ (zNo nx al s0 G ∧ r = -1)
theorem wFin_rg {w : Int → Int} {v e : Int} {Q : Int → Int} {A : Prop} {B : Int → Prop} (h : (v = -1 ∧ A) ∨ (0 ≤ v ∧ ∃ i, 0 ≤ i ∧ i < e ∧ v = Q i ∧ B i)) (hQ : ∀ i, 0 ≤ i → i < e → wVal w 0 1 (Q i)) : -1 ≤ v ∧ v < 3600 := by
  rcases h with ⟨q, _⟩ | ⟨q0, i, i0, i1, q, _⟩
  · omega
  · have := hQ i i0 i1
    unfold wVal at this
    omega
/-- how many pairs words reach -/
noncomputable def wCnt (w : Int → Int) : Int := zsum (fun y => zc (∃ n, zal zTr n ∧ zrun (wNx2 w 0 1) 0 n = y)) 3600
/-- a pair that tells that a pattern isn't a part of the other -/
abbrev wG2 (w : Int → Int) (s : Int) : Int → Prop := fun y => if s = 0 then wAcc w 0 (y / 60) ∧ ¬ wAcc w 1 (y % 60) else wAcc w 1 (y % 60) ∧ ¬ wAcc w 0 (y / 60)
theorem zsum_add {f g h : Int → Int} : ∀ n : Nat, (∀ j : Int, 0 ≤ j → j < n → f j + g j = h j) → zsum f n + zsum g n = zsum h n
  | 0, _ => rfl
  | n + 1, q => by
    have h1 := zsum_add n (fun j a b => q j a (by omega))
    have h2 := q n (by omega) (by omega)
    show zsum f n + f n + (zsum g n + g n) = zsum h n + h n
    omega
theorem wPr.cnt {w : Int → Int} {V : Nat → Int} {C : Nat → Int → Int} {e : Int} {cd : Int → Nat} (h : wPr w V C e e 0 cd) : e = wCnt w := by
  have h1 := h.1.2.2.2.1
  have h2 : zsum (fun y => zc (∃ n, zal zTr n ∧ zrun (wNx2 w 0 1) 0 n = y)) 3600 + zsum (fun y => zb (C 26 y = -1)) 3600 = zsum (fun _ => 1) 3600 := by
    refine zsum_add 3600 (fun y y0 y1 => ?_)
    have q := h.1.1.re y
    by_cases z : C 26 y = -1
    · rw [zb_t z, zc_f (fun p => (q.mpr p).2 z)]; rfl
    · rw [zb_f z, zc_t (q.mp ⟨⟨y0, y1⟩, z⟩)]; rfl
  rw [zsum_1 (f := fun _ => 1) 3600 (fun _ _ _ => rfl)] at h2
  have h3 : zun (C 26) 3600 = zsum (fun y => zb (C 26 y = -1)) 3600 := rfl
  rw [h3] at h1
  unfold wCnt
  omega
/-- the letters of a word, from the last -/
def zdig : Nat → Nat → Int
  | n, 0 => (((n - 1) % 6 : Nat) : Int)
  | n, m + 1 => zdig ((n - 1) / 6) m
theorem zdig_0 {n c : Nat} (h : c < 6) : zdig (6 * n + c + 1) 0 = (c : Int) := by
  show (((6 * n + c + 1 - 1) % 6 : Nat) : Int) = _
  omega
theorem zdig_s {n c m : Nat} (h : c < 6) : zdig (6 * n + c + 1) (m + 1) = zdig n m := by
  show zdig ((6 * n + c + 1 - 1) / 6) m = _
  rw [show (6 * n + c + 1 - 1) / 6 = n by omega]
/-- the report of a word -/
def zWrt (n : Nat) (r : Int → Int) : Prop := ∀ i, 0 ≤ i → i < (zln n : Int) → r i = 97 + zdig n ((zln n : Int) - 1 - i).toNat
