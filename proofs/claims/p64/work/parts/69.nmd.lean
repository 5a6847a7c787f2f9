/-! ===== the class: setNight, meanSetSize, isDeterministicAt ===== -/
theorem zsum_sh {f : Int → Int} : ∀ n : Nat, zsum f (n + 1) = f 0 + zsum (fun j => f (j + 1)) n
  | 0 => by
    show 0 + f 0 = f 0 + 0
    omega
  | n + 1 => by
    have h := zsum_sh (f := f) n
    have e : ((n + 1 : Nat) : Int) = (n : Int) + 1 := by omega
    show zsum f (n + 1) + f ((n + 1 : Nat) : Int) = f 0 + (zsum (fun j => f (j + 1)) n + f ((n : Int) + 1))
    rw [h, e]
    omega
theorem zsum_cut {f : Int → Int} {n : Nat} : ∀ k : Nat, (∀ j : Int, n ≤ j → j < n + k → f j = 0) → zsum f (n + k) = zsum f n
  | 0, _ => rfl
  | k + 1, h => by
    show zsum f (n + k) + f ((n + k : Nat) : Int) = zsum f n
    rw [zsum_cut k (fun j j0 j1 => h j j0 (by omega)), h _ (by omega) (by omega)]
    omega
theorem zpc_sum : ∀ (k m : Nat), zpc k m = zsum (fun j => zb (m.testBit j.toNat = true)) k
  | 0, _ => rfl
  | k + 1, m => by
    rw [zsum_sh]
    show ((m % 2 : Nat) : Int) + zpc k (m / 2) = zb (m.testBit (0 : Int).toNat = true) + zsum (fun j => zb (m.testBit (j + 1).toNat = true)) k
    rw [zpc_sum k (m / 2)]
    have e1 : zb (m.testBit (0 : Int).toNat = true) = ((m % 2 : Nat) : Int) := by
      show zb (m.testBit 0 = true) = _
      rw [Nat.testBit_zero]
      by_cases z : m % 2 = 1
      · rw [zb_t (by simp [z]), z]; rfl
      · rw [zb_f (by simp [z])]; omega
    have e2 : zsum (fun j => zb ((m / 2).testBit j.toNat = true)) k = zsum (fun j => zb (m.testBit (j + 1).toNat = true)) k := zsum_cg k (fun j j0 j1 => by
      rw [show (j + 1).toNat = j.toNat + 1 by omega, Nat.testBit_succ])
    rw [e1, e2]
/-- the bits of a mask up to n -/
theorem zpc_31 {m : Int} {n : Nat} (hn : n ≤ 31) (h : ∀ j : Int, n ≤ j → j < 31 → ¬ zt m j) : zpc 31 m.toNat = zsum (fun j => zb (zt m j)) n := by
  rw [zpc_sum]
  obtain ⟨k, hk⟩ : ∃ k, 31 = n + k := ⟨31 - n, by omega⟩
  rw [hk]
  exact zsum_cut (f := fun j => zb (zt m j)) k (fun j j0 j1 => zb_f (h j j0 (by omega)))
theorem zt_hi {m j : Int} {n : Nat} (h : m < 2 ^ n) (hj : (n : Int) ≤ j) : ¬ zt m j := by
  unfold zt
  rw [Nat.testBit_lt_two_pow (Nat.lt_of_lt_of_le (show m.toNat < 2 ^ n from by
    have e : ((2 ^ n : Nat) : Int) = (2 : Int) ^ n := by norm_cast
    have : 0 < 2 ^ n := Nat.pow_pos (by decide)
    omega) (Nat.pow_le_pow_right (by decide) (by omega)))]
  decide
theorem zt_za {a b j : Int} : zt (za a b) j ↔ zt a j ∧ zt b j := by
  unfold zt za
  rw [Int.toNat_natCast, Nat.testBit_and, Bool.and_eq_true]
section C69a
variable {V V' : Nat → Int} {C C' : Nat → Int → Int} {J J' : c_J} {w w' : Int → Int} {p : c_P} {s q c x : Int}
/-- the positions that follow and a street leads to -/
theorem zFol (hr : cPt p w s) (hO : wP w s) (hc : 0 ≤ c ∧ c < 6) : zpc 31 (za (w (476 * s + (6 + q))) (p.2.1 2 c)).toNat = wFol w s q c := by
  have o0 := hO.1
  have h3 := (hr.2.2.1 c hc.1 hc.2)
  rw [zpc_31 (n := 31) (Nat.le_refl _) (fun j j0 j1 => by omega)]
  show zsum _ (30 + 1) = _
  rw [zsum_sh, zb_f (fun z => by have := ((h3.2 0 (by decide)).mp (zt_za.mp z).2).1; omega)]
  unfold wFol
  obtain ⟨k, hk⟩ : ∃ k, 30 = (w (476 * s + 0)).toNat + k := ⟨30 - (w (476 * s + 0)).toNat, by omega⟩
  rw [hk, zsum_cut k (fun j j0 j1 => zb_f (fun z => by have := ((h3.2 (j + 1) (by omega)).mp (zt_za.mp z).2).1; omega)), Int.zero_add]
  refine zsum_cg _ (fun j j0 j1 => zb_c ?_)
  rw [zt_za, h3.2 (j + 1) (by omega)]
  exact ⟨fun z => ⟨z.1, z.2.2⟩, fun z => ⟨z.1, ⟨by omega, by omega⟩, z.2⟩⟩
theorem zOpen (hm : 0 ≤ x ∧ x < 64) (h : ∀ c, 0 ≤ c → c < 6 → (zt x c ↔ w (971 + 2 * c + w 983) = 1)) : zpc 31 x.toNat = wOpen w := by
  rw [zpc_31 (n := 6) (by decide) (fun j j0 j1 => zt_hi (n := 6) hm.2 j0)]
  exact zsum_cg _ (fun j j0 j1 => zb_c (h j j0 j1))
theorem cNow.night (h : cNow V C J w) (hO : wOK w) : cNow (vu V 20 x) C J (zu w 983 x) := by
  have h6 := hO.2.1
  have lo : ∀ j, j ≠ 983 → zu w 983 x j = w j := fun j hj => zu_ne hj
  refine ⟨⟨?_, ?_, ?_⟩, fun q q0 q1 => ?_, ⟨h.2.2.1.1, fun c c0 c1 => ?_, fun c c0 c1 => ?_⟩, h.pp hO (fun j a b => lo j (by omega))⟩
  · rw [zu_at]; rfl
  · rw [lo _ (by decide)]; exact h.1.2.1
  · rw [lo _ (by decide)]; exact h.1.2.2
  · rw [lo _ (by decide)] at q1
    rw [lo _ (by omega), lo _ (by omega), lo _ (by omega)]
    exact h.k q0 q1
  · rw [lo _ (by omega)]; exact h.2.2.1.2.1 c c0 c1
  · rw [lo _ (by omega)]; exact h.2.2.1.2.2 c c0 c1
end C69a
