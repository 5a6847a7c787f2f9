/-! ===== the class: a walker leaves, gates ===== -/
theorem zg_xn : ∀ c, c < 6 → nI (2 ^ c) ^^^ (-1 : Int32) = Int32.ofInt (-1 - ((2 ^ c : Nat) : Int)) := by decide
theorem zg_an : ∀ a, a < 64 → ∀ c, c < 6 → nI a &&& Int32.ofInt (-1 - ((2 ^ c : Nat) : Int)) = nI (a &&& (63 - 2 ^ c)) := by decide
theorem zg_tn : ∀ c, c < 6 → ∀ q, q < 6 → (63 - 2 ^ c).testBit q = decide (q ≠ c) := by decide
theorem zg_zn : ∀ a, a < 64 → ∀ c, c < 6 → ((a &&& 2 ^ c ≠ 0) ↔ a.testBit c = true) := by decide
theorem zg_x {c : Int} (h : 0 ≤ c ∧ c < 6) : iI (zp c) ^^^ iI (-1) = iI (-1 - zp c) := by
  have := zg_xn c.toNat (by omega)
  unfold zp
  rw [iI_nat]
  exact this
/-- a mask without c -/
def zcl (a c : Int) : Int := za a (63 - zp c)
theorem zg_p {c : Int} (h : 0 ≤ c ∧ c < 6) : (63 - zp c).toNat = 63 - 2 ^ c.toNat ∧ 2 ^ c.toNat ≤ 32 := by
  have : 2 ^ c.toNat ≤ 2 ^ 5 := Nat.pow_le_pow_right (by decide) (by omega)
  unfold zp
  omega
theorem zg_a {a c : Int} (ha : 0 ≤ a ∧ a < 64) (h : 0 ≤ c ∧ c < 6) : iI a &&& iI (-1 - zp c) = iI (zcl a c) := by
  have := zg_an a.toNat (by omega) c.toNat (by omega)
  unfold zcl za
  rw [(zg_p h).1, iI_nn ha.1, iI_nat]
  exact this
theorem zcl_rg {a c : Int} (ha : 0 ≤ a ∧ a < 64) : 0 ≤ zcl a c ∧ zcl a c < 64 := by
  have h1 := @za_nn a (63 - zp c)
  have h2 := @za_le a (63 - zp c) ha.1
  unfold zcl
  omega
theorem zt_zcl {a c q : Int} (h : 0 ≤ c ∧ c < 6) (hq : 0 ≤ q ∧ q < 6) : zt (zcl a c) q ↔ zt a q ∧ q ≠ c := by
  unfold zt zcl za
  rw [Int.toNat_natCast, Nat.testBit_and, (zg_p h).1, zg_tn c.toNat (by omega) q.toNat (by omega), Bool.and_eq_true, decide_eq_true_eq]
  constructor
  · rintro ⟨u, v⟩
    exact ⟨u, by omega⟩
  · rintro ⟨u, v⟩
    exact ⟨u, by omega⟩
theorem zg_z {a c : Int} (ha : 0 ≤ a ∧ a < 64) (h : 0 ≤ c ∧ c < 6) : za a (zp c) ≠ 0 ↔ zt a c := by
  have := zg_zn a.toNat (by omega) c.toNat (by omega)
  unfold za zp zt
  rw [Int.toNat_natCast, ← this]
  omega
theorem zg_o {a c : Int} (ha : 0 ≤ a ∧ a < 64) (h : 0 ≤ c ∧ c < 6) : 0 ≤ zo a (zp c) ∧ zo a (zp c) < 64 := by
  have h1 : 2 ^ c.toNat ≤ 2 ^ 5 := Nat.pow_le_pow_right (by decide) (by omega)
  have := @zo_lt a (zp c) 6 (by simpa using ha.2) (by unfold zp; omega)
  exact ⟨zo_nn, by simpa using this⟩
section C42a
variable {V V' : Nat → Int} {C C' : Nat → Int → Int} {J J' : c_J} {w w' : Int → Int} {s k c x o : Int}
theorem wDrop_k {q r : Int} (hO : wOK w) (hk : 0 ≤ k ∧ k < w 952) (h0 : 0 ≤ q) (h1 : q < w 952 - 1) (hr : 0 ≤ r ∧ r < 3) : wDrop w k (953 + 3 * q + r) = if k ≤ q then w (953 + 3 * q + r + 3) else w (953 + 3 * q + r) := by
  have h6 := hO.2.1
  unfold wDrop
  rw [if_neg (show ¬ (953 + 3 * q + r = 952) by omega)]
  by_cases z : k ≤ q
  · rw [if_pos z, if_pos (by omega)]
  · rw [if_neg z, if_neg (by omega), if_neg (by omega)]
theorem cNow.drop (h : cNow V C J w) (hO : wOK w) (hk : 0 ≤ k ∧ k < w 952) (hC : ∀ i, i = 31 ∨ i = 32 ∨ i = 33 → ∀ j, C' i j = if k ≤ j ∧ j < 5 then C i (j + 1) else C i j) : cNow (vu V 21 (V 21 - 1)) C' J (wDrop w k) := by
  have h6 := hO.2.1
  have lo : ∀ j, j < 952 ∨ 971 ≤ j → wDrop w k j = w j := fun j hj => by unfold wDrop; rw [if_neg (by omega), if_neg (by omega), if_neg (by omega)]
  have e2 : wDrop w k 952 = w 952 - 1 := if_pos rfl
  refine ⟨⟨?_, ?_, ?_⟩, fun q q0 q1 => ?_, ⟨h.2.2.1.1, fun c c0 c1 => ?_, fun c c0 c1 => ?_⟩, h.pp hO (fun j a b => lo j (Or.inl (by omega)))⟩
  · rw [lo _ (Or.inr (by decide))]; exact h.1.1
  · rw [e2]; show V 21 - 1 = _; rw [h.1.2.1]
  · rw [lo _ (Or.inr (by decide))]; exact h.1.2.2
  · rw [e2] at q1
    rw [hC 31 (Or.inl rfl), hC 32 (Or.inr (Or.inl rfl)), hC 33 (Or.inr (Or.inr rfl)), wDrop_k hO hk q0 q1 (by decide), wDrop_k hO hk q0 q1 (by decide), wDrop_k hO hk q0 q1 (by decide)]
    by_cases z : k ≤ q
    · have hq := h.k (k := q + 1) (by omega) (by omega)
      have z2 : k ≤ q ∧ q < 5 := ⟨z, by omega⟩
      simp only [if_pos z, if_pos z2]
      rw [hq.1, hq.2.1, hq.2.2]
      exact ⟨congrArg w (by omega), congrArg w (by omega), congrArg w (by omega)⟩
    · have hq := h.k (k := q) q0 (by omega)
      have z2 : ¬ (k ≤ q ∧ q < 5) := fun y => z y.1
      simp only [if_neg z, if_neg z2]
      exact hq
  · rw [lo _ (Or.inr (by omega))]; exact h.2.2.1.2.1 c c0 c1
  · rw [lo _ (Or.inr (by omega))]; exact h.2.2.1.2.2 c c0 c1
theorem cNow.gate0 (h : cNow V C J w) (hO : wOK w) (hc : 0 ≤ c ∧ c < 6) (hx : 0 ≤ x ∧ x < 64) (hq : ∀ q, 0 ≤ q → q < 6 → (zt x q ↔ if q = c then o = 1 else zt (V 23) q)) : cNow (vu V 23 x) C J (zu w (971 + 2 * c + 0) o) := by
  have h6 := hO.2.1
  refine ⟨⟨?_, ?_, ?_⟩, fun q q0 q1 => ?_, ⟨⟨hx, h.2.2.1.1.2⟩, fun q c0 c1 => ?_, fun q c0 c1 => ?_⟩, h.pp hO (fun j a b => zu_ne (by omega))⟩
  · rw [zu_ne (by omega)]; exact h.1.1
  · rw [zu_ne (by omega)]; exact h.1.2.1
  · rw [zu_ne (by omega)]; exact h.1.2.2
  · rw [zu_ne (by omega)] at q1
    rw [zu_ne (by omega), zu_ne (by omega), zu_ne (by omega)]
    exact h.k q0 q1
  · show zt x q ↔ _
    rw [hq q c0 c1]
    by_cases z : q = c
    · rw [if_pos z, z, zu_at]
    · rw [if_neg z, zu_ne (by omega)]; exact h.2.2.1.2.1 q c0 c1
  · rw [zu_ne (by omega)]; exact h.2.2.1.2.2 q c0 c1
theorem cNow.gate1 (h : cNow V C J w) (hO : wOK w) (hc : 0 ≤ c ∧ c < 6) (hx : 0 ≤ x ∧ x < 64) (hq : ∀ q, 0 ≤ q → q < 6 → (zt x q ↔ if q = c then o = 1 else zt (V 24) q)) : cNow (vu V 24 x) C J (zu w (971 + 2 * c + 1) o) := by
  have h6 := hO.2.1
  refine ⟨⟨?_, ?_, ?_⟩, fun q q0 q1 => ?_, ⟨⟨h.2.2.1.1.1, hx⟩, fun q c0 c1 => ?_, fun q c0 c1 => ?_⟩, h.pp hO (fun j a b => zu_ne (by omega))⟩
  · rw [zu_ne (by omega)]; exact h.1.1
  · rw [zu_ne (by omega)]; exact h.1.2.1
  · rw [zu_ne (by omega)]; exact h.1.2.2
  · rw [zu_ne (by omega)] at q1
    rw [zu_ne (by omega), zu_ne (by omega), zu_ne (by omega)]
    exact h.k q0 q1
  · rw [zu_ne (by omega)]; exact h.2.2.1.2.1 q c0 c1
  · show zt x q ↔ _
    rw [hq q c0 c1]
    by_cases z : q = c
    · rw [if_pos z, z, zu_at]
    · rw [if_neg z, zu_ne (by omega)]; exact h.2.2.1.2.2 q c0 c1
end C42a
