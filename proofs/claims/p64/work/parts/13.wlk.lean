/-! ===== the reference: walkers ===== -/
/-- one step of a walker -/
def wStep (w : Int → Int) (p c : Int) : Int → Int := zu (zu (zu w (953 + 3 * p + 1) (w (476 * w (953 + 3 * p + 0) + (116 + 6 * w (953 + 3 * p + 1) + c)))) (953 + 3 * p + 2) (w (953 + 3 * p + 2) + 1)) 984 (w 984 + 1)
theorem wP.cg {w w' : Int → Int} {s : Int} (hs : s = 0 ∨ s = 1) (h : ∀ j, 0 ≤ j → j < 952 → w' j = w j) (hw : wP w s) : wP w' s := by
  obtain ⟨a1, a2, a3, a4, a5, a6⟩ := hw
  refine ⟨?_, ?_, fun k k0 k1 => ?_, ?_, fun p p0 p1 => ?_, fun t c t0 t1 c0 c1 => ?_⟩
  · rw [h _ (by omega) (by omega)]; exact a1
  · rw [h _ (by omega) (by omega)]; exact a2
  · rw [h _ (by omega) (by omega)]; exact a3 k k0 k1
  · rw [h _ (by omega) (by omega)]; exact a4
  · rw [h _ (by omega) (by omega)]; exact a5 p p0 p1
  · rw [h (476 * s + 5) (by omega) (by omega)] at t1 ⊢
    rw [h _ (by omega) (by omega)]; exact a6 t c t0 t1 c0 c1
theorem wStep_lo {w : Int → Int} {p c j : Int} (hp : 0 ≤ p ∧ p < 6) (h : j < 953 ∨ 971 ≤ j ∧ j ≤ 983) : wStep w p c j = w j := by
  unfold wStep
  rw [zu_ne (by omega), zu_ne (by omega), zu_ne (by omega)]
theorem wStep_ok {w : Int → Int} {p c : Int} (hO : wOK w) (hp : 0 ≤ p ∧ p < w 952) (hc : 0 ≤ c ∧ c < 6) : wOK (wStep w p c) := by
  have h6 := hO.2.1
  have lo : ∀ j, j < 953 ∨ 971 ≤ j ∧ j ≤ 983 → wStep w p c j = w j := fun j hj => wStep_lo (by omega) hj
  refine ⟨fun s hs => (hO.1 s hs).cg hs (fun j a b => lo j (Or.inl (by omega))), ?_, fun k k0 k1 => ?_, fun c' b c0 c1 hb => ?_, ?_⟩
  · rw [lo 952 (by omega)]; exact h6
  · rw [lo 952 (by omega)] at k1
    have q := hO.wk k0 k1
    have e0 : wStep w p c (953 + 3 * k + 0) = w (953 + 3 * k + 0) := by
      unfold wStep
      rw [zu_ne (by omega), zu_ne (by omega), zu_ne (by omega)]
    rw [e0]
    have hs := hO.sts q.1
    rw [lo (476 * w (953 + 3 * k + 0) + 5) (Or.inl (by omega))]
    refine ⟨q.1, ?_⟩
    by_cases e : k = p
    · subst e
      have e1 : wStep w k c (953 + 3 * k + 1) = w (476 * w (953 + 3 * k + 0) + (116 + 6 * w (953 + 3 * k + 1) + c)) := by
        unfold wStep
        rw [zu_ne (by omega), zu_ne (by omega), zu_at]
      rw [e1]
      exact hO.nxt q.1 q.2.1 q.2.2 hc.1 hc.2
    · have e1 : wStep w p c (953 + 3 * k + 1) = w (953 + 3 * k + 1) := by
        unfold wStep
        rw [zu_ne (by omega), zu_ne (by omega), zu_ne (by omega)]
      rw [e1]
      exact q.2
  · rw [lo _ (Or.inr (by omega))]
    exact hO.gate c0 c1 hb
  · rw [lo _ (Or.inr (by omega))]
    exact hO.nght
section M13
variable {G : p_G} {Y : Nat → Nat} {h0 : p_H} {d : Nat} {V : Nat → Int} {C : Nat → Int → Int} {J : Int → Int}
/-- the walkers of a slot begin anew -/
def wRes (w : Int → Int) (s : Int) : Int → Int := fun j => if 953 ≤ j ∧ j < 953 + 3 * w 952 ∧ w (953 + 3 * ((j - 953) / 3) + 0) = s ∧ (j - 953) % 3 ≠ 0 then 0 else w j

/-- one byte of a number -/
def zby (x k : Int) : Int := ((((iI x).toBitVec.toNat >>> k.toNat) % 256 : Nat) : Int)
theorem zby_rg {x k : Int} : 0 ≤ zby x k ∧ zby x k < 256 := by
  unfold zby
  omega
theorem iI_byte {x k : Int} (hk : k = 0 ∨ k = 8 ∨ k = 16 ∨ k = 24) : (iI x >>> (iI k &&& 31)) &&& iI 255 = iI (zby x k) := by
  unfold zby
  rw [iI_nat]
  rw [show iI 255 = (255 : Int32) from rfl, pk_and (iI x >>> (iI k &&& 31)) (m := 255) 8 (by decide)]
  congr 1
  have e : (iI x >>> (iI k &&& 31)).toBitVec = (iI x).toBitVec.sshiftRight k.toNat := by
    rw [Int32.toBitVec_shiftRight]
    rcases hk with rfl | rfl | rfl | rfl <;> rfl
  rw [e]
  have key : ∀ (b : BitVec 32) (n : Nat), n ≤ 24 → (b.sshiftRight n).toNat % 2 ^ 8 = (b.toNat >>> n) % 256 := by
    intro b n hn
    apply Nat.eq_of_testBit_eq
    intro i
    rw [Nat.testBit_mod_two_pow, show (256 : Nat) = 2 ^ 8 from rfl, Nat.testBit_mod_two_pow, Nat.testBit_shiftRight, BitVec.testBit_toNat, BitVec.getLsbD_sshiftRight, BitVec.testBit_toNat]
    by_cases hi : i < 8
    · have h1 : ¬ 32 ≤ i := by omega
      have h2 : n + i < 32 := by omega
      simp [hi, h1, h2]
    · simp [hi]
  exact key _ _ (by omega)
/-- four bytes of a number behind those of a buffer -/
def bPut (b : Int → Int) (n x : Int) : Int → Int := zu (zu (zu (zu b n (zby x 24)) (n + 1) (zby x 16)) (n + 2) (zby x 8)) (n + 3) (zby x 0)
end M13
