/-! ===== the two patterns of the beginning ===== -/
section C87a
variable {ld : Int → Int → Int} {m : Nat} {S : Nat → Int} {T cnt : Nat → Nat}
/-- the states, by a table -/
theorem zD_tab (h0 : S 0 = 1) (hi : ∀ i, i < m → ∀ j, j < m → S i = S j → i = j) (hc0 : cnt 0 = 1) (ht : ∀ N, N < 6 * m → N / 6 < cnt N ∧ cnt N ≤ m ∧ T N ≤ cnt N ∧ T N < m ∧ cnt (N + 1) = (if T N = cnt N then cnt N + 1 else cnt N) ∧ ld (S (N / 6)) ((N % 6 : Nat) : Int) = S (T N)) : ∀ N, N ≤ 6 * m → (zD ld N).1 = cnt N ∧ ∀ j : Nat, j < cnt N → (zD ld N).2.1 (j : Int) = S j
  | 0, _ => ⟨hc0.symm, fun j hj => by
    obtain rfl : j = 0 := by omega
    exact (zD_0 0).trans h0.symm⟩
  | N + 1, hN => by
    obtain ⟨i1, i2⟩ := zD_tab h0 hi hc0 ht N (by omega)
    obtain ⟨t1, t2, t3, t4, t5, t6⟩ := ht N (by omega)
    rw [← i2 (N / 6) t1] at t6
    have hx : zIx (zD ld N).2.1 (ld ((zD ld N).2.1 ((N / 6 : Nat) : Int)) ((N % 6 : Nat) : Int)) (zD ld N).1 = T N := by
      refine zIx_uq (by omega) (fun hl => ?_) (fun j hj => ?_)
      · rw [i2 (T N) (by omega), t6]
      · rw [i2 j (by omega), t6]
        intro e
        have := hi j (by omega) (T N) t4 e
        omega
    have e : zD ld (N + 1) = zDn (zD ld N) (ld ((zD ld N).2.1 ((N / 6 : Nat) : Int)) ((N % 6 : Nat) : Int)) N := rfl
    rw [e, t5]
    unfold zDn
    rw [hx, i1]
    by_cases z : T N = cnt N
    · rw [if_pos z, if_pos z]
      refine ⟨rfl, fun j hj => ?_⟩
      show zu _ _ _ (j : Int) = S j
      by_cases y : j = cnt N
      · rw [y, zu_at, t6, z]
      · rw [zu_ne (by omega)]
        exact i2 j (by omega)
    · rw [if_neg z, if_neg z]
      exact ⟨rfl, fun j hj => i2 j hj⟩
end C87a
theorem zDone.tab {x : zSt} {m : Nat} {S : Nat → Int} {T cnt : Nat → Nat} (h0 : S 0 = 1) (hi : ∀ i, i < m → ∀ j, j < m → S i = S j → i = j) (hc0 : cnt 0 = 1) (hm : cnt (6 * m) = m ∧ m ≤ 60) (ht : ∀ N, N < 6 * m → N / 6 < cnt N ∧ cnt N ≤ m ∧ T N ≤ cnt N ∧ T N < m ∧ cnt (N + 1) = (if T N = cnt N then cnt N + 1 else cnt N) ∧ zLd x (S (N / 6)) ((N % 6 : Nat) : Int) = S (T N)) : zDone x (6 * m) := by
  have h := zD_tab (ld := zLd x) h0 hi hc0 ht
  have hl := (h (6 * m) (Nat.le_refl _)).1
  refine ⟨by rw [hl, hm.1], fun N' hN' => ?_, by rw [hl, hm.1]; exact hm.2⟩
  rw [(h N' (by omega)).1]
  exact (ht N' hN').1
def zGet (r : (Int × Int) ⊕ zSt) : zSt := match r with
  | .inr x => x
  | .inl _ => zX0
theorem zGet_ok {r : (Int × Int) ⊕ zSt} (h : r.isRight = true) : r = .inr (zGet r) := by
  cases r with
  | inr x => rfl
  | inl y => cases h
def tx1 : Int → Int := fun j => ([97, 40, 98, 124, 99, 41, 42, 100] : List Int).getD j.toNat 0
theorem tx1_rg : ∀ j : Int, 0 ≤ tx1 j ∧ tx1 j < 128 := by
  have h : ∀ k : Nat, 0 ≤ ([97, 40, 98, 124, 99, 41, 42, 100] : List Int).getD k 0 ∧ ([97, 40, 98, 124, 99, 41, 42, 100] : List Int).getD k 0 < 128 := fun k => by
    by_cases z : k < 8
    · exact (by decide : ∀ k : Nat, k < 8 → 0 ≤ ([97, 40, 98, 124, 99, 41, 42, 100] : List Int).getD k 0 ∧ ([97, 40, 98, 124, 99, 41, 42, 100] : List Int).getD k 0 < 128) k z
    · rw [List.getD_eq_getElem?_getD, List.getElem?_eq_none (by show 8 ≤ k; omega)]
      decide
  exact fun j => h j.toNat
def zT1 : zSt := zGet (zRn tx1 8 0 zX0)
theorem zT1_rn : zRn tx1 8 0 zX0 = .inr zT1 := zGet_ok (by decide +kernel)
theorem zT1_dn : zDone zT1 36 := zDone.tab (m := 6) (S := fun k => ([1, 2, 0, 4, 8, 16] : List Int).getD k 0) (T := fun k => ([1, 2, 2, 2, 2, 2, 2, 3, 4, 5, 2, 2, 2, 2, 2, 2, 2, 2, 2, 3, 4, 5, 2, 2, 2, 3, 4, 5, 2, 2, 2, 2, 2, 2, 2, 2] : List Nat).getD k 0) (cnt := fun k => ([1, 2, 3, 3, 3, 3, 3, 3, 4, 5, 6, 6, 6, 6, 6, 6, 6, 6, 6, 6, 6, 6, 6, 6, 6, 6, 6, 6, 6, 6, 6, 6, 6, 6, 6, 6, 6] : List Nat).getD k 0) rfl (by decide +kernel) rfl ⟨rfl, by decide⟩ (by decide +kernel)
def tx2 : Int → Int := fun j => ([40, 97, 98, 124, 97, 99, 41, 42, 100, 63] : List Int).getD j.toNat 0
theorem tx2_rg : ∀ j : Int, 0 ≤ tx2 j ∧ tx2 j < 128 := by
  have h : ∀ k : Nat, 0 ≤ ([40, 97, 98, 124, 97, 99, 41, 42, 100, 63] : List Int).getD k 0 ∧ ([40, 97, 98, 124, 97, 99, 41, 42, 100, 63] : List Int).getD k 0 < 128 := fun k => by
    by_cases z : k < 10
    · exact (by decide : ∀ k : Nat, k < 10 → 0 ≤ ([40, 97, 98, 124, 97, 99, 41, 42, 100, 63] : List Int).getD k 0 ∧ ([40, 97, 98, 124, 97, 99, 41, 42, 100, 63] : List Int).getD k 0 < 128) k z
    · rw [List.getD_eq_getElem?_getD, List.getElem?_eq_none (by show 10 ≤ k; omega)]
      decide
  exact fun j => h j.toNat
def zT2 : zSt := zGet (zRn tx2 10 0 zX0)
theorem zT2_rn : zRn tx2 10 0 zX0 = .inr zT2 := zGet_ok (by decide +kernel)
theorem zT2_dn : zDone zT2 36 := zDone.tab (m := 6) (S := fun k => ([1, 10, 0, 32, 4, 16] : List Int).getD k 0) (T := fun k => ([1, 2, 2, 3, 2, 2, 2, 4, 5, 2, 2, 2, 2, 2, 2, 2, 2, 2, 2, 2, 2, 2, 2, 2, 1, 2, 2, 3, 2, 2, 1, 2, 2, 3, 2, 2] : List Nat).getD k 0) (cnt := fun k => ([1, 2, 3, 3, 4, 4, 4, 4, 5, 6, 6, 6, 6, 6, 6, 6, 6, 6, 6, 6, 6, 6, 6, 6, 6, 6, 6, 6, 6, 6, 6, 6, 6, 6, 6, 6, 6] : List Nat).getD k 0) rfl (by decide +kernel) rfl ⟨rfl, by decide⟩ (by decide +kernel)
