/-! ===== the reference: compile ===== -/
def cmV : List Nat := [8, 9, 20, 21, 22, 31, 32, 33, 34, 35, 36]
def cmC : List Nat := [0, 13, 14, 15, 16, 17, 18, 19]
/-- nothing has been read -/
def zX0 : zSt := (((0, 0), (fun _ => 0), fun _ => 0), zL0, [])
/-- the row of a pattern, as it has been read -/
def zSt0 (n : Int) (st : Int → Int) (j : Int) : Int := if 32 ≤ j ∧ j ≤ 31 + n then st (j - 31) else 0
def zRow (x : zSt) : Int → Int := zRg (zSt0 x.1.1.1 x.1.2.1) 0 x.1.1.1 x.1.1.2 (if (zEb x.1.2.2 x.2.1).2.1 = true then 1 else 0) (zEb x.1.2.2 x.2.1).2.2.1 (zEb x.1.2.2 x.2.1).2.2.2 (zEb x.1.2.2 x.2.1).1
def zLd (x : zSt) : Int → Int → Int := wLead (zRow x) 0
/-- N steps find all states, 60 at most -/
def zDone (x : zSt) (N : Nat) : Prop := N = 6 * (zD (zLd x) N).1 ∧ (∀ N' : Nat, N' < N → N' / 6 < (zD (zLd x) N').1) ∧ (zD (zLd x) N).1 ≤ 60
def zOver (x : zSt) : Prop := ∃ N : Nat, (∀ N' : Nat, N' ≤ N → N' / 6 < (zD (zLd x) N').1) ∧ (zD (zLd x) (N + 1)).1 = 61
/-- the error of a text -/
def zCE (bs : Int → Int) (sz kd off : Int) : Prop := zRn bs sz 0 zX0 = .inl (kd, off) ∨ ∃ x, zRn bs sz 0 zX0 = .inr x ∧ zOver x ∧ kd = 4 ∧ off = sz
/-- the row of a pattern -/
def wNew (x : zSt) (N : Nat) (w : Int → Int) (s : Int) : Prop := (∀ k, 0 ≤ k → k < 56 → k ≠ 5 → w (476 * s + k) = zRow x (476 * 0 + k)) ∧ w (476 * s + 5) = ((zD (zLd x) N).1 : Int) ∧ (∀ j : Int, 0 ≤ j → j < ((zD (zLd x) N).1 : Int) → w (476 * s + (56 + j)) = (zD (zLd x) N).2.1 j) ∧ (∀ j : Int, ((zD (zLd x) N).1 : Int) ≤ j → j < 60 → w (476 * s + (56 + j)) = 0) ∧ ∀ i : Int, 0 ≤ i → i < (N : Int) → w (476 * s + (116 + i)) = (zD (zLd x) N).2.2 i
section CMP
variable {w r : Int → Int} {s : Int}
theorem wAft_sh {y : Int} (h : ∀ k, 0 ≤ k → k < 56 → k ≠ 5 → w (476 * s + k) = r (476 * 0 + k)) : ∀ k : Nat, k ≤ 24 → wAft w s y k = wAft r 0 y k
  | 0, _ => by
    show (if y % 2 = 1 then w (476 * s + 2) else 0) = (if y % 2 = 1 then r (476 * 0 + 2) else 0)
    rw [h 2 (by decide) (by decide) (by decide)]
  | k + 1, hk => by
    show zo _ (if zt y ((k : Int) + 1) then w (476 * s + (6 + ((k : Int) + 1))) else 0) = zo _ (if zt y ((k : Int) + 1) then r (476 * 0 + (6 + ((k : Int) + 1))) else 0)
    rw [wAft_sh h k (by omega), h (6 + ((k : Int) + 1)) (by omega) (by omega) (by omega)]
theorem wThen_sh {a c : Int} (h : ∀ k, 0 ≤ k → k < 56 → k ≠ 5 → w (476 * s + k) = r (476 * 0 + k)) : ∀ k : Nat, k ≤ 24 → wThen w s a c k = wThen r 0 a c k
  | 0, _ => rfl
  | k + 1, hk => by
    show zo _ (if zt a ((k : Int) + 1) ∧ (w (476 * s + (31 + ((k : Int) + 1))) = 6 ∨ w (476 * s + (31 + ((k : Int) + 1))) = c) then _ else 0) = zo _ (if zt a ((k : Int) + 1) ∧ (r (476 * 0 + (31 + ((k : Int) + 1))) = 6 ∨ r (476 * 0 + (31 + ((k : Int) + 1))) = c) then _ else 0)
    rw [wThen_sh h k (by omega), h (31 + ((k : Int) + 1)) (by omega) (by omega) (by omega)]
theorem wLead_sh (h : ∀ k, 0 ≤ k → k < 56 → k ≠ 5 → w (476 * s + k) = r (476 * 0 + k)) (hn : 0 ≤ r (476 * 0 + 0) ∧ r (476 * 0 + 0) ≤ 24) : wLead w s = wLead r 0 := by
  funext y c
  unfold wLead
  rw [h 0 (by decide) (by decide) (by decide), wAft_sh h _ (by omega), wThen_sh h _ (by omega)]
theorem wRaw_sh (h : ∀ k, 0 ≤ k → k < 56 → k ≠ 5 → w (476 * s + k) = r (476 * 0 + k)) (hR : wRaw r 0) : wRaw w s := by
  refine ⟨?_, fun k hk => ?_, fun p p0 p1 => ?_⟩
  · rw [h 0 (by decide) (by decide) (by decide)]; exact hR.1
  · rw [h k (by omega) (by omega) (by omega)]; exact hR.2.1 k hk
  · rw [h (31 + p) (by omega) (by omega) (by omega)]; exact hR.2.2 p p0 p1
theorem zM.lt {m lo hi : Int} (h : zM m lo hi) (h1 : hi ≤ 24) : 0 ≤ m ∧ m < 33554432 := by
  have : m.toNat < 2 ^ 25 := Nat.lt_pow_two_of_testBit m.toNat (fun i hi2 => by
    cases c : m.toNat.testBit i with
    | false => rfl
    | true =>
      have := h.2 i (by omega) (by unfold zt; rw [Int.toNat_natCast]; exact c)
      omega)
  have := h.1
  omega
/-- what has been read is a pattern's row -/
theorem zRow_raw {x : zSt} (hn : 0 ≤ x.1.1.1 ∧ x.1.1.1 ≤ 24) (hst : ∀ k, 1 ≤ k → k ≤ x.1.1.1 → 0 ≤ x.1.2.1 k ∧ x.1.2.1 k ≤ 6) (hf : zM (zEb x.1.2.2 x.2.1).2.2.1 0 x.1.1.1) (hl : zM (zEb x.1.2.2 x.2.1).2.2.2 0 x.1.1.1) (hfo : ∀ p, 0 < p → p ≤ x.1.1.1 → zM ((zEb x.1.2.2 x.2.1).1 p) 0 x.1.1.1) : wRaw (zRow x) 0 := by
  have f1 := hf.lt hn.2
  have l1 := hl.lt hn.2
  refine ⟨?_, fun k hk => ?_, fun p p0 p1 => ?_⟩
  · show 0 ≤ zRg _ 0 _ _ _ _ _ _ (476 * 0 + 0) ∧ zRg _ 0 _ _ _ _ _ _ (476 * 0 + 0) ≤ 24
    unfold zRg
    rw [if_pos rfl]
    exact hn
  · show 0 ≤ zRg _ 0 _ _ _ _ _ _ (476 * 0 + k) ∧ zRg _ 0 _ _ _ _ _ _ (476 * 0 + k) < 33554432
    unfold zRg zRf
    by_cases c3 : k = 3
    · rw [if_neg (by omega), if_pos (by omega)]; exact l1
    rw [if_neg (by omega), if_neg (by omega), if_neg (by omega)]
    by_cases c2 : k = 2
    · rw [if_pos (by omega)]; exact f1
    rw [if_neg (by omega), if_neg (by omega)]
    by_cases c6 : 476 * 0 + 7 ≤ 476 * 0 + k ∧ 476 * 0 + k < 476 * 0 + 6 + (x.1.1.1 + 1)
    · rw [if_pos c6]
      exact (hfo _ (by omega) (by omega)).lt hn.2
    rw [if_neg c6]
    unfold zSt0
    rw [if_neg (by omega)]
    decide
  · show 0 ≤ zRg _ 0 _ _ _ _ _ _ (476 * 0 + (31 + p)) ∧ zRg _ 0 _ _ _ _ _ _ (476 * 0 + (31 + p)) ≤ 6
    unfold zRg zRf
    rw [if_neg (by omega), if_neg (by omega), if_neg (by omega), if_neg (by omega), if_neg (by omega), if_neg (by omega)]
    unfold zSt0
    split
    · have := hst p p0 (by omega)
      rw [show 476 * 0 + (31 + p) - 31 = p by omega]
      exact this
    · decide
theorem zRow_eq {w0 w1 w3 : Int → Int} {n lp : Int} {st fo : Int → Int} {cur : zLv} {outer : List zLv} (hn : 0 ≤ n ∧ n ≤ 24) (h1 : ∀ j, w1 j = if 476 * s + 0 ≤ j ∧ j < 476 * s + 476 then 0 else w0 j) (hst : ∀ k, 1 ≤ k → k ≤ n → w3 (476 * s + (31 + k)) = st k) (ho : ∀ j, ¬ (476 * s + 32 ≤ j ∧ j ≤ 476 * s + 31 + n) → w3 j = w1 j) (hw : ∀ j, w j = zRg w3 s n lp (if (zEb fo cur).2.1 = true then 1 else 0) (zEb fo cur).2.2.1 (zEb fo cur).2.2.2 (zEb fo cur).1 j) (k : Int) (k0 : 0 ≤ k) (k1 : k < 476) : w (476 * s + k) = zRow (((n, lp), st, fo), cur, outer) (476 * 0 + k) := by
  rw [hw]
  show zRg w3 s n lp _ _ _ _ _ = zRg (zSt0 n st) 0 n lp _ _ _ _ _
  unfold zRg zRf
  by_cases c0 : k = 0
  · rw [if_pos (by omega), if_pos (by omega)]
  rw [if_neg (by omega), if_neg (show ¬ (476 * 0 + k = 476 * 0 + 0) by omega)]
  by_cases c3 : k = 3
  · rw [if_pos (by omega), if_pos (by omega)]
  rw [if_neg (by omega), if_neg (show ¬ (476 * 0 + k = 476 * 0 + 3) by omega)]
  by_cases c4 : k = 4
  · rw [if_pos (by omega), if_pos (by omega)]
  rw [if_neg (by omega), if_neg (show ¬ (476 * 0 + k = 476 * 0 + 4) by omega)]
  by_cases c2 : k = 2
  · rw [if_pos (by omega), if_pos (by omega)]
  rw [if_neg (by omega), if_neg (show ¬ (476 * 0 + k = 476 * 0 + 2) by omega)]
  by_cases c1 : k = 1
  · rw [if_pos (show 476 * s + k = 476 * s + 1 by omega), if_pos (show 476 * 0 + k = 476 * 0 + 1 by omega)]
  rw [if_neg (by omega), if_neg (show ¬ (476 * 0 + k = 476 * 0 + 1) by omega)]
  by_cases c6 : 7 ≤ k ∧ k < 6 + (n + 1)
  · rw [if_pos (by omega), if_pos (by omega)]
    exact congrArg _ (by omega)
  rw [if_neg (by omega), if_neg (show ¬ (476 * 0 + 7 ≤ 476 * 0 + k ∧ 476 * 0 + k < 476 * 0 + 6 + (n + 1)) by omega)]
  unfold zSt0
  by_cases c5 : 32 ≤ k ∧ k ≤ 31 + n
  · rw [if_pos (by omega), ← hst (476 * 0 + k - 31) (by omega) (by omega)]
    exact congrArg w3 (by omega)
  · rw [if_neg (by omega), ho _ (by omega), h1, if_pos (by omega)]
/-- with the states -/
theorem wNew.of {w' : Int → Int} {x : zSt} {N : Nat} (hD : wDI w w' s N) (hw : ∀ k, 0 ≤ k → k < 476 → w (476 * s + k) = zRow x (476 * 0 + k)) (hR : wRaw (zRow x) 0) (hz : ∀ k, 56 ≤ k → k < 116 → zRow x (476 * 0 + k) = 0) (hN : N = 6 * (zD (wLead w s) N).1) : wNew x N w' s := by
  have e : wLead w s = zLd x := wLead_sh (fun k k0 k1 _ => hw k k0 (by omega)) hR.1
  have lo := hD.lo
  obtain ⟨h1, h2, h3, h4⟩ := hD
  rw [e] at h1 h2 h3 h4 hN
  refine ⟨fun k k0 k1 k2 => ?_, h2, h3, fun j j0 j1 => ?_, h4⟩
  · rw [lo k k0 k1 k2]; exact hw k k0 (by omega)
  · rw [h1 _ (by omega) (by omega) (by omega), hw (56 + j) (by omega) (by omega)]
    exact hz _ (by omega) (by omega)
theorem zRow_z {x : zSt} (hn : 0 ≤ x.1.1.1 ∧ x.1.1.1 ≤ 24) (k : Int) (k0 : 56 ≤ k) (k1 : k < 116) : zRow x (476 * 0 + k) = 0 := by
  show zRg _ 0 _ _ _ _ _ _ (476 * 0 + k) = 0
  unfold zRg zRf zSt0
  rw [if_neg (by omega), if_neg (by omega), if_neg (by omega), if_neg (by omega), if_neg (by omega), if_neg (by omega), if_neg (by omega)]
theorem mPs.init {bs : Int → Int} {sz : Int} {V : Nat → Int} {C : Nat → Int → Int} (h8 : V 8 = 0) (h9 : V 9 = -1) (h7 : V 7 = sz) (h36 : V 36 = 0) (h35 : V 35 = 0) (h32 : V 32 = 0) (h31 : V 31 = 0) (h20 : V 20 = 0) (h21 : V 21 = 0) (hsz : 0 ≤ sz ∧ sz ≤ 200) (hs : s = 0 ∨ s = 1) (h6 : C 6 = bs) (hB : ∀ j, 0 ≤ j → j < sz → 0 ≤ bs j ∧ bs j < 256) : mPs bs sz s (C 0) V C (fun _ _ => False) 0 0 (fun _ => 0) 0 := by
  refine ⟨⟨⟨h8, h7, h36, h35, h32, h9⟩, hsz, by omega, by decide, by omega, by decide, hs⟩, ⟨h6, hB⟩, ?_, ?_, fun a a0 a1 => by omega, fun k k0 k1 => by omega, fun j _ => rfl⟩
  · rw [h20, h21]; exact mLk.emp
  · rw [h20]; exact ⟨fun a a0 a1 => by omega, fun q q0 q1 => by omega⟩
end CMP
