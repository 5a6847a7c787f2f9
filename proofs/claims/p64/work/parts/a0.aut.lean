/-! ===== words by the digits of a number; a path, a run, an accepted input are one ===== -/
/-- what is left of a number behind some digits -/
def gLf (N : Int) : Nat → Int
  | 0 => N
  | k + 1 => gLf N k / 6
theorem gLf_s {N k : Int} (h : 0 ≤ k) : gLf N (k + 1).toNat = gLf N k.toNat / 6 := by
  rw [show (k + 1).toNat = k.toNat + 1 by omega]
  rfl
theorem gLf_rg {N : Int} (h : 0 ≤ N) : ∀ k : Nat, 0 ≤ gLf N k ∧ gLf N k ≤ N
  | 0 => ⟨h, Int.le_refl _⟩
  | k + 1 => by
    have ih := gLf_rg h k
    show 0 ≤ gLf N k / 6 ∧ gLf N k / 6 ≤ N
    omega
/-- the bytes of the word of a number -/
def gB (N : Int) : Int → Int := fun i => 97 + gLf N i.toNat % 6
theorem gB_str {N i : Int} : bStr (gB N) i := by
  show 0 ≤ 97 + gLf N i.toNat % 6 - 97 ∧ 97 + gLf N i.toNat % 6 - 97 ≤ 5
  omega
section A0
variable {w : Int → Int} {s N k c : Int}
theorem gRun_s (h : 0 ≤ k) : wRun w (gB N) s (k + 1).toNat = w (476 * s + (116 + 6 * wRun w (gB N) s k.toNat + gLf N k.toNat % 6)) := by
  rw [wRun_s h]
  have e : gB N k - 97 = gLf N k.toNat % 6 := by
    show 97 + gLf N k.toNat % 6 - 97 = _
    omega
  rw [e]
theorem gRun_rg (hP : wP w s) (n : Nat) : 0 ≤ wRun w (gB N) s n ∧ wRun w (gB N) s n < w (476 * s + 5) := wRun_rg hP n (fun _ _ _ => gB_str)
/-- the word's letters alone count -/
theorem wRun_cg {b b' : Int → Int} : ∀ n : Nat, (∀ i : Int, 0 ≤ i → i < n → b i = b' i) → wRun w b s n = wRun w b' s n
  | 0, _ => rfl
  | n + 1, h => by
    show w (476 * s + (116 + 6 * wRun w b s n + (b (n : Int) - 97))) = w (476 * s + (116 + 6 * wRun w b' s n + (b' (n : Int) - 97)))
    rw [wRun_cg n (fun i i0 i1 => h i i0 (by omega)), h n (by omega) (by omega)]
/-- the set behind k letters, without the start -/
def gM (w : Int → Int) (s N k : Int) : Int := if k = 0 then 0 else w (476 * s + (56 + wRun w (gB N) s k.toNat))
/-- the positions behind it -/
def gA (w : Int → Int) (s N k : Int) (m : Int) : Int := wAft w s (w (476 * s + (56 + wRun w (gB N) s k.toNat))) m.toNat
theorem wRaw.of (hP : wP w s) : wRaw w s := ⟨hP.1, fun k hk => hP.2.2.1 k (by omega) (by omega), hP.2.2.2.2.1⟩
theorem gM_rg (hP : wP w s) : 0 ≤ gM w s N k ∧ gM w s N k < 33554432 := by
  have h5 := hP.2.2.2.1
  have hr := gRun_rg (N := N) hP k.toNat
  unfold gM
  split
  · decide
  · exact hP.2.2.1 _ (by omega) (by omega)
theorem gA_rg (hP : wP w s) {m : Int} (hm : m ≤ 24) : 0 ≤ gA w s N k m ∧ gA w s N k m < 33554432 := wAft_rg (wRaw.of hP) m.toNat (by omega)
theorem gM_s (hP : wP w s) (hX : wX w s) (hY : wY w s) (h : 0 ≤ k) : gM w s N (k + 1) = wThen w s (gA w s N k (w (476 * s + 0))) (gLf N k.toNat % 6) (w (476 * s + 0)).toNat := by
  have hr := gRun_rg (N := N) hP k.toNat
  have h1 := wNx_0 hP hX hY (t := wRun w (gB N) s k.toNat) (c := gLf N k.toNat % 6) hr.1 hr.2 (by omega) (by omega)
  unfold gM
  rw [if_neg (by omega), gRun_s h, h1.2.2]
  rfl
/-- behind a letter the set has no start -/
theorem gM_ev (hP : wP w s) (hX : wX w s) (hY : wY w s) (h : 0 < k) : w (476 * s + (56 + wRun w (gB N) s k.toNat)) % 2 = 0 := by
  obtain ⟨j, rfl⟩ : ∃ j, k = j + 1 := ⟨k - 1, by omega⟩
  have hr := gRun_rg (N := N) hP j.toNat
  have h1 := wNx_0 hP hX hY (t := wRun w (gB N) s j.toNat) (c := gLf N j.toNat % 6) hr.1 hr.2 (by omega) (by omega)
  rw [gRun_s (by omega)]
  exact hX.2.1 _ h1.1.1 h1.1.2
theorem zo_0 {a : Int} (h : 0 ≤ a) : zo a 0 = a := by
  unfold zo
  rw [show (0 : Int).toNat = 0 from rfl, Nat.or_zero]
  omega
theorem wAft_1 (hP : wP w s) : ∀ m : Nat, wAft w s 1 m = w (476 * s + 2)
  | 0 => rfl
  | m + 1 => by
    show zo (wAft w s 1 m) (if zt 1 ((m : Int) + 1) then _ else 0) = _
    rw [if_neg (zt_1 (by omega)), wAft_1 hP m, zo_0 (hP.2.2.1 2 (by decide) (by decide)).1]
theorem gA_0 (hP : wP w s) (hX : wX w s) {m : Int} : gA w s N 0 m = w (476 * s + 2) := by
  unfold gA
  have e : w (476 * s + (56 + wRun w (gB N) s (0 : Int).toNat)) = 1 := hX.1
  rw [e]
  exact wAft_1 hP _
theorem gA_b (hP : wP w s) (hX : wX w s) (hY : wY w s) (h : 0 < k) : gA w s N k 0 = 0 := by
  unfold gA
  show (if w (476 * s + (56 + wRun w (gB N) s k.toNat)) % 2 = 1 then w (476 * s + 2) else 0) = 0
  rw [if_neg (by rw [gM_ev hP hX hY h]; decide)]
theorem gA_s (h : 0 < k) {p : Int} (hp : 1 ≤ p) : gA w s N k p = zo (gA w s N k (p - 1)) (if zt (gM w s N k) p then w (476 * s + (6 + p)) else 0) := by
  unfold gA gM
  rw [wAft_s hp, if_neg (show ¬ k = 0 by omega)]
/-- accepted -/
theorem gM_acc (hP : wP w s) (hX : wX w s) (hY : wY w s) (h : 0 < k) : wAcc w s (wRun w (gB N) s k.toNat) ↔ za (gM w s N k) (w (476 * s + 3)) ≠ 0 := by
  have e := gM_ev (N := N) hP hX hY h
  unfold gM wAcc
  rw [if_neg (show ¬ k = 0 by omega)]
  constructor
  · rintro (a | a)
    · exact a
    · omega
  · exact Or.inl
theorem gAcc_0 (hP : wP w s) (hX : wX w s) : wAcc w s 0 ↔ w (476 * s + 1) = 1 := by
  have h1 := hX.1
  have h3 := hX.2.2.1
  have h4 : za (w (476 * s + (56 + 0))) (w (476 * s + 3)) = 0 := by
    rw [h1, za_c, za_1 (hP.2.2.1 3 (by decide) (by decide)).1]
    exact h3
  unfold wAcc
  rw [h4, h1]
  constructor
  · rintro (a | a)
    · exact absurd rfl a
    · exact a.2
  · exact fun a => Or.inr ⟨by decide, a⟩
/-- what a word is worth: its letters from a place on -/
def gU (r : Int → Int) : Nat → Int → Int
  | 0, _ => 0
  | n + 1, o => (r o - 97) * 6 ^ n + gU r n (o + 1)
/-- as the law counts it -/
def gV (r : Int → Int) : Nat → Int
  | 0 => 0
  | n + 1 => 6 * gV r n + (r (n : Int) - 97)
theorem gV_s {r : Int → Int} (h : 0 ≤ k) : gV r (k + 1).toNat = 6 * gV r k.toNat + (r k - 97) := by
  rw [show (k + 1).toNat = k.toNat + 1 by omega]
  show 6 * gV r k.toNat + (r (k.toNat : Int) - 97) = _
  rw [Int.toNat_of_nonneg h]
theorem gV_cg {r r' : Int → Int} : ∀ n : Nat, (∀ i : Int, 0 ≤ i → i < n → r i = r' i) → gV r n = gV r' n
  | 0, _ => rfl
  | n + 1, h => by
    show 6 * gV r n + (r (n : Int) - 97) = 6 * gV r' n + (r' (n : Int) - 97)
    rw [gV_cg n (fun i i0 i1 => h i i0 (by omega)), h n (by omega) (by omega)]
theorem gV_U {r : Int → Int} : ∀ n i : Nat, gV r (i + n) = gV r i * 6 ^ n + gU r n i
  | 0, i => by
    show gV r i = gV r i * 6 ^ 0 + 0
    omega
  | n + 1, i => by
    have h := gV_U (r := r) n (i + 1)
    rw [show i + (n + 1) = i + 1 + n by omega, h]
    show (6 * gV r i + (r (i : Int) - 97)) * 6 ^ n + gU r n ((i + 1 : Nat) : Int) = gV r i * 6 ^ (n + 1) + ((r (i : Int) - 97) * 6 ^ n + gU r n ((i : Int) + 1))
    rw [show ((i + 1 : Nat) : Int) = (i : Int) + 1 by omega, Int.add_mul, Int.pow_succ, Int.add_assoc]
    congr 1
    rw [Int.mul_comm 6 (gV r i), Int.mul_assoc, Int.mul_comm 6 (6 ^ n)]
theorem gU_rg {r : Int → Int} : ∀ (n : Nat) (o : Int), (∀ j : Int, o ≤ j → j < o + n → bStr r j) → 0 ≤ gU r n o ∧ gU r n o < 6 ^ n
  | 0, o, _ => by
    show 0 ≤ (0 : Int) ∧ (0 : Int) < 6 ^ 0
    decide
  | n + 1, o, h => by
    have ih := gU_rg n (o + 1) (fun j j0 j1 => h j (by omega) (by omega))
    have hb : 0 ≤ r o - 97 ∧ r o - 97 ≤ 5 := h o (by omega) (by omega)
    show 0 ≤ (r o - 97) * 6 ^ n + gU r n (o + 1) ∧ (r o - 97) * 6 ^ n + gU r n (o + 1) < 6 ^ (n + 1)
    have h6 : (0 : Int) < 6 ^ n := Int.pow_pos (by decide)
    have h7 : (r o - 97) * 6 ^ n ≤ 5 * 6 ^ n := Int.mul_le_mul_of_nonneg_right hb.2 (by omega)
    have h8 : 0 ≤ (r o - 97) * 6 ^ n := Int.mul_nonneg hb.1 (by omega)
    rw [Int.pow_succ]
    omega
theorem gV_rg {r : Int → Int} (n : Nat) (hn : n ≤ 5) (h : ∀ j : Int, 0 ≤ j → j < n → bStr r j) : 0 ≤ gV r n ∧ gV r n < 7776 := by
  have h1 := gU_rg (r := r) n 0 (fun j j0 j1 => h j j0 (by omega))
  have h2 := gV_U (r := r) n 0
  rw [Nat.zero_add] at h2
  have h3 : gV r 0 * 6 ^ n + gU r n ((0 : Nat) : Int) = gU r n 0 := by
    show 0 * 6 ^ n + gU r n 0 = _
    rw [Int.zero_mul, Int.zero_add]
  rw [h2, h3]
  have h4 : (6 : Int) ^ n ≤ 6 ^ 5 := by
    rcases (by omega : n = 0 ∨ n = 1 ∨ n = 2 ∨ n = 3 ∨ n = 4 ∨ n = 5) with e | e | e | e | e | e <;> subst e <;> decide
  have h5 : (6 : Int) ^ 5 = 7776 := by decide
  omega
/-- the word with a number is accepted -/
theorem gWord {r : Int → Int} : ∀ (n i : Nat) (x : Int), wWord w s r n (wRun w r s i) x i → 0 ≤ x → x < wCW w s n (wRun w r s i) → (∀ j : Int, i ≤ j → j < i + n → bStr r j) ∧ wAcc w s (wRun w r s (i + n))
  | 0, i, x, _, x0, x1 => by
    refine ⟨fun j j0 j1 => by omega, ?_⟩
    have x2 : x < zb (wAcc w s (wRun w r s i)) := x1
    exact Decidable.of_not_not (fun z => by
      have z2 : ¬ wAcc w s (wRun w r s i) := z
      rw [zb_f z2] at x2
      omega)
  | n + 1, i, x, ⟨c, hc, h1, h2, h3, h4⟩, x0, x1 => by
    have e : r (i : Int) - 97 = c := by omega
    have e2 : wRun w r s (i + 1) = w (476 * s + (116 + 6 * wRun w r s i + c)) := by
      show w (476 * s + (116 + 6 * wRun w r s i + (r (i : Int) - 97))) = _
      rw [e]
    have e3 := zsum_s (f := wNx w s (n : Int) (wRun w r s i)) hc.1
    rw [← e2, show (i : Int) + 1 = ((i + 1 : Nat) : Int) by omega] at h4
    have e4 : wNx w s (n : Int) (wRun w r s i) c = wCW w s n (wRun w r s (i + 1)) := by
      show wCW w s (n : Int).toNat (w (476 * s + (116 + 6 * wRun w r s i + c))) = _
      rw [e2]
      rfl
    obtain ⟨q1, q2⟩ := gWord n (i + 1) _ h4 (by omega) (by rw [← e4]; omega)
    refine ⟨fun j j0 j1 => ?_, by rw [show i + (n + 1) = i + 1 + n by omega]; exact q2⟩
    by_cases z : j = (i : Int)
    · subst z
      show 0 ≤ r (i : Int) - 97 ∧ r (i : Int) - 97 ≤ 5
      omega
    · exact q1 j (by omega) (by omega)
theorem zsum_up2 {f : Int → Int} (hf : ∀ j : Int, 0 ≤ j → 0 ≤ f j) (a : Nat) : ∀ d : Nat, zsum f a ≤ zsum f (a + d)
  | 0 => Int.le_refl _
  | d + 1 => by
    have h := zsum_up2 hf a d
    have h2 := hf ((a + d : Nat) : Int) (by omega)
    show zsum f a ≤ zsum f (a + d) + f ((a + d : Nat) : Int)
    omega
/-- words with greater numbers are worth more -/
theorem gAsc {r1 r2 : Int → Int} : ∀ (n : Nat) (t o x1 x2 : Int), wWord w s r1 n t x1 o → wWord w s r2 n t x2 o → x1 < x2 → 0 ≤ x1 → x2 < wCW w s n t → (∀ j : Int, o ≤ j → j < o + n → bStr r1 j) → (∀ j : Int, o ≤ j → j < o + n → bStr r2 j) → gU r1 n o < gU r2 n o
  | 0, t, o, x1, x2, _, _, hx, h0, h1, _, _ => by
    have h2 : x2 < zb (wAcc w s t) := h1
    have := @zb_01 (wAcc w s t) _
    omega
  | n + 1, t, o, x1, x2, ⟨c1, hc1, a1, a2, a3, a4⟩, ⟨c2, hc2, b1, b2, b3, b4⟩, hx, h0, h1, hb1, hb2 => by
    have u1 := gU_rg (r := r1) n (o + 1) (fun j j0 j1 => hb1 j (by omega) (by omega))
    have u2 := gU_rg (r := r2) n (o + 1) (fun j j0 j1 => hb2 j (by omega) (by omega))
    show (r1 o - 97) * 6 ^ n + gU r1 n (o + 1) < (r2 o - 97) * 6 ^ n + gU r2 n (o + 1)
    rw [show r1 o - 97 = c1 by omega, show r2 o - 97 = c2 by omega]
    have hf : ∀ j : Int, 0 ≤ j → 0 ≤ wNx w s (n : Int) t j := fun j _ => (wCW_rg _ _).1
    rcases Int.lt_trichotomy c1 c2 with z | z | z
    · have h6 : (0 : Int) < 6 ^ n := Int.pow_pos (by decide)
      have h7 : (c1 + 1) * 6 ^ n ≤ c2 * 6 ^ n := Int.mul_le_mul_of_nonneg_right (by omega) (by omega)
      rw [Int.add_mul, Int.one_mul] at h7
      omega
    · subst z
      have e3 := zsum_s (f := wNx w s (n : Int) t) hc1.1
      have e4 : wNx w s (n : Int) t c1 = wCW w s n (w (476 * s + (116 + 6 * t + c1))) := rfl
      have q := gAsc n _ (o + 1) _ _ a4 b4 (by omega) (by omega) (by rw [← e4]; omega) (fun j j0 j1 => hb1 j (by omega) (by omega)) (fun j j0 j1 => hb2 j (by omega) (by omega))
      omega
    · have q := zsum_up2 hf (c2 + 1).toNat (c1.toNat - (c2 + 1).toNat)
      rw [show (c2 + 1).toNat + (c1.toNat - (c2 + 1).toNat) = c1.toNat by omega] at q
      omega
end A0
