/-! ===== the reference: states told apart ===== -/
/-- two states accept the same words of at most a length -/
def wEq (w : Int → Int) (s : Int) : Nat → Int → Int → Prop
  | 0, a, b => (wAcc w s a ↔ wAcc w s b)
  | n + 1, a, b => (wAcc w s a ↔ wAcc w s b) ∧ ∀ c, 0 ≤ c → c < 6 → wEq w s n (w (476 * s + (116 + 6 * a + c))) (w (476 * s + (116 + 6 * b + c)))
abbrev wEqv (w : Int → Int) (s a b : Int) : Prop := ∀ n, wEq w s n a b
theorem wEqv.acc {w : Int → Int} {s a b : Int} (h : wEqv w s a b) : wAcc w s a ↔ wAcc w s b := h 0
theorem wEqv.nx {w : Int → Int} {s a b c : Int} (h : wEqv w s a b) (c0 : 0 ≤ c) (c1 : c < 6) : wEqv w s (w (476 * s + (116 + 6 * a + c))) (w (476 * s + (116 + 6 * b + c))) := fun n => (h (n + 1)).2 c c0 c1
theorem wEqv.of {w : Int → Int} {s : Int} {R : Int → Int → Prop} (ha : ∀ a b, R a b → (wAcc w s a ↔ wAcc w s b)) (hn : ∀ a b c, R a b → 0 ≤ c → c < 6 → R (w (476 * s + (116 + 6 * a + c))) (w (476 * s + (116 + 6 * b + c)))) : ∀ (n : Nat) (a b : Int), R a b → wEq w s n a b
  | 0, a, b, h => ha a b h
  | n + 1, a, b, h => ⟨ha a b h, fun c c0 c1 => wEqv.of ha hn n _ _ (hn a b c h c0 c1)⟩
/-- what is marked differs, what differs at once is marked -/
def wSnd (w : Int → Int) (s : Int) (A : Int → Int) : Prop := ∀ a b, 0 ≤ a → a < w (476 * s + 5) → 0 ≤ b → b < w (476 * s + 5) → (A (60 * a + b) = 0 ∨ A (60 * a + b) = 1) ∧ (A (60 * a + b) = 1 → ¬ wEqv w s a b) ∧ (A (60 * a + b) = 0 → (wAcc w s a ↔ wAcc w s b))
def wApt (A : Int → Int) : Int := zsum (fun i => zb (A i = 0)) 3600
theorem zsum_cg {f g : Int → Int} : ∀ n : Nat, (∀ j : Int, 0 ≤ j → j < n → f j = g j) → zsum f n = zsum g n
  | 0, _ => rfl
  | n + 1, h => by
    show zsum f n + f n = zsum g n + g n
    rw [zsum_cg n (fun j a b => h j a (by omega)), h n (by omega) (by omega)]
theorem zsum_up {f g : Int → Int} {k : Int} (h0 : 0 ≤ k) : ∀ n : Nat, k < n → (∀ j : Int, j ≠ k → f j = g j) → zsum f n = zsum g n + (f k - g k)
  | 0, h, _ => by omega
  | n + 1, h, hf => by
    show zsum f n + f n = zsum g n + g n + _
    by_cases e : k = n
    · rw [zsum_cg n (fun j a b => hf j (by omega)), e]; omega
    · rw [zsum_up h0 n (by omega) hf, hf n (by omega)]; omega
theorem wApt_up {A : Int → Int} {k : Int} (h0 : 0 ≤ k) (h1 : k < 3600) (h : A k = 0) : wApt (zu A k 1) = wApt A - 1 := by
  unfold wApt
  rw [zsum_up (f := fun i => zb (zu A k 1 i = 0)) (g := fun i => zb (A i = 0)) h0 3600 (by omega) (fun j hj => by simp only [zu_ne hj])]
  simp only [zu_at]
  rw [zb_f (by omega), zb_t h]
  omega
theorem wApt_nn {A : Int → Int} : 0 ≤ wApt A := (zsum_rg 3600 (fun j _ _ => zb_01)).1
