/-! ===== the reference: equivalence, the minimal count, longest words ===== -/
/-- a state is not equivalent to any before it -/
abbrev wFst (w : Int → Int) (s t : Int) : Prop := ∀ b, 0 ≤ b → b < t → ¬ wEqv w s t b
noncomputable def wMin (w : Int → Int) (s : Int) : Int := zsum (fun t => zc (wFst w s t)) (w (476 * s + 5)).toNat
/-- from a state a word of n letters, all allowed, is accepted -/
def wAt (w : Int → Int) (s : Int) (al : Int → Prop) : Nat → Int → Prop
  | 0, t => wAcc w s t
  | n + 1, t => ∃ c, 0 ≤ c ∧ c < 6 ∧ al c ∧ wAt w s al n (w (476 * s + (116 + 6 * t + c)))
/-- the length of the longest words; -1: too long from some state, or none from the first -/
def wLong (w : Int → Int) (s r : Int) : Prop := (0 ≤ r ∧ wAt w s (fun _ => True) r.toNat 0 ∧ ∀ n : Nat, wAt w s (fun _ => True) n 0 → (n : Int) ≤ r) ∨ (r = -1 ∧ ∃ (t : Int) (n : Nat), 0 ≤ t ∧ t < w (476 * s + 5) ∧ w (476 * s + 5) < (n : Int) ∧ wAt w s (fun _ => True) n t) ∨ (r = -1 ∧ ∀ n : Nat, ¬ wAt w s (fun _ => True) n 0)
section M20
variable {G : p_G} {Y : Nat → Nat} {h0 : p_H} {d : Nat} {V : Nat → Int} {C : Nat → Int → Int} {J : Int → Int}
/-- lengths of accepted words -/
def wLS (w : Int → Int) (s : Int) (F : Int → Int) : Prop := ∀ t, 0 ≤ t → t < w (476 * s + 5) → -1 ≤ F t ∧ (0 ≤ F t → wAt w s (fun _ => True) (F t).toNat t) ∧ (wAcc w s t → 0 ≤ F t)
def wLM (w : Int → Int) (s : Int) (F : Int → Int) : Int := zsum (fun t => 70 - F t) (w (476 * s + 5)).toNat
theorem wLS.up {w : Int → Int} {s : Int} {F : Int → Int} (hO : wOK w) (hs : s = 0 ∨ s = 1) (h : wLS w s F) {t c : Int} (t0 : 0 ≤ t) (t1 : t < w (476 * s + 5)) (c0 : 0 ≤ c) (c1 : c < 6) (hF : F (w (476 * s + (116 + 6 * t + c))) ≠ -1) : wLS w s (zu F t (F (w (476 * s + (116 + 6 * t + c))) + 1)) := by
  intro t' x0 x1
  by_cases e : t' = t
  · have b2 := hO.nxt hs t0 t1 c0 c1
    have q := h _ b2.1 b2.2
    rw [e, zu_at]
    refine ⟨by omega, fun _ => ?_, fun _ => by omega⟩
    rw [show (F (w (476 * s + (116 + 6 * t + c))) + 1).toNat = (F (w (476 * s + (116 + 6 * t + c)))).toNat + 1 by omega]
    exact ⟨c, c0, c1, trivial, q.2.1 (by omega)⟩
  · rw [zu_ne e]; exact h t' x0 x1
theorem wLM_up {w : Int → Int} {s : Int} {F : Int → Int} {t v : Int} (t0 : 0 ≤ t) (t1 : t < w (476 * s + 5)) (hv : F t < v) : wLM w s (zu F t v) < wLM w s F := by
  unfold wLM
  rw [zsum_up (f := fun j => 70 - zu F t v j) (g := fun j => 70 - F j) t0 _ (by omega) (fun j hj => by simp only [zu_ne hj])]
  simp only [zu_at]
  omega
theorem zsum_ge0 {f : Int → Int} : ∀ n : Nat, (∀ j : Int, 0 ≤ j → j < n → 0 ≤ f j) → 0 ≤ zsum f n
  | 0, _ => Int.le_refl _
  | n + 1, h => by
    have h1 := zsum_ge0 n (fun j a b => h j a (by omega))
    have h2 := h n (by omega) (by omega)
    show 0 ≤ zsum f n + f n
    omega
theorem wLong_rg {w : Int → Int} {s r : Int} (h : wLong w s r) : -1 ≤ r := by
  rcases h with h | h | h <;> omega
end M20
