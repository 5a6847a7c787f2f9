/-! ===== the reference: counts over states, positions, walkers, words ===== -/
/-- the bits of a mask -/
def zpc : Nat → Nat → Int
  | 0, _ => 0
  | k + 1, m => ((m % 2 : Nat) : Int) + zpc k (m / 2)
theorem zpc_0 : ∀ k, zpc k 0 = 0
  | 0 => rfl
  | k + 1 => by
    show ((0 % 2 : Nat) : Int) + zpc k (0 / 2) = 0
    rw [Nat.zero_div, zpc_0 k]; rfl
/-- the dead state: r is the first state whose set is empty, or -1 -/
def wDead (w : Int → Int) (s r : Int) : Prop := (r = -1 ∨ 0 ≤ r ∧ r < w (476 * s + 5) ∧ w (476 * s + (56 + r)) = 0) ∧ ∀ t, 0 ≤ t → t < w (476 * s + 5) → (r = -1 ∨ t < r) → w (476 * s + (56 + t)) ≠ 0
/-- among the follow positions of q, those of a street -/
def wFol (w : Int → Int) (s q c : Int) : Int := zsum (fun j => zb (zt (w (476 * s + (6 + q))) (j + 1) ∧ (w (476 * s + (31 + (j + 1))) = 6 ∨ w (476 * s + (31 + (j + 1))) = c))) (w (476 * s + 0)).toNat
/-- walkers in a state -/
def wIn (w : Int → Int) (s t : Int) : Int := zsum (fun k => zb (w (953 + 3 * k + 0) = s ∧ w (953 + 3 * k + 1) = t)) (w 952).toNat
/-- the state behind a word of the buffer -/
def wRun (w b : Int → Int) (s : Int) : Nat → Int
  | 0 => 0
  | n + 1 => w (476 * s + (116 + 6 * wRun w b s n + (b (n : Int) - 97)))
def bStr (b : Int → Int) (i : Int) : Prop := 0 ≤ b i - 97 ∧ b i - 97 ≤ 5
theorem wRun_s {w b : Int → Int} {s k : Int} (h : 0 ≤ k) : wRun w b s (k + 1).toNat = w (476 * s + (116 + 6 * wRun w b s k.toNat + (b k - 97))) := by
  rw [show (k + 1).toNat = k.toNat + 1 by omega]
  show w (476 * s + (116 + 6 * wRun w b s k.toNat + (b (k.toNat : Int) - 97))) = _
  rw [Int.toNat_of_nonneg h]
theorem wRun_ok {w b : Int → Int} {s : Int} (hO : wOK w) (hs : s = 0 ∨ s = 1) : ∀ n : Nat, (∀ i : Int, 0 ≤ i → i < n → bStr b i) → 0 ≤ wRun w b s n ∧ wRun w b s n < w (476 * s + 5)
  | 0, _ => by
    have := hO.sts hs
    show 0 ≤ (0 : Int) ∧ (0 : Int) < _
    omega
  | n + 1, h => by
    have h1 := wRun_ok hO hs n (fun i a c => h i a (by omega))
    have h2 := h n (by omega) (by omega)
    unfold bStr at h2
    exact hO.nxt hs h1.1 h1.2 h2.1 (by omega)
section M16
variable {G : p_G} {Y : Nat → Nat} {h0 : p_H} {d : Nat} {V : Nat → Int} {C : Nat → Int → Int} {J : Int → Int}
theorem zsum_rg {f : Int → Int} : ∀ n : Nat, (∀ j : Int, 0 ≤ j → j < n → 0 ≤ f j ∧ f j ≤ 1) → 0 ≤ zsum f n ∧ zsum f n ≤ n
  | 0, _ => ⟨Int.le_refl _, Int.le_refl _⟩
  | n + 1, h => by
    have h1 := zsum_rg n (fun j a b => h j a (by omega))
    have h2 := h n (by omega) (by omega)
    show 0 ≤ zsum f n + f n ∧ zsum f n + f n ≤ ((n + 1 : Nat) : Int)
    omega
theorem wFol_rg {w : Int → Int} {s q c : Int} (hO : wOK w) (hs : s = 0 ∨ s = 1) : 0 ≤ wFol w s q c ∧ wFol w s q c ≤ 24 := by
  have h1 := hO.pos hs
  have h2 := zsum_rg (f := fun j => zb (zt (w (476 * s + (6 + q))) (j + 1) ∧ (w (476 * s + (31 + (j + 1))) = 6 ∨ w (476 * s + (31 + (j + 1))) = c))) (w (476 * s + 0)).toNat (fun j _ _ => zb_01)
  unfold wFol
  omega
/-- a position is deterministic -/
abbrev wDet (w : Int → Int) (s q : Int) : Prop := ∀ c, 0 ≤ c → c < 6 → wFol w s q c ≤ 1
noncomputable def zc (p : Prop) : Int := @zb p (Classical.propDecidable p)
theorem zc_t {p : Prop} (h : p) : zc p = 1 := @zb_t p (Classical.propDecidable p) h
theorem zc_f {p : Prop} (h : ¬ p) : zc p = 0 := @zb_f p (Classical.propDecidable p) h
theorem zc_c {p q : Prop} (h : p ↔ q) : zc p = zc q := by
  by_cases c : p
  · rw [zc_t c, zc_t (h.mp c)]
  · rw [zc_f c, zc_f (fun y => c (h.mpr y))]
theorem zc_or {p : Prop} : zc p = 0 ∨ zc p = 1 := by
  by_cases c : p
  · exact Or.inr (zc_t c)
  · exact Or.inl (zc_f c)
theorem i_ifeq_c {σ : Type} {G : p_G} {M : p_M} {I : σ → p_H → Prop} {P : (Option Value) ⊕ String → σ → Prop} {d k n pc : Nat} {L : p_LL} {st : List Value} {X : σ} {p : Prop} {off : Int} {tgt : Nat} (hd : decode M.2.1 pc = .ok (.ifCond .eq off, 3)) (ht : (pc : Int) + off = (tgt : Int)) (kt : ¬ p → RW G M I P d k n tgt L st X) (kf : p → RW G M I P d k n (pc + 3) L st X) : RW G M I P d k n pc L (.int (iI (zc p)) :: st) X := @i_ifeq_b σ G M I P d k n pc L st X p (Classical.propDecidable p) off tgt hd ht kt kf
theorem i_ifne_c {σ : Type} {G : p_G} {M : p_M} {I : σ → p_H → Prop} {P : (Option Value) ⊕ String → σ → Prop} {d k n pc : Nat} {L : p_LL} {st : List Value} {X : σ} {p : Prop} {off : Int} {tgt : Nat} (hd : decode M.2.1 pc = .ok (.ifCond .ne off, 3)) (ht : (pc : Int) + off = (tgt : Int)) (kt : p → RW G M I P d k n tgt L st X) (kf : ¬ p → RW G M I P d k n (pc + 3) L st X) : RW G M I P d k n pc L (.int (iI (zc p)) :: st) X := @i_ifne_b σ G M I P d k n pc L st X p (Classical.propDecidable p) off tgt hd ht kt kf
theorem zc_zb {p : Prop} [Decidable p] : zb p = zc p := by
  by_cases c : p
  · rw [zc_t c, zb_t c]
  · rw [zc_f c, zb_f c]
end M16
