/-! ===== the reference: compile, homeShare, meanSetSize ===== -/
section M37
variable {G : p_G} {Y : Nat → Nat} {h0 : p_H} {d : Nat} {V : Nat → Int} {C : Nat → Int → Int} {J : Int → Int}
/-- walkers in accepting states -/
def wHm (w : Int → Int) (k : Int) : Int := zsum (fun k => zb (wAcc w (w (953 + 3 * k + 0)) (w (953 + 3 * k + 1)))) k.toNat
theorem wHm_rg {w : Int → Int} {k : Int} (h : 0 ≤ k) : 0 ≤ wHm w k ∧ wHm w k ≤ k := by
  unfold wHm
  have := @zsum_rg (fun k => zb (wAcc w (w (953 + 3 * k + 0)) (w (953 + 3 * k + 1)))) k.toNat (fun j _ _ => zb_01)
  omega
theorem wHm_s {w : Int → Int} {k : Int} (h : 0 ≤ k) : wHm w (k + 1) = wHm w k + zb (wAcc w (w (953 + 3 * k + 0)) (w (953 + 3 * k + 1))) := zsum_s h
/-- the sizes of the first t sets -/
def wSz (w : Int → Int) (s t : Int) : Int := zsum (fun j => zpc 31 (w (476 * s + (56 + j)) - w (476 * s + (56 + j)) % 2).toNat) t.toNat
theorem zpc_rg : ∀ k x : Nat, 0 ≤ zpc k x ∧ zpc k x ≤ k
  | 0, _ => ⟨Int.le_refl _, Int.le_refl _⟩
  | k + 1, x => by
    have := zpc_rg k (x / 2)
    show 0 ≤ ((x % 2 : Nat) : Int) + zpc k (x / 2) ∧ ((x % 2 : Nat) : Int) + zpc k (x / 2) ≤ ((k + 1 : Nat) : Int)
    omega
theorem wSz_rg {w : Int → Int} {s t : Int} (h : 0 ≤ t) : 0 ≤ wSz w s t ∧ wSz w s t ≤ t * 31 := by
  unfold wSz
  have := @zsum_le (fun j => zpc 31 (w (476 * s + (56 + j)) - w (476 * s + (56 + j)) % 2).toNat) 31 t.toNat (fun j _ _ => zpc_rg 31 _)
  omega
end M37
