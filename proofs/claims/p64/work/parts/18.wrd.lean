/-! ===== the reference: words counted and written, the calls ===== -/
section M18
variable {G : p_G} {Y : Nat → Nat} {h0 : p_H} {d : Nat} {V : Nat → Int} {C : Nat → Int → Int} {J : Int → Int}
/-- words that begin with the buffer's word -/
noncomputable def wPre (w b : Int → Int) (s m n : Int) : Int := zc (m ≤ n ∧ ∀ i, 0 ≤ i → i < m → bStr b i) * wCW w s (n - m).toNat (wRun w b s m.toNat)
end M18
