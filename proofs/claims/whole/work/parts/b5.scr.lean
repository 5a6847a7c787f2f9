/-! ===== the law's script ===== -/
/-- the script of n ints xs at b -/
def p_Scr (G : p_G) (b n : Nat) (xs : Nat → Int32) : Prop := va_X b n xs G.2.1 G.2.1.heap ∧ b < G.2.1.heap.size
section B5
variable {G : p_G} {M : p_M} {P : p_Zt} {d k n : Nat} {h : p_H} {pc : Nat} {L : p_LL} {st : List Value} {b N : Nat} {xs : Nat → Int32}
theorem p_Scr.at (hX : p_Scr G b N xs) {U : State} (hU : p_S G U) : va_X b N xs U U.heap ∧ b < U.heap.size ∧ ¬ p_A G b :=
  ⟨(va_X.moved hU.2.1.alike hX.1).kept (hU.2.2.2 b hX.2), Nat.lt_of_lt_of_le hX.2 hU.2.2.1, Nat.not_le.mpr hX.2⟩
theorem y_sld {i : Int32} (hX : p_Scr G b N xs) (hd : decode M.2.1 pc = .ok (.iaload, 1)) (hi : vp_in i N) (kk : SL G M P d k n h (pc + 1) L (.int (xs i.toNatClampNeg) :: st)) : SL G M P d k n h pc L (.int i :: .ref b :: st) := by
  intro p e R s m args below meth c H locs cells slots ls C B hS hR hL
  obtain ⟨hx, hb, hml, hret, hlk, hown, hnam, hE, hU⟩ := id C
  obtain ⟨h1, h2, h3⟩ := hX.at hU
  exact va_sld hx hb h1 h2 h3 hS hi hd (kk p e R s m args below meth c H locs cells slots ls C B hS hR hL)
theorem y_slen (hX : p_Scr G b N xs) (hd : decode M.2.1 pc = .ok (.arraylength, 1)) (kk : SL G M P d k n h (pc + 1) L (.int (Int32.ofNat N) :: st)) : SL G M P d k n h pc L (.ref b :: st) := by
  intro p e R s m args below meth c H locs cells slots ls C B hS hR hL
  obtain ⟨hx, hb, hml, hret, hlk, hown, hnam, hE, hU⟩ := id C
  obtain ⟨h1, h2, h3⟩ := hX.at hU
  exact va_slen hx hb h1 h2 h3 hS hd (kk p e R s m args below meth c H locs cells slots ls C B hS hR hL)
end B5
