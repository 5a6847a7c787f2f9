/-! ===== the law: from its start ===== -/
section C2
variable {G : p_G} {b N : Nat} {xs : Nat → Int32}
theorem l_start (hB : p_Beg G) (hX : p_Scr G b N xs) (hN : N < 2147483648) : SW G mL_law (fun o _ => o = .inl (some (.int (iI 1)))) 13 207659 1269232 (fun _ => none) 0 [some (.ref b), none, none, none, none, none, none, none, none, none, none, none, none, none, none, none] [] := by
  obtain ⟨hK, hZ, ⟨a1, v1, s1, r1⟩, a2, v2, s2, r2⟩ := hB
  refine r_new (k := 207658) (n := 1269219) (N := 13) dL_law_0 nL_8 (fun x hx => ?_)
  refine r_dup dL_law_3 rfl ?_
  refine r_callI (As := []) (mc := 158) (ms := 21719) (k' := 207500) (n' := 1247500) (d' := 12) dL_law_4 cfX10_init rfl rfl imX10_init lL_122 rfl rfl (Nat.le_of_ble_eq_true rfl) rfl rfl ?_
  refine q_ctor (d := 6) hK s1 s2 r1 r2 (p_up_eq.trans rfl) (fun Y V C J hY hc h2 hI => ?_)
  subst hY
  refine (show SW G mL_law (fun o _ => o = .inl (some (.int (iI 1)))) 13 207500 1247500 h2 7 [some (.ref b), none, none, none, none, none, none, none, none, none, none, none, none, none, none, none] [.ref (Y 0)] from ?_)
  refine r_astore_n (L' := [some (.ref b), some (.ref (Y 0)), none, none, none, none, none, none, none, none, none, none, none, none, none, none]) dL_law_7 (by decide) rfl ?_
  refine r_iconst (v := iI 0) dL_law_8 rfl ?_
  refine r_istore_n (L' := [some (.ref b), some (.ref (Y 0)), some (.int (iI 0)), none, none, none, none, none, none, none, none, none, none, none, none, none]) dL_law_9 (by decide) rfl ?_
  refine r_iconst (v := iI 0) dL_law_10 rfl ?_
  refine r_istore_n (L' := [some (.ref b), some (.ref (Y 0)), some (.int (iI 0)), some (.int (iI 0)), none, none, none, none, none, none, none, none, none, none, none, none]) dL_law_11 (by decide) rfl ?_
  obtain ⟨⟨c0, c1, c2, c3, c4⟩, ⟨c10, c11, c12, c13⟩, -, hcN⟩ := hc
  have hL : gLw V C J wBg 0 (fun _ _ => 0) := ⟨hcN _ wBg_ok, wBg_G.1, ⟨by omega, ⟨c11, by decide, by decide⟩, fun i i0 i1 => absurd i1 (by omega)⟩, fun i i0 i1 => absurd i1 (by omega), c1, c2, c4⟩
  have main := fun h0 : p_H => l_loop (d := 0) (G := G) (Y := Y) (h0 := h0) (P := fun o _ => o = .inl (some (.int (iI 1)))) hZ hX hN (fun _ => rfl) 5 0 0 wBg (fun _ _ => 0) V C J (by decide) (by decide) (Or.inl ⟨rfl, rfl, wBg_G.2⟩) hL
  exact SW.mono (RW.room (d := 13) (k := 207500) (n := 1247500) (by decide) (by decide) (by decide) (main _) h2 hI) (fun o h' hq => by
    obtain ⟨y, p, i⟩ := hq
    exact p)
end C2
