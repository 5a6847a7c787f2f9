/-! ===== calls whose throws are caught ===== -/
/-- the throw of an E at pc goes to hpc -/
def p_cat (hh : List (Nat × Nat × Nat × Nat)) (G : p_G) (own : String) (pc : Nat) (E : String) (hpc : Nat) : Prop := ∃ (pre : List ExceptionTableEntry) (x : ExceptionTableEntry) (suf : List ExceptionTableEntry), tableOf hh = pre ++ x :: suf ∧ (∀ z ∈ pre, covers z pc = false ∨ (z.catchType ≠ 0 ∧ ∃ nm : String, Cond.classLink own z.catchType nm ∈ p_ws ∧ ∀ s, p_S G s → va_Nc E nm s)) ∧ covers x pc = true ∧ x.catchType ≠ 0 ∧ x.handlerPc = hpc ∧ ∃ nm : String, Cond.classLink own x.catchType nm ∈ p_ws ∧ Cond.castable E nm ∈ lw_tbl
/-- what the end of a call leads to -/
def p_KX (hh : List (Nat × Nat × Nat × Nat)) (G : p_G) (M : p_M) (P : p_P) (d k n pc : Nat) (L : p_LL) (rest : List Value) : p_P := fun o h => match o with
  | .inl none => SX hh G M P d k n h (pc + 3) L rest
  | .inl (some v) => SX hh G M P d k n h (pc + 3) L (v :: rest)
  | .inr E => ∃ hpc, p_cat hh G M.1.cls pc E hpc ∧ ∀ q, SX hh G M P d k n h hpc L [.ref q]
section A8
variable {hh : List (Nat × Nat × Nat × Nat)} {G : p_G} {M : p_M} {P : p_P} {d k n : Nat} {h : p_H} {pc : Nat} {L : p_LL} {st : List Value}
theorem p_runX {p : Program} {e : Env} {R : Room} {s : State} {m : MethodId} {args a : Array Value} {below : List Frame} {meth : Method} {c : Code} {H : Heap} {locs : List Loc} {cells slots mc ms : Nat} {ls : Array Slot} {rest : List Value} (C : p_CX hh G M p s m meth c) (B : p_B d (mc + k) (ms + n) R cells slots) (hS : va_S (p_A G) s.heap H locs) (hL : p_L M.2.2.1 L ls)
    (hr : vx_Run p G.1 e R s m args below meth c H locs cells slots mc ms (F0 m pc ls st) rest (p_Q G (p_KX hh G M P d k n pc L rest) a) (p_X G (p_KX hh G M P d k n pc L rest)) (p_A G)) :
    W p G.1 e R s m args below meth c H locs cells slots (vx_MQ below (p_Q G P) (p_X G P) args s R.cells R.slots (p_A G)) (F0 m pc ls st) := by
  intro T hT X
  have hB1 : cells + mc + k ≤ R.cells := by have := B.2.2.1; omega
  have hB2 : slots + ms + n ≤ R.slots := by have := B.2.2.2; omega
  have keep : ∀ {st₀ t T' : State} {L0 : List Loc}, st₀.heap = H → T'.heap = t.heap → (∀ q ∈ L0, p_A G q.base) → va_F (p_A G) st₀ t → va_S (p_A G) s.heap T'.heap (locs ++ L0) := by
    intro st₀ t T' L0 h0 e1 hL0 hF
    refine ⟨Nat.le_trans hS.1 (by rw [e1, ← h0]; exact hF.1), fun q h1 h2 => ?_, fun q hq => (List.mem_append.mp hq).elim (hS.2.2 q) (hL0 q)⟩
    rw [e1, hF.2 q (by rw [h0]; exact Nat.lt_of_lt_of_le h1 hS.1) h2, h0]
    exact hS.2.1 q h1 h2
  rcases hr T hT X with ⟨v, st₀, t, T', L0, h0, X', hL0, e1, e2, ⟨v', h', hv, hP, hR', hF⟩, go⟩ | ⟨q, st₀, t, T', L0, E, ce, h0, X', hL0, e1, e2, ⟨h', hP, hR', hF⟩, hce, hcv, hcl, hst⟩
  · cases hv
    have hS' := keep h0 e1 hL0 hF
    rw [← e1] at hR'
    have kk : SX hh G M P d k n h' (pc + 3) L (v.toList ++ rest) := by
      cases v with
      | none => exact hP
      | some v => exact hP
    obtain ⟨t2, a1, b1⟩ := kk p e R s m args below meth c T'.heap (locs ++ L0) (cells + mc) (slots + ms) ls C ⟨B.1, B.2.1, hB1, hB2⟩ hS' hR' hL T' rfl X'
    exact ⟨t2, go t2 a1, b1⟩
  · have hS' := keep h0 e1 hL0 hF
    rw [← e1] at hR' hce
    obtain ⟨hpc, ⟨pre, x, suf, c1, c2, c3, c4, c5, nm, c6, c7⟩, kk⟩ := hP
    obtain ⟨hx, hb, hml, hret, hlk, hown, hnam, hE, hU⟩ := id C
    obtain ⟨⟨⟨aL, hL0'⟩, -⟩, hW, -⟩ := id hU
    have hX : vx_W p G.1 e R s m args below meth c T'.heap (locs ++ L0) (cells + mc) (slots + ms) (vx_MQ below (p_Q G P) (p_X G P) args s R.cells R.slots (p_A G)) (F0 m pc ls rest) q :=
      vx_catch hown pre x suf (hE.trans c1) (fun z hz => (c2 z hz).imp id (fun y => ⟨y.1, by
        obtain ⟨n1, n2, n3⟩ := y.2
        exact ⟨n1, hU.word n2 args, n3 s hU⟩⟩)) c3 c4 (hU.word c6 args) (va_Nw.use rfl (va_Nw.warmC hW (va_Nw.of rfl (hL0' _ c7)))) hce hcv hcl
        (by rw [c5]; exact kk q p e R s m args below meth c T'.heap (locs ++ L0) (cells + mc) (slots + ms) ls C ⟨B.1, B.2.1, hB1, hB2⟩ hS' hR' hL)
    obtain ⟨t2, a1, b1⟩ := hX T' rfl X'
    exact ⟨t2, hst.trans a1, b1⟩
theorem x_callV {M' : p_M} {na mc ms d' k' n' idx b ci : Nat} {As rest fs : List Value} {q : vw_C} (hd : decode M.2.1 pc = .ok (.invokevirtual idx, 3)) (hc : p_cf M' na) (hi : Cond.instanceMethod M'.1 ∈ p_ws) (hse : Cond.selects M'.1.cls M'.1 M'.1 ∈ p_ws) (hl : Cond.methodLink M.1.cls idx M'.1 ∈ p_ws) (hb0 : h b = some (.inr (ci, fs))) (hq : vwCl[ci]? = some q) (hq1 : q.1 = M'.1.cls) (hn : As.length = na) (he : st = As.reverse ++ .ref b :: rest) (hr : (rest.map fun v => v.category).sum ≤ 8) (hk : k = mc + k') (hk2 : n = ms + n')
    (kk : SM G M' h (.ref b :: As) d' mc ms (p_KX hh G M P (d' + 1) k' n' pc L rest)) : SX hh G M P (d' + 1) k n h pc L st := by
  intro p e R s m args below meth c H locs cells slots ls C B hS hR hL
  subst hk; subst hk2
  obtain ⟨hx, hb, hml, hret, hlk, hown, hnam, hE, hU⟩ := id C
  obtain ⟨ws, hP, hD, hw⟩ := id hR
  obtain ⟨q0, hq0⟩ := hw b _ hb0
  refine p_runX (rest := rest) (a := (Value.ref b :: As).toArray) C B hS hL ?_
  exact vx_runV (Ts := []) ⟨hx, hb, hml, hown, fun w hw => by cases hw⟩ kk ⟨p_callB hU hc hl B, hU.word hi args, hU.word hse args⟩ ⟨p_blind, hq1 ▸ va_recv hU.K hP hq hq0, fun U hh hW => ⟨rfl, hU.call hS hh hW, by rw [hh]; exact hR⟩⟩ rfl hn hL.1 he (lv_room hr) hd ⟨by have := B.2.2.1; omega, by have := B.2.2.2; omega⟩
/-- the call of a method with handlers -/
theorem r_callSX {hh' : List (Nat × Nat × Nat × Nat)} {M' : p_M} {na mc ms d' k' n' idx : Nat} {As rest : List Value} (hd : decode M.2.1 pc = .ok (.invokestatic idx, 3)) (hc : p_cfX hh' M' na) (hs : Cond.static M'.1 ∈ p_ws) (hl : Cond.methodLink M.1.cls idx M'.1 ∈ p_ws) (hn : As.length = na) (he : st = As.reverse ++ rest) (hr : (rest.map fun v => v.category).sum ≤ 8) (hk : k = mc + k') (hk2 : n = ms + n')
    (kk : SMX hh' G M' h As d' mc ms (p_K G M P (d' + 1) k' n' (pc + 3) L rest)) : SW G M P (d' + 1) k n h pc L st := by
  intro p e R s m args below meth c H locs cells slots ls C B hS hR hL
  subst hk; subst hk2
  obtain ⟨hx, hb, hml, hret, hlk, hown, hnam, hE, hU⟩ := id C
  refine p_run (rest := rest) (a := As.toArray) C B hS hL ?_
  obtain ⟨c1, c2, c3, c4, c5, c6⟩ := hc
  obtain ⟨b1, b2, b3, b4⟩ := id B
  refine vx_runSX (hh := hh') (Ts := []) ⟨hx, hb, hml, hown, fun w hw => by cases hw⟩ kk ⟨⟨rfl, rfl, b1, by show 8 + (M'.2.2.1 + 11) + 64 * d' ≤ R.locals; omega, fun w hw a' U hW => ?_, List.mem_cons_self⟩, hU.word c1 args, hU.word c2 args, c3, fun sig hs' => ?_, hU.word hl args, hU.word hs args⟩ ⟨p_blind, fun U hh hW => ⟨rfl, hU.call hS hh hW, by rw [hh]; exact hR⟩⟩ rfl hn hL.1 he (lv_room hr) hd ⟨by omega, by omega⟩
  · rw [List.mem_singleton.mp hw]
    exact word_at hW (good_of_word (List.mem_filter.mp c1).2) (hU.word c1 args)
  · rw [hs'] at c4
    exact (Option.some.inj c4).symm
end A8
