/-! ===== calls of a nest mate's private methods ===== -/
section SWrules4
variable {G : p_G} {M : p_M} {P : p_P} {d k n : Nat} {h : p_H} {pc : Nat} {L : p_LL} {st : List Value}
theorem p_met {l : Launch} {y : MethodName} {ws : List Cond} {rm : Room} {Pc : Array Value → State → Prop} {Qc : Array Value → State → Outcome → State → Prop} {XC : String → State → State → Prop} {mc ms : Nat} {free : Addr → Prop} (hM : vx_Met l y ws rm Pc Qc XC mc ms free) (hX : ∀ E st t, ¬ XC E st t) : Met l y ws rm Pc Qc mc ms free := by
  intro p e a b c s m args below f g hp hk
  obtain ⟨n, o, h1, h2, h3, h4⟩ := hM p e a b c s m args below f g hp hk
  refine ⟨n, o, h1, h2, h3, ?_⟩
  rcases h4 with h4 | ⟨q, -, E, ce, L, hx, -⟩
  · exact h4
  · exact absurd hx (hX _ _ _)
/-- what the end of a call leads to that throws nothing -/
def p_KN (G : p_G) (M : p_M) (P : p_P) (d k n pc : Nat) (L : p_LL) (rest : List Value) : p_P := fun o h => match o with
  | .inl none => SW G M P d k n h pc L rest
  | .inl (some v) => SW G M P d k n h pc L (v :: rest)
  | .inr _ => False
theorem p_kvN {v : Value} (kk : SW G M P d k n h pc L (v :: st)) : p_KN G M P d k n pc L st (.inl (some v)) h := kk
theorem p_k0N (kk : SW G M P d k n h pc L st) : p_KN G M P d k n pc L st (.inl none) h := kk
theorem SM.mono {As : List Value} {P' : p_P} (kk : SM G M h As d k n P') (hP : ∀ o h', P' o h' → P o h') : SM G M h As d k n P := by
  intro p e a b c s m args below f g hp hk
  obtain ⟨n, o, h1, h2, h3, h4⟩ := kk p e a b c s m args below f g hp hk
  refine ⟨n, o, h1, h2, h3, ?_⟩
  rcases h4 with ⟨⟨v, h', q1, q2, q3, q4⟩, hL⟩ | ⟨q, q0, E, ce, L, ⟨h', q2, q3, q4⟩, q5⟩
  · exact Or.inl ⟨⟨v, h', q1, hP _ _ q2, q3, q4⟩, hL⟩
  · exact Or.inr ⟨q, q0, E, ce, L, ⟨h', hP _ _ q2, q3, q4⟩, q5⟩
theorem p_S.nest {U : State} (hU : p_S G U) {own host : String} {idx : Nat} {y : MethodName} (hl : Cond.methodLinkNest own idx y host ∈ lw_tbl) (a : Array Value) : (Cond.methodLinkNest own idx y host).before a U = true := by
  obtain ⟨⟨⟨aL, hL⟩, -⟩, hW, -⟩ := hU
  exact va_Nw.use rfl (va_Nw.warmM hW (va_Nw.of rfl (hL _ hl)))
theorem p_callN {M' : p_M} {na mc ms d' idx : Nat} {host : String} {R : Room} {s : State} {args : Array Value} {cells slots : Nat} (hU : p_S G s) (hc : p_cf M' na) (hl : Cond.methodLinkNest M.1.cls idx M'.1 host ∈ lw_tbl) (B : p_B (d' + 1) (mc + k) (ms + n) R cells slots) :
    va_CN R s args M.1.cls idx M'.1 host M'.2.1 M'.2.2.1 M'.2.2.2 [Cond.code M'.1 M'.2.1 M'.2.2.1 M'.2.2.2] { frames := d', cells := mc, slots := ms, locals := 32 * d' } mc ms na := by
  obtain ⟨c1, c2, c3, c4, c5, c6⟩ := hc
  obtain ⟨b1, b2, b3, b4⟩ := B
  refine ⟨⟨rfl, rfl, b1, ?_, fun w hw a' U hW => ?_, List.mem_cons_self⟩, hU.word c1 args, hU.word c2 args, c3, fun sig hs => ?_, hU.nest hl args⟩
  · show 8 + (M'.2.2.1 + 11) + 32 * d' ≤ R.locals
    omega
  · rw [List.mem_singleton.mp hw]
    exact word_at hW (good_of_word (List.mem_filter.mp c1).2) (hU.word c1 args)
  · rw [hs] at c4
    exact (Option.some.inj c4).symm
theorem p_noX {rest : List Value} {pc' : Nat} : ∀ (E : String) (st t : State), ¬ p_X G (p_KN G M P d k n pc' L rest) E st t := fun E st t hx => by
  obtain ⟨h', q, -⟩ := hx
  exact q
theorem p_runN {p : Program} {e : Env} {R : Room} {s : State} {m : MethodId} {args a : Array Value} {below : List Frame} {meth : Method} {c : Code} {H : Heap} {locs : List Loc} {cells slots mc ms : Nat} {ls : Array Slot} {rest : List Value} (C : p_C G M p s m meth c) (B : p_B d (mc + k) (ms + n) R cells slots) (hS : va_S (p_A G) s.heap H locs) (hL : p_L M.2.2.1 L ls)
    (hr : va_Run p G.1 e R s m args below meth c H locs cells slots mc ms (F0 m pc ls st) rest (p_Q G (p_KN G M P d k n (pc + 3) L rest) a) (p_A G)) :
    W p G.1 e R s m args below meth c H locs cells slots (vx_MQ below (p_Q G P) (p_X G P) args s R.cells R.slots (p_A G)) (F0 m pc ls st) := by
  refine p_run (rest := rest) (a := a) C B hS hL (fun T hT X => Or.inl ?_)
  obtain ⟨v, st₀, t, T', L0, h0, X', hL0, e1, e2, ⟨v', h', hv, hP, hR', hF⟩, go⟩ := hr T hT X
  refine ⟨v, st₀, t, T', L0, h0, X', hL0, e1, e2, ⟨v', h', hv, ?_, hR', hF⟩, go⟩
  cases v' with
  | none => exact hP
  | some v => exact hP
theorem r_callSN {M' : p_M} {na mc ms d' k' n' idx : Nat} {host : String} {As rest : List Value} (hd : decode M.2.1 pc = .ok (.invokestatic idx, 3)) (hc : p_cf M' na) (hs : Cond.static M'.1 ∈ p_ws) (hl : Cond.methodLinkNest M.1.cls idx M'.1 host ∈ lw_tbl) (hn : As.length = na) (he : st = As.reverse ++ rest) (hr : (rest.map fun v => v.category).sum ≤ 8) (hk : k = mc + k') (hk2 : n = ms + n')
    (kk : SM G M' h As d' mc ms (p_KN G M P (d' + 1) k' n' (pc + 3) L rest)) : SW G M P (d' + 1) k n h pc L st := by
  intro p e R s m args below meth c H locs cells slots ls C B hS hR hL
  subst hk; subst hk2
  obtain ⟨hx, hb, hml, hret, hlk, hown, hnam, hE, hU⟩ := id C
  refine p_runN (rest := rest) (a := As.toArray) C B hS hL ?_
  exact va_runSN (Ts := []) ⟨hx, hb, hml, hown, fun w hw => by cases hw⟩ (p_met kk p_noX) ⟨p_callN hU hc hl B, hU.word hs args, trivial⟩ ⟨p_blind, fun U hh hW => ⟨rfl, hU.call hS hh hW, by rw [hh]; exact hR⟩⟩ rfl hn hL.1 he (lv_room hr) hd ⟨by have := B.2.2.1; omega, by have := B.2.2.2; omega⟩
theorem r_callIN {M' : p_M} {na mc ms d' k' n' idx b : Nat} {host : String} {As rest : List Value} (hd : decode M.2.1 pc = .ok (.invokespecial idx, 3)) (hc : p_cf M' na) {y' : MethodName} {cc' : ByteArray} {nL' : Nat} (hM : M' = (y', cc', nL', none)) (hy : M'.1.name = "<init>") (hi : Cond.instanceMethod M'.1 ∈ p_ws) (hl : Cond.methodLinkNest M.1.cls idx M'.1 host ∈ lw_tbl) (hn : As.length = na) (he : st = As.reverse ++ .ref b :: rest) (hr : (rest.map fun v => v.category).sum ≤ 8) (hk : k = mc + k') (hk2 : n = ms + n')
    (kk : SM G M' h (.ref b :: As) d' mc ms (p_KN G M P (d' + 1) k' n' (pc + 3) L rest)) : SW G M P (d' + 1) k n h pc L st := by
  intro p e R s m args below meth c H locs cells slots ls C B hS hR hL
  subst hk; subst hk2; subst hM
  obtain ⟨hx, hb, hml, hret, hlk, hown, hnam, hE, hU⟩ := id C
  refine p_runN (rest := rest) (a := (Value.ref b :: As).toArray) C B hS hL ?_
  exact va_runIN (Ts := []) ⟨hx, hb, hml, hown, fun w hw => by cases hw⟩ (p_met kk p_noX) ⟨p_callN hU hc hl B, hy, hU.word hi args⟩ ⟨p_blind, fun U hh hW => ⟨rfl, hU.call hS hh hW, by rw [hh]; exact hR⟩⟩ rfl hn hL.1 he (lv_room hr) hd ⟨by have := B.2.2.1; omega, by have := B.2.2.2; omega⟩
end SWrules4
