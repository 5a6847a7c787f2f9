/-! ===== ends, calls, new cells ===== -/
section SWrules3
variable {G : p_G} {M : p_M} {P : p_P} {d k n : Nat} {h : p_H} {pc : Nat} {L : p_LL} {st : List Value}
theorem r_ireturn {v : Int32} {ty : FieldType} (hd : decode M.2.1 pc = .ok (.ireturn, 1)) (hr : M.2.2.2 = some ty) (hn : narrow ty (.int v) = .int v) (hp : P (.inl (some (.int v))) h) : SW G M P d k n h pc L [.int v] := by
  intro p e R s m args below meth c H locs cells slots ls C B hS hR hL
  obtain ⟨hx, hb, -, hret, hlk, hown, -, -, hU⟩ := id C
  refine W.widen (k := R.cells) (n := R.slots) (by have := B.2.2.1; omega) (by have := B.2.2.2; omega) ?_
  exact vx_ret (W.zret hx hb (hret.trans hr) hn (fun t ht _ => ⟨_, h, rfl, hp, by rw [ht]; exact hR, hS.F ht⟩) hS.2.2 hd hlk)
theorem r_lreturn {v : Int64} (hd : decode M.2.1 pc = .ok (.lreturn, 1)) (hr : M.2.2.2 = some .long) (hp : P (.inl (some (.long v))) h) : SW G M P d k n h pc L [.long v] := by
  intro p e R s m args below meth c H locs cells slots ls C B hS hR hL
  obtain ⟨hx, hb, -, hret, hlk, hown, -, -, hU⟩ := id C
  refine W.widen (k := R.cells) (n := R.slots) (by have := B.2.2.1; omega) (by have := B.2.2.2; omega) ?_
  exact vx_ret (W.lret hx hb (hret.trans hr) (fun t ht _ => ⟨_, h, rfl, hp, by rw [ht]; exact hR, hS.F ht⟩) hS.2.2 hd hlk)
theorem r_freturn {v : UInt32} (hd : decode M.2.1 pc = .ok (.freturn, 1)) (hr : M.2.2.2 = some .float) (hp : P (.inl (some (.float v))) h) : SW G M P d k n h pc L [.float v] := by
  intro p e R s m args below meth c H locs cells slots ls C B hS hR hL
  obtain ⟨hx, hb, -, hret, hlk, hown, -, -, hU⟩ := id C
  refine W.widen (k := R.cells) (n := R.slots) (by have := B.2.2.1; omega) (by have := B.2.2.2; omega) ?_
  exact vx_ret (W.fret hx hb (hret.trans hr) (fun t ht _ => ⟨_, h, rfl, hp, by rw [ht]; exact hR, hS.F ht⟩) hS.2.2 hd hlk)
theorem r_dreturn {v : UInt64} (hd : decode M.2.1 pc = .ok (.dreturn, 1)) (hr : M.2.2.2 = some .double) (hp : P (.inl (some (.double v))) h) : SW G M P d k n h pc L [.double v] := by
  intro p e R s m args below meth c H locs cells slots ls C B hS hR hL
  obtain ⟨hx, hb, -, hret, hlk, hown, -, -, hU⟩ := id C
  refine W.widen (k := R.cells) (n := R.slots) (by have := B.2.2.1; omega) (by have := B.2.2.2; omega) ?_
  exact vx_ret (W.dret hx hb (hret.trans hr) (fun t ht _ => ⟨_, h, rfl, hp, by rw [ht]; exact hR, hS.F ht⟩) hS.2.2 hd hlk)
theorem r_areturn {v : Value} {ty : FieldType} (hd : decode M.2.1 pc = .ok (.areturn, 1)) (hr : M.2.2.2 = some ty) (ht : (∃ n, ty = .object n) ∨ ∃ t, ty = .array t) (hv : v = .null ∨ ∃ a, v = .ref a) (hp : P (.inl (some v)) h) : SW G M P d k n h pc L [v] := by
  intro p e R s m args below meth c H locs cells slots ls C B hS hR hL
  obtain ⟨hx, hb, -, hret, hlk, hown, -, -, hU⟩ := id C
  refine W.widen (k := R.cells) (n := R.slots) (by have := B.2.2.1; omega) (by have := B.2.2.2; omega) ?_
  exact vx_ret (W.aret hx hb (hret.trans hr) ht hv (fun t ht _ => ⟨_, h, rfl, hp, by rw [ht]; exact hR, hS.F ht⟩) hS.2.2 hd hlk)
theorem r_return (hd : decode M.2.1 pc = .ok (.return_, 1)) (hr : M.2.2.2 = none) (hp : P (.inl (none)) h) : SW G M P d k n h pc L [] := by
  intro p e R s m args below meth c H locs cells slots ls C B hS hR hL
  obtain ⟨hx, hb, -, hret, hlk, hown, -, -, hU⟩ := id C
  refine W.widen (k := R.cells) (n := R.slots) (by have := B.2.2.1; omega) (by have := B.2.2.2; omega) ?_
  exact vx_ret (W.vret hx hb (hret.trans hr) (fun t ht _ => ⟨_, h, rfl, hp, by rw [ht]; exact hR, hS.F ht⟩) hS.2.2 hd hlk)
/-- what a call's end leads to -/
def p_K (G : p_G) (M : p_M) (P : p_P) (d k n pc : Nat) (L : p_LL) (rest : List Value) : p_P := fun o h => match o with
  | .inl none => SW G M P d k n h pc L rest
  | .inl (some v) => SW G M P d k n h pc L (v :: rest)
  | .inr E => P (.inr E) h
theorem p_kv {v : Value} (kk : SW G M P d k n h pc L (v :: st)) : p_K G M P d k n pc L st (.inl (some v)) h := kk
theorem p_k0 (kk : SW G M P d k n h pc L st) : p_K G M P d k n pc L st (.inl none) h := kk
theorem p_kx {E : String} (hp : P (.inr E) h) : p_K G M P d k n pc L st (.inr E) h := hp
theorem p_S.call {s : State} {H : Heap} {locs : List Loc} (hU : p_S G s) (hS : va_S (p_A G) s.heap H locs) {U : State} (hh : U.heap = H) (hW : s.WarmedH U.vm) : p_S G U := by
  obtain ⟨h1, h2, h3, h4⟩ := hU
  refine ⟨h1, State.WarmedH.trans h2 hW, by rw [hh]; exact Nat.le_trans h3 hS.1, fun q hq => ?_⟩
  rw [hh, hS.2.1 q (Nat.lt_of_lt_of_le hq h3) (Nat.not_le.mpr hq)]
  exact h4 q hq
theorem p_blind {As : List Value} : FrameBlind (p_Pc G h As) := fun a U g mk q => by
  obtain ⟨q0, q1, q2⟩ := q
  exact ⟨q0, q1, q2⟩
/-- what a method's words are -/
def p_cf (M : p_M) (na : Nat) : Prop := Cond.code M.1 M.2.1 M.2.2.1 M.2.2.2 ∈ p_ws ∧ Cond.initialized M.1.cls ∈ p_ws ∧ (M.1.cls ≠ "java/lang/invoke/MethodHandle" ∧ M.1.cls ≠ "java/lang/invoke/VarHandle") ∧ (parseMethodDescriptor M.1.desc).map (fun d => d.parameters.length) = some na ∧ M.2.2.1 ≤ 13 ∧ plainName M.1.cls = true
theorem p_cf.of {na : Nat} (h1 : Cond.code M.1 M.2.1 M.2.2.1 M.2.2.2 ∈ lw_tbl) (h2 : Cond.initialized M.1.cls ∈ lw_tbl) (h3 : (decide (M.1.cls ≠ "java/lang/invoke/MethodHandle") && decide (M.1.cls ≠ "java/lang/invoke/VarHandle") && decide ((parseMethodDescriptor M.1.desc).map (fun d => d.parameters.length) = some na) && decide (M.2.2.1 ≤ 13) && plainName M.1.cls) = true) : p_cf M na := by
  simp only [Bool.and_eq_true, decide_eq_true_eq] at h3
  exact ⟨p_in h1 rfl, p_in h2 rfl, ⟨h3.1.1.1.1, h3.1.1.1.2⟩, h3.1.1.2, h3.1.2, h3.2⟩
/-- from a method's start -/
theorem SM.of {As : List Value} {na : Nat} (hc : p_cf M na) (hl : (lg_sl As).length ≤ M.2.2.1) (hL : ∀ (i : Nat) (v : Value), L[i]? = some (some v) → (i, v) ∈ lv_args 0 As) (kk : SW G M P d k n h 0 L []) : SM G M h As d k n P := by
  refine vx_ofW (cc := M.2.1) (maxL := M.2.2.1) (ret := M.2.2.2) hc.2.2.2.2.2 rfl ?_
  intro p e s m args below meth c s₁ B hml hE hv
  obtain ⟨rfl, hU, hR⟩ := hv
  have C : p_C G M p s m meth c := ⟨B.exec, B.bytes, hml, B.returns, B.notSynchronized, findClass_of_methodNamed B.named, (name_of_methodNamed B.named B.method).1, hE, hU⟩
  have h2 := lv_entry As (n := M.2.2.1) hl
  rw [lg_entry_eq]
  generalize (lg_sl As ++ List.replicate (M.2.2.1 - (lg_sl As).length) Slot.unset).toArray = ls at h2 ⊢
  exact kk p e _ s m As.toArray below meth c s.heap [] 0 0 ls C ⟨Nat.le_refl _, Nat.le_refl _, by simp [headSpec], by simp [headSpec]⟩ va_S.rf hR ⟨h2.1, h2.2.1, fun i v hi => h2.2.2 (i, v) (hL i v hi)⟩
/-- a run of a call goes on, or its throw leaves this method -/
theorem p_run {p : Program} {e : Env} {R : Room} {s : State} {m : MethodId} {args a : Array Value} {below : List Frame} {meth : Method} {c : Code} {H : Heap} {locs : List Loc} {cells slots mc ms : Nat} {ls : Array Slot} {rest : List Value} (C : p_C G M p s m meth c) (B : p_B d (mc + k) (ms + n) R cells slots) (hS : va_S (p_A G) s.heap H locs) (hL : p_L M.2.2.1 L ls)
    (hr : vx_Run p G.1 e R s m args below meth c H locs cells slots mc ms (F0 m pc ls st) rest (p_Q G (p_K G M P d k n (pc + 3) L rest) a) (p_X G (p_K G M P d k n (pc + 3) L rest)) (p_A G)) :
    W p G.1 e R s m args below meth c H locs cells slots (vx_MQ below (p_Q G P) (p_X G P) args s R.cells R.slots (p_A G)) (F0 m pc ls st) := by
  intro T hT X
  have hB1 : cells + mc + k ≤ R.cells := by have := B.2.2.1; omega
  have hB2 : slots + ms + n ≤ R.slots := by have := B.2.2.2; omega
  have keep : ∀ {st₀ t T' : State} {L0 : List Loc}, st₀.heap = H → T'.heap = t.heap → (∀ q ∈ L0, p_A G q.base) → va_F (p_A G) st₀ t → va_S (p_A G) s.heap T'.heap (locs ++ L0) := by
    intro st₀ t T' L0 h0 e1 hL0 hF
    refine ⟨Nat.le_trans hS.1 (by rw [e1, ← h0]; exact hF.1), fun q h1 h2 => ?_, fun q hq => (List.mem_append.mp hq).elim (hS.2.2 q) (hL0 q)⟩
    rw [e1, hF.2 q (by rw [h0]; exact Nat.lt_of_lt_of_le h1 hS.1) h2, h0]
    exact hS.2.1 q h1 h2
  rcases hr T hT X with ⟨v, st₀, t, T', L0, h0, X', hL0, e1, e2, ⟨v', h', hv, hP, hR', hF⟩, go⟩ | ⟨q, st₀, t, T', L0, E, ce, h0, X', hL0, e1, e2, ⟨h', hP, hR', hF⟩, hce, hcv, hcl, hst⟩
  · cases hv
    have hS' := keep h0 e1 hL0 hF
    rw [← e1] at hR'
    have kk : SW G M P d k n h' (pc + 3) L (v.toList ++ rest) := by
      cases v with
      | none => exact hP
      | some v => exact hP
    obtain ⟨t2, a1, b1⟩ := kk p e R s m args below meth c T'.heap (locs ++ L0) (cells + mc) (slots + ms) ls C ⟨B.1, B.2.1, hB1, hB2⟩ hS' hR' hL T' rfl X'
    exact ⟨t2, go t2 a1, b1⟩
  · have hS' := keep h0 e1 hL0 hF
    rw [← e1] at hR' hce
    have hX : vx_W p G.1 e R s m args below meth c T'.heap (locs ++ L0) (cells + mc) (slots + ms) (vx_MQ below (p_Q G P) (p_X G P) args s R.cells R.slots (p_A G)) (F0 m pc ls rest) q :=
      vx_out (fun x hx => (C.2.2.2.2.2.2.2.1 x hx).elim) C.2.2.2.2.1 hce hcv hcl (fun t2 ht2 _ => ⟨h', hP, by rw [ht2]; exact hR', hS'.F ht2⟩) hS'.2.2 (by omega) (by omega)
    obtain ⟨t2, a1, b1⟩ := hX T' rfl X'
    exact ⟨t2, hst.trans a1, b1⟩
theorem p_callB {M' : p_M} {na mc ms d' idx : Nat} {R : Room} {s : State} {args : Array Value} {cells slots : Nat} (hU : p_S G s) (hc : p_cf M' na) (hl : Cond.methodLink M.1.cls idx M'.1 ∈ p_ws) (B : p_B (d' + 1) (mc + k) (ms + n) R cells slots) :
    CallB R s args M.1.cls idx M'.1 M'.2.1 M'.2.2.1 M'.2.2.2 [Cond.code M'.1 M'.2.1 M'.2.2.1 M'.2.2.2] { frames := d', cells := mc, slots := ms, locals := 32 * d' } mc ms na := by
  obtain ⟨c1, c2, c3, c4, c5, c6⟩ := hc
  obtain ⟨b1, b2, b3, b4⟩ := B
  refine ⟨rfl, rfl, b1, ?_, fun w hw a' U hW => ?_, List.mem_cons_self, hU.word c1 args, hU.word c2 args, c3, fun sig hs => ?_, hU.word hl args⟩
  · show 8 + (M'.2.2.1 + 11) + 32 * d' ≤ R.locals
    omega
  · rw [List.mem_singleton.mp hw]
    exact word_at hW (good_of_word (List.mem_filter.mp c1).2) (hU.word c1 args)
  · rw [hs] at c4
    exact (Option.some.inj c4).symm
/-- invokestatic -/
theorem r_callS {M' : p_M} {na mc ms d' k' n' idx : Nat} {As rest : List Value} (hd : decode M.2.1 pc = .ok (.invokestatic idx, 3)) (hc : p_cf M' na) (hs : Cond.static M'.1 ∈ p_ws) (hl : Cond.methodLink M.1.cls idx M'.1 ∈ p_ws) (hn : As.length = na) (he : st = As.reverse ++ rest) (hr : (rest.map fun v => v.category).sum ≤ 8) (hk : k = mc + k') (hk2 : n = ms + n')
    (kk : SM G M' h As d' mc ms (p_K G M P (d' + 1) k' n' (pc + 3) L rest)) : SW G M P (d' + 1) k n h pc L st := by
  intro p e R s m args below meth c H locs cells slots ls C B hS hR hL
  subst hk; subst hk2
  obtain ⟨hx, hb, hml, hret, hlk, hown, hnam, hE, hU⟩ := id C
  refine p_run (rest := rest) (a := As.toArray) C B hS hL ?_
  exact vx_runS (Ts := []) ⟨hx, hb, hml, hown, fun w hw => by cases hw⟩ kk ⟨p_callB hU hc hl B, hU.word hs args⟩ ⟨p_blind, fun U hh hW => ⟨rfl, hU.call hS hh hW, by rw [hh]; exact hR⟩⟩ rfl hn hL.1 he (lv_room hr) hd ⟨by have := B.2.2.1; omega, by have := B.2.2.2; omega⟩
/-- invokevirtual of a method that the receiver's class has -/
theorem r_callV {M' : p_M} {na mc ms d' k' n' idx b ci : Nat} {As rest fs : List Value} {q : vw_C} (hd : decode M.2.1 pc = .ok (.invokevirtual idx, 3)) (hc : p_cf M' na) (hi : Cond.instanceMethod M'.1 ∈ p_ws) (hse : Cond.selects M'.1.cls M'.1 M'.1 ∈ p_ws) (hl : Cond.methodLink M.1.cls idx M'.1 ∈ p_ws) (hb0 : h b = some (.inr (ci, fs))) (hq : vwCl[ci]? = some q) (hq1 : q.1 = M'.1.cls) (hn : As.length = na) (he : st = As.reverse ++ .ref b :: rest) (hr : (rest.map fun v => v.category).sum ≤ 8) (hk : k = mc + k') (hk2 : n = ms + n')
    (kk : SM G M' h (.ref b :: As) d' mc ms (p_K G M P (d' + 1) k' n' (pc + 3) L rest)) : SW G M P (d' + 1) k n h pc L st := by
  intro p e R s m args below meth c H locs cells slots ls C B hS hR hL
  subst hk; subst hk2
  obtain ⟨hx, hb, hml, hret, hlk, hown, hnam, hE, hU⟩ := id C
  obtain ⟨ws, hP, hD, hw⟩ := id hR
  obtain ⟨q0, hq0⟩ := hw b _ hb0
  refine p_run (rest := rest) (a := (Value.ref b :: As).toArray) C B hS hL ?_
  exact vx_runV (Ts := []) ⟨hx, hb, hml, hown, fun w hw => by cases hw⟩ kk ⟨p_callB hU hc hl B, hU.word hi args, hU.word hse args⟩ ⟨p_blind, hq1 ▸ va_recv hU.K hP hq hq0, fun U hh hW => ⟨rfl, hU.call hS hh hW, by rw [hh]; exact hR⟩⟩ rfl hn hL.1 he (lv_room hr) hd ⟨by have := B.2.2.1; omega, by have := B.2.2.2; omega⟩
/-- invokespecial of a constructor -/
theorem r_callI {M' : p_M} {na mc ms d' k' n' idx b : Nat} {As rest : List Value} (hd : decode M.2.1 pc = .ok (.invokespecial idx, 3)) (hc : p_cf M' na) {y' : MethodName} {cc' : ByteArray} {nL' : Nat} (hM : M' = (y', cc', nL', none)) (hy : M'.1.name = "<init>") (hi : Cond.instanceMethod M'.1 ∈ p_ws) (hl : Cond.methodLink M.1.cls idx M'.1 ∈ p_ws) (hn : As.length = na) (he : st = As.reverse ++ .ref b :: rest) (hr : (rest.map fun v => v.category).sum ≤ 8) (hk : k = mc + k') (hk2 : n = ms + n')
    (kk : SM G M' h (.ref b :: As) d' mc ms (p_K G M P (d' + 1) k' n' (pc + 3) L rest)) : SW G M P (d' + 1) k n h pc L st := by
  intro p e R s m args below meth c H locs cells slots ls C B hS hR hL
  subst hk; subst hk2; subst hM
  obtain ⟨hx, hb, hml, hret, hlk, hown, hnam, hE, hU⟩ := id C
  refine p_run (rest := rest) (a := (Value.ref b :: As).toArray) C B hS hL ?_
  exact vx_runI (Ts := []) ⟨hx, hb, hml, hown, fun w hw => by cases hw⟩ kk ⟨p_callB hU hc hl B, hy, hU.word hi args⟩ ⟨p_blind, fun U hh hW => ⟨rfl, hU.call hS hh hW, by rw [hh]; exact hR⟩⟩ rfl hn hL.1 he (lv_room hr) hd ⟨by have := B.2.2.1; omega, by have := B.2.2.2; omega⟩
/-- Object's constructor -/
theorem r_objInit {d' idx a : Nat} (hd : decode M.2.1 pc = .ok (.invokespecial idx, 3)) (hl : Cond.methodLink M.1.cls idx Lib.objectInit ∈ p_ws) (hr : (st.map fun v => v.category).sum ≤ 8) (kk : SW G M P (d' + 1) k n h (pc + 3) L st) : SW G M P (d' + 1) k n h pc L (.ref a :: st) := by
  intro p e R s m args below meth c H locs cells slots ls C B hS hR hL
  obtain ⟨hx, hb, hml, hret, hlk, hown, hnam, hE, hU⟩ := id C
  have b1 := B.1
  have b2 := B.2.1
  have hr2 := lv_room (m := m) (pc := pc) (ls := ls) (rest := .ref a :: st) hr
  exact W.objInit hx hb hown (hU.word hl args) (hU.word (p_in (by decide +kernel) rfl) args) (hU.word (p_in (by decide +kernel) rfl) args) rfl (hL.1.trans hml.symm) rfl hd (by omega) (by omega)
    (kk p e R s m args below meth c H locs cells slots ls C B hS hR hL)
/-- new -/
def p_N (own : String) (idx ci : Nat) (fs : List Value) (N : Nat) : Prop := ∃ (C : String) (T : u_T) (ty : Nat → FieldType), vwCl[ci]? = some (C, T, N) ∧ Cond.classLink own idx C ∈ p_ws ∧ Cond.instantiable C N ∈ p_ws ∧ Cond.initialized C ∈ p_ws ∧ (∀ j, j < N → parseFieldDescriptor (T j).2.2.1 = some (ty j)) ∧ ∀ j, j < N → defaultValue (ty j) = vp_V fs j
theorem p_N.of {own C : String} {idx ci N : Nat} {T : u_T} {fs : List Value} (ty : Nat → FieldType) (hc : vwCl[ci]? = some (C, T, N)) (h1 : Cond.classLink own idx C ∈ lw_tbl) (h2 : Cond.instantiable C N ∈ lw_tbl) (h3 : Cond.initialized C ∈ lw_tbl) (hty : ∀ j, j < N → parseFieldDescriptor (T j).2.2.1 = some (ty j)) (hfs : ∀ j, j < N → defaultValue (ty j) = vp_V fs j) : p_N own idx ci fs N :=
  ⟨C, T, ty, hc, p_in h1 rfl, p_in h2 rfl, p_in h3 rfl, hty, hfs⟩
theorem r_new {idx ci N : Nat} {fs : List Value} (hd : decode M.2.1 pc = .ok (.new idx, 3)) (hf : p_N M.1.cls idx ci fs N) (kk : ∀ q : Nat, h q = none → SW G M P d k n (p_up h q (.inr (ci, fs))) (pc + 3) L (.ref q :: st)) : SW G M P d (k + 1) (n + N) h pc L st := by
  intro p e R s m args below meth c H locs cells slots ls C B hS hR hL
  obtain ⟨hx, hb, hml, hret, hlk, hown, hnam, hE, hU⟩ := id C
  obtain ⟨Cn, T, ty, hc, h1, h2, h3, hty, hfs⟩ := hf
  obtain ⟨ws, hP, hD, hw⟩ := id hR
  obtain ⟨b1, b2, b3, b4⟩ := B
  refine va_new (C := Cn) (T := T) (N := N) (Ts := p_ws) hx hb (fun w hw => hU.word hw args) (p_inC hc) ty hty hown (hU.word h1 args) (hU.word h2 args) (hU.word h3 args) hU.K hP hD hS (fun q hq => Nat.le_trans hU.2.2.1 hq) hc hfs (by omega) (by omega) hd (fun q H1 hP1 hD1 hS1 => ?_)
  obtain ⟨hn, hR1⟩ := p_R.push (e := .inr (ci, fs)) hw hP1 hD1
  exact kk q hn p e R s m args below meth c H1 locs (cells + 1) (slots + N) ls C ⟨b1, b2, by omega, by omega⟩ hS1 hR1 hL

theorem r_newaI {v : Int32} {N : Nat} (hd : decode M.2.1 pc = .ok (.newarray .int, 2)) (hn : ¬ v < 0) (hN : v.toNatClampNeg = N) (hb8 : N ≤ 60000) (kk : ∀ q : Nat, h q = none → SW G M P d k n (p_up h q (.inl (0, (N, .inl (fun _ => 0))))) (pc + 2) L (.ref q :: st)) : SW G M P d (k + 1) (n + N) h pc L (.int v :: st) := by
  intro p e R s m args below meth c H locs cells slots ls C B hS hR hL
  obtain ⟨hx, hb, hml, hret, hlk, hown, hnam, hE, hU⟩ := id C
  obtain ⟨ws, hP, hD, hw⟩ := id hR
  obtain ⟨b1, b2, b3, b4⟩ := B
  refine va_newa (atype := .int) (ty := .int) (a0 := (N, .inl (fun _ => 0))) hx hb (hU.word (p_in (by decide +kernel) rfl) args) rfl hU.K hP hD hS (fun q hq => Nat.le_trans hU.2.2.1 hq) (fun cA => rfl) hn hN (by simp only [componentBytes]; omega) (by omega) (by omega) hd (fun q cA H1 hK1 hP1 hD1 hS1 => ?_)
  have e1 : s.vm.findClass _ = some cA := (hK1.2 6 (cA, .int) rfl).2
  have e2 : s.vm.findClass _ = some (G.2.2.2 0) := (hU.K.2 0 (G.2.2.2 0, .int) rfl).2
  have e3 : cA = G.2.2.2 0 := Option.some.inj (e1.symm.trans e2)
  subst e3
  obtain ⟨hn, hR1⟩ := p_R.push (e := .inl (0, (N, .inl (fun _ => 0)))) hw hP1 hD1
  exact kk q hn p e R s m args below meth c H1 locs (cells + 1) (slots + N) ls C ⟨b1, b2, by omega, by omega⟩ hS1 hR1 hL
theorem r_newaJ {v : Int32} {N : Nat} (hd : decode M.2.1 pc = .ok (.newarray .long, 2)) (hn : ¬ v < 0) (hN : v.toNatClampNeg = N) (hb8 : N ≤ 60000) (kk : ∀ q : Nat, h q = none → SW G M P d k n (p_up h q (.inl (1, (N, .inr (.inl (fun _ => 0)))))) (pc + 2) L (.ref q :: st)) : SW G M P d (k + 1) (n + N) h pc L (.int v :: st) := by
  intro p e R s m args below meth c H locs cells slots ls C B hS hR hL
  obtain ⟨hx, hb, hml, hret, hlk, hown, hnam, hE, hU⟩ := id C
  obtain ⟨ws, hP, hD, hw⟩ := id hR
  obtain ⟨b1, b2, b3, b4⟩ := B
  refine va_newa (atype := .long) (ty := .long) (a0 := (N, .inr (.inl (fun _ => 0)))) hx hb (hU.word (p_in (by decide +kernel) rfl) args) rfl hU.K hP hD hS (fun q hq => Nat.le_trans hU.2.2.1 hq) (fun cA => rfl) hn hN (by simp only [componentBytes]; omega) (by omega) (by omega) hd (fun q cA H1 hK1 hP1 hD1 hS1 => ?_)
  have e1 : s.vm.findClass _ = some cA := (hK1.2 6 (cA, .long) rfl).2
  have e2 : s.vm.findClass _ = some (G.2.2.2 1) := (hU.K.2 1 (G.2.2.2 1, .long) rfl).2
  have e3 : cA = G.2.2.2 1 := Option.some.inj (e1.symm.trans e2)
  subst e3
  obtain ⟨hn, hR1⟩ := p_R.push (e := .inl (1, (N, .inr (.inl (fun _ => 0))))) hw hP1 hD1
  exact kk q hn p e R s m args below meth c H1 locs (cells + 1) (slots + N) ls C ⟨b1, b2, by omega, by omega⟩ hS1 hR1 hL
theorem r_newaZ {v : Int32} {N : Nat} (hd : decode M.2.1 pc = .ok (.newarray .boolean, 2)) (hn : ¬ v < 0) (hN : v.toNatClampNeg = N) (hb8 : N ≤ 60000) (kk : ∀ q : Nat, h q = none → SW G M P d k n (p_up h q (.inl (2, (N, .inl (fun _ => 0))))) (pc + 2) L (.ref q :: st)) : SW G M P d (k + 1) (n + N) h pc L (.int v :: st) := by
  intro p e R s m args below meth c H locs cells slots ls C B hS hR hL
  obtain ⟨hx, hb, hml, hret, hlk, hown, hnam, hE, hU⟩ := id C
  obtain ⟨ws, hP, hD, hw⟩ := id hR
  obtain ⟨b1, b2, b3, b4⟩ := B
  refine va_newa (atype := .boolean) (ty := .boolean) (a0 := (N, .inl (fun _ => 0))) hx hb (hU.word (p_in (by decide +kernel) rfl) args) rfl hU.K hP hD hS (fun q hq => Nat.le_trans hU.2.2.1 hq) (fun cA => rfl) hn hN (by simp only [componentBytes]; omega) (by omega) (by omega) hd (fun q cA H1 hK1 hP1 hD1 hS1 => ?_)
  have e1 : s.vm.findClass _ = some cA := (hK1.2 6 (cA, .boolean) rfl).2
  have e2 : s.vm.findClass _ = some (G.2.2.2 2) := (hU.K.2 2 (G.2.2.2 2, .boolean) rfl).2
  have e3 : cA = G.2.2.2 2 := Option.some.inj (e1.symm.trans e2)
  subst e3
  obtain ⟨hn, hR1⟩ := p_R.push (e := .inl (2, (N, .inl (fun _ => 0)))) hw hP1 hD1
  exact kk q hn p e R s m args below meth c H1 locs (cells + 1) (slots + N) ls C ⟨b1, b2, by omega, by omega⟩ hS1 hR1 hL
end SWrules3
