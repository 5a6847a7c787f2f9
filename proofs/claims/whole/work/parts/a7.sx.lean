/-! ===== steps of methods with handlers ===== -/
def p_CX (hh : List (Nat × Nat × Nat × Nat)) (G : p_G) (M : p_M) (p : Program) (s : State) (m : MethodId) (meth : Method) (c : Code) : Prop :=
  p.tables.exec = Jvm.exec ∧ c.code = M.2.1 ∧ c.maxLocals = M.2.2.1 ∧ meth.sig.returnType = M.2.2.2 ∧ meth.locks = false ∧ s.vm.findClass M.1.cls = some m.cls ∧ meth.name = M.1.name ∧ c.exceptionTable.toList = tableOf hh ∧ p_S G s
def SX (hh : List (Nat × Nat × Nat × Nat)) (G : p_G) (M : p_M) (P : p_P) (d k n : Nat) (h : p_H) (pc : Nat) (L : p_LL) (st : List Value) : Prop :=
  ∀ (p : Program) (e : Env) (R : Room) (s : State) (m : MethodId) (args : Array Value) (below : List Frame) (meth : Method) (c : Code) (H : Heap) (locs : List Loc) (cells slots : Nat) (ls : Array Slot),
    p_CX hh G M p s m meth c → p_B d k n R cells slots → va_S (p_A G) s.heap H locs → p_R G h H → p_L M.2.2.1 L ls →
    W p G.1 e R s m args below meth c H locs cells slots (vx_MQ below (p_Q G P) (p_X G P) args s R.cells R.slots (p_A G)) (F0 m pc ls st)
/-- a contract of a method with handlers -/
def SMX (hh : List (Nat × Nat × Nat × Nat)) (G : p_G) (M : p_M) (h : p_H) (As : List Value) (d k n : Nat) (P : p_P) : Prop :=
  vx_Met G.1 M.1 [Cond.codeWith M.1 M.2.1 M.2.2.1 M.2.2.2 hh] { frames := d, cells := k, slots := n, locals := 64 * d } (p_Pc G h As) (p_Q G P) (p_X G P) k n (p_A G)
section SXrules
variable {hh : List (Nat × Nat × Nat × Nat)} {G : p_G} {M : p_M} {P : p_P} {d k n : Nat} {h : p_H} {pc : Nat} {L : p_LL} {st : List Value}
theorem SX.sk {pc' : Nat} {st' : List Value} (step : ∀ {p : Program} {e : Env} {R : Room} {s : State} {m : MethodId} {args : Array Value} {below : List Frame} {meth : Method} {c : Code} {H : Heap} {locs : List Loc} {cells slots : Nat} {Q : State → Prop} {ls : Array Slot}, p.tables.exec = Jvm.exec → c.code = M.2.1 → p_L M.2.2.1 L ls →
      W p G.1 e R s m args below meth c H locs cells slots Q (F0 m pc' ls st') → W p G.1 e R s m args below meth c H locs cells slots Q (F0 m pc ls st))
    (kk : SX hh G M P d k n h pc' L st') : SX hh G M P d k n h pc L st :=
  fun p e R s m args below meth c H locs cells slots ls C B hS hR hL => step C.1 C.2.1 hL (kk p e R s m args below meth c H locs cells slots ls C B hS hR hL)
theorem SX.br {c0 : Prop} {pt pf : Nat} {st' : List Value} (step : ∀ {p : Program} {e : Env} {R : Room} {s : State} {m : MethodId} {args : Array Value} {below : List Frame} {meth : Method} {c : Code} {H : Heap} {locs : List Loc} {cells slots : Nat} {Q : State → Prop} {ls : Array Slot}, p.tables.exec = Jvm.exec → c.code = M.2.1 →
      (c0 → W p G.1 e R s m args below meth c H locs cells slots Q (F0 m pt ls st')) → (¬ c0 → W p G.1 e R s m args below meth c H locs cells slots Q (F0 m pf ls st')) → W p G.1 e R s m args below meth c H locs cells slots Q (F0 m pc ls st))
    (kt : c0 → SX hh G M P d k n h pt L st') (kf : ¬ c0 → SX hh G M P d k n h pf L st') : SX hh G M P d k n h pc L st :=
  fun p e R s m args below meth c H locs cells slots ls C B hS hR hL => step C.1 C.2.1 (fun c0 => kt c0 p e R s m args below meth c H locs cells slots ls C B hS hR hL) (fun c0 => kf c0 p e R s m args below meth c H locs cells slots ls C B hS hR hL)
theorem x_i2l {x : Int32} (hd : decode M.2.1 pc = .ok (.i2l, 1)) (kk : SX hh G M P d k n h (pc + 1) L (.long x.toInt64 :: st)) : SX hh G M P d k n h pc L (.int x :: st) := SX.sk (fun hx hb _ w => lv_i2l hx hb hd rfl w) kk
theorem x_iconst {q : Int} {v : Int32} (hd : decode M.2.1 pc = .ok (.iconst q, 1)) (hv : Int32.ofInt q = v) (kk : SX hh G M P d k n h (pc + 1) L (.int v :: st)) : SX hh G M P d k n h pc L (st) := SX.sk (fun hx hb _ w => lv_iconst hx hb hd hv w) kk
theorem x_lconst {q : Fin 2} {v : Int64} (hd : decode M.2.1 pc = .ok (.lconst q, 1)) (hv : Int64.ofNat (q : Nat) = v) (kk : SX hh G M P d k n h (pc + 1) L (.long v :: st)) : SX hh G M P d k n h pc L (st) := SX.sk (fun hx hb _ w => lv_lconst hx hb hd hv w) kk
theorem x_iload {i : Nat} {x : Int32} (hd : decode M.2.1 pc = .ok (.iload i, 2)) (hi : L[i]? = some (some (.int x))) (kk : SX hh G M P d k n h (pc + 2) L (.int x :: st)) : SX hh G M P d k n h pc L st := SX.sk (fun hx hb hL w => lv_iload hx hb hd (hL.at hi) w) kk
theorem x_iload_n {q : Fin 4} {x : Int32} (hd : decode M.2.1 pc = .ok (.iload_n q, 1)) (hi : L[(q : Nat)]? = some (some (.int x))) (kk : SX hh G M P d k n h (pc + 1) L (.int x :: st)) : SX hh G M P d k n h pc L st := SX.sk (fun hx hb hL w => lv_iload_n hx hb hd rfl (hL.at hi) w) kk
theorem x_lload {i : Nat} {x : Int64} (hd : decode M.2.1 pc = .ok (.lload i, 2)) (hi : L[i]? = some (some (.long x))) (kk : SX hh G M P d k n h (pc + 2) L (.long x :: st)) : SX hh G M P d k n h pc L st := SX.sk (fun hx hb hL w => lv_lload hx hb hd (hL.at hi) w) kk
theorem x_lload_n {q : Fin 4} {x : Int64} (hd : decode M.2.1 pc = .ok (.lload_n q, 1)) (hi : L[(q : Nat)]? = some (some (.long x))) (kk : SX hh G M P d k n h (pc + 1) L (.long x :: st)) : SX hh G M P d k n h pc L st := SX.sk (fun hx hb hL w => lv_lload_n hx hb hd rfl (hL.at hi) w) kk
theorem x_aload {i : Nat} {x : Nat} (hd : decode M.2.1 pc = .ok (.aload i, 2)) (hi : L[i]? = some (some (.ref x))) (kk : SX hh G M P d k n h (pc + 2) L (.ref x :: st)) : SX hh G M P d k n h pc L st := SX.sk (fun hx hb hL w => lv_aload hx hb hd (hL.at hi) w) kk
theorem x_aload_n {q : Fin 4} {x : Nat} (hd : decode M.2.1 pc = .ok (.aload_n q, 1)) (hi : L[(q : Nat)]? = some (some (.ref x))) (kk : SX hh G M P d k n h (pc + 1) L (.ref x :: st)) : SX hh G M P d k n h pc L st := SX.sk (fun hx hb hL w => lv_aload_n hx hb hd rfl (hL.at hi) w) kk
theorem x_goto {off : Int} {tgt : Nat} (hd : decode M.2.1 pc = .ok (.goto off, 3)) (ht : (pc : Int) + off = (tgt : Int)) (kk : SX hh G M P d k n h tgt L st) : SX hh G M P d k n h pc L st := SX.sk (fun hx hb _ w => lv_goto hx hb hd ht w) kk
theorem x_if_eq {x : Int32} {off : Int} {tgt : Nat} (hd : decode M.2.1 pc = .ok (.ifCond .eq off, 3)) (ht : (pc : Int) + off = (tgt : Int)) (kt : x = 0 → SX hh G M P d k n h tgt L st) (kf : ¬ (x = 0) → SX hh G M P d k n h (pc + 3) L st) : SX hh G M P d k n h pc L (.int x :: st) := SX.br (fun hx hb a b => lv_if_eq hx hb hd ht a b) kt kf
theorem x_astore {i : Nat} {x : Nat} {L' : p_LL} (hd : decode M.2.1 pc = .ok (.astore i, 2)) (hn : i < M.2.2.1) (hl : p_st1 L i (.ref x) = L') (kk : SX hh G M P d k n h (pc + 2) L' st) : SX hh G M P d k n h pc L (.ref x :: st) :=
  fun p e R s m args below meth c H locs cells slots ls C B hS hR hL => lv_astore C.1 C.2.1 hd hL.has hn rfl (fun ls' h' => kk p e R s m args below meth c H locs cells slots ls' C B hS hR (hl ▸ p_L.s1 h'))
theorem x_astore_n {q : Fin 4} {x : Nat} {L' : p_LL} (hd : decode M.2.1 pc = .ok (.astore_n q, 1)) (hn : (q : Nat) < M.2.2.1) (hl : p_st1 L (q : Nat) (.ref x) = L') (kk : SX hh G M P d k n h (pc + 1) L' st) : SX hh G M P d k n h pc L (.ref x :: st) :=
  fun p e R s m args below meth c H locs cells slots ls C B hS hR hL => lv_astore_n C.1 C.2.1 hd rfl hL.has hn rfl (fun ls' h' => kk p e R s m args below meth c H locs cells slots ls' C B hS hR (hl ▸ p_L.s1 h'))
theorem x_lastore {a N : Nat} {f : Nat → Int64} {i : Int32} {x : Int64} (hd : decode M.2.1 pc = .ok (.lastore, 1)) (ha : h a = some (.inl (1, (N, .inr (.inl f))))) (hi : vp_in i N) (kk : SX hh G M P d k n (p_up h a (.inl (1, (N, .inr (.inl (vp_updL f i.toNatClampNeg x)))))) (pc + 1) L st) : SX hh G M P d k n h pc L (.long x :: .int i :: .ref a :: st) := by
  intro p e R s m args below meth c H locs cells slots ls C B hS hR hL
  obtain ⟨hx, hb, -, -, -, hown, -, -, hU⟩ := id C
  obtain ⟨ws, hP, hD, hw⟩ := id hR
  obtain ⟨q0, hq⟩ := hw a _ ha
  exact va_last hx hb hU.K hP hD hS q0 1 hq rfl hi hd (fun H1 locs1 hP1 hD1 hS1 => kk p e R s m args below meth c H1 locs1 cells slots ls C B hS1 (p_R.set (e := .inl (1, (N, .inr (.inl (vp_updL f i.toNatClampNeg x))))) hw hq hP1 hD1) hL)
theorem x_dastore {a N : Nat} {f : Nat → UInt64} {i : Int32} {x : UInt64} (hd : decode M.2.1 pc = .ok (.dastore, 1)) (ha : h a = some (.inl (4, (N, .inr (.inr (.inr (.inl f))))))) (hi : vp_in i N) (kk : SX hh G M P d k n (p_up h a (.inl (4, (N, .inr (.inr (.inr (.inl (vf_upd f i.toNatClampNeg x)))))))) (pc + 1) L st) : SX hh G M P d k n h pc L (.double x :: .int i :: .ref a :: st) := by
  intro p e R s m args below meth c H locs cells slots ls C B hS hR hL
  obtain ⟨hx, hb, -, -, -, hown, -, -, hU⟩ := id C
  obtain ⟨ws, hP, hD, hw⟩ := id hR
  obtain ⟨q0, hq⟩ := hw a _ ha
  exact va_dast hx hb hU.K hP hD hS q0 4 hq rfl hi hd (fun H1 locs1 hP1 hD1 hS1 => kk p e R s m args below meth c H1 locs1 cells slots ls C B hS1 (p_R.set (e := .inl (4, (N, .inr (.inr (.inr (.inl (vf_upd f i.toNatClampNeg x))))))) hw hq hP1 hD1) hL)
theorem x_ireturn {v : Int32} {ty : FieldType} (hd : decode M.2.1 pc = .ok (.ireturn, 1)) (hr : M.2.2.2 = some ty) (hn : narrow ty (.int v) = .int v) (hp : P (.inl (some (.int v))) h) : SX hh G M P d k n h pc L [.int v] := by
  intro p e R s m args below meth c H locs cells slots ls C B hS hR hL
  obtain ⟨hx, hb, -, hret, hlk, hown, -, -, hU⟩ := id C
  refine W.widen (k := R.cells) (n := R.slots) (by have := B.2.2.1; omega) (by have := B.2.2.2; omega) ?_
  exact vx_ret (W.zret hx hb (hret.trans hr) hn (fun t ht _ => ⟨_, h, rfl, hp, by rw [ht]; exact hR, hS.F ht⟩) hS.2.2 hd hlk)
theorem SX.wk {L' : p_LL} (hs : ∀ (i : Nat) (v : Value), L'[i]? = some (some v) → L[i]? = some (some v)) (kk : SX hh G M P d k n h pc L' st) : SX hh G M P d k n h pc L st :=
  fun p e R s m args below meth c H locs cells slots ls C B hS hR hL => kk p e R s m args below meth c H locs cells slots ls C B hS hR ⟨hL.1, hL.2.1, fun i v hi => hL.2.2 i v (hs i v hi)⟩
/-- what the words of a method with handlers are -/
def p_cfX (hh : List (Nat × Nat × Nat × Nat)) (M : p_M) (na : Nat) : Prop := Cond.codeWith M.1 M.2.1 M.2.2.1 M.2.2.2 hh ∈ p_ws ∧ Cond.initialized M.1.cls ∈ p_ws ∧ (M.1.cls ≠ "java/lang/invoke/MethodHandle" ∧ M.1.cls ≠ "java/lang/invoke/VarHandle") ∧ (parseMethodDescriptor M.1.desc).map (fun d => d.parameters.length) = some na ∧ M.2.2.1 ≤ 45 ∧ plainName M.1.cls = true
theorem SMX.of {As : List Value} {na : Nat} (hc : p_cfX hh M na) (hl : (lg_sl As).length ≤ M.2.2.1) (hL : ∀ (i : Nat) (v : Value), L[i]? = some (some v) → (i, v) ∈ lv_args 0 As) (kk : SX hh G M P d k n h 0 L []) : SMX hh G M h As d k n P := by
  refine vx_ofWH (cc := M.2.1) (maxL := M.2.2.1) (ret := M.2.2.2) (hh := hh) hc.2.2.2.2.2 rfl ?_
  intro p e s m args below meth c s₁ B hml hv
  obtain ⟨rfl, hU, hR⟩ := hv
  have C : p_CX hh G M p s m meth c := ⟨B.exec, B.bytes, hml, B.returns, B.notSynchronized, findClass_of_methodNamed B.named, (name_of_methodNamed B.named B.method).1, vx_table (x := M.1) B (hU.word hc.1 As.toArray), hU⟩
  have h2 := lv_entry As (n := M.2.2.1) hl
  rw [lg_entry_eq]
  generalize (lg_sl As ++ List.replicate (M.2.2.1 - (lg_sl As).length) Slot.unset).toArray = ls at h2 ⊢
  exact kk p e _ s m As.toArray below meth c s.heap [] 0 0 ls C ⟨Nat.le_refl _, Nat.le_refl _, by simp [headSpec], by simp [headSpec]⟩ va_S.rf hR ⟨h2.1, h2.2.1, fun i v hi => h2.2.2 (i, v) (hL i v hi)⟩
end SXrules
