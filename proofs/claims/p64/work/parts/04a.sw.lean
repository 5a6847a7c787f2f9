/-! ===== a logic of steps: heaps by address, locals by place, one judgement SW, a contract SM ===== -/
abbrev p_E : Type := (Nat × vp_A) ⊕ (Nat × List Value)
abbrev p_H : Type := Nat → Option p_E
abbrev p_G : Type := Launch × State × va_G × (Nat → ClassId)
abbrev p_M : Type := MethodName × ByteArray × Nat × Option FieldType
abbrev p_P : Type := (Option Value) ⊕ String → p_H → Prop
abbrev p_LL : Type := List (Option Value)
def p_up (h : p_H) (a : Nat) (e : p_E) : p_H := fun b => if b = a then some e else h b
theorem p_up_eq {h : p_H} {a : Nat} {e : p_E} : p_up h a e a = some e := if_pos rfl
theorem p_up_ne {h : p_H} {a b : Nat} {e : p_E} (n : b ≠ a) : p_up h a e b = h b := if_neg n
def p_enc (cy : Nat → ClassId) (e : p_E) : va_E := match e with
  | .inl t => .inl (cy t.1, t.2)
  | .inr o => .inr o
def p_tys (cy : Nat → ClassId) : List (ClassId × FieldType) := [(cy 0, .int), (cy 1, .long), (cy 2, .boolean), (cy 3, .int), (cy 4, .int), (cy 5, .object RX9)]
def p_A (G : p_G) : Nat → Prop := fun q => G.2.1.heap.size ≤ q
/-- the heap H holds the cells of h, all of them new since the law began -/
def p_R (G : p_G) (h : p_H) (H : Heap) : Prop := ∃ ws : va_W, va_P G.2.2.1 vwCl ws H ∧ va_D (p_A G) ws ∧ ∀ (a : Nat) (e : p_E), h a = some e → ∃ k : Nat, ws[k]? = some (a, p_enc G.2.2.2 e)
def p_ws : List Cond := lw_tbl.filter goodWord
theorem p_in {w : Cond} (h : w ∈ lw_tbl) (g : goodWord w = true) : w ∈ p_ws := List.mem_filter.mpr ⟨h, g⟩
/-- what holds of the law's start -/
def p_F0 (G : p_G) : Prop := (∃ aL : Array Value, ∀ w ∈ lw_tbl, w.before aL G.2.1 = true) ∧ va_K G.2.2.1 vwCl (p_tys G.2.2.2) G.2.1 ∧ G.1.stackTraces = false
/-- what holds of a state at the start of a call -/
def p_S (G : p_G) (U : State) : Prop := p_F0 G ∧ G.2.1.WarmedH U.vm ∧ G.2.1.heap.size ≤ U.heap.size ∧ ∀ q : Nat, q < G.2.1.heap.size → U.heap[q]? = G.2.1.heap[q]?
theorem p_S.word {G : p_G} {U : State} (h : p_S G U) {w : Cond} (hw : w ∈ p_ws) (a : Array Value) : w.before a U = true := by
  obtain ⟨⟨⟨aL, hL⟩, -⟩, hW, -⟩ := h
  obtain ⟨h1, h2⟩ := List.mem_filter.mp hw
  exact word_at hW (good_of_word h2) (hL w h1)
theorem p_S.K {G : p_G} {U : State} (h : p_S G U) : va_K G.2.2.1 vwCl (p_tys G.2.2.2) U := va_K.moved h.2.1.alike h.1.2.1
/-- the locals -/
def p_L (nL : Nat) (L : p_LL) (ls : Array Slot) : Prop := ls.size = nL ∧ lv_wf ls ∧ ∀ (i : Nat) (v : Value), L[i]? = some (some v) → ls[i]? = some (.val v)
def p_C (G : p_G) (M : p_M) (p : Program) (s : State) (m : MethodId) (meth : Method) (c : Code) : Prop :=
  p.tables.exec = Jvm.exec ∧ c.code = M.2.1 ∧ c.maxLocals = M.2.2.1 ∧ meth.sig.returnType = M.2.2.2 ∧ meth.locks = false ∧ s.vm.findClass M.1.cls = some m.cls ∧ meth.name = M.1.name ∧ (∀ x ∈ c.exceptionTable.toList, False) ∧ p_S G s
def p_B (d k n : Nat) (R : Room) (cells slots : Nat) : Prop := d ≤ R.frames ∧ 32 * d ≤ R.locals ∧ cells + k ≤ R.cells ∧ slots + n ≤ R.slots
def p_Q (G : p_G) (P : p_P) : Array Value → State → Outcome → State → Prop := fun _ st oc t => ∃ (v : Option Value) (h : p_H), oc = .returned v ∧ P (.inl v) h ∧ p_R G h t.heap ∧ va_F (p_A G) st t
def p_X (G : p_G) (P : p_P) : String → State → State → Prop := fun E st t => ∃ h : p_H, P (.inr E) h ∧ p_R G h t.heap ∧ va_F (p_A G) st t
def p_Pc (G : p_G) (h : p_H) (As : List Value) : Array Value → State → Prop := va_Pc As (fun U => p_S G U ∧ p_R G h U.heap)
/-- from pc, with locals L, stack st and heap h, with room for d frames, k cells, n slots: every end has P -/
def SW (G : p_G) (M : p_M) (P : p_P) (d k n : Nat) (h : p_H) (pc : Nat) (L : p_LL) (st : List Value) : Prop :=
  ∀ (p : Program) (e : Env) (R : Room) (s : State) (m : MethodId) (args : Array Value) (below : List Frame) (meth : Method) (c : Code) (H : Heap) (locs : List Loc) (cells slots : Nat) (ls : Array Slot),
    p_C G M p s m meth c → p_B d k n R cells slots → va_S (p_A G) s.heap H locs → p_R G h H → p_L M.2.2.1 L ls →
    W p G.1 e R s m args below meth c H locs cells slots (vx_MQ below (p_Q G P) (p_X G P) args s R.cells R.slots (p_A G)) (F0 m pc ls st)
/-- a method's contract: from these arguments and this heap, with room for d frames, every end has P; at most k cells of n slots are made -/
def SM (G : p_G) (M : p_M) (h : p_H) (As : List Value) (d k n : Nat) (P : p_P) : Prop :=
  vx_Met G.1 M.1 [Cond.code M.1 M.2.1 M.2.2.1 M.2.2.2] { frames := d, cells := k, slots := n, locals := 32 * d } (p_Pc G h As) (p_Q G P) (p_X G P) k n (p_A G)
section SWrules
variable {G : p_G} {M : p_M} {P : p_P} {d k n : Nat} {h : p_H} {pc : Nat} {L : p_LL} {st : List Value}
/-- a step of the stack alone -/
theorem SW.sk {pc' : Nat} {st' : List Value} (step : ∀ {p : Program} {e : Env} {R : Room} {s : State} {m : MethodId} {args : Array Value} {below : List Frame} {meth : Method} {c : Code} {H : Heap} {locs : List Loc} {cells slots : Nat} {Q : State → Prop} {ls : Array Slot}, p.tables.exec = Jvm.exec → c.code = M.2.1 → p_L M.2.2.1 L ls →
      W p G.1 e R s m args below meth c H locs cells slots Q (F0 m pc' ls st') → W p G.1 e R s m args below meth c H locs cells slots Q (F0 m pc ls st))
    (kk : SW G M P d k n h pc' L st') : SW G M P d k n h pc L st :=
  fun p e R s m args below meth c H locs cells slots ls C B hS hR hL => step C.1 C.2.1 hL (kk p e R s m args below meth c H locs cells slots ls C B hS hR hL)
/-- a branch -/
theorem SW.br {c0 : Prop} {pt pf : Nat} {st' : List Value} (step : ∀ {p : Program} {e : Env} {R : Room} {s : State} {m : MethodId} {args : Array Value} {below : List Frame} {meth : Method} {c : Code} {H : Heap} {locs : List Loc} {cells slots : Nat} {Q : State → Prop} {ls : Array Slot}, p.tables.exec = Jvm.exec → c.code = M.2.1 →
      (c0 → W p G.1 e R s m args below meth c H locs cells slots Q (F0 m pt ls st')) → (¬ c0 → W p G.1 e R s m args below meth c H locs cells slots Q (F0 m pf ls st')) → W p G.1 e R s m args below meth c H locs cells slots Q (F0 m pc ls st))
    (kt : c0 → SW G M P d k n h pt L st') (kf : ¬ c0 → SW G M P d k n h pf L st') : SW G M P d k n h pc L st :=
  fun p e R s m args below meth c H locs cells slots ls C B hS hR hL => step C.1 C.2.1 (fun c0 => kt c0 p e R s m args below meth c H locs cells slots ls C B hS hR hL) (fun c0 => kf c0 p e R s m args below meth c H locs cells slots ls C B hS hR hL)
theorem p_L.at {nL i : Nat} {ls : Array Slot} {v : Value} (hL : p_L nL L ls) (hi : L[i]? = some (some v)) : ls[i]? = some (.val v) := hL.2.2 i v hi

theorem r_iadd {x y : Int32} (hd : decode M.2.1 pc = .ok (.iadd, 1)) (kk : SW G M P d k n h (pc + 1) L (.int (x + y) :: st)) : SW G M P d k n h pc L (.int y :: .int x :: st) := SW.sk (fun hx hb _ w => lv_iadd hx hb hd w) kk
theorem r_isub {x y : Int32} (hd : decode M.2.1 pc = .ok (.isub, 1)) (kk : SW G M P d k n h (pc + 1) L (.int (x - y) :: st)) : SW G M P d k n h pc L (.int y :: .int x :: st) := SW.sk (fun hx hb _ w => lv_isub hx hb hd w) kk
theorem r_imul {x y : Int32} (hd : decode M.2.1 pc = .ok (.imul, 1)) (kk : SW G M P d k n h (pc + 1) L (.int (x * y) :: st)) : SW G M P d k n h pc L (.int y :: .int x :: st) := SW.sk (fun hx hb _ w => lv_imul hx hb hd w) kk
theorem r_iand {x y : Int32} (hd : decode M.2.1 pc = .ok (.iand, 1)) (kk : SW G M P d k n h (pc + 1) L (.int (x &&& y) :: st)) : SW G M P d k n h pc L (.int y :: .int x :: st) := SW.sk (fun hx hb _ w => lv_iand hx hb hd w) kk
theorem r_ior {x y : Int32} (hd : decode M.2.1 pc = .ok (.ior, 1)) (kk : SW G M P d k n h (pc + 1) L (.int (x ||| y) :: st)) : SW G M P d k n h pc L (.int y :: .int x :: st) := SW.sk (fun hx hb _ w => lv_ior hx hb hd w) kk
theorem r_ixor {x y : Int32} (hd : decode M.2.1 pc = .ok (.ixor, 1)) (kk : SW G M P d k n h (pc + 1) L (.int (x ^^^ y) :: st)) : SW G M P d k n h pc L (.int y :: .int x :: st) := SW.sk (fun hx hb _ w => lv_ixor hx hb hd w) kk
theorem r_idiv {x y : Int32} (hd : decode M.2.1 pc = .ok (.idiv, 1)) (h0 : ¬ y = 0) (kk : SW G M P d k n h (pc + 1) L (.int (x / y) :: st)) : SW G M P d k n h pc L (.int y :: .int x :: st) := SW.sk (fun hx hb _ w => lv_idiv hx hb hd h0 w) kk
theorem r_irem {x y : Int32} (hd : decode M.2.1 pc = .ok (.irem, 1)) (h0 : ¬ y = 0) (kk : SW G M P d k n h (pc + 1) L (.int (x - x / y * y) :: st)) : SW G M P d k n h pc L (.int y :: .int x :: st) := SW.sk (fun hx hb _ w => lv_irem hx hb hd h0 w) kk
theorem r_ishl {x y : Int32} (hd : decode M.2.1 pc = .ok (.ishl, 1)) (kk : SW G M P d k n h (pc + 1) L (.int (x <<< (y &&& 31)) :: st)) : SW G M P d k n h pc L (.int y :: .int x :: st) := SW.sk (fun hx hb _ w => lv_ishl hx hb hd w) kk
theorem r_ishr {x y : Int32} (hd : decode M.2.1 pc = .ok (.ishr, 1)) (kk : SW G M P d k n h (pc + 1) L (.int (x >>> (y &&& 31)) :: st)) : SW G M P d k n h pc L (.int y :: .int x :: st) := SW.sk (fun hx hb _ w => lv_ishr hx hb hd w) kk
theorem r_iushr {x y : Int32} (hd : decode M.2.1 pc = .ok (.iushr, 1)) (kk : SW G M P d k n h (pc + 1) L (.int ((x.toUInt32 >>> (y.toUInt32 &&& Int32.toUInt32 31)).toInt32) :: st)) : SW G M P d k n h pc L (.int y :: .int x :: st) := SW.sk (fun hx hb _ w => lv_iushr hx hb hd rfl w) kk
theorem r_ladd {x y : Int64} (hd : decode M.2.1 pc = .ok (.ladd, 1)) (kk : SW G M P d k n h (pc + 1) L (.long (x + y) :: st)) : SW G M P d k n h pc L (.long y :: .long x :: st) := SW.sk (fun hx hb _ w => lv_ladd hx hb hd w) kk
theorem r_lsub {x y : Int64} (hd : decode M.2.1 pc = .ok (.lsub, 1)) (kk : SW G M P d k n h (pc + 1) L (.long (x - y) :: st)) : SW G M P d k n h pc L (.long y :: .long x :: st) := SW.sk (fun hx hb _ w => lv_lsub hx hb hd w) kk
theorem r_land {x y : Int64} (hd : decode M.2.1 pc = .ok (.land, 1)) (kk : SW G M P d k n h (pc + 1) L (.long (x &&& y) :: st)) : SW G M P d k n h pc L (.long y :: .long x :: st) := SW.sk (fun hx hb _ w => lv_land hx hb hd w) kk
theorem r_lor {x y : Int64} (hd : decode M.2.1 pc = .ok (.lor, 1)) (kk : SW G M P d k n h (pc + 1) L (.long (x ||| y) :: st)) : SW G M P d k n h pc L (.long y :: .long x :: st) := SW.sk (fun hx hb _ w => lv_lor hx hb hd w) kk
theorem r_lshl {x : Int64} {y : Int32} (hd : decode M.2.1 pc = .ok (.lshl, 1)) (kk : SW G M P d k n h (pc + 1) L (.long (x <<< (y.toInt64 &&& 63)) :: st)) : SW G M P d k n h pc L (.int y :: .long x :: st) := SW.sk (fun hx hb _ w => lv_lshl hx hb hd rfl w) kk
theorem r_lshr {x : Int64} {y : Int32} (hd : decode M.2.1 pc = .ok (.lshr, 1)) (kk : SW G M P d k n h (pc + 1) L (.long (x >>> (y.toInt64 &&& 63)) :: st)) : SW G M P d k n h pc L (.int y :: .long x :: st) := SW.sk (fun hx hb _ w => lv_lshr hx hb hd rfl w) kk
theorem r_i2l {x : Int32} (hd : decode M.2.1 pc = .ok (.i2l, 1)) (kk : SW G M P d k n h (pc + 1) L (.long x.toInt64 :: st)) : SW G M P d k n h pc L (.int x :: st) := SW.sk (fun hx hb _ w => lv_i2l hx hb hd rfl w) kk
theorem r_l2i {x : Int64} (hd : decode M.2.1 pc = .ok (.l2i, 1)) (kk : SW G M P d k n h (pc + 1) L (.int x.toInt32 :: st)) : SW G M P d k n h pc L (.long x :: st) := SW.sk (fun hx hb _ w => lv_l2i hx hb hd rfl w) kk
theorem r_i2c {x : Int32} (hd : decode M.2.1 pc = .ok (.i2c, 1)) (kk : SW G M P d k n h (pc + 1) L (.int (x.toUInt32 % 65536).toInt32 :: st)) : SW G M P d k n h pc L (.int x :: st) := SW.sk (fun hx hb _ w => lv_i2c hx hb hd rfl w) kk
theorem r_i2f {x : Int32} (hd : decode M.2.1 pc = .ok (.i2f, 1)) (kk : SW G M P d k n h (pc + 1) L (.float (FP.i2f x) :: st)) : SW G M P d k n h pc L (.int x :: st) := SW.sk (fun hx hb _ w => lv_i2f hx hb hd w) kk
theorem r_i2d {x : Int32} (hd : decode M.2.1 pc = .ok (.i2d, 1)) (kk : SW G M P d k n h (pc + 1) L (.double (FP.i2d x) :: st)) : SW G M P d k n h pc L (.int x :: st) := SW.sk (fun hx hb _ w => lv_i2d hx hb hd w) kk
theorem r_f2d {x : UInt32} (hd : decode M.2.1 pc = .ok (.f2d, 1)) (h0 : vf_n64 (FP.f2d x)) (kk : SW G M P d k n h (pc + 1) L (.double (FP.f2d x) :: st)) : SW G M P d k n h pc L (.float x :: st) := SW.sk (fun hx hb _ w => lv_f2d hx hb hd h0 w) kk
theorem r_fdiv {x y : UInt32} (hd : decode M.2.1 pc = .ok (.fdiv, 1)) (h0 : vf_n32 (FP.fdiv x y)) (kk : SW G M P d k n h (pc + 1) L (.float (FP.fdiv x y) :: st)) : SW G M P d k n h pc L (.float y :: .float x :: st) := SW.sk (fun hx hb _ w => lv_fdiv hx hb hd h0 w) kk
theorem r_ddiv {x y : UInt64} (hd : decode M.2.1 pc = .ok (.ddiv, 1)) (h0 : vf_n64 (FP.ddiv x y)) (kk : SW G M P d k n h (pc + 1) L (.double (FP.ddiv x y) :: st)) : SW G M P d k n h pc L (.double y :: .double x :: st) := SW.sk (fun hx hb _ w => lv_ddiv hx hb hd h0 w) kk
theorem r_dcmp {x y : UInt64} {op : CmpOp} (hd : decode M.2.1 pc = .ok (.dcmp op, 1)) (kk : SW G M P d k n h (pc + 1) L (.int (Op.cmpValue (FP.dcmp x y) op) :: st)) : SW G M P d k n h pc L (.double y :: .double x :: st) := SW.sk (fun hx hb _ w => lv_dcmp hx hb hd w) kk
theorem r_fconst0 (hd : decode M.2.1 pc = .ok (.fconst 0, 1)) (kk : SW G M P d k n h (pc + 1) L (.float FP.fconst0 :: st)) : SW G M P d k n h pc L (st) := SW.sk (fun hx hb _ w => lv_fconst0 hx hb hd w) kk
theorem r_dconst0 (hd : decode M.2.1 pc = .ok (.dconst 0, 1)) (kk : SW G M P d k n h (pc + 1) L (.double FP.dconst0 :: st)) : SW G M P d k n h pc L (st) := SW.sk (fun hx hb _ w => lv_dconst0 hx hb hd w) kk
theorem r_lcmp {x y : Int64} (hd : decode M.2.1 pc = .ok (.lcmp, 1)) (kk : SW G M P d k n h (pc + 1) L (.int (lg_cmp x y) :: st)) : SW G M P d k n h pc L (.long y :: .long x :: st) := SW.sk (fun hx hb _ w => W.lcmp hx hb hd w) kk
theorem r_iconst {q : Int} {v : Int32} (hd : decode M.2.1 pc = .ok (.iconst q, 1)) (hv : Int32.ofInt q = v) (kk : SW G M P d k n h (pc + 1) L (.int v :: st)) : SW G M P d k n h pc L (st) := SW.sk (fun hx hb _ w => lv_iconst hx hb hd hv w) kk
theorem r_bipush {q : Int} {v : Int32} (hd : decode M.2.1 pc = .ok (.bipush q, 2)) (hv : (Int8.ofInt q).toInt32 = v) (kk : SW G M P d k n h (pc + 2) L (.int v :: st)) : SW G M P d k n h pc L (st) := SW.sk (fun hx hb _ w => lv_bipush hx hb hd hv w) kk
theorem r_sipush {q : Int} {v : Int32} (hd : decode M.2.1 pc = .ok (.sipush q, 3)) (hv : (Int16.ofInt q).toInt32 = v) (kk : SW G M P d k n h (pc + 3) L (.int v :: st)) : SW G M P d k n h pc L (st) := SW.sk (fun hx hb _ w => lv_sipush hx hb hd hv w) kk
theorem r_lconst {q : Fin 2} {v : Int64} (hd : decode M.2.1 pc = .ok (.lconst q, 1)) (hv : Int64.ofNat (q : Nat) = v) (kk : SW G M P d k n h (pc + 1) L (.long v :: st)) : SW G M P d k n h pc L (st) := SW.sk (fun hx hb _ w => lv_lconst hx hb hd hv w) kk
theorem r_null (hd : decode M.2.1 pc = .ok (.aconst_null, 1)) (kk : SW G M P d k n h (pc + 1) L (.null :: st)) : SW G M P d k n h pc L (st) := SW.sk (fun hx hb _ w => lv_null hx hb hd w) kk
theorem r_dup {va : Value} (hd : decode M.2.1 pc = .ok (.dup, 1)) (ha : va.category = 1) (kk : SW G M P d k n h (pc + 1) L (va :: va :: st)) : SW G M P d k n h pc L (va :: st) := SW.sk (fun hx hb _ w => lv_dup hx hb hd ha w) kk
theorem r_pop {va : Value} (hd : decode M.2.1 pc = .ok (.pop, 1)) (ha : va.category = 1) (kk : SW G M P d k n h (pc + 1) L (st)) : SW G M P d k n h pc L (va :: st) := SW.sk (fun hx hb _ w => lv_pop hx hb hd ha w) kk
theorem r_dup2 {va vb : Value} (hd : decode M.2.1 pc = .ok (.dup2, 1)) (ha : va.category = 1) (hb1 : vb.category = 1) (kk : SW G M P d k n h (pc + 1) L (va :: vb :: va :: vb :: st)) : SW G M P d k n h pc L (va :: vb :: st) := SW.sk (fun hx hb _ w => lv_dup2_11 hx hb hd ha hb1 w) kk
theorem r_iload {i : Nat} {x : Int32} (hd : decode M.2.1 pc = .ok (.iload i, 2)) (hi : L[i]? = some (some (.int x))) (kk : SW G M P d k n h (pc + 2) L (.int x :: st)) : SW G M P d k n h pc L st := SW.sk (fun hx hb hL w => lv_iload hx hb hd (hL.at hi) w) kk
theorem r_iload_n {q : Fin 4} {x : Int32} (hd : decode M.2.1 pc = .ok (.iload_n q, 1)) (hi : L[(q : Nat)]? = some (some (.int x))) (kk : SW G M P d k n h (pc + 1) L (.int x :: st)) : SW G M P d k n h pc L st := SW.sk (fun hx hb hL w => lv_iload_n hx hb hd rfl (hL.at hi) w) kk
theorem r_lload {i : Nat} {x : Int64} (hd : decode M.2.1 pc = .ok (.lload i, 2)) (hi : L[i]? = some (some (.long x))) (kk : SW G M P d k n h (pc + 2) L (.long x :: st)) : SW G M P d k n h pc L st := SW.sk (fun hx hb hL w => lv_lload hx hb hd (hL.at hi) w) kk
theorem r_lload_n {q : Fin 4} {x : Int64} (hd : decode M.2.1 pc = .ok (.lload_n q, 1)) (hi : L[(q : Nat)]? = some (some (.long x))) (kk : SW G M P d k n h (pc + 1) L (.long x :: st)) : SW G M P d k n h pc L st := SW.sk (fun hx hb hL w => lv_lload_n hx hb hd rfl (hL.at hi) w) kk
theorem r_dload {i : Nat} {x : UInt64} (hd : decode M.2.1 pc = .ok (.dload i, 2)) (hi : L[i]? = some (some (.double x))) (kk : SW G M P d k n h (pc + 2) L (.double x :: st)) : SW G M P d k n h pc L st := SW.sk (fun hx hb hL w => lv_dload hx hb hd (hL.at hi) w) kk
theorem r_dload_n {q : Fin 4} {x : UInt64} (hd : decode M.2.1 pc = .ok (.dload_n q, 1)) (hi : L[(q : Nat)]? = some (some (.double x))) (kk : SW G M P d k n h (pc + 1) L (.double x :: st)) : SW G M P d k n h pc L st := SW.sk (fun hx hb hL w => lv_dload_n hx hb hd rfl (hL.at hi) w) kk
theorem r_aload {i : Nat} {x : Nat} (hd : decode M.2.1 pc = .ok (.aload i, 2)) (hi : L[i]? = some (some (.ref x))) (kk : SW G M P d k n h (pc + 2) L (.ref x :: st)) : SW G M P d k n h pc L st := SW.sk (fun hx hb hL w => lv_aload hx hb hd (hL.at hi) w) kk
theorem r_aload_n {q : Fin 4} {x : Nat} (hd : decode M.2.1 pc = .ok (.aload_n q, 1)) (hi : L[(q : Nat)]? = some (some (.ref x))) (kk : SW G M P d k n h (pc + 1) L (.ref x :: st)) : SW G M P d k n h pc L st := SW.sk (fun hx hb hL w => lv_aload_n hx hb hd rfl (hL.at hi) w) kk
theorem r_goto {off : Int} {tgt : Nat} (hd : decode M.2.1 pc = .ok (.goto off, 3)) (ht : (pc : Int) + off = (tgt : Int)) (kk : SW G M P d k n h tgt L st) : SW G M P d k n h pc L st := SW.sk (fun hx hb _ w => lv_goto hx hb hd ht w) kk
theorem r_tableIn {dflt lo hi : Int} {offs : Array Int} {len : Nat} {x : Int32} {off : Int} {tgt : Nat} (hd : decode M.2.1 pc = .ok (.tableswitch dflt lo hi offs, len)) (h1 : ¬ x.toInt < lo) (h2 : ¬ hi < x.toInt) (ho : offs[(x.toInt - lo).toNat]? = some off) (ht : (pc : Int) + off = (tgt : Int)) (kk : SW G M P d k n h tgt L st) : SW G M P d k n h pc L (.int x :: st) := SW.sk (fun hx hb _ w => lv_tableIn hx hb hd h1 h2 ho ht w) kk
theorem r_tableOut {dflt lo hi : Int} {offs : Array Int} {len : Nat} {x : Int32} {tgt : Nat} (hd : decode M.2.1 pc = .ok (.tableswitch dflt lo hi offs, len)) (h0 : x.toInt < lo ∨ hi < x.toInt) (ht : (pc : Int) + dflt = (tgt : Int)) (kk : SW G M P d k n h tgt L st) : SW G M P d k n h pc L (.int x :: st) := SW.sk (fun hx hb _ w => lv_tableOut hx hb hd h0 ht w) kk
theorem r_lookup {dflt : Int} {ps : Array (Int × Int)} {len : Nat} {x : Int32} {off : Int} {tgt : Nat} (hd : decode M.2.1 pc = .ok (.lookupswitch dflt ps, len)) (hp : (ps.toList.zip (ps.toList.drop 1)).all (fun (a, next) => a.1 < next.1) = true) (ho : Op.lookupswitch.offset ps.toList dflt x.toInt = off) (ht : (pc : Int) + off = (tgt : Int)) (kk : SW G M P d k n h tgt L st) : SW G M P d k n h pc L (.int x :: st) := SW.sk (fun hx hb _ w => lv_lookup hx hb hd hp ho ht w) kk
-- CONDS
theorem r_if_eq {x : Int32} {off : Int} {tgt : Nat} (hd : decode M.2.1 pc = .ok (.ifCond .eq off, 3)) (ht : (pc : Int) + off = (tgt : Int)) (kt : x = 0 → SW G M P d k n h tgt L st) (kf : ¬ (x = 0) → SW G M P d k n h (pc + 3) L st) : SW G M P d k n h pc L (.int x :: st) := SW.br (fun hx hb a b => lv_if_eq hx hb hd ht a b) kt kf
theorem r_icmp_eq {x y : Int32} {off : Int} {tgt : Nat} (hd : decode M.2.1 pc = .ok (.if_icmp .eq off, 3)) (ht : (pc : Int) + off = (tgt : Int)) (kt : x = y → SW G M P d k n h tgt L st) (kf : ¬ (x = y) → SW G M P d k n h (pc + 3) L st) : SW G M P d k n h pc L (.int y :: .int x :: st) := SW.br (fun hx hb a b => lv_icmp_eq hx hb hd ht a b) kt kf
theorem r_if_ne {x : Int32} {off : Int} {tgt : Nat} (hd : decode M.2.1 pc = .ok (.ifCond .ne off, 3)) (ht : (pc : Int) + off = (tgt : Int)) (kt : ¬ x = 0 → SW G M P d k n h tgt L st) (kf : x = 0 → SW G M P d k n h (pc + 3) L st) : SW G M P d k n h pc L (.int x :: st) := SW.br (fun hx hb a b => lv_if_ne hx hb hd ht a (fun e => b (fun q => q e))) kt (fun q => kf (Decidable.of_not_not q))
theorem r_icmp_ne {x y : Int32} {off : Int} {tgt : Nat} (hd : decode M.2.1 pc = .ok (.if_icmp .ne off, 3)) (ht : (pc : Int) + off = (tgt : Int)) (kt : ¬ x = y → SW G M P d k n h tgt L st) (kf : x = y → SW G M P d k n h (pc + 3) L st) : SW G M P d k n h pc L (.int y :: .int x :: st) := SW.br (fun hx hb a b => lv_icmp_ne hx hb hd ht a (fun e => b (fun q => q e))) kt (fun q => kf (Decidable.of_not_not q))
theorem r_if_lt {x : Int32} {off : Int} {tgt : Nat} (hd : decode M.2.1 pc = .ok (.ifCond .lt off, 3)) (ht : (pc : Int) + off = (tgt : Int)) (kt : x < 0 → SW G M P d k n h tgt L st) (kf : ¬ (x < 0) → SW G M P d k n h (pc + 3) L st) : SW G M P d k n h pc L (.int x :: st) := SW.br (fun hx hb a b => lv_if_lt hx hb hd ht a b) kt kf
theorem r_icmp_lt {x y : Int32} {off : Int} {tgt : Nat} (hd : decode M.2.1 pc = .ok (.if_icmp .lt off, 3)) (ht : (pc : Int) + off = (tgt : Int)) (kt : x < y → SW G M P d k n h tgt L st) (kf : ¬ (x < y) → SW G M P d k n h (pc + 3) L st) : SW G M P d k n h pc L (.int y :: .int x :: st) := SW.br (fun hx hb a b => lv_icmp_lt hx hb hd ht a b) kt kf
theorem r_if_ge {x : Int32} {off : Int} {tgt : Nat} (hd : decode M.2.1 pc = .ok (.ifCond .ge off, 3)) (ht : (pc : Int) + off = (tgt : Int)) (kt : 0 ≤ x → SW G M P d k n h tgt L st) (kf : ¬ (0 ≤ x) → SW G M P d k n h (pc + 3) L st) : SW G M P d k n h pc L (.int x :: st) := SW.br (fun hx hb a b => lv_if_ge hx hb hd ht a b) kt kf
theorem r_icmp_ge {x y : Int32} {off : Int} {tgt : Nat} (hd : decode M.2.1 pc = .ok (.if_icmp .ge off, 3)) (ht : (pc : Int) + off = (tgt : Int)) (kt : y ≤ x → SW G M P d k n h tgt L st) (kf : ¬ (y ≤ x) → SW G M P d k n h (pc + 3) L st) : SW G M P d k n h pc L (.int y :: .int x :: st) := SW.br (fun hx hb a b => lv_icmp_ge hx hb hd ht a b) kt kf
theorem r_if_gt {x : Int32} {off : Int} {tgt : Nat} (hd : decode M.2.1 pc = .ok (.ifCond .gt off, 3)) (ht : (pc : Int) + off = (tgt : Int)) (kt : 0 < x → SW G M P d k n h tgt L st) (kf : ¬ (0 < x) → SW G M P d k n h (pc + 3) L st) : SW G M P d k n h pc L (.int x :: st) := SW.br (fun hx hb a b => lv_if_gt hx hb hd ht a b) kt kf
theorem r_icmp_gt {x y : Int32} {off : Int} {tgt : Nat} (hd : decode M.2.1 pc = .ok (.if_icmp .gt off, 3)) (ht : (pc : Int) + off = (tgt : Int)) (kt : y < x → SW G M P d k n h tgt L st) (kf : ¬ (y < x) → SW G M P d k n h (pc + 3) L st) : SW G M P d k n h pc L (.int y :: .int x :: st) := SW.br (fun hx hb a b => lv_icmp_gt hx hb hd ht a b) kt kf
theorem r_if_le {x : Int32} {off : Int} {tgt : Nat} (hd : decode M.2.1 pc = .ok (.ifCond .le off, 3)) (ht : (pc : Int) + off = (tgt : Int)) (kt : x ≤ 0 → SW G M P d k n h tgt L st) (kf : ¬ (x ≤ 0) → SW G M P d k n h (pc + 3) L st) : SW G M P d k n h pc L (.int x :: st) := SW.br (fun hx hb a b => lv_if_le hx hb hd ht a b) kt kf
theorem r_icmp_le {x y : Int32} {off : Int} {tgt : Nat} (hd : decode M.2.1 pc = .ok (.if_icmp .le off, 3)) (ht : (pc : Int) + off = (tgt : Int)) (kt : x ≤ y → SW G M P d k n h tgt L st) (kf : ¬ (x ≤ y) → SW G M P d k n h (pc + 3) L st) : SW G M P d k n h pc L (.int y :: .int x :: st) := SW.br (fun hx hb a b => lv_icmp_le hx hb hd ht a b) kt kf
theorem r_ifnonnull {x : Nat} {off : Int} {tgt : Nat} (hd : decode M.2.1 pc = .ok (.ifnonnull off, 3)) (ht : (pc : Int) + off = (tgt : Int)) (kk : SW G M P d k n h tgt L st) : SW G M P d k n h pc L (.ref x :: st) := SW.sk (fun hx hb _ w => lv_ifnonnull hx hb hd ht w) kk
theorem r_ifnull {x : Nat} {off : Int} (hd : decode M.2.1 pc = .ok (.ifnull off, 3)) (kk : SW G M P d k n h (pc + 3) L st) : SW G M P d k n h pc L (.ref x :: st) := SW.sk (fun hx hb _ w => lv_ifnull hx hb hd w) kk
theorem r_ifnullN {off : Int} {tgt : Nat} (hd : decode M.2.1 pc = .ok (.ifnull off, 3)) (ht : (pc : Int) + off = (tgt : Int)) (kk : SW G M P d k n h tgt L st) : SW G M P d k n h pc L (.null :: st) := SW.sk (fun hx hb _ w => lv_ifnullN hx hb hd ht w) kk
theorem r_ifnonnullN {off : Int} (hd : decode M.2.1 pc = .ok (.ifnonnull off, 3)) (kk : SW G M P d k n h (pc + 3) L st) : SW G M P d k n h pc L (.null :: st) := SW.sk (fun hx hb _ w => lv_ifnonnullN hx hb hd w) kk
theorem r_aloadN {i : Nat} (hd : decode M.2.1 pc = .ok (.aload i, 2)) (hi : L[i]? = some (some .null)) (kk : SW G M P d k n h (pc + 2) L (.null :: st)) : SW G M P d k n h pc L st := SW.sk (fun hx hb hL w => lv_aloadN hx hb hd (hL.at hi) w) kk
theorem r_aload_nN {q : Fin 4} (hd : decode M.2.1 pc = .ok (.aload_n q, 1)) (hi : L[(q : Nat)]? = some (some .null)) (kk : SW G M P d k n h (pc + 1) L (.null :: st)) : SW G M P d k n h pc L st := SW.sk (fun hx hb hL w => lv_aload_nN hx hb hd rfl (hL.at hi) w) kk
end SWrules
