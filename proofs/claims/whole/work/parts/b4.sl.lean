/-! ===== steps of the law's body ===== -/
def p_CL (G : p_G) (M : p_M) (p : Program) (s : State) (m : MethodId) (meth : Method) (c : Code) : Prop :=
  p.tables.exec = Jvm.exec ∧ c.code = M.2.1 ∧ c.maxLocals = M.2.2.1 ∧ meth.sig.returnType = M.2.2.2 ∧ meth.locks = false ∧ s.vm.findClass M.1.cls = some m.cls ∧ True ∧ True ∧ p_S G s
/-- what is owed at the law's end -/
abbrev p_Zt : Type := Room → List Frame → Array Value → State → State → Prop
def SL (G : p_G) (M : p_M) (P : p_Zt) (d k n : Nat) (h : p_H) (pc : Nat) (L : p_LL) (st : List Value) : Prop :=
  ∀ (p : Program) (e : Env) (R : Room) (s : State) (m : MethodId) (args : Array Value) (below : List Frame) (meth : Method) (c : Code) (H : Heap) (locs : List Loc) (cells slots : Nat) (ls : Array Slot),
    p_CL G M p s m meth c → p_B d k n R cells slots → va_S (p_A G) s.heap H locs → p_R G h H → p_L M.2.2.1 L ls →
    W p G.1 e R s m args below meth c H locs cells slots (P R below args s) (F0 m pc ls st)
section SLrules
variable {G : p_G} {M : p_M} {P : p_Zt} {d k n : Nat} {h : p_H} {pc : Nat} {L : p_LL} {st : List Value}
theorem SL.sk {pc' : Nat} {st' : List Value} (step : ∀ {p : Program} {e : Env} {R : Room} {s : State} {m : MethodId} {args : Array Value} {below : List Frame} {meth : Method} {c : Code} {H : Heap} {locs : List Loc} {cells slots : Nat} {Q : State → Prop} {ls : Array Slot}, p.tables.exec = Jvm.exec → c.code = M.2.1 → p_L M.2.2.1 L ls →
      W p G.1 e R s m args below meth c H locs cells slots Q (F0 m pc' ls st') → W p G.1 e R s m args below meth c H locs cells slots Q (F0 m pc ls st))
    (kk : SL G M P d k n h pc' L st') : SL G M P d k n h pc L st :=
  fun p e R s m args below meth c H locs cells slots ls C B hS hR hL => step C.1 C.2.1 hL (kk p e R s m args below meth c H locs cells slots ls C B hS hR hL)
theorem SL.br {c0 : Prop} {pt pf : Nat} {st' : List Value} (step : ∀ {p : Program} {e : Env} {R : Room} {s : State} {m : MethodId} {args : Array Value} {below : List Frame} {meth : Method} {c : Code} {H : Heap} {locs : List Loc} {cells slots : Nat} {Q : State → Prop} {ls : Array Slot}, p.tables.exec = Jvm.exec → c.code = M.2.1 →
      (c0 → W p G.1 e R s m args below meth c H locs cells slots Q (F0 m pt ls st')) → (¬ c0 → W p G.1 e R s m args below meth c H locs cells slots Q (F0 m pf ls st')) → W p G.1 e R s m args below meth c H locs cells slots Q (F0 m pc ls st))
    (kt : c0 → SL G M P d k n h pt L st') (kf : ¬ c0 → SL G M P d k n h pf L st') : SL G M P d k n h pc L st :=
  fun p e R s m args below meth c H locs cells slots ls C B hS hR hL => step C.1 C.2.1 (fun c0 => kt c0 p e R s m args below meth c H locs cells slots ls C B hS hR hL) (fun c0 => kf c0 p e R s m args below meth c H locs cells slots ls C B hS hR hL)
theorem y_iadd {x y : Int32} (hd : decode M.2.1 pc = .ok (.iadd, 1)) (kk : SL G M P d k n h (pc + 1) L (.int (x + y) :: st)) : SL G M P d k n h pc L (.int y :: .int x :: st) := SL.sk (fun hx hb _ w => lv_iadd hx hb hd w) kk
theorem y_isub {x y : Int32} (hd : decode M.2.1 pc = .ok (.isub, 1)) (kk : SL G M P d k n h (pc + 1) L (.int (x - y) :: st)) : SL G M P d k n h pc L (.int y :: .int x :: st) := SL.sk (fun hx hb _ w => lv_isub hx hb hd w) kk
theorem y_imul {x y : Int32} (hd : decode M.2.1 pc = .ok (.imul, 1)) (kk : SL G M P d k n h (pc + 1) L (.int (x * y) :: st)) : SL G M P d k n h pc L (.int y :: .int x :: st) := SL.sk (fun hx hb _ w => lv_imul hx hb hd w) kk
theorem y_iand {x y : Int32} (hd : decode M.2.1 pc = .ok (.iand, 1)) (kk : SL G M P d k n h (pc + 1) L (.int (x &&& y) :: st)) : SL G M P d k n h pc L (.int y :: .int x :: st) := SL.sk (fun hx hb _ w => lv_iand hx hb hd w) kk
theorem y_ior {x y : Int32} (hd : decode M.2.1 pc = .ok (.ior, 1)) (kk : SL G M P d k n h (pc + 1) L (.int (x ||| y) :: st)) : SL G M P d k n h pc L (.int y :: .int x :: st) := SL.sk (fun hx hb _ w => lv_ior hx hb hd w) kk
theorem y_ixor {x y : Int32} (hd : decode M.2.1 pc = .ok (.ixor, 1)) (kk : SL G M P d k n h (pc + 1) L (.int (x ^^^ y) :: st)) : SL G M P d k n h pc L (.int y :: .int x :: st) := SL.sk (fun hx hb _ w => lv_ixor hx hb hd w) kk
theorem y_idiv {x y : Int32} (hd : decode M.2.1 pc = .ok (.idiv, 1)) (h0 : ¬ y = 0) (kk : SL G M P d k n h (pc + 1) L (.int (x / y) :: st)) : SL G M P d k n h pc L (.int y :: .int x :: st) := SL.sk (fun hx hb _ w => lv_idiv hx hb hd h0 w) kk
theorem y_irem {x y : Int32} (hd : decode M.2.1 pc = .ok (.irem, 1)) (h0 : ¬ y = 0) (kk : SL G M P d k n h (pc + 1) L (.int (x - x / y * y) :: st)) : SL G M P d k n h pc L (.int y :: .int x :: st) := SL.sk (fun hx hb _ w => lv_irem hx hb hd h0 w) kk
theorem y_ishl {x y : Int32} (hd : decode M.2.1 pc = .ok (.ishl, 1)) (kk : SL G M P d k n h (pc + 1) L (.int (x <<< (y &&& 31)) :: st)) : SL G M P d k n h pc L (.int y :: .int x :: st) := SL.sk (fun hx hb _ w => lv_ishl hx hb hd w) kk
theorem y_ishr {x y : Int32} (hd : decode M.2.1 pc = .ok (.ishr, 1)) (kk : SL G M P d k n h (pc + 1) L (.int (x >>> (y &&& 31)) :: st)) : SL G M P d k n h pc L (.int y :: .int x :: st) := SL.sk (fun hx hb _ w => lv_ishr hx hb hd w) kk
theorem y_iushr {x y : Int32} (hd : decode M.2.1 pc = .ok (.iushr, 1)) (kk : SL G M P d k n h (pc + 1) L (.int ((x.toUInt32 >>> (y.toUInt32 &&& Int32.toUInt32 31)).toInt32) :: st)) : SL G M P d k n h pc L (.int y :: .int x :: st) := SL.sk (fun hx hb _ w => lv_iushr hx hb hd rfl w) kk
theorem y_ladd {x y : Int64} (hd : decode M.2.1 pc = .ok (.ladd, 1)) (kk : SL G M P d k n h (pc + 1) L (.long (x + y) :: st)) : SL G M P d k n h pc L (.long y :: .long x :: st) := SL.sk (fun hx hb _ w => lv_ladd hx hb hd w) kk
theorem y_lsub {x y : Int64} (hd : decode M.2.1 pc = .ok (.lsub, 1)) (kk : SL G M P d k n h (pc + 1) L (.long (x - y) :: st)) : SL G M P d k n h pc L (.long y :: .long x :: st) := SL.sk (fun hx hb _ w => lv_lsub hx hb hd w) kk
theorem y_land {x y : Int64} (hd : decode M.2.1 pc = .ok (.land, 1)) (kk : SL G M P d k n h (pc + 1) L (.long (x &&& y) :: st)) : SL G M P d k n h pc L (.long y :: .long x :: st) := SL.sk (fun hx hb _ w => lv_land hx hb hd w) kk
theorem y_lor {x y : Int64} (hd : decode M.2.1 pc = .ok (.lor, 1)) (kk : SL G M P d k n h (pc + 1) L (.long (x ||| y) :: st)) : SL G M P d k n h pc L (.long y :: .long x :: st) := SL.sk (fun hx hb _ w => lv_lor hx hb hd w) kk
theorem y_lshl {x : Int64} {y : Int32} (hd : decode M.2.1 pc = .ok (.lshl, 1)) (kk : SL G M P d k n h (pc + 1) L (.long (x <<< (y.toInt64 &&& 63)) :: st)) : SL G M P d k n h pc L (.int y :: .long x :: st) := SL.sk (fun hx hb _ w => lv_lshl hx hb hd rfl w) kk
theorem y_lshr {x : Int64} {y : Int32} (hd : decode M.2.1 pc = .ok (.lshr, 1)) (kk : SL G M P d k n h (pc + 1) L (.long (x >>> (y.toInt64 &&& 63)) :: st)) : SL G M P d k n h pc L (.int y :: .long x :: st) := SL.sk (fun hx hb _ w => lv_lshr hx hb hd rfl w) kk
theorem y_i2l {x : Int32} (hd : decode M.2.1 pc = .ok (.i2l, 1)) (kk : SL G M P d k n h (pc + 1) L (.long x.toInt64 :: st)) : SL G M P d k n h pc L (.int x :: st) := SL.sk (fun hx hb _ w => lv_i2l hx hb hd rfl w) kk
theorem y_l2i {x : Int64} (hd : decode M.2.1 pc = .ok (.l2i, 1)) (kk : SL G M P d k n h (pc + 1) L (.int x.toInt32 :: st)) : SL G M P d k n h pc L (.long x :: st) := SL.sk (fun hx hb _ w => lv_l2i hx hb hd rfl w) kk
theorem y_i2c {x : Int32} (hd : decode M.2.1 pc = .ok (.i2c, 1)) (kk : SL G M P d k n h (pc + 1) L (.int (x.toUInt32 % 65536).toInt32 :: st)) : SL G M P d k n h pc L (.int x :: st) := SL.sk (fun hx hb _ w => lv_i2c hx hb hd rfl w) kk
theorem y_i2f {x : Int32} (hd : decode M.2.1 pc = .ok (.i2f, 1)) (kk : SL G M P d k n h (pc + 1) L (.float (FP.i2f x) :: st)) : SL G M P d k n h pc L (.int x :: st) := SL.sk (fun hx hb _ w => lv_i2f hx hb hd w) kk
theorem y_i2d {x : Int32} (hd : decode M.2.1 pc = .ok (.i2d, 1)) (kk : SL G M P d k n h (pc + 1) L (.double (FP.i2d x) :: st)) : SL G M P d k n h pc L (.int x :: st) := SL.sk (fun hx hb _ w => lv_i2d hx hb hd w) kk
theorem y_f2d {x : UInt32} (hd : decode M.2.1 pc = .ok (.f2d, 1)) (h0 : vf_n64 (FP.f2d x)) (kk : SL G M P d k n h (pc + 1) L (.double (FP.f2d x) :: st)) : SL G M P d k n h pc L (.float x :: st) := SL.sk (fun hx hb _ w => lv_f2d hx hb hd h0 w) kk
theorem y_fdiv {x y : UInt32} (hd : decode M.2.1 pc = .ok (.fdiv, 1)) (h0 : vf_n32 (FP.fdiv x y)) (kk : SL G M P d k n h (pc + 1) L (.float (FP.fdiv x y) :: st)) : SL G M P d k n h pc L (.float y :: .float x :: st) := SL.sk (fun hx hb _ w => lv_fdiv hx hb hd h0 w) kk
theorem y_ddiv {x y : UInt64} (hd : decode M.2.1 pc = .ok (.ddiv, 1)) (h0 : vf_n64 (FP.ddiv x y)) (kk : SL G M P d k n h (pc + 1) L (.double (FP.ddiv x y) :: st)) : SL G M P d k n h pc L (.double y :: .double x :: st) := SL.sk (fun hx hb _ w => lv_ddiv hx hb hd h0 w) kk
theorem y_dcmp {x y : UInt64} {op : CmpOp} (hd : decode M.2.1 pc = .ok (.dcmp op, 1)) (kk : SL G M P d k n h (pc + 1) L (.int (Op.cmpValue (FP.dcmp x y) op) :: st)) : SL G M P d k n h pc L (.double y :: .double x :: st) := SL.sk (fun hx hb _ w => lv_dcmp hx hb hd w) kk
theorem y_fconst0 (hd : decode M.2.1 pc = .ok (.fconst 0, 1)) (kk : SL G M P d k n h (pc + 1) L (.float FP.fconst0 :: st)) : SL G M P d k n h pc L (st) := SL.sk (fun hx hb _ w => lv_fconst0 hx hb hd w) kk
theorem y_dconst0 (hd : decode M.2.1 pc = .ok (.dconst 0, 1)) (kk : SL G M P d k n h (pc + 1) L (.double FP.dconst0 :: st)) : SL G M P d k n h pc L (st) := SL.sk (fun hx hb _ w => lv_dconst0 hx hb hd w) kk
theorem y_lcmp {x y : Int64} (hd : decode M.2.1 pc = .ok (.lcmp, 1)) (kk : SL G M P d k n h (pc + 1) L (.int (lg_cmp x y) :: st)) : SL G M P d k n h pc L (.long y :: .long x :: st) := SL.sk (fun hx hb _ w => W.lcmp hx hb hd w) kk
theorem y_iconst {q : Int} {v : Int32} (hd : decode M.2.1 pc = .ok (.iconst q, 1)) (hv : Int32.ofInt q = v) (kk : SL G M P d k n h (pc + 1) L (.int v :: st)) : SL G M P d k n h pc L (st) := SL.sk (fun hx hb _ w => lv_iconst hx hb hd hv w) kk
theorem y_bipush {q : Int} {v : Int32} (hd : decode M.2.1 pc = .ok (.bipush q, 2)) (hv : (Int8.ofInt q).toInt32 = v) (kk : SL G M P d k n h (pc + 2) L (.int v :: st)) : SL G M P d k n h pc L (st) := SL.sk (fun hx hb _ w => lv_bipush hx hb hd hv w) kk
theorem y_sipush {q : Int} {v : Int32} (hd : decode M.2.1 pc = .ok (.sipush q, 3)) (hv : (Int16.ofInt q).toInt32 = v) (kk : SL G M P d k n h (pc + 3) L (.int v :: st)) : SL G M P d k n h pc L (st) := SL.sk (fun hx hb _ w => lv_sipush hx hb hd hv w) kk
theorem y_lconst {q : Fin 2} {v : Int64} (hd : decode M.2.1 pc = .ok (.lconst q, 1)) (hv : Int64.ofNat (q : Nat) = v) (kk : SL G M P d k n h (pc + 1) L (.long v :: st)) : SL G M P d k n h pc L (st) := SL.sk (fun hx hb _ w => lv_lconst hx hb hd hv w) kk
theorem y_null (hd : decode M.2.1 pc = .ok (.aconst_null, 1)) (kk : SL G M P d k n h (pc + 1) L (.null :: st)) : SL G M P d k n h pc L (st) := SL.sk (fun hx hb _ w => lv_null hx hb hd w) kk
theorem y_dup {va : Value} (hd : decode M.2.1 pc = .ok (.dup, 1)) (ha : va.category = 1) (kk : SL G M P d k n h (pc + 1) L (va :: va :: st)) : SL G M P d k n h pc L (va :: st) := SL.sk (fun hx hb _ w => lv_dup hx hb hd ha w) kk
theorem y_pop {va : Value} (hd : decode M.2.1 pc = .ok (.pop, 1)) (ha : va.category = 1) (kk : SL G M P d k n h (pc + 1) L (st)) : SL G M P d k n h pc L (va :: st) := SL.sk (fun hx hb _ w => lv_pop hx hb hd ha w) kk
theorem y_dup2 {va vb : Value} (hd : decode M.2.1 pc = .ok (.dup2, 1)) (ha : va.category = 1) (hb1 : vb.category = 1) (kk : SL G M P d k n h (pc + 1) L (va :: vb :: va :: vb :: st)) : SL G M P d k n h pc L (va :: vb :: st) := SL.sk (fun hx hb _ w => lv_dup2_11 hx hb hd ha hb1 w) kk
theorem y_iload {i : Nat} {x : Int32} (hd : decode M.2.1 pc = .ok (.iload i, 2)) (hi : L[i]? = some (some (.int x))) (kk : SL G M P d k n h (pc + 2) L (.int x :: st)) : SL G M P d k n h pc L st := SL.sk (fun hx hb hL w => lv_iload hx hb hd (hL.at hi) w) kk
theorem y_iload_n {q : Fin 4} {x : Int32} (hd : decode M.2.1 pc = .ok (.iload_n q, 1)) (hi : L[(q : Nat)]? = some (some (.int x))) (kk : SL G M P d k n h (pc + 1) L (.int x :: st)) : SL G M P d k n h pc L st := SL.sk (fun hx hb hL w => lv_iload_n hx hb hd rfl (hL.at hi) w) kk
theorem y_lload {i : Nat} {x : Int64} (hd : decode M.2.1 pc = .ok (.lload i, 2)) (hi : L[i]? = some (some (.long x))) (kk : SL G M P d k n h (pc + 2) L (.long x :: st)) : SL G M P d k n h pc L st := SL.sk (fun hx hb hL w => lv_lload hx hb hd (hL.at hi) w) kk
theorem y_lload_n {q : Fin 4} {x : Int64} (hd : decode M.2.1 pc = .ok (.lload_n q, 1)) (hi : L[(q : Nat)]? = some (some (.long x))) (kk : SL G M P d k n h (pc + 1) L (.long x :: st)) : SL G M P d k n h pc L st := SL.sk (fun hx hb hL w => lv_lload_n hx hb hd rfl (hL.at hi) w) kk
theorem y_dload {i : Nat} {x : UInt64} (hd : decode M.2.1 pc = .ok (.dload i, 2)) (hi : L[i]? = some (some (.double x))) (kk : SL G M P d k n h (pc + 2) L (.double x :: st)) : SL G M P d k n h pc L st := SL.sk (fun hx hb hL w => lv_dload hx hb hd (hL.at hi) w) kk
theorem y_dload_n {q : Fin 4} {x : UInt64} (hd : decode M.2.1 pc = .ok (.dload_n q, 1)) (hi : L[(q : Nat)]? = some (some (.double x))) (kk : SL G M P d k n h (pc + 1) L (.double x :: st)) : SL G M P d k n h pc L st := SL.sk (fun hx hb hL w => lv_dload_n hx hb hd rfl (hL.at hi) w) kk
theorem y_aload {i : Nat} {x : Nat} (hd : decode M.2.1 pc = .ok (.aload i, 2)) (hi : L[i]? = some (some (.ref x))) (kk : SL G M P d k n h (pc + 2) L (.ref x :: st)) : SL G M P d k n h pc L st := SL.sk (fun hx hb hL w => lv_aload hx hb hd (hL.at hi) w) kk
theorem y_aload_n {q : Fin 4} {x : Nat} (hd : decode M.2.1 pc = .ok (.aload_n q, 1)) (hi : L[(q : Nat)]? = some (some (.ref x))) (kk : SL G M P d k n h (pc + 1) L (.ref x :: st)) : SL G M P d k n h pc L st := SL.sk (fun hx hb hL w => lv_aload_n hx hb hd rfl (hL.at hi) w) kk
theorem y_goto {off : Int} {tgt : Nat} (hd : decode M.2.1 pc = .ok (.goto off, 3)) (ht : (pc : Int) + off = (tgt : Int)) (kk : SL G M P d k n h tgt L st) : SL G M P d k n h pc L st := SL.sk (fun hx hb _ w => lv_goto hx hb hd ht w) kk
theorem y_tableIn {dflt lo hi : Int} {offs : Array Int} {len : Nat} {x : Int32} {off : Int} {tgt : Nat} (hd : decode M.2.1 pc = .ok (.tableswitch dflt lo hi offs, len)) (h1 : ¬ x.toInt < lo) (h2 : ¬ hi < x.toInt) (ho : offs[(x.toInt - lo).toNat]? = some off) (ht : (pc : Int) + off = (tgt : Int)) (kk : SL G M P d k n h tgt L st) : SL G M P d k n h pc L (.int x :: st) := SL.sk (fun hx hb _ w => lv_tableIn hx hb hd h1 h2 ho ht w) kk
theorem y_tableOut {dflt lo hi : Int} {offs : Array Int} {len : Nat} {x : Int32} {tgt : Nat} (hd : decode M.2.1 pc = .ok (.tableswitch dflt lo hi offs, len)) (h0 : x.toInt < lo ∨ hi < x.toInt) (ht : (pc : Int) + dflt = (tgt : Int)) (kk : SL G M P d k n h tgt L st) : SL G M P d k n h pc L (.int x :: st) := SL.sk (fun hx hb _ w => lv_tableOut hx hb hd h0 ht w) kk
theorem y_lookup {dflt : Int} {ps : Array (Int × Int)} {len : Nat} {x : Int32} {off : Int} {tgt : Nat} (hd : decode M.2.1 pc = .ok (.lookupswitch dflt ps, len)) (hp : (ps.toList.zip (ps.toList.drop 1)).all (fun (a, next) => a.1 < next.1) = true) (ho : Op.lookupswitch.offset ps.toList dflt x.toInt = off) (ht : (pc : Int) + off = (tgt : Int)) (kk : SL G M P d k n h tgt L st) : SL G M P d k n h pc L (.int x :: st) := SL.sk (fun hx hb _ w => lv_lookup hx hb hd hp ho ht w) kk
theorem y_if_eq {x : Int32} {off : Int} {tgt : Nat} (hd : decode M.2.1 pc = .ok (.ifCond .eq off, 3)) (ht : (pc : Int) + off = (tgt : Int)) (kt : x = 0 → SL G M P d k n h tgt L st) (kf : ¬ (x = 0) → SL G M P d k n h (pc + 3) L st) : SL G M P d k n h pc L (.int x :: st) := SL.br (fun hx hb a b => lv_if_eq hx hb hd ht a b) kt kf
theorem y_icmp_eq {x y : Int32} {off : Int} {tgt : Nat} (hd : decode M.2.1 pc = .ok (.if_icmp .eq off, 3)) (ht : (pc : Int) + off = (tgt : Int)) (kt : x = y → SL G M P d k n h tgt L st) (kf : ¬ (x = y) → SL G M P d k n h (pc + 3) L st) : SL G M P d k n h pc L (.int y :: .int x :: st) := SL.br (fun hx hb a b => lv_icmp_eq hx hb hd ht a b) kt kf
theorem y_if_ne {x : Int32} {off : Int} {tgt : Nat} (hd : decode M.2.1 pc = .ok (.ifCond .ne off, 3)) (ht : (pc : Int) + off = (tgt : Int)) (kt : ¬ x = 0 → SL G M P d k n h tgt L st) (kf : x = 0 → SL G M P d k n h (pc + 3) L st) : SL G M P d k n h pc L (.int x :: st) := SL.br (fun hx hb a b => lv_if_ne hx hb hd ht a (fun e => b (fun q => q e))) kt (fun q => kf (Decidable.of_not_not q))
theorem y_icmp_ne {x y : Int32} {off : Int} {tgt : Nat} (hd : decode M.2.1 pc = .ok (.if_icmp .ne off, 3)) (ht : (pc : Int) + off = (tgt : Int)) (kt : ¬ x = y → SL G M P d k n h tgt L st) (kf : x = y → SL G M P d k n h (pc + 3) L st) : SL G M P d k n h pc L (.int y :: .int x :: st) := SL.br (fun hx hb a b => lv_icmp_ne hx hb hd ht a (fun e => b (fun q => q e))) kt (fun q => kf (Decidable.of_not_not q))
theorem y_if_lt {x : Int32} {off : Int} {tgt : Nat} (hd : decode M.2.1 pc = .ok (.ifCond .lt off, 3)) (ht : (pc : Int) + off = (tgt : Int)) (kt : x < 0 → SL G M P d k n h tgt L st) (kf : ¬ (x < 0) → SL G M P d k n h (pc + 3) L st) : SL G M P d k n h pc L (.int x :: st) := SL.br (fun hx hb a b => lv_if_lt hx hb hd ht a b) kt kf
theorem y_icmp_lt {x y : Int32} {off : Int} {tgt : Nat} (hd : decode M.2.1 pc = .ok (.if_icmp .lt off, 3)) (ht : (pc : Int) + off = (tgt : Int)) (kt : x < y → SL G M P d k n h tgt L st) (kf : ¬ (x < y) → SL G M P d k n h (pc + 3) L st) : SL G M P d k n h pc L (.int y :: .int x :: st) := SL.br (fun hx hb a b => lv_icmp_lt hx hb hd ht a b) kt kf
theorem y_if_ge {x : Int32} {off : Int} {tgt : Nat} (hd : decode M.2.1 pc = .ok (.ifCond .ge off, 3)) (ht : (pc : Int) + off = (tgt : Int)) (kt : 0 ≤ x → SL G M P d k n h tgt L st) (kf : ¬ (0 ≤ x) → SL G M P d k n h (pc + 3) L st) : SL G M P d k n h pc L (.int x :: st) := SL.br (fun hx hb a b => lv_if_ge hx hb hd ht a b) kt kf
theorem y_icmp_ge {x y : Int32} {off : Int} {tgt : Nat} (hd : decode M.2.1 pc = .ok (.if_icmp .ge off, 3)) (ht : (pc : Int) + off = (tgt : Int)) (kt : y ≤ x → SL G M P d k n h tgt L st) (kf : ¬ (y ≤ x) → SL G M P d k n h (pc + 3) L st) : SL G M P d k n h pc L (.int y :: .int x :: st) := SL.br (fun hx hb a b => lv_icmp_ge hx hb hd ht a b) kt kf
theorem y_if_gt {x : Int32} {off : Int} {tgt : Nat} (hd : decode M.2.1 pc = .ok (.ifCond .gt off, 3)) (ht : (pc : Int) + off = (tgt : Int)) (kt : 0 < x → SL G M P d k n h tgt L st) (kf : ¬ (0 < x) → SL G M P d k n h (pc + 3) L st) : SL G M P d k n h pc L (.int x :: st) := SL.br (fun hx hb a b => lv_if_gt hx hb hd ht a b) kt kf
theorem y_icmp_gt {x y : Int32} {off : Int} {tgt : Nat} (hd : decode M.2.1 pc = .ok (.if_icmp .gt off, 3)) (ht : (pc : Int) + off = (tgt : Int)) (kt : y < x → SL G M P d k n h tgt L st) (kf : ¬ (y < x) → SL G M P d k n h (pc + 3) L st) : SL G M P d k n h pc L (.int y :: .int x :: st) := SL.br (fun hx hb a b => lv_icmp_gt hx hb hd ht a b) kt kf
theorem y_if_le {x : Int32} {off : Int} {tgt : Nat} (hd : decode M.2.1 pc = .ok (.ifCond .le off, 3)) (ht : (pc : Int) + off = (tgt : Int)) (kt : x ≤ 0 → SL G M P d k n h tgt L st) (kf : ¬ (x ≤ 0) → SL G M P d k n h (pc + 3) L st) : SL G M P d k n h pc L (.int x :: st) := SL.br (fun hx hb a b => lv_if_le hx hb hd ht a b) kt kf
theorem y_icmp_le {x y : Int32} {off : Int} {tgt : Nat} (hd : decode M.2.1 pc = .ok (.if_icmp .le off, 3)) (ht : (pc : Int) + off = (tgt : Int)) (kt : x ≤ y → SL G M P d k n h tgt L st) (kf : ¬ (x ≤ y) → SL G M P d k n h (pc + 3) L st) : SL G M P d k n h pc L (.int y :: .int x :: st) := SL.br (fun hx hb a b => lv_icmp_le hx hb hd ht a b) kt kf
theorem y_ifnonnull {x : Nat} {off : Int} {tgt : Nat} (hd : decode M.2.1 pc = .ok (.ifnonnull off, 3)) (ht : (pc : Int) + off = (tgt : Int)) (kk : SL G M P d k n h tgt L st) : SL G M P d k n h pc L (.ref x :: st) := SL.sk (fun hx hb _ w => lv_ifnonnull hx hb hd ht w) kk
theorem y_ifnull {x : Nat} {off : Int} (hd : decode M.2.1 pc = .ok (.ifnull off, 3)) (kk : SL G M P d k n h (pc + 3) L st) : SL G M P d k n h pc L (.ref x :: st) := SL.sk (fun hx hb _ w => lv_ifnull hx hb hd w) kk
theorem y_ifnullN {off : Int} {tgt : Nat} (hd : decode M.2.1 pc = .ok (.ifnull off, 3)) (ht : (pc : Int) + off = (tgt : Int)) (kk : SL G M P d k n h tgt L st) : SL G M P d k n h pc L (.null :: st) := SL.sk (fun hx hb _ w => lv_ifnullN hx hb hd ht w) kk
theorem y_ifnonnullN {off : Int} (hd : decode M.2.1 pc = .ok (.ifnonnull off, 3)) (kk : SL G M P d k n h (pc + 3) L st) : SL G M P d k n h pc L (.null :: st) := SL.sk (fun hx hb _ w => lv_ifnonnullN hx hb hd w) kk
theorem y_aloadN {i : Nat} (hd : decode M.2.1 pc = .ok (.aload i, 2)) (hi : L[i]? = some (some .null)) (kk : SL G M P d k n h (pc + 2) L (.null :: st)) : SL G M P d k n h pc L st := SL.sk (fun hx hb hL w => lv_aloadN hx hb hd (hL.at hi) w) kk
theorem y_aload_nN {q : Fin 4} (hd : decode M.2.1 pc = .ok (.aload_n q, 1)) (hi : L[(q : Nat)]? = some (some .null)) (kk : SL G M P d k n h (pc + 1) L (.null :: st)) : SL G M P d k n h pc L st := SL.sk (fun hx hb hL w => lv_aload_nN hx hb hd rfl (hL.at hi) w) kk
theorem SL.wk {L' : p_LL} (hs : ∀ (i : Nat) (v : Value), L'[i]? = some (some v) → L[i]? = some (some v)) (kk : SL G M P d k n h pc L' st) : SL G M P d k n h pc L st :=
  fun p e R s m args below meth c H locs cells slots ls C B hS hR hL => kk p e R s m args below meth c H locs cells slots ls C B hS hR ⟨hL.1, hL.2.1, fun i v hi => hL.2.2 i v (hs i v hi)⟩
theorem SL.room {d' k' n' : Nat} (hd : d' ≤ d) (hk : k' ≤ k) (hn : n' ≤ n) (kk : SL G M P d' k' n' h pc L st) : SL G M P d k n h pc L st :=
  fun p e R s m args below meth c H locs cells slots ls C B hS hR hL => kk p e R s m args below meth c H locs cells slots ls C ⟨Nat.le_trans hd B.1, Nat.le_trans (Nat.mul_le_mul_left 64 hd) B.2.1, Nat.le_trans (Nat.add_le_add_left hk _) B.2.2.1, Nat.le_trans (Nat.add_le_add_left hn _) B.2.2.2⟩ hS hR hL
theorem y_istore {i : Nat} {x : Int32} {L' : p_LL} (hd : decode M.2.1 pc = .ok (.istore i, 2)) (hn : i < M.2.2.1) (hl : p_st1 L i (.int x) = L') (kk : SL G M P d k n h (pc + 2) L' st) : SL G M P d k n h pc L (.int x :: st) :=
  fun p e R s m args below meth c H locs cells slots ls C B hS hR hL => lv_istore C.1 C.2.1 hd hL.has hn rfl (fun ls' h' => kk p e R s m args below meth c H locs cells slots ls' C B hS hR (hl ▸ p_L.s1 h'))
theorem y_istore_n {q : Fin 4} {x : Int32} {L' : p_LL} (hd : decode M.2.1 pc = .ok (.istore_n q, 1)) (hn : (q : Nat) < M.2.2.1) (hl : p_st1 L (q : Nat) (.int x) = L') (kk : SL G M P d k n h (pc + 1) L' st) : SL G M P d k n h pc L (.int x :: st) :=
  fun p e R s m args below meth c H locs cells slots ls C B hS hR hL => lv_istore_n C.1 C.2.1 hd rfl hL.has hn rfl (fun ls' h' => kk p e R s m args below meth c H locs cells slots ls' C B hS hR (hl ▸ p_L.s1 h'))
theorem y_astore {i : Nat} {x : Nat} {L' : p_LL} (hd : decode M.2.1 pc = .ok (.astore i, 2)) (hn : i < M.2.2.1) (hl : p_st1 L i (.ref x) = L') (kk : SL G M P d k n h (pc + 2) L' st) : SL G M P d k n h pc L (.ref x :: st) :=
  fun p e R s m args below meth c H locs cells slots ls C B hS hR hL => lv_astore C.1 C.2.1 hd hL.has hn rfl (fun ls' h' => kk p e R s m args below meth c H locs cells slots ls' C B hS hR (hl ▸ p_L.s1 h'))
theorem y_astore_n {q : Fin 4} {x : Nat} {L' : p_LL} (hd : decode M.2.1 pc = .ok (.astore_n q, 1)) (hn : (q : Nat) < M.2.2.1) (hl : p_st1 L (q : Nat) (.ref x) = L') (kk : SL G M P d k n h (pc + 1) L' st) : SL G M P d k n h pc L (.ref x :: st) :=
  fun p e R s m args below meth c H locs cells slots ls C B hS hR hL => lv_astore_n C.1 C.2.1 hd rfl hL.has hn rfl (fun ls' h' => kk p e R s m args below meth c H locs cells slots ls' C B hS hR (hl ▸ p_L.s1 h'))
theorem y_lstore {i : Nat} {x : Int64} {L' : p_LL} (hd : decode M.2.1 pc = .ok (.lstore i, 2)) (hn : i + 1 < M.2.2.1) (hl : p_st2 L i (.long x) = L') (kk : SL G M P d k n h (pc + 2) L' st) : SL G M P d k n h pc L (.long x :: st) :=
  fun p e R s m args below meth c H locs cells slots ls C B hS hR hL => lv_lstore C.1 C.2.1 hd hL.has hn rfl (fun ls' h' => kk p e R s m args below meth c H locs cells slots ls' C B hS hR (hl ▸ p_L.s2 h'))
theorem y_lstore_n {q : Fin 4} {x : Int64} {L' : p_LL} (hd : decode M.2.1 pc = .ok (.lstore_n q, 1)) (hn : (q : Nat) + 1 < M.2.2.1) (hl : p_st2 L (q : Nat) (.long x) = L') (kk : SL G M P d k n h (pc + 1) L' st) : SL G M P d k n h pc L (.long x :: st) :=
  fun p e R s m args below meth c H locs cells slots ls C B hS hR hL => lv_lstore_n C.1 C.2.1 hd rfl hL.has hn rfl (fun ls' h' => kk p e R s m args below meth c H locs cells slots ls' C B hS hR (hl ▸ p_L.s2 h'))
theorem y_dstore {i : Nat} {x : UInt64} {L' : p_LL} (hd : decode M.2.1 pc = .ok (.dstore i, 2)) (hn : i + 1 < M.2.2.1) (hl : p_st2 L i (.double x) = L') (kk : SL G M P d k n h (pc + 2) L' st) : SL G M P d k n h pc L (.double x :: st) :=
  fun p e R s m args below meth c H locs cells slots ls C B hS hR hL => lv_dstore C.1 C.2.1 hd hL.has hn rfl (fun ls' h' => kk p e R s m args below meth c H locs cells slots ls' C B hS hR (hl ▸ p_L.s2 h'))
theorem y_dstore_n {q : Fin 4} {x : UInt64} {L' : p_LL} (hd : decode M.2.1 pc = .ok (.dstore_n q, 1)) (hn : (q : Nat) + 1 < M.2.2.1) (hl : p_st2 L (q : Nat) (.double x) = L') (kk : SL G M P d k n h (pc + 1) L' st) : SL G M P d k n h pc L (.double x :: st) :=
  fun p e R s m args below meth c H locs cells slots ls C B hS hR hL => lv_dstore_n C.1 C.2.1 hd rfl hL.has hn rfl (fun ls' h' => kk p e R s m args below meth c H locs cells slots ls' C B hS hR (hl ▸ p_L.s2 h'))
theorem y_astoreN {i : Nat} {L' : p_LL} (hd : decode M.2.1 pc = .ok (.astore i, 2)) (hn : i < M.2.2.1) (hl : p_st1 L i .null = L') (kk : SL G M P d k n h (pc + 2) L' st) : SL G M P d k n h pc L (.null :: st) :=
  fun p e R s m args below meth c H locs cells slots ls C B hS hR hL => lv_astoreN C.1 C.2.1 hd hL.has hn rfl (fun ls' h' => kk p e R s m args below meth c H locs cells slots ls' C B hS hR (hl ▸ p_L.s1 h'))
theorem y_astore_nN {q : Fin 4} {L' : p_LL} (hd : decode M.2.1 pc = .ok (.astore_n q, 1)) (hn : (q : Nat) < M.2.2.1) (hl : p_st1 L (q : Nat) .null = L') (kk : SL G M P d k n h (pc + 1) L' st) : SL G M P d k n h pc L (.null :: st) :=
  fun p e R s m args below meth c H locs cells slots ls C B hS hR hL => lv_astore_nN C.1 C.2.1 hd rfl hL.has hn rfl (fun ls' h' => kk p e R s m args below meth c H locs cells slots ls' C B hS hR (hl ▸ p_L.s1 h'))
theorem y_iinc {i : Nat} {q : Int} {x v : Int32} {L' : p_LL} (hd : decode M.2.1 pc = .ok (.iinc i q, 3)) (hi : L[i]? = some (some (.int x))) (hv : x + Int32.ofInt q = v) (hn : i < M.2.2.1) (hl : p_st1 L i (.int v) = L') (kk : SL G M P d k n h (pc + 3) L' st) : SL G M P d k n h pc L st :=
  fun p e R s m args below meth c H locs cells slots ls C B hS hR hL => by
    obtain ⟨j, hj⟩ := List.getElem?_of_mem (p_as_mem.mpr hi)
    exact lv_iinc C.1 C.2.1 hd hL.has hj hv hn rfl (fun ls' h' => kk p e R s m args below meth c H locs cells slots ls' C B hS hR (hl ▸ p_L.s1 h'))
theorem y_get {a idx ci kf : Nat} {ty : FieldType} {fin : Bool} {fs : List Value} {v : Value} (hd : decode M.2.1 pc = .ok (.getfield idx, 3)) (hf : p_Fo M.1.cls idx ci kf ty fin) (ha : h a = some (.inr (ci, fs))) (hv : fs[kf]? = some v) (kk : SL G M P d k n h (pc + 3) L (v :: st)) : SL G M P d k n h pc L (.ref a :: st) := by
  intro p e R s m args below meth c H locs cells slots ls C B hS hR hL
  obtain ⟨hx, hb, -, -, -, hown, -, -, hU⟩ := id C
  obtain ⟨Cn, T, N, ty0, hc, hk, hlk, -⟩ := hf
  obtain ⟨ws, hP, hD, hw⟩ := id hR
  obtain ⟨q0, hq⟩ := hw a _ ha
  exact va_get (Ts := p_ws) hx hb (fun w hw => hU.word hw args) (p_inC hc) hown hU.K hP q0 hq hc kf hk (hU.word hlk args) (fun _ h9 => h9) hv hd (kk p e R s m args below meth c H locs cells slots ls C B hS hR hL)
theorem y_put {a idx ci kf : Nat} {ty : FieldType} {fs : List Value} {v : Value} (hd : decode M.2.1 pc = .ok (.putfield idx, 3)) (hf : p_Fo M.1.cls idx ci kf ty false) (ha : h a = some (.inr (ci, fs))) (hn : narrow ty v = v) (hfit : fits ty v = true) (hl : kf < fs.length) (kk : SL G M P d k n (p_up h a (.inr (ci, fs.set kf v))) (pc + 3) L st) : SL G M P d k n h pc L (v :: .ref a :: st) := by
  intro p e R s m args below meth c H locs cells slots ls C B hS hR hL
  obtain ⟨hx, hb, -, -, -, hown, -, -, hU⟩ := id C
  obtain ⟨Cn, T, N, ty0, hc, hk, hlk, hty, hnm, h1, h2⟩ := hf
  obtain ⟨ws, hP, hD, hw⟩ := id hR
  obtain ⟨q0, hq⟩ := hw a _ ha
  exact va_put (Ts := p_ws) hx hb (fun w hw => hU.word hw args) (p_inC hc) ty0 hty hnm hown hU.K hP hD hS q0 hq hc kf hk (hU.word hlk args) (fun _ h9 => h9) h2 (h1 ▸ hty kf hk) hn hfit hl hd
    (fun H1 locs1 hP1 hD1 hS1 => kk p e R s m args below meth c H1 locs1 cells slots ls C B hS1 (p_R.set (e := .inr (ci, fs.set kf v)) hw hq hP1 hD1) hL)
theorem y_iaload {a N : Nat} {f : Nat → Int32} {i : Int32} (hd : decode M.2.1 pc = .ok (.iaload, 1)) (ha : h a = some (.inl (0, (N, .inl f)))) (hi : vp_in i N) (kk : SL G M P d k n h (pc + 1) L (.int (f i.toNatClampNeg) :: st)) : SL G M P d k n h pc L (.int i :: .ref a :: st) := by
  intro p e R s m args below meth c H locs cells slots ls C B hS hR hL
  obtain ⟨hx, hb, -, -, -, hown, -, -, hU⟩ := id C
  obtain ⟨ws, hP, hD, hw⟩ := id hR
  obtain ⟨q0, hq⟩ := hw a _ ha
  exact va_iald hx hb hU.K hP q0 0 hq rfl hi hd (kk p e R s m args below meth c H locs cells slots ls C B hS hR hL)
theorem y_laload {a N : Nat} {f : Nat → Int64} {i : Int32} (hd : decode M.2.1 pc = .ok (.laload, 1)) (ha : h a = some (.inl (1, (N, .inr (.inl f))))) (hi : vp_in i N) (kk : SL G M P d k n h (pc + 1) L (.long (f i.toNatClampNeg) :: st)) : SL G M P d k n h pc L (.int i :: .ref a :: st) := by
  intro p e R s m args below meth c H locs cells slots ls C B hS hR hL
  obtain ⟨hx, hb, -, -, -, hown, -, -, hU⟩ := id C
  obtain ⟨ws, hP, hD, hw⟩ := id hR
  obtain ⟨q0, hq⟩ := hw a _ ha
  exact va_lald hx hb hU.K hP q0 1 hq rfl hi hd (kk p e R s m args below meth c H locs cells slots ls C B hS hR hL)
theorem y_zaload {a N : Nat} {f : Nat → Int32} {i : Int32} (hd : decode M.2.1 pc = .ok (.baload, 1)) (ha : h a = some (.inl (2, (N, .inl f)))) (hi : vp_in i N) (kk : SL G M P d k n h (pc + 1) L (.int (f i.toNatClampNeg) :: st)) : SL G M P d k n h pc L (.int i :: .ref a :: st) := by
  intro p e R s m args below meth c H locs cells slots ls C B hS hR hL
  obtain ⟨hx, hb, -, -, -, hown, -, -, hU⟩ := id C
  obtain ⟨ws, hP, hD, hw⟩ := id hR
  obtain ⟨q0, hq⟩ := hw a _ ha
  exact va_zald hx hb hU.K hP q0 2 hq rfl hi hd (kk p e R s m args below meth c H locs cells slots ls C B hS hR hL)
theorem y_caload {a N : Nat} {f : Nat → Int32} {i : Int32} (hd : decode M.2.1 pc = .ok (.caload, 1)) (ha : h a = some (.inl (3, (N, .inl f)))) (hi : vp_in i N) (kk : SL G M P d k n h (pc + 1) L (.int (f i.toNatClampNeg) :: st)) : SL G M P d k n h pc L (.int i :: .ref a :: st) := by
  intro p e R s m args below meth c H locs cells slots ls C B hS hR hL
  obtain ⟨hx, hb, -, -, -, hown, -, -, hU⟩ := id C
  obtain ⟨ws, hP, hD, hw⟩ := id hR
  obtain ⟨q0, hq⟩ := hw a _ ha
  exact va_cald hx hb hU.K hP q0 3 hq rfl hi hd (kk p e R s m args below meth c H locs cells slots ls C B hS hR hL)
theorem y_daload {a N : Nat} {f : Nat → UInt64} {i : Int32} (hd : decode M.2.1 pc = .ok (.daload, 1)) (ha : h a = some (.inl (4, (N, .inr (.inr (.inr (.inl f))))))) (hi : vp_in i N) (kk : SL G M P d k n h (pc + 1) L (.double (f i.toNatClampNeg) :: st)) : SL G M P d k n h pc L (.int i :: .ref a :: st) := by
  intro p e R s m args below meth c H locs cells slots ls C B hS hR hL
  obtain ⟨hx, hb, -, -, -, hown, -, -, hU⟩ := id C
  obtain ⟨ws, hP, hD, hw⟩ := id hR
  obtain ⟨q0, hq⟩ := hw a _ ha
  exact va_dald hx hb hU.K hP q0 4 hq rfl hi hd (kk p e R s m args below meth c H locs cells slots ls C B hS hR hL)
theorem y_aaload {a N : Nat} {f : Nat → Option Nat} {i : Int32} (hd : decode M.2.1 pc = .ok (.aaload, 1)) (ha : h a = some (.inl (5, (N, .inr (.inr (.inr (.inr f))))))) (hi : vp_in i N) (kk : SL G M P d k n h (pc + 1) L (va_rf (f i.toNatClampNeg) :: st)) : SL G M P d k n h pc L (.int i :: .ref a :: st) := by
  intro p e R s m args below meth c H locs cells slots ls C B hS hR hL
  obtain ⟨hx, hb, -, -, -, hown, -, -, hU⟩ := id C
  obtain ⟨ws, hP, hD, hw⟩ := id hR
  obtain ⟨q0, hq⟩ := hw a _ ha
  exact va_aldq hx hb hU.K hP q0 5 hq rfl hi hd (kk p e R s m args below meth c H locs cells slots ls C B hS hR hL)
theorem y_iastore {a N : Nat} {f : Nat → Int32} {i : Int32} {x : Int32} (hd : decode M.2.1 pc = .ok (.iastore, 1)) (ha : h a = some (.inl (0, (N, .inl f)))) (hi : vp_in i N) (kk : SL G M P d k n (p_up h a (.inl (0, (N, .inl (upd f i.toNatClampNeg x))))) (pc + 1) L st) : SL G M P d k n h pc L (.int x :: .int i :: .ref a :: st) := by
  intro p e R s m args below meth c H locs cells slots ls C B hS hR hL
  obtain ⟨hx, hb, -, -, -, hown, -, -, hU⟩ := id C
  obtain ⟨ws, hP, hD, hw⟩ := id hR
  obtain ⟨q0, hq⟩ := hw a _ ha
  exact va_iast hx hb hU.K hP hD hS q0 0 hq rfl hi hd (fun H1 locs1 hP1 hD1 hS1 => kk p e R s m args below meth c H1 locs1 cells slots ls C B hS1 (p_R.set (e := .inl (0, (N, .inl (upd f i.toNatClampNeg x)))) hw hq hP1 hD1) hL)
theorem y_lastore {a N : Nat} {f : Nat → Int64} {i : Int32} {x : Int64} (hd : decode M.2.1 pc = .ok (.lastore, 1)) (ha : h a = some (.inl (1, (N, .inr (.inl f))))) (hi : vp_in i N) (kk : SL G M P d k n (p_up h a (.inl (1, (N, .inr (.inl (vp_updL f i.toNatClampNeg x)))))) (pc + 1) L st) : SL G M P d k n h pc L (.long x :: .int i :: .ref a :: st) := by
  intro p e R s m args below meth c H locs cells slots ls C B hS hR hL
  obtain ⟨hx, hb, -, -, -, hown, -, -, hU⟩ := id C
  obtain ⟨ws, hP, hD, hw⟩ := id hR
  obtain ⟨q0, hq⟩ := hw a _ ha
  exact va_last hx hb hU.K hP hD hS q0 1 hq rfl hi hd (fun H1 locs1 hP1 hD1 hS1 => kk p e R s m args below meth c H1 locs1 cells slots ls C B hS1 (p_R.set (e := .inl (1, (N, .inr (.inl (vp_updL f i.toNatClampNeg x))))) hw hq hP1 hD1) hL)
theorem y_zastore {a N : Nat} {f : Nat → Int32} {i : Int32} {x : Int32} (hd : decode M.2.1 pc = .ok (.bastore, 1)) (ha : h a = some (.inl (2, (N, .inl f)))) (hi : vp_in i N) (kk : SL G M P d k n (p_up h a (.inl (2, (N, .inl (upd f i.toNatClampNeg (vp_nar .boolean x)))))) (pc + 1) L st) : SL G M P d k n h pc L (.int x :: .int i :: .ref a :: st) := by
  intro p e R s m args below meth c H locs cells slots ls C B hS hR hL
  obtain ⟨hx, hb, -, -, -, hown, -, -, hU⟩ := id C
  obtain ⟨ws, hP, hD, hw⟩ := id hR
  obtain ⟨q0, hq⟩ := hw a _ ha
  exact va_zast hx hb hU.K hP hD hS q0 2 hq rfl hi hd (fun H1 locs1 hP1 hD1 hS1 => kk p e R s m args below meth c H1 locs1 cells slots ls C B hS1 (p_R.set (e := .inl (2, (N, .inl (upd f i.toNatClampNeg (vp_nar .boolean x))))) hw hq hP1 hD1) hL)
theorem y_castore {a N : Nat} {f : Nat → Int32} {i : Int32} {x : Int32} (hd : decode M.2.1 pc = .ok (.castore, 1)) (ha : h a = some (.inl (3, (N, .inl f)))) (hi : vp_in i N) (kk : SL G M P d k n (p_up h a (.inl (3, (N, .inl (upd f i.toNatClampNeg (vp_nar .char x)))))) (pc + 1) L st) : SL G M P d k n h pc L (.int x :: .int i :: .ref a :: st) := by
  intro p e R s m args below meth c H locs cells slots ls C B hS hR hL
  obtain ⟨hx, hb, -, -, -, hown, -, -, hU⟩ := id C
  obtain ⟨ws, hP, hD, hw⟩ := id hR
  obtain ⟨q0, hq⟩ := hw a _ ha
  exact va_cast hx hb hU.K hP hD hS q0 3 hq rfl hi hd (fun H1 locs1 hP1 hD1 hS1 => kk p e R s m args below meth c H1 locs1 cells slots ls C B hS1 (p_R.set (e := .inl (3, (N, .inl (upd f i.toNatClampNeg (vp_nar .char x))))) hw hq hP1 hD1) hL)
theorem y_dastore {a N : Nat} {f : Nat → UInt64} {i : Int32} {x : UInt64} (hd : decode M.2.1 pc = .ok (.dastore, 1)) (ha : h a = some (.inl (4, (N, .inr (.inr (.inr (.inl f))))))) (hi : vp_in i N) (kk : SL G M P d k n (p_up h a (.inl (4, (N, .inr (.inr (.inr (.inl (vf_upd f i.toNatClampNeg x)))))))) (pc + 1) L st) : SL G M P d k n h pc L (.double x :: .int i :: .ref a :: st) := by
  intro p e R s m args below meth c H locs cells slots ls C B hS hR hL
  obtain ⟨hx, hb, -, -, -, hown, -, -, hU⟩ := id C
  obtain ⟨ws, hP, hD, hw⟩ := id hR
  obtain ⟨q0, hq⟩ := hw a _ ha
  exact va_dast hx hb hU.K hP hD hS q0 4 hq rfl hi hd (fun H1 locs1 hP1 hD1 hS1 => kk p e R s m args below meth c H1 locs1 cells slots ls C B hS1 (p_R.set (e := .inl (4, (N, .inr (.inr (.inr (.inl (vf_upd f i.toNatClampNeg x))))))) hw hq hP1 hD1) hL)
theorem y_alen {a t : Nat} {x : vp_A} (hd : decode M.2.1 pc = .ok (.arraylength, 1)) (ha : h a = some (.inl (t, x))) (ht : t < 6) (kk : SL G M P d k n h (pc + 1) L (.int (Int32.ofNat x.1) :: st)) : SL G M P d k n h pc L (.ref a :: st) := by
  intro p e R s m args below meth c H locs cells slots ls C B hS hR hL
  obtain ⟨hx, hb, -, -, -, hown, -, -, hU⟩ := id C
  obtain ⟨ws, hP, hD, hw⟩ := id hR
  obtain ⟨q0, hq⟩ := hw a _ ha
  obtain ⟨ty, hty⟩ : ∃ ty, (p_tys G.2.2.2)[t]? = some (G.2.2.2 t, ty) := by
    match t, ht with
    | 0, _ => exact ⟨_, rfl⟩
    | 1, _ => exact ⟨_, rfl⟩
    | 2, _ => exact ⟨_, rfl⟩
    | 3, _ => exact ⟨_, rfl⟩
    | 4, _ => exact ⟨_, rfl⟩
    | 5, _ => exact ⟨_, rfl⟩
  exact va_alen hx hb hU.K hP q0 t hq hty rfl hd (kk p e R s m args below meth c H locs cells slots ls C B hS hR hL)
theorem y_objInit {d' idx a : Nat} (hd : decode M.2.1 pc = .ok (.invokespecial idx, 3)) (hl : Cond.methodLink M.1.cls idx Lib.objectInit ∈ p_ws) (hr : (st.map fun v => v.category).sum ≤ 8) (kk : SL G M P (d' + 1) k n h (pc + 3) L st) : SL G M P (d' + 1) k n h pc L (.ref a :: st) := by
  intro p e R s m args below meth c H locs cells slots ls C B hS hR hL
  obtain ⟨hx, hb, hml, hret, hlk, hown, hnam, hE, hU⟩ := id C
  have b1 := B.1
  have b2 := B.2.1
  have hr2 := lv_room (m := m) (pc := pc) (ls := ls) (rest := .ref a :: st) hr
  exact W.objInit hx hb hown (hU.word hl args) (hU.word (p_in (by decide +kernel) rfl) args) (hU.word (p_in (by decide +kernel) rfl) args) rfl (hL.1.trans hml.symm) rfl hd (by omega) (by omega)
    (kk p e R s m args below meth c H locs cells slots ls C B hS hR hL)
theorem y_new {idx ci N : Nat} {fs : List Value} (hd : decode M.2.1 pc = .ok (.new idx, 3)) (hf : p_N M.1.cls idx ci fs N) (kk : ∀ q : Nat, h q = none → SL G M P d k n (p_up h q (.inr (ci, fs))) (pc + 3) L (.ref q :: st)) : SL G M P d (k + 1) (n + N) h pc L st := by
  intro p e R s m args below meth c H locs cells slots ls C B hS hR hL
  obtain ⟨hx, hb, hml, hret, hlk, hown, hnam, hE, hU⟩ := id C
  obtain ⟨Cn, T, ty, hc, h1, h2, h3, hty, hfs⟩ := hf
  obtain ⟨ws, hP, hD, hw⟩ := id hR
  obtain ⟨b1, b2, b3, b4⟩ := B
  refine va_new (C := Cn) (T := T) (N := N) (Ts := p_ws) hx hb (fun w hw => hU.word hw args) (p_inC hc) ty hty hown (hU.word h1 args) (hU.word h2 args) (hU.word h3 args) hU.K hP hD hS (fun q hq => Nat.le_trans hU.2.2.1 hq) hc hfs (by omega) (by omega) hd (fun q H1 hP1 hD1 hS1 => ?_)
  obtain ⟨hn, hR1⟩ := p_R.push (e := .inr (ci, fs)) hw hP1 hD1
  exact kk q hn p e R s m args below meth c H1 locs (cells + 1) (slots + N) ls C ⟨b1, b2, by omega, by omega⟩ hS1 hR1 hL
theorem y_newaI {v : Int32} {N : Nat} (hd : decode M.2.1 pc = .ok (.newarray .int, 2)) (hn : ¬ v < 0) (hN : v.toNatClampNeg = N) (hb8 : N ≤ 60000) (kk : ∀ q : Nat, h q = none → SL G M P d k n (p_up h q (.inl (0, (N, .inl (fun _ => 0))))) (pc + 2) L (.ref q :: st)) : SL G M P d (k + 1) (n + N) h pc L (.int v :: st) := by
  intro p e R s m args below meth c H locs cells slots ls C B hS hR hL
  obtain ⟨hx, hb, hml, hret, hlk, hown, hnam, hE, hU⟩ := id C
  obtain ⟨ws, hP, hD, hw⟩ := id hR
  obtain ⟨b1, b2, b3, b4⟩ := B
  refine va_newa (atype := .int) (ty := .int) (a0 := (N, .inl (fun _ => 0))) hx hb (hU.word (p_in (by decide +kernel) rfl) args) rfl hU.K hP hD hS (fun q hq => Nat.le_trans hU.2.2.1 hq) (fun cA => rfl) hn hN (by simp only [componentBytes]; omega) (by omega) (by omega) hd (fun q cA H1 hK1 hP1 hD1 hS1 => ?_)
  have e1 : s.vm.findClass _ = some cA := (hK1.2 6 (cA, .int) rfl).2
  have e2 : s.vm.findClass _ = some (G.2.2.2 0) := (hU.K.2 0 (G.2.2.2 0, .int) rfl).2
  have e3 : cA = G.2.2.2 0 := Option.some.inj (e1.symm.trans e2)
  subst e3
  obtain ⟨hn, hR1⟩ := p_R.push (e := .inl (0, (N, .inl (fun _ => 0)))) hw hP1 hD1
  exact kk q hn p e R s m args below meth c H1 locs (cells + 1) (slots + N) ls C ⟨b1, b2, by omega, by omega⟩ hS1 hR1 hL
theorem y_newaJ {v : Int32} {N : Nat} (hd : decode M.2.1 pc = .ok (.newarray .long, 2)) (hn : ¬ v < 0) (hN : v.toNatClampNeg = N) (hb8 : N ≤ 60000) (kk : ∀ q : Nat, h q = none → SL G M P d k n (p_up h q (.inl (1, (N, .inr (.inl (fun _ => 0)))))) (pc + 2) L (.ref q :: st)) : SL G M P d (k + 1) (n + N) h pc L (.int v :: st) := by
  intro p e R s m args below meth c H locs cells slots ls C B hS hR hL
  obtain ⟨hx, hb, hml, hret, hlk, hown, hnam, hE, hU⟩ := id C
  obtain ⟨ws, hP, hD, hw⟩ := id hR
  obtain ⟨b1, b2, b3, b4⟩ := B
  refine va_newa (atype := .long) (ty := .long) (a0 := (N, .inr (.inl (fun _ => 0)))) hx hb (hU.word (p_in (by decide +kernel) rfl) args) rfl hU.K hP hD hS (fun q hq => Nat.le_trans hU.2.2.1 hq) (fun cA => rfl) hn hN (by simp only [componentBytes]; omega) (by omega) (by omega) hd (fun q cA H1 hK1 hP1 hD1 hS1 => ?_)
  have e1 : s.vm.findClass _ = some cA := (hK1.2 6 (cA, .long) rfl).2
  have e2 : s.vm.findClass _ = some (G.2.2.2 1) := (hU.K.2 1 (G.2.2.2 1, .long) rfl).2
  have e3 : cA = G.2.2.2 1 := Option.some.inj (e1.symm.trans e2)
  subst e3
  obtain ⟨hn, hR1⟩ := p_R.push (e := .inl (1, (N, .inr (.inl (fun _ => 0))))) hw hP1 hD1
  exact kk q hn p e R s m args below meth c H1 locs (cells + 1) (slots + N) ls C ⟨b1, b2, by omega, by omega⟩ hS1 hR1 hL
theorem y_newaZ {v : Int32} {N : Nat} (hd : decode M.2.1 pc = .ok (.newarray .boolean, 2)) (hn : ¬ v < 0) (hN : v.toNatClampNeg = N) (hb8 : N ≤ 60000) (kk : ∀ q : Nat, h q = none → SL G M P d k n (p_up h q (.inl (2, (N, .inl (fun _ => 0))))) (pc + 2) L (.ref q :: st)) : SL G M P d (k + 1) (n + N) h pc L (.int v :: st) := by
  intro p e R s m args below meth c H locs cells slots ls C B hS hR hL
  obtain ⟨hx, hb, hml, hret, hlk, hown, hnam, hE, hU⟩ := id C
  obtain ⟨ws, hP, hD, hw⟩ := id hR
  obtain ⟨b1, b2, b3, b4⟩ := B
  refine va_newa (atype := .boolean) (ty := .boolean) (a0 := (N, .inl (fun _ => 0))) hx hb (hU.word (p_in (by decide +kernel) rfl) args) rfl hU.K hP hD hS (fun q hq => Nat.le_trans hU.2.2.1 hq) (fun cA => rfl) hn hN (by simp only [componentBytes]; omega) (by omega) (by omega) hd (fun q cA H1 hK1 hP1 hD1 hS1 => ?_)
  have e1 : s.vm.findClass _ = some cA := (hK1.2 6 (cA, .boolean) rfl).2
  have e2 : s.vm.findClass _ = some (G.2.2.2 2) := (hU.K.2 2 (G.2.2.2 2, .boolean) rfl).2
  have e3 : cA = G.2.2.2 2 := Option.some.inj (e1.symm.trans e2)
  subst e3
  obtain ⟨hn, hR1⟩ := p_R.push (e := .inl (2, (N, .inl (fun _ => 0)))) hw hP1 hD1
  exact kk q hn p e R s m args below meth c H1 locs (cells + 1) (slots + N) ls C ⟨b1, b2, by omega, by omega⟩ hS1 hR1 hL
theorem y_newaC {v : Int32} {N : Nat} (hd : decode M.2.1 pc = .ok (.newarray .char, 2)) (hn : ¬ v < 0) (hN : v.toNatClampNeg = N) (hb8 : N ≤ 60000) (kk : ∀ q : Nat, h q = none → SL G M P d k n (p_up h q (.inl (3, (N, .inl (fun _ => 0))))) (pc + 2) L (.ref q :: st)) : SL G M P d (k + 1) (n + N) h pc L (.int v :: st) := by
  intro p e R s m args below meth c H locs cells slots ls C B hS hR hL
  obtain ⟨hx, hb, hml, hret, hlk, hown, hnam, hE, hU⟩ := id C
  obtain ⟨ws, hP, hD, hw⟩ := id hR
  obtain ⟨b1, b2, b3, b4⟩ := B
  refine va_newa (atype := .char) (ty := .char) (a0 := (N, .inl (fun _ => 0))) hx hb (hU.word (p_in (by decide +kernel) rfl) args) rfl hU.K hP hD hS (fun q hq => Nat.le_trans hU.2.2.1 hq) (fun cA => rfl) hn hN (by simp only [componentBytes]; omega) (by omega) (by omega) hd (fun q cA H1 hK1 hP1 hD1 hS1 => ?_)
  have e1 : s.vm.findClass _ = some cA := (hK1.2 6 (cA, .char) rfl).2
  have e2 : s.vm.findClass _ = some (G.2.2.2 3) := (hU.K.2 3 (G.2.2.2 3, .char) rfl).2
  have e3 : cA = G.2.2.2 3 := Option.some.inj (e1.symm.trans e2)
  subst e3
  obtain ⟨hn, hR1⟩ := p_R.push (e := .inl (3, (N, .inl (fun _ => 0)))) hw hP1 hD1
  exact kk q hn p e R s m args below meth c H1 locs (cells + 1) (slots + N) ls C ⟨b1, b2, by omega, by omega⟩ hS1 hR1 hL
theorem y_newaD {v : Int32} {N : Nat} (hd : decode M.2.1 pc = .ok (.newarray .double, 2)) (hn : ¬ v < 0) (hN : v.toNatClampNeg = N) (hb8 : N ≤ 60000) (kk : ∀ q : Nat, h q = none → SL G M P d k n (p_up h q (.inl (4, (N, .inr (.inr (.inr (.inl (fun _ => 0)))))))) (pc + 2) L (.ref q :: st)) : SL G M P d (k + 1) (n + N) h pc L (.int v :: st) := by
  intro p e R s m args below meth c H locs cells slots ls C B hS hR hL
  obtain ⟨hx, hb, hml, hret, hlk, hown, hnam, hE, hU⟩ := id C
  obtain ⟨ws, hP, hD, hw⟩ := id hR
  obtain ⟨b1, b2, b3, b4⟩ := B
  refine va_newa (atype := .double) (ty := .double) (a0 := (N, .inr (.inr (.inr (.inl (fun _ => 0)))))) hx hb (hU.word (p_in (by decide +kernel) rfl) args) rfl hU.K hP hD hS (fun q hq => Nat.le_trans hU.2.2.1 hq) (fun cA => rfl) hn hN (by simp only [componentBytes]; omega) (by omega) (by omega) hd (fun q cA H1 hK1 hP1 hD1 hS1 => ?_)
  have e1 : s.vm.findClass _ = some cA := (hK1.2 6 (cA, .double) rfl).2
  have e2 : s.vm.findClass _ = some (G.2.2.2 4) := (hU.K.2 4 (G.2.2.2 4, .double) rfl).2
  have e3 : cA = G.2.2.2 4 := Option.some.inj (e1.symm.trans e2)
  subst e3
  obtain ⟨hn, hR1⟩ := p_R.push (e := .inl (4, (N, .inr (.inr (.inr (.inl (fun _ => 0))))))) hw hP1 hD1
  exact kk q hn p e R s m args below meth c H1 locs (cells + 1) (slots + N) ls C ⟨b1, b2, by omega, by omega⟩ hS1 hR1 hL
def p_KL (G : p_G) (M : p_M) (P : p_Zt) (d k n pc : Nat) (L : p_LL) (rest : List Value) : p_P := fun o h => match o with
  | .inl none => SL G M P d k n h pc L rest
  | .inl (some v) => SL G M P d k n h pc L (v :: rest)
  | .inr _ => False
theorem p_runL {p : Program} {e : Env} {R : Room} {s : State} {m : MethodId} {args a : Array Value} {below : List Frame} {meth : Method} {c : Code} {H : Heap} {locs : List Loc} {cells slots mc ms : Nat} {ls : Array Slot} {rest : List Value} (C : p_CL G M p s m meth c) (B : p_B d (mc + k) (ms + n) R cells slots) (hS : va_S (p_A G) s.heap H locs) (hL : p_L M.2.2.1 L ls)
    (hr : vx_Run p G.1 e R s m args below meth c H locs cells slots mc ms (F0 m pc ls st) rest (p_Q G (p_KL G M P d k n (pc + 3) L rest) a) (p_X G (p_KL G M P d k n (pc + 3) L rest)) (p_A G)) :
    W p G.1 e R s m args below meth c H locs cells slots (P R below args s) (F0 m pc ls st) := by
  intro T hT X
  have hB1 : cells + mc + k ≤ R.cells := by have := B.2.2.1; omega
  have hB2 : slots + ms + n ≤ R.slots := by have := B.2.2.2; omega
  rcases hr T hT X with ⟨v, st₀, t, T', L0, h0, X', hL0, e1, e2, ⟨v', h', hv, hP, hR', hF⟩, go⟩ | ⟨q, st₀, t, T', L0, E, ce, h0, X', hL0, e1, e2, ⟨h', hP, hR', hF⟩, hce, hcv, hcl, hst⟩
  · cases hv
    have hS' : va_S (p_A G) s.heap T'.heap (locs ++ L0) := by
      refine ⟨Nat.le_trans hS.1 (by rw [e1, ← h0]; exact hF.1), fun q h1 h2 => ?_, fun q hq => (List.mem_append.mp hq).elim (hS.2.2 q) (hL0 q)⟩
      rw [e1, hF.2 q (by rw [h0]; exact Nat.lt_of_lt_of_le h1 hS.1) h2, h0]
      exact hS.2.1 q h1 h2
    rw [← e1] at hR'
    have kk : SL G M P d k n h' (pc + 3) L (v.toList ++ rest) := by
      cases v with
      | none => exact hP
      | some v => exact hP
    obtain ⟨t2, a1, b1⟩ := kk p e R s m args below meth c T'.heap (locs ++ L0) (cells + mc) (slots + ms) ls C ⟨B.1, B.2.1, hB1, hB2⟩ hS' hR' hL T' rfl X'
    exact ⟨t2, go t2 a1, b1⟩
  · exact hP.elim
theorem y_callS {M' : p_M} {na mc ms d' k' n' idx : Nat} {As rest : List Value} (hd : decode M.2.1 pc = .ok (.invokestatic idx, 3)) (hc : p_cf M' na) (hs : Cond.static M'.1 ∈ p_ws) (hl : Cond.methodLink M.1.cls idx M'.1 ∈ p_ws) (hn : As.length = na) (he : st = As.reverse ++ rest) (hr : (rest.map fun v => v.category).sum ≤ 8) (hk : k = mc + k') (hk2 : n = ms + n')
    (kk : SM G M' h As d' mc ms (p_KL G M P (d' + 1) k' n' (pc + 3) L rest)) : SL G M P (d' + 1) k n h pc L st := by
  intro p e R s m args below meth c H locs cells slots ls C B hS hR hL
  subst hk; subst hk2
  obtain ⟨hx, hb, hml, hret, hlk, hown, hnam, hE, hU⟩ := id C
  refine p_runL (rest := rest) (a := As.toArray) C B hS hL ?_
  exact vx_runS (Ts := []) ⟨hx, hb, hml, hown, fun w hw => by cases hw⟩ kk ⟨p_callB hU hc hl B, hU.word hs args⟩ ⟨p_blind, fun U hh hW => ⟨rfl, hU.call hS hh hW, by rw [hh]; exact hR⟩⟩ rfl hn hL.1 he (lv_room hr) hd ⟨by have := B.2.2.1; omega, by have := B.2.2.2; omega⟩
theorem y_callV {M' : p_M} {na mc ms d' k' n' idx b ci : Nat} {As rest fs : List Value} {q : vw_C} (hd : decode M.2.1 pc = .ok (.invokevirtual idx, 3)) (hc : p_cf M' na) (hi : Cond.instanceMethod M'.1 ∈ p_ws) (hse : Cond.selects M'.1.cls M'.1 M'.1 ∈ p_ws) (hl : Cond.methodLink M.1.cls idx M'.1 ∈ p_ws) (hb0 : h b = some (.inr (ci, fs))) (hq : vwCl[ci]? = some q) (hq1 : q.1 = M'.1.cls) (hn : As.length = na) (he : st = As.reverse ++ .ref b :: rest) (hr : (rest.map fun v => v.category).sum ≤ 8) (hk : k = mc + k') (hk2 : n = ms + n')
    (kk : SM G M' h (.ref b :: As) d' mc ms (p_KL G M P (d' + 1) k' n' (pc + 3) L rest)) : SL G M P (d' + 1) k n h pc L st := by
  intro p e R s m args below meth c H locs cells slots ls C B hS hR hL
  subst hk; subst hk2
  obtain ⟨hx, hb, hml, hret, hlk, hown, hnam, hE, hU⟩ := id C
  obtain ⟨ws, hP, hD, hw⟩ := id hR
  obtain ⟨q0, hq0⟩ := hw b _ hb0
  refine p_runL (rest := rest) (a := (Value.ref b :: As).toArray) C B hS hL ?_
  exact vx_runV (Ts := []) ⟨hx, hb, hml, hown, fun w hw => by cases hw⟩ kk ⟨p_callB hU hc hl B, hU.word hi args, hU.word hse args⟩ ⟨p_blind, hq1 ▸ va_recv hU.K hP hq hq0, fun U hh hW => ⟨rfl, hU.call hS hh hW, by rw [hh]; exact hR⟩⟩ rfl hn hL.1 he (lv_room hr) hd ⟨by have := B.2.2.1; omega, by have := B.2.2.2; omega⟩
theorem y_callI {M' : p_M} {na mc ms d' k' n' idx b : Nat} {As rest : List Value} (hd : decode M.2.1 pc = .ok (.invokespecial idx, 3)) (hc : p_cf M' na) {y' : MethodName} {cc' : ByteArray} {nL' : Nat} (hM : M' = (y', cc', nL', none)) (hy : M'.1.name = "<init>") (hi : Cond.instanceMethod M'.1 ∈ p_ws) (hl : Cond.methodLink M.1.cls idx M'.1 ∈ p_ws) (hn : As.length = na) (he : st = As.reverse ++ .ref b :: rest) (hr : (rest.map fun v => v.category).sum ≤ 8) (hk : k = mc + k') (hk2 : n = ms + n')
    (kk : SM G M' h (.ref b :: As) d' mc ms (p_KL G M P (d' + 1) k' n' (pc + 3) L rest)) : SL G M P (d' + 1) k n h pc L st := by
  intro p e R s m args below meth c H locs cells slots ls C B hS hR hL
  subst hk; subst hk2; subst hM
  obtain ⟨hx, hb, hml, hret, hlk, hown, hnam, hE, hU⟩ := id C
  refine p_runL (rest := rest) (a := (Value.ref b :: As).toArray) C B hS hL ?_
  exact vx_runI (Ts := []) ⟨hx, hb, hml, hown, fun w hw => by cases hw⟩ kk ⟨p_callB hU hc hl B, hy, hU.word hi args⟩ ⟨p_blind, fun U hh hW => ⟨rfl, hU.call hS hh hW, by rw [hh]; exact hR⟩⟩ rfl hn hL.1 he (lv_room hr) hd ⟨by have := B.2.2.1; omega, by have := B.2.2.2; omega⟩
theorem y_callSX {hh' : List (Nat × Nat × Nat × Nat)} {M' : p_M} {na mc ms d' k' n' idx : Nat} {As rest : List Value} (hd : decode M.2.1 pc = .ok (.invokestatic idx, 3)) (hc : p_cfX hh' M' na) (hs : Cond.static M'.1 ∈ p_ws) (hl : Cond.methodLink M.1.cls idx M'.1 ∈ p_ws) (hn : As.length = na) (he : st = As.reverse ++ rest) (hr : (rest.map fun v => v.category).sum ≤ 8) (hk : k = mc + k') (hk2 : n = ms + n')
    (kk : SMX hh' G M' h As d' mc ms (p_KL G M P (d' + 1) k' n' (pc + 3) L rest)) : SL G M P (d' + 1) k n h pc L st := by
  intro p e R s m args below meth c H locs cells slots ls C B hS hR hL
  subst hk; subst hk2
  obtain ⟨hx, hb, hml, hret, hlk, hown, hnam, hE, hU⟩ := id C
  refine p_runL (rest := rest) (a := As.toArray) C B hS hL ?_
  obtain ⟨c1, c2, c3, c4, c5, c6⟩ := hc
  obtain ⟨b1, b2, b3, b4⟩ := id B
  refine vx_runSX (hh := hh') (Ts := []) ⟨hx, hb, hml, hown, fun w hw => by cases hw⟩ kk ⟨⟨rfl, rfl, b1, by show 8 + (M'.2.2.1 + 11) + 64 * d' ≤ R.locals; omega, fun w hw a' U hW => ?_, List.mem_cons_self⟩, hU.word c1 args, hU.word c2 args, c3, fun sig hs' => ?_, hU.word hl args, hU.word hs args⟩ ⟨p_blind, fun U hh hW => ⟨rfl, hU.call hS hh hW, by rw [hh]; exact hR⟩⟩ rfl hn hL.1 he (lv_room hr) hd ⟨by omega, by omega⟩
  · rw [List.mem_singleton.mp hw]
    exact word_at hW (good_of_word (List.mem_filter.mp c1).2) (hU.word c1 args)
  · rw [hs'] at c4
    exact (Option.some.inj c4).symm
end SLrules
