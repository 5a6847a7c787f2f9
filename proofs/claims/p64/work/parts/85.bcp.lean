/-! ===== the reader alone ===== -/
abbrev b_ok (i : Nat) : Prop := (1 ≤ i ∧ i < 9) ∨ (100 ≤ i ∧ i < 184)
theorem b_ok_c {i : Nat} (h : b_ok i) : c_ok i := by omega
def b_I (Y : Nat → Nat) (h0 : p_H) : c_X → p_H → Prop := g_I (fun i => b_ok i) Y h0
section CREGb
variable {Y : Nat → Nat} {h0 h : p_H} {X X' : c_X} {V V' : Nat → Int} {C C' : Nat → Int → Int} {J J' : c_J} {i k w v : Nat} {x : Int}
theorem b_I.put {e : p_E} (hA : b_I Y h0 X h) (hi : b_ok i) (he : e = c_cell Y X' i) (ho : ∀ j, b_ok j → j ≠ i → c_cell Y X' j = c_cell Y X j) (hp : X'.2.2.2.2 = X.2.2.2.2) : b_I Y h0 X' (p_up h (Y i) e) := by
  obtain ⟨⟨h1, h2⟩, h3, h4⟩ := hA
  refine ⟨⟨fun j hj => ?_, h2⟩, fun a p ha => ?_, fun q hq0 hq => ?_⟩
  · by_cases z : j = i
    · subst z
      rw [p_up_eq, he]
    · rw [p_up_ne (fun y => z (h2 j hj i hi y)), ho j hj z]
      exact h1 j hj
  · rw [hp] at ha
    obtain ⟨k1, k2, k3⟩ := h3 a p ha
    have := k3 i hi
    exact ⟨by rw [p_up_ne (fun z => this.1 z.symm)]; exact k1, fun k hk => by rw [p_up_ne (fun z => this.2 k hk z.symm)]; exact k2 k hk, k3⟩
  · rw [p_up_ne (hq i hi), hp]
    exact h4 q hq0 hq
end CREGb
section CRulesb
variable {G : p_G} {M : p_M} {Y : Nat → Nat} {h0 : p_H} {P : (Option Value) ⊕ String → c_X → Prop} {d k n pc : Nat} {L : p_LL} {st : List Value} {V : Nat → Int} {C : Nat → Int → Int} {J : c_J} {X : c_X}
theorem u_get_b {idx i ci kf : Nat} {ty : FieldType} {fin : Bool} {fs : List Value} {vv : Value} (hd : decode M.2.1 pc = .ok (.getfield idx, 3)) (hf : p_Fo M.1.cls idx ci kf ty fin) (hi : b_ok i) (hc : c_cell Y X i = .inr (ci, fs)) (hv : fs[kf]? = some vv) (kk : RW G M (b_I Y h0) P d k n (pc + 3) L (vv :: st) X) : RW G M (b_I Y h0) P d k n pc L (.ref (Y i) :: st) X :=
  fun h hI => r_get hd hf ((hI.1.1 i hi).trans (congrArg some hc)) hv (kk h hI)
theorem u_put_b {idx i ci kf kV : Nat} {ty : FieldType} {fs : List Value} {x : Int} (hd : decode M.2.1 pc = .ok (.putfield idx, 3)) (hf : p_Fo M.1.cls idx ci kf ty false) (hi : b_ok i) (hc : c_cell Y (V, C, J) i = .inr (ci, fs)) (hn : narrow ty (.int (iI x)) = .int (iI x)) (hfit : fits ty (.int (iI x)) = true) (hl : kf < fs.length) (hk : c_own kV = i) (hc' : c_cell Y (vu V kV x, C, J) i = .inr (ci, fs.set kf (.int (iI x)))) (kk : RW G M (b_I Y h0) P d k n (pc + 3) L st (vu V kV x, C, J)) : RW G M (b_I Y h0) P d k n pc L (.int (iI x) :: .ref (Y i) :: st) (V, C, J) :=
  fun h hI => r_put hd hf ((hI.1.1 i hi).trans (congrArg some hc)) hn hfit hl (kk _ (hI.put hi hc'.symm (fun j hj hji => c_cell_V (b_ok_c hj) (fun q hq => if_neg (fun e => hji (by rw [← hq, e, hk])))) rfl))
theorem u_iald_b {i N : Nat} {j v : Int} (hd : decode M.2.1 pc = .ok (.iaload, 1)) (hi : b_ok i) (hc : c_cell Y (V, C, J) i = c_ia N (C i)) (hN : N ≤ 60000) (hj : 0 ≤ j ∧ j < (N : Int)) (hv : C i j = v) (kk : RW G M (b_I Y h0) P d k n (pc + 1) L (.int (iI v) :: st) (V, C, J)) : RW G M (b_I Y h0) P d k n pc L (.int (iI j) :: .ref (Y i) :: st) (V, C, J) := by
  intro h hI
  refine r_iaload (N := N) (f := fun j => iI (C i j)) hd ((hI.1.1 i hi).trans (congrArg some hc)) (iI_in hj.1 hj.2 (by omega)) ?_
  rw [iI_clamp hj.1 (by omega)]
  show SW G M _ d k n h (pc + 1) L (.int (iI (C i (j.toNat : Int))) :: st)
  rw [Int.toNat_of_nonneg hj.1, hv]
  exact kk h hI
theorem u_alen_b {i t N : Nat} {x : vp_A} (hd : decode M.2.1 pc = .ok (.arraylength, 1)) (hi : b_ok i) (hc : c_cell Y X i = .inl (t, x)) (ht : t < 6) (hN : x.1 = N) (kk : RW G M (b_I Y h0) P d k n (pc + 1) L (.int (iI (N : Int)) :: st) X) : RW G M (b_I Y h0) P d k n pc L (.ref (Y i) :: st) X :=
  fun h hI => r_alen hd ((hI.1.1 i hi).trans (congrArg some hc)) ht (by have e := kk h hI; rw [iI_nat] at e; rw [hN]; exact e)
theorem u_iast_b {i N : Nat} {j x : Int} (hd : decode M.2.1 pc = .ok (.iastore, 1)) (hi : b_ok i) (hc : c_cell Y (V, C, J) i = c_ia N (C i)) (hN : N ≤ 60000) (hj : 0 ≤ j ∧ j < (N : Int)) (hc' : c_cell Y (V, cu C i (zu (C i) j x), J) i = c_ia N (zu (C i) j x)) (kk : RW G M (b_I Y h0) P d k n (pc + 1) L st (V, cu C i (zu (C i) j x), J)) : RW G M (b_I Y h0) P d k n pc L (.int (iI x) :: .int (iI j) :: .ref (Y i) :: st) (V, C, J) := by
  intro h hI
  refine r_iastore (N := N) (f := fun j => iI (C i j)) hd ((hI.1.1 i hi).trans (congrArg some hc)) (iI_in hj.1 hj.2 (by omega)) ?_
  rw [iI_clamp hj.1 (by omega), zu_upd hj.1]
  exact kk _ (hI.put hi hc'.symm (fun q hq hqi => c_cell_C (b_ok_c hq) (if_neg hqi)) rfl)
theorem u_callV_b {M' : p_M} {na mc ms d' k' n' idx i ci : Nat} {fs As rest : List Value} {q : vw_C} (hd : decode M.2.1 pc = .ok (.invokevirtual idx, 3)) (hc : p_cf M' na) (hi : Cond.instanceMethod M'.1 ∈ p_ws) (hse : Cond.selects M'.1.cls M'.1 M'.1 ∈ p_ws) (hl : Cond.methodLink M.1.cls idx M'.1 ∈ p_ws) (hok : b_ok i) (hcl : c_cell Y X i = .inr (ci, fs)) (hq : vwCl[ci]? = some q) (hq1 : q.1 = M'.1.cls) (hn : As.length = na) (he : st = As.reverse ++ .ref (Y i) :: rest) (hr : (rest.map fun v => v.category).sum ≤ 8) (hk : k = mc + k') (hk2 : n = ms + n')
    (kk : RM G M' (b_I Y h0) (.ref (Y i) :: As) d' mc ms (RK G M (b_I Y h0) P (d' + 1) k' n' (pc + 3) L rest) X) : RW G M (b_I Y h0) P (d' + 1) k n pc L st X :=
  i_callV hd hc hi hse hl (fun h hI => ⟨fs, (hI.1.1 i hok).trans (congrArg some hcl)⟩) hq hq1 hn he hr hk hk2 kk
end CRulesb
section C47b
variable {G : p_G} {Y : Nat → Nat} {h0 : p_H} {P : (Option Value) ⊕ String → c_X → Prop} {d : Nat} {V : Nat → Int} {C : Nat → Int → Int} {J : c_J}
variable {a : Nat} {p : c_P} {w : Int → Int} {s : Int}
theorem q_size1_b  (hp : P (.inl (some (.int (iI (V 4))))) (V, C, J)) : RM G mX1_size (b_I Y h0) [.ref (Y 1)] (d) 0 0 P (V, C, J) := by
  refine RM.of (L := [some (.ref (Y 1))]) cfX1_size rfl (Nat.le_of_ble_eq_true rfl) ?_
  refine i_aload_n dX1_size_0 rfl ?_
  refine u_get_b (i := 1) (vv := .int (iI (V 4))) dX1_size_1 fX1_15 (by decide) rfl rfl ?_
  refine i_ireturn dX1_size_4 rfl rfl ?_
  first | exact hp | (exfalso; omega)
theorem q_shorten_b {n : Int} (hp : P (.inl none) (vu V 4 n, C, J)) : RM G mX1_shorten (b_I Y h0) [.ref (Y 1), .int (iI n)] (d) 0 0 P (V, C, J) := by
  refine RM.of (L := [some (.ref (Y 1)), some (.int (iI n))]) cfX1_shorten rfl (Nat.le_of_ble_eq_true rfl) ?_
  refine i_aload_n dX1_shorten_0 rfl ?_
  refine i_iload_n dX1_shorten_1 rfl ?_
  refine u_put_b (i := 1) (kV := 4) dX1_shorten_2 fX1_15 (by decide) rfl rfl rfl (Nat.le_of_ble_eq_true rfl) rfl rfl ?_
  refine i_return dX1_shorten_5 rfl ?_
  first | exact hp | (exfalso; omega)
theorem q_value_b {i : Int} (h4 : 0 ≤ V 4 ∧ V 4 ≤ 200) (hi : -2147483648 ≤ i ∧ i < 2147483648) (hp1 : (0 ≤ i ∧ i < V 4) → P (.inl (some (.int (iI (C 2 i))))) (V, C, J)) (hp0 : ¬ (0 ≤ i ∧ i < V 4) → P (.inl (some (.int (iI (-1))))) (V, C, J)) : RM G mX1_value (b_I Y h0) [.ref (Y 1), .int (iI i)] (d + 1) 0 0 P (V, C, J) := by
  refine RM.of (L := [some (.ref (Y 1)), some (.int (iI i))]) cfX1_value rfl (Nat.le_of_ble_eq_true rfl) ?_
  refine i_iload_n dX1_value_0 rfl ?_
  refine i_aload_n dX1_value_1 rfl ?_
  refine u_get_b (i := 1) (vv := .int (iI (V 4))) dX1_value_2 fX1_15 (by decide) rfl rfl ?_
  refine i_callSN (mc := 0) (ms := 0) (As := [_, _]) dX1_value_5 cfX10_isIndex stX10_isIndex lX1_32 rfl rfl (Nat.le_of_ble_eq_true rfl) (Nat.zero_add _).symm (Nat.zero_add _).symm ?_
  refine q_isIndex (by omega) (by omega) (RKN.v ?_)
  refine i_ifeq_b (tgt := 29) dX1_value_8 (by decide) (fun c8 => ?_) (fun c8 => ?_)
  · -- jumps
    refine i_const dX1_value_29 ?_
    refine i_ireturn dX1_value_30 rfl rfl ?_
    exact hp0 (by omega)
  · -- on
    refine i_iload_n dX1_value_11 rfl ?_
    refine i_aload_n dX1_value_12 rfl ?_
    refine u_get_b (i := 1) (vv := .ref (Y (2))) dX1_value_13 fX1_9.o (by decide) rfl rfl ?_
    refine u_alen_b (N := 200) dX1_value_16 (by decide) rfl (by decide) rfl ?_
    refine i_icmp_ge (tgt := 29) dX1_value_17 (by decide) (by omega) (by omega) (fun c17 => ?_) (fun c17 => ?_)
    · -- jumps
      refine i_const dX1_value_29 ?_
      refine i_ireturn dX1_value_30 rfl rfl ?_
      exact hp0 (by omega)
    · -- on
      refine i_aload_n dX1_value_20 rfl ?_
      refine u_get_b (i := 1) (vv := .ref (Y (2))) dX1_value_21 fX1_9.o (by decide) rfl rfl ?_
      refine i_iload_n dX1_value_24 rfl ?_
      refine u_iald_b (i := 2) (N := 200) (v := C 2 i) dX1_value_25 (by decide) rfl (by decide) (by omega) rfl ?_
      refine i_goto (tgt := 30) dX1_value_26 (by decide) ?_
      refine i_ireturn dX1_value_30 rfl rfl ?_
      exact hp1 (by omega)
theorem q_addByte_b {x : Int} (h4 : 0 ≤ V 4 ∧ V 4 < 200) (hp : P (.inl none) (vu V 4 (V 4 + 1), cu C 2 (zu (C 2) (V 4) x), J)) : RM G mX1_addByte (b_I Y h0) [.ref (Y 1), .int (iI x)] (d + 1) 0 0 P (V, C, J) := by
  refine RM.of (L := [some (.ref (Y 1)), some (.int (iI x))]) cfX1_addByte rfl (Nat.le_of_ble_eq_true rfl) ?_
  refine i_aload_n dX1_addByte_0 rfl ?_
  refine u_get_b (i := 1) (vv := .int (iI (V 4))) dX1_addByte_1 fX1_15 (by decide) rfl rfl ?_
  refine i_aload_n dX1_addByte_4 rfl ?_
  refine u_get_b (i := 1) (vv := .ref (Y (2))) dX1_addByte_5 fX1_9.o (by decide) rfl rfl ?_
  refine u_alen_b (N := 200) dX1_addByte_8 (by decide) rfl (by decide) rfl ?_
  refine i_callSN (mc := 0) (ms := 0) (As := [_, _]) dX1_addByte_9 cfX10_isIndex stX10_isIndex lX1_32 rfl rfl (Nat.le_of_ble_eq_true rfl) (Nat.zero_add _).symm (Nat.zero_add _).symm ?_
  refine q_isIndex (by omega) (by omega) (RKN.v ?_)
  refine i_ifeq_b (tgt := 35) dX1_addByte_12 (by decide) (fun c12 => ?_) (fun c12 => ?_)
  · -- jumps
    refine i_return dX1_addByte_35 rfl ?_
    first | exact hp | (exfalso; omega)
  · -- on
    refine i_aload_n dX1_addByte_15 rfl ?_
    refine u_get_b (i := 1) (vv := .ref (Y (2))) dX1_addByte_16 fX1_9.o (by decide) rfl rfl ?_
    refine i_aload_n dX1_addByte_19 rfl ?_
    refine u_get_b (i := 1) (vv := .int (iI (V 4))) dX1_addByte_20 fX1_15 (by decide) rfl rfl ?_
    refine i_iload_n dX1_addByte_23 rfl ?_
    refine u_iast_b (i := 2) (N := 200) dX1_addByte_24 (by decide) rfl (by decide) (by omega) rfl ?_
    refine i_aload_n dX1_addByte_25 rfl ?_
    refine i_dup dX1_addByte_26 rfl ?_
    refine u_get_b (i := 1) (vv := .int (iI (V 4))) dX1_addByte_27 fX1_15 (by decide) rfl rfl ?_
    refine i_const dX1_addByte_30 ?_
    refine i_add dX1_addByte_31 ?_
    refine u_put_b (i := 1) (kV := 4) dX1_addByte_32 fX1_15 (by decide) rfl rfl rfl (Nat.le_of_ble_eq_true rfl) rfl rfl ?_
    refine i_return dX1_addByte_35 rfl ?_
    first | exact hp | (exfalso; omega)
end C47b
section C70b
variable {G : p_G} {Y : Nat → Nat} {h0 : p_H} {P : (Option Value) ⊕ String → c_X → Prop} {d : Nat} {V : Nat → Int} {C : Nat → Int → Int} {J : c_J}
theorem q_fill_l0_b {i N : Nat} {x : Int} (hi : b_ok i) (hc : ∀ f : Nat → Int → Int, c_cell Y (V, f, J) i = c_ia N (f i)) (hN : N ≤ 60000) (hp : ∀ C', sC [i] C C' → (∀ j, C' i j = if 0 ≤ j ∧ j < (N : Int) then x else C i j) → P (.inl none) (V, C', J)) : ∀ (zz : Nat) (k : Int) (C' : Nat → Int → Int), zz = ((N : Int) - k).toNat → (0 ≤ k ∧ k ≤ (N : Int)) → sC [i] C C' → (∀ j, C' i j = if 0 ≤ j ∧ j < k then x else C i j) → RW G mJ7_fill_53178 (b_I Y h0) P d 0 0 5 [some (.ref (Y i)), some (.int (iI x)), some (.int (iI k)), some (.int (iI (N : Int)))] [] (V, C', J) := by
  intro zz
  induction zz using Nat.strongRecOn with
  | _ zz ih =>
    intro k C' hzz h1 hC hI
    refine i_iload_n dJ7_fill_53178_5 rfl ?_
    refine i_iload_n dJ7_fill_53178_6 rfl ?_
    refine i_icmp_ge (tgt := 20) dJ7_fill_53178_7 (by decide) (by omega) (by omega) (fun c1 => ?_) (fun c1 => ?_)
    · refine i_return dJ7_fill_53178_20 rfl ?_
      obtain rfl : k = (N : Int) := by omega
      exact hp _ hC hI
    · refine i_aload_n dJ7_fill_53178_10 rfl ?_
      refine i_iload_n dJ7_fill_53178_11 rfl ?_
      refine i_iload_n dJ7_fill_53178_12 rfl ?_
      refine u_iast_b (N := N) dJ7_fill_53178_13 hi (hc C') hN (by omega) ((hc _).trans (congrArg (c_ia N) cu_at)) ?_
      refine i_iinc dJ7_fill_53178_14 rfl (L' := [some _, some _, some _, some _]) (by decide) rfl ?_
      refine i_goto (tgt := 5) dJ7_fill_53178_17 (by decide) ?_
      refine ih _ ?_ (k + 1) _ rfl (by omega) (hC.cu (by simp)) (fun j => ?_)
      · omega
      · rw [cu_at]
        by_cases z : j = k
        · rw [z, zu_at, if_pos (by omega)]
        · rw [zu_ne z, hI j]
          exact if_cg (by omega)
theorem q_fillA_b {i N : Nat} {x : Int} (hi : b_ok i) (hc : ∀ f : Nat → Int → Int, c_cell Y (V, f, J) i = c_ia N (f i)) (hN : N ≤ 60000) (hp : ∀ C', sC [i] C C' → (∀ j, C' i j = if 0 ≤ j ∧ j < (N : Int) then x else C i j) → P (.inl none) (V, C', J)) : RM G mJ7_fill_53178 (b_I Y h0) [.ref (Y i), .int (iI x)] d 0 0 P (V, C, J) := by
  refine RM.of (L := [some (.ref (Y i)), some (.int (iI x)), none, none]) cfJ7_fill_53178 rfl (Nat.le_of_ble_eq_true rfl) ?_
  refine i_const dJ7_fill_53178_0 ?_
  refine i_istore_n dJ7_fill_53178_1 (L' := [some _, some _, some _, none]) (by decide) rfl ?_
  refine i_aload_n dJ7_fill_53178_2 rfl ?_
  refine u_alen_b (N := N) dJ7_fill_53178_3 hi (hc C) (by show (0 : Nat) < 6; decide) rfl ?_
  refine i_istore_n dJ7_fill_53178_4 (L' := [some _, some _, some _, some _]) (by decide) rfl ?_
  exact q_fill_l0_b hi hc hN hp _ 0 C rfl (by omega) sC.rfl (fun j => (if_neg (by omega)).symm)
end C70b
section C76ab
variable {Y : Nat → Nat} {V : Nat → Int} {X : c_X} {v k i : Nat} {x : Int}
theorem c_okL_b (h : v < 21) (hk : k < 4) : b_ok (100 + 4 * v + k) := Or.inr (by omega)
end C76ab
section C76bb
variable {G : p_G} {M : p_M} {Y : Nat → Nat} {h0 : p_H} {P : (Option Value) ⊕ String → c_X → Prop} {d j n pc : Nat} {L : p_LL} {st : List Value} {V : Nat → Int} {C : Nat → Int → Int} {J : c_J} {v k u idx kf : Nat} {ty : FieldType} {fin : Bool} {x : Int} {vv : Value}
theorem u_getL_b (hd : decode M.2.1 pc = .ok (.getfield idx, 3)) (hf : p_Fo M.1.cls idx 2 kf ty fin) (hv : v < 21) (h : (c_lfs Y V v)[kf]? = some vv) (kk : RW G M (b_I Y h0) P d j n (pc + 3) L (vv :: st) (V, C, J)) : RW G M (b_I Y h0) P d j n pc L (.ref (Y (100 + 4 * v)) :: st) (V, C, J) :=
  u_get_b hd hf (c_okL_b (k := 0) hv (by decide)) (c_cellL hv) h kk
theorem u_getQ_b (hd : decode M.2.1 pc = .ok (.getfield idx, 3)) (hf : p_Fo M.1.cls idx 4 kf ty fin) (hv : v < 21) (hk : 1 ≤ k ∧ k ≤ 3) (h : [Value.int (iI (V (198 + 16 * v + 3 * k))), Value.int (iI (V (199 + 16 * v + 3 * k))), Value.int (iI (V (200 + 16 * v + 3 * k)))][kf]? = some vv) (kk : RW G M (b_I Y h0) P d j n (pc + 3) L (vv :: st) (V, C, J)) : RW G M (b_I Y h0) P d j n pc L (.ref (Y (100 + 4 * v + k)) :: st) (V, C, J) :=
  u_get_b hd hf (c_okL_b hv (by omega)) (c_cellQ hv hk) h kk
theorem u_putL_b (hd : decode M.2.1 pc = .ok (.putfield idx, 3)) (hf : p_Fo M.1.cls idx 2 5 ty false) (hv : v < 21) (hn : narrow ty (.int (iI x)) = .int (iI x)) (hfit : fits ty (.int (iI x)) = true) (kk : RW G M (b_I Y h0) P d j n (pc + 3) L st (vu V (200 + 16 * v) x, C, J)) : RW G M (b_I Y h0) P d j n pc L (.int (iI x) :: .ref (Y (100 + 4 * v)) :: st) (V, C, J) :=
  u_put_b hd hf (c_okL_b (k := 0) hv (by decide)) (c_cellL hv) hn hfit (show 5 < 6 by decide) c_ownL ((c_cellL hv).trans (congrArg (fun z => (.inr (2, z) : p_E)) (by unfold c_lfs; dsimp only; rw [vu_at]; rfl))) kk
theorem u_putQ0_b (hd : decode M.2.1 pc = .ok (.putfield idx, 3)) (hf : p_Fo M.1.cls idx 4 0 ty false) (hv : v < 21) (hk : 1 ≤ k ∧ k ≤ 3) (hn : narrow ty (.int (iI x)) = .int (iI x)) (hfit : fits ty (.int (iI x)) = true) (kk : RW G M (b_I Y h0) P d j n (pc + 3) L st (vu V (198 + 16 * v + 3 * k) x, C, J)) : RW G M (b_I Y h0) P d j n pc L (.int (iI x) :: .ref (Y (100 + 4 * v + k)) :: st) (V, C, J) :=
  u_put_b hd hf (c_okL_b hv (by omega)) (c_cellQ hv hk) hn hfit (show 0 < 3 by decide) (c_ownQ hk (by omega)) ((c_cellQ hv hk).trans (by show (Sum.inr (4, [Value.int (iI (vu V (198 + 16 * v + 3 * k) x (198 + 16 * v + 3 * k))), Value.int (iI (vu V (198 + 16 * v + 3 * k) x (199 + 16 * v + 3 * k))), Value.int (iI (vu V (198 + 16 * v + 3 * k) x (200 + 16 * v + 3 * k)))]) : p_E) = _; rw [vu_at, vu_ne (show 199 + 16 * v + 3 * k ≠ 198 + 16 * v + 3 * k by omega), vu_ne (show 200 + 16 * v + 3 * k ≠ 198 + 16 * v + 3 * k by omega)]; rfl)) kk
theorem u_putQ1_b (hd : decode M.2.1 pc = .ok (.putfield idx, 3)) (hf : p_Fo M.1.cls idx 4 1 ty false) (hv : v < 21) (hk : 1 ≤ k ∧ k ≤ 3) (hn : narrow ty (.int (iI x)) = .int (iI x)) (hfit : fits ty (.int (iI x)) = true) (kk : RW G M (b_I Y h0) P d j n (pc + 3) L st (vu V (199 + 16 * v + 3 * k) x, C, J)) : RW G M (b_I Y h0) P d j n pc L (.int (iI x) :: .ref (Y (100 + 4 * v + k)) :: st) (V, C, J) :=
  u_put_b hd hf (c_okL_b hv (by omega)) (c_cellQ hv hk) hn hfit (show 1 < 3 by decide) (c_ownQ hk (by omega)) ((c_cellQ hv hk).trans (by show (Sum.inr (4, [Value.int (iI (vu V (199 + 16 * v + 3 * k) x (198 + 16 * v + 3 * k))), Value.int (iI (vu V (199 + 16 * v + 3 * k) x (199 + 16 * v + 3 * k))), Value.int (iI (vu V (199 + 16 * v + 3 * k) x (200 + 16 * v + 3 * k)))]) : p_E) = _; rw [vu_ne (show 198 + 16 * v + 3 * k ≠ 199 + 16 * v + 3 * k by omega), vu_at, vu_ne (show 200 + 16 * v + 3 * k ≠ 199 + 16 * v + 3 * k by omega)]; rfl)) kk
theorem u_putQ2_b (hd : decode M.2.1 pc = .ok (.putfield idx, 3)) (hf : p_Fo M.1.cls idx 4 2 ty false) (hv : v < 21) (hk : 1 ≤ k ∧ k ≤ 3) (hn : narrow ty (.int (iI x)) = .int (iI x)) (hfit : fits ty (.int (iI x)) = true) (kk : RW G M (b_I Y h0) P d j n (pc + 3) L st (vu V (200 + 16 * v + 3 * k) x, C, J)) : RW G M (b_I Y h0) P d j n pc L (.int (iI x) :: .ref (Y (100 + 4 * v + k)) :: st) (V, C, J) :=
  u_put_b hd hf (c_okL_b hv (by omega)) (c_cellQ hv hk) hn hfit (show 2 < 3 by decide) (c_ownQ hk (by omega)) ((c_cellQ hv hk).trans (by show (Sum.inr (4, [Value.int (iI (vu V (200 + 16 * v + 3 * k) x (198 + 16 * v + 3 * k))), Value.int (iI (vu V (200 + 16 * v + 3 * k) x (199 + 16 * v + 3 * k))), Value.int (iI (vu V (200 + 16 * v + 3 * k) x (200 + 16 * v + 3 * k)))]) : p_E) = _; rw [vu_ne (show 198 + 16 * v + 3 * k ≠ 200 + 16 * v + 3 * k by omega), vu_ne (show 199 + 16 * v + 3 * k ≠ 200 + 16 * v + 3 * k by omega), vu_at]; rfl)) kk
theorem u_putV_b (hd : decode M.2.1 pc = .ok (.putfield idx, 3)) (hf : p_Fo M.1.cls idx 6 10 ty false) (hn : narrow ty (.ref (Y (100 + 4 * u))) = .ref (Y (100 + 4 * u))) (hfit : fits ty (.ref (Y (100 + 4 * u))) = true) (kk : RW G M (b_I Y h0) P d j n (pc + 3) L st (vu V 9 (u : Int), C, J)) : RW G M (b_I Y h0) P d j n pc L (.ref (Y (100 + 4 * u)) :: .ref (Y 3) :: st) (V, C, J) :=
  fun h hI => r_put hd hf (hI.1.1 3 (by decide)) hn hfit (show 10 < 11 by decide) (kk _ (hI.put (i := 3) (by decide) (by
    show (Sum.inr (6, _) : p_E) = Sum.inr (6, [_, _, _, _, _, _, _, _, _, _, Value.ref (Y (100 + 4 * (vu V 9 (u : Int) 9).toNat))])
    rw [vu_at, Int.toNat_natCast]
    rfl) (fun q hq hqi => c_cell_V (b_ok_c hq) (fun k hk => vu_ne (fun e => hqi (by rw [← hk, e]; rfl)))) rfl))
end C76bb
section C76b
variable {G : p_G} {Y : Nat → Nat} {h0 : p_H} {P : (Option Value) ⊕ String → c_X → Prop} {d : Nat} {V : Nat → Int} {C : Nat → Int → Int} {J : c_J}
variable {v : Nat} {l : zLv}
theorem q_set_b {k : Nat} {q : zPt} (hv : v < 21) (hk : 1 ≤ k ∧ k ≤ 3) (hp : ∀ V', cPa V' v k q → (∀ i, (i < 198 + 16 * v + 3 * k ∨ 200 + 16 * v + 3 * k < i) → V' i = V i) → P (.inl none) (V', C, J)) : RM G mX4_set (b_I Y h0) [.ref (Y (100 + 4 * v + k)), .int (iI (bI q.1)), .int (iI (q.2.1)), .int (iI (q.2.2))] (d) 0 0 P (V, C, J) := by
  refine RM.of (L := [some (.ref (Y (100 + 4 * v + k))), some (.int (iI (bI q.1))), some (.int (iI (q.2.1))), some (.int (iI (q.2.2)))]) cfX4_set rfl (Nat.le_of_ble_eq_true rfl) ?_
  refine i_aload_n dX4_set_0 rfl ?_
  refine i_iload_n dX4_set_1 rfl ?_
  refine u_putQ0_b (v := v) (k := k) dX4_set_2 fX4_7 hv hk (zb_nar (bI_or _)) (zb_fit (bI_or _)) ?_
  refine i_aload_n dX4_set_5 rfl ?_
  refine i_iload_n dX4_set_6 rfl ?_
  refine u_putQ1_b (v := v) (k := k) dX4_set_7 fX4_13 hv hk rfl rfl ?_
  refine i_aload_n dX4_set_10 rfl ?_
  refine i_iload_n dX4_set_11 rfl ?_
  refine u_putQ2_b (v := v) (k := k) dX4_set_12 fX4_17 hv hk rfl rfl ?_
  refine i_return dX4_set_15 rfl ?_
  refine hp _ ⟨?_, ?_, ?_⟩ (fun i hi => ?_)
  · show vu (vu (vu V (198 + 16 * v + 3 * k) _) (199 + 16 * v + 3 * k) _) (200 + 16 * v + 3 * k) _ (198 + 16 * v + 3 * k) = _; rw [vu_ne (by omega), vu_ne (by omega), vu_at]
  · show vu (vu (vu V (198 + 16 * v + 3 * k) _) (199 + 16 * v + 3 * k) _) (200 + 16 * v + 3 * k) _ (199 + 16 * v + 3 * k) = _; rw [vu_ne (by omega), vu_at]
  · exact vu_at
  · rw [vu_ne (by omega), vu_ne (by omega), vu_ne (by omega)]
theorem q_beginBranch_b  (hv : v < 21) (hl : cLv V v l) (hp : ∀ V', cLv V' v (l.1, (true, 0, 0), none) → lFr v V V' → P (.inl none) (V', C, J)) : RM G mX2_beginBranch (b_I Y h0) [.ref (Y (100 + 4 * v))] (d + 1) 0 0 P (V, C, J) := by
  refine RM.of (L := [some (.ref (Y (100 + 4 * v)))]) cfX2_beginBranch rfl (Nat.le_of_ble_eq_true rfl) ?_
  refine i_aload_n dX2_beginBranch_0 rfl ?_
  refine u_getL_b (v := v) (vv := .ref (Y (100 + 4 * v + 2))) dX2_beginBranch_1 fX2_16.o (by omega) c_lf2 ?_
  refine i_const dX2_beginBranch_4 ?_
  refine i_const dX2_beginBranch_5 ?_
  refine i_const dX2_beginBranch_6 ?_
  refine u_callV_b (i := 100 + 4 * v + 2) (mc := 0) (ms := 0) (As := [_, _, _]) dX2_beginBranch_7 cfX4_set imX4_set seX4_set lX2_32 (c_okL_b (v := v) (k := 2) (by omega) (by decide)) (c_cellQ (v := v) (k := 2) (by omega) (by decide)) rfl rfl rfl rfl (Nat.le_of_ble_eq_true rfl) (Nat.zero_add _).symm (Nat.zero_add _).symm ?_
  refine q_set_b (v := v) (k := 2) (q := (true, 0, 0)) (by omega) (by decide) (fun V1 pa1 pf1 => RK.n0 ?_)
  refine i_aload_n dX2_beginBranch_10 rfl ?_
  refine i_const dX2_beginBranch_11 ?_
  refine u_putL_b (v := v) dX2_beginBranch_12 fX2_39 (by omega) rfl rfl ?_
  refine i_return dX2_beginBranch_15 rfl ?_
  refine hp _ ⟨hl.1.cg (fun i i0 i1 => ?_), pa1.cg (fun i i0 i1 => vu_ne (by omega)), Or.inl ⟨rfl, vu_at⟩⟩ (fun i hi => ?_)
  · rw [vu_ne (by omega)]; exact pf1 i (by omega)
  · rw [vu_ne (by omega)]; exact pf1 i (by omega)
theorem q_beginBranch2_b {q : zPt} (hv : v < 21) (hl : cPa V v 1 q) (hp : ∀ V', cLv V' v (q, (true, 0, 0), none) → lFr v V V' → P (.inl none) (V', C, J)) : RM G mX2_beginBranch (b_I Y h0) [.ref (Y (100 + 4 * v))] (d + 1) 0 0 P (V, C, J) := by
  refine RM.of (L := [some (.ref (Y (100 + 4 * v)))]) cfX2_beginBranch rfl (Nat.le_of_ble_eq_true rfl) ?_
  refine i_aload_n dX2_beginBranch_0 rfl ?_
  refine u_getL_b (v := v) (vv := .ref (Y (100 + 4 * v + 2))) dX2_beginBranch_1 fX2_16.o (by omega) c_lf2 ?_
  refine i_const dX2_beginBranch_4 ?_
  refine i_const dX2_beginBranch_5 ?_
  refine i_const dX2_beginBranch_6 ?_
  refine u_callV_b (i := 100 + 4 * v + 2) (mc := 0) (ms := 0) (As := [_, _, _]) dX2_beginBranch_7 cfX4_set imX4_set seX4_set lX2_32 (c_okL_b (v := v) (k := 2) (by omega) (by decide)) (c_cellQ (v := v) (k := 2) (by omega) (by decide)) rfl rfl rfl rfl (Nat.le_of_ble_eq_true rfl) (Nat.zero_add _).symm (Nat.zero_add _).symm ?_
  refine q_set_b (v := v) (k := 2) (q := (true, 0, 0)) (by omega) (by decide) (fun V1 pa1 pf1 => RK.n0 ?_)
  refine i_aload_n dX2_beginBranch_10 rfl ?_
  refine i_const dX2_beginBranch_11 ?_
  refine u_putL_b (v := v) dX2_beginBranch_12 fX2_39 (by omega) rfl rfl ?_
  refine i_return dX2_beginBranch_15 rfl ?_
  refine hp _ ⟨hl.cg (fun i i0 i1 => ?_), pa1.cg (fun i i0 i1 => vu_ne (by omega)), Or.inl ⟨rfl, vu_at⟩⟩ (fun i hi => ?_)
  · rw [vu_ne (by omega)]; exact pf1 i (by omega)
  · rw [vu_ne (by omega)]; exact pf1 i (by omega)
theorem q_lbegin_b  (hv : v < 21) (hp : ∀ V', cLv V' v zL0 → lFr v V V' → P (.inl none) (V', C, J)) : RM G mX2_begin (b_I Y h0) [.ref (Y (100 + 4 * v))] (d + 2) 0 0 P (V, C, J) := by
  refine RM.of (L := [some (.ref (Y (100 + 4 * v)))]) cfX2_begin rfl (Nat.le_of_ble_eq_true rfl) ?_
  refine i_aload_n dX2_begin_0 rfl ?_
  refine u_getL_b (v := v) (vv := .ref (Y (100 + 4 * v + 1))) dX2_begin_1 fX2_10.o (by omega) c_lf1 ?_
  refine i_const dX2_begin_4 ?_
  refine i_const dX2_begin_5 ?_
  refine i_const dX2_begin_6 ?_
  refine u_callV_b (i := 100 + 4 * v + 1) (mc := 0) (ms := 0) (As := [_, _, _]) dX2_begin_7 cfX4_set imX4_set seX4_set lX2_32 (c_okL_b (v := v) (k := 1) (by omega) (by decide)) (c_cellQ (v := v) (k := 1) (by omega) (by decide)) rfl rfl rfl rfl (Nat.le_of_ble_eq_true rfl) (Nat.zero_add _).symm (Nat.zero_add _).symm ?_
  refine q_set_b (v := v) (k := 1) (q := (false, 0, 0)) (by omega) (by decide) (fun V1 pa1 pf1 => RK.n0 ?_)
  refine i_aload_n dX2_begin_10 rfl ?_
  refine u_callV_b (i := 100 + 4 * v) (mc := 0) (ms := 0) (As := []) dX2_begin_11 cfX2_beginBranch imX2_beginBranch seX2_beginBranch lX2_36 (c_okL_b (v := v) (k := 0) (by omega) (by decide)) (c_cellL (v := v) (by omega)) rfl rfl rfl rfl (Nat.le_of_ble_eq_true rfl) (Nat.zero_add _).symm (Nat.zero_add _).symm ?_
  refine q_beginBranch2_b (v := v) (by omega) pa1 (fun V2 bl2 bf2 => RK.n0 ?_)
  refine i_return dX2_begin_14 rfl ?_
  exact hp _ bl2 (fun i hi => (bf2 i hi).trans (pf1 i (by omega)))
theorem q_beginPiece_b {q : zPt} (hv : v < 21) (hl : cLv V v l) (hp : ∀ V', cLv V' v (l.1, l.2.1, some q) → lFr v V V' → P (.inl none) (V', C, J)) : RM G mX2_beginPiece (b_I Y h0) [.ref (Y (100 + 4 * v)), .int (iI (bI q.1)), .int (iI (q.2.1)), .int (iI (q.2.2))] (d + 1) 0 0 P (V, C, J) := by
  refine RM.of (L := [some (.ref (Y (100 + 4 * v))), some (.int (iI (bI q.1))), some (.int (iI (q.2.1))), some (.int (iI (q.2.2)))]) cfX2_beginPiece rfl (Nat.le_of_ble_eq_true rfl) ?_
  refine i_aload_n dX2_beginPiece_0 rfl ?_
  refine u_getL_b (v := v) (vv := .ref (Y (100 + 4 * v + 3))) dX2_beginPiece_1 fX2_19.o (by omega) c_lf3 ?_
  refine i_iload_n dX2_beginPiece_4 rfl ?_
  refine i_iload_n dX2_beginPiece_5 rfl ?_
  refine i_iload_n dX2_beginPiece_6 rfl ?_
  refine u_callV_b (i := 100 + 4 * v + 3) (mc := 0) (ms := 0) (As := [_, _, _]) dX2_beginPiece_7 cfX4_set imX4_set seX4_set lX2_32 (c_okL_b (v := v) (k := 3) (by omega) (by decide)) (c_cellQ (v := v) (k := 3) (by omega) (by decide)) rfl rfl rfl rfl (Nat.le_of_ble_eq_true rfl) (Nat.zero_add _).symm (Nat.zero_add _).symm ?_
  refine q_set_b (v := v) (k := 3) (q := q) (by omega) (by decide) (fun V1 pa1 pf1 => RK.n0 ?_)
  refine i_aload_n dX2_beginPiece_10 rfl ?_
  refine i_const dX2_beginPiece_11 ?_
  refine u_putL_b (v := v) dX2_beginPiece_12 fX2_39 (by omega) rfl rfl ?_
  refine i_return dX2_beginPiece_15 rfl ?_
  refine hp _ ⟨hl.1.cg (fun i i0 i1 => ?_), hl.2.1.cg (fun i i0 i1 => ?_), Or.inr ⟨q, rfl, vu_at, pa1.cg (fun i i0 i1 => vu_ne (by omega))⟩⟩ (fun i hi => ?_)
  · rw [vu_ne (by omega)]; exact pf1 i (by omega)
  · rw [vu_ne (by omega)]; exact pf1 i (by omega)
  · rw [vu_ne (by omega)]; exact pf1 i (by omega)
theorem q_af_l_b {b x : Int} (hb : 0 ≤ b ∧ b < 33554432) (hx : 0 ≤ x ∧ x < 33554432) (hf : ∀ p, 1 ≤ p → p ≤ 24 → 0 ≤ C 5 p ∧ C 5 p < 33554432) (hp : ∀ C', sC [5] C C' → C' 5 = zAF b x (C 5) → P (.inl none) (V, C', J)) : ∀ (zz : Nat) (p : Int) (C' : Nat → Int → Int), zz = (25 - p).toNat → (1 ≤ p ∧ p ≤ 25) → (sC [5] C C') → (∀ j, C' 5 j = if 1 ≤ j ∧ j < p ∧ zt b j then zo (C 5 j) x else C 5 j) → RW G mX6_addFollow (b_I Y h0) P (d) 0 0 2 [some (.ref (Y 3)), some (.int (iI b)), some (.int (iI x)), some (.int (iI p))] [] (V, C', J) := by
  intro zz
  induction zz using Nat.strongRecOn with
  | _ zz ih =>
    intro p C' hzz h1 hC hI
    refine i_iload_n dX6_addFollow_2 rfl ?_
    refine i_bipush dX6_addFollow_3 (by decide) ?_
    refine i_icmp_gt (tgt := 32) dX6_addFollow_5 (by decide) (by omega) (by omega) (fun c5 => ?_) (fun c5 => ?_)
    · -- jumps
      refine i_return dX6_addFollow_32 rfl ?_
      obtain rfl : p = 25 := by omega
      refine hp _ hC (funext (fun j => (hI j).trans ?_))
      unfold zAF
      exact if_cg ⟨fun y => ⟨y.1, by omega, y.2.2⟩, fun y => ⟨y.1, by omega, y.2.2⟩⟩
    · -- on
      refine i_iload_n dX6_addFollow_8 rfl ?_
      refine i_iload_n dX6_addFollow_9 rfl ?_
      refine i_shr dX6_addFollow_10 (iI_shr (by omega) (by omega)) ?_
      refine i_const dX6_addFollow_11 ?_
      refine i_and dX6_addFollow_12 (zs_nn) (by omega) ?_
      refine RW.ti zs_1 ?_
      refine i_ifeq_b (tgt := 26) dX6_addFollow_13 (by decide) (fun c13 => ?_) (fun c13 => ?_)
      · -- jumps
        refine i_iinc dX6_addFollow_26 rfl (L' := [some _, some _, some _, some _]) (by decide) rfl ?_
        refine i_goto (tgt := 2) dX6_addFollow_29 (by decide) ?_
        refine ih _ ?_ (p + 1) _ rfl (by omega) hC (fun j => (hI j).trans ?_)
        · omega
        by_cases z9 : j = p
        · rw [z9, if_neg (fun y => by omega), if_neg (fun y => absurd y.2.2 (by assumption))]
        · exact if_cg ⟨fun y => ⟨y.1, by omega, y.2.2⟩, fun y => ⟨y.1, by omega, y.2.2⟩⟩
      · -- on
        refine i_aload_n dX6_addFollow_16 rfl ?_
        refine u_get_b (i := 3) (vv := .ref (Y (5))) dX6_addFollow_17 fX6_15.o (by decide) rfl rfl ?_
        refine i_iload_n dX6_addFollow_20 rfl ?_
        refine i_dup2 dX6_addFollow_21 rfl rfl ?_
        have f5 := hf p (by omega) (by omega)
        have g5 : C' 5 p = C 5 p := (hI p).trans (if_neg (fun y => by omega))
        refine u_iald_b (i := 5) (N := 25) (v := C' 5 p) dX6_addFollow_22 (by decide) rfl (by decide) (by omega) rfl ?_
        refine i_iload_n dX6_addFollow_23 rfl ?_
        refine i_or dX6_addFollow_24 (by omega) (by omega) ?_
        refine u_iast_b (i := 5) (N := 25) dX6_addFollow_25 (by decide) rfl (by decide) (by omega) rfl ?_
        refine i_iinc dX6_addFollow_26 rfl (L' := [some _, some _, some _, some _]) (by decide) rfl ?_
        refine i_goto (tgt := 2) dX6_addFollow_29 (by decide) ?_
        refine ih _ ?_ (p + 1) _ rfl (by omega) (hC.cu (by decide)) (fun j => ?_)
        · omega
        rw [cu_at]
        by_cases z9 : j = p
        · rw [z9, zu_at, hI p, if_neg (fun y => by omega), if_pos ⟨by omega, by omega, by assumption⟩]
        · rw [zu_ne z9, hI j]; exact if_cg ⟨fun y => ⟨y.1, by omega, y.2.2⟩, fun y => ⟨y.1, by omega, y.2.2⟩⟩
theorem q_addFollow_b {b x : Int} (hb : 0 ≤ b ∧ b < 33554432) (hx : 0 ≤ x ∧ x < 33554432) (hf : ∀ p, 1 ≤ p → p ≤ 24 → 0 ≤ C 5 p ∧ C 5 p < 33554432) (hp : ∀ C', sC [5] C C' → C' 5 = zAF b x (C 5) → P (.inl none) (V, C', J)) : RM G mX6_addFollow (b_I Y h0) [.ref (Y 3), .int (iI b), .int (iI x)] (d) 0 0 P (V, C, J) := by
  refine RM.of (L := [some (.ref (Y 3)), some (.int (iI b)), some (.int (iI x)), none]) cfX6_addFollow rfl (Nat.le_of_ble_eq_true rfl) ?_
  refine i_const dX6_addFollow_0 ?_
  refine i_istore_n dX6_addFollow_1 (L' := [some _, some _, some _, some _]) (by decide) rfl ?_
  exact q_af_l_b hb hx hf hp _ 1 C rfl (by decide) sC.rfl (fun j => (if_neg (fun y => by omega)).symm)
end C76b
section C77b
variable {G : p_G} {Y : Nat → Nat} {h0 : p_H} {P : (Option Value) ⊕ String → c_X → Prop} {d : Nat} {V : Nat → Int} {C : Nat → Int → Int} {J : c_J}
variable {v : Nat} {l : zLv}
theorem q_endPiece_b  (h9 : V 9 = (v : Int)) (hv : v < 21) (hl : cLv V v l) (ho : zOKl l) (hf : zOKf (C 5)) (hp : ∀ V' C', cLv V' v (l.1, (zEp (C 5) l).2, none) → C' 5 = (zEp (C 5) l).1 → lFr v V V' → sC [5] C C' → P (.inl none) (V', C', J)) : RM G mX6_endPiece (b_I Y h0) [.ref (Y 3)] (d + 1) 0 0 P (V, C, J) := by
  refine RM.of (L := [some (.ref (Y 3)), none, none, none, none]) cfX6_endPiece rfl (Nat.le_of_ble_eq_true rfl) ?_
  obtain ⟨A, ⟨b1, bf, bl⟩, o⟩ := l
  rcases hl.2.2 with ⟨e, h0⟩ | ⟨⟨q1, qf, ql⟩, e, h1, hQ⟩
  · obtain rfl : o = none := e
    refine i_aload_n dX6_endPiece_0 rfl ?_
    refine u_get_b (i := 3) (vv := .ref (Y (100 + 4 * v))) dX6_endPiece_1 fX6_40 (by decide) rfl (c_l9 h9) ?_
    refine u_getL_b (v := v) (vv := .int (iI (V (200 + 16 * v)))) dX6_endPiece_4 fX6_135 (by omega) rfl ?_
    refine RW.ti h0 ?_
    refine i_if_ne (tgt := 11) dX6_endPiece_7 (by decide) (by decide) (fun c7 => by omega) (fun c7 => ?_)
    refine i_return dX6_endPiece_10 rfl ?_
    exact hp _ _ ⟨hl.1, hl.2.1, Or.inl ⟨rfl, h0⟩⟩ rfl (fun _ _ => rfl) sC.rfl
  · obtain rfl : o = some (q1, qf, ql) := e
    have r1 : zMr bf := ho.2.1.1
    have r2 : zMr bl := ho.2.1.2
    have r3 : zMr qf := (ho.2.2 _ rfl).1
    have r4 : zMr ql := (ho.2.2 _ rfl).2
    cases b1 <;> cases q1
    · -- False False
      refine i_aload_n dX6_endPiece_0 rfl ?_
      refine u_get_b (i := 3) (vv := .ref (Y (100 + 4 * v))) dX6_endPiece_1 fX6_40 (by decide) rfl (c_l9 h9) ?_
      refine u_getL_b (v := v) (vv := .int (iI (V (200 + 16 * v)))) dX6_endPiece_4 fX6_135 (by omega) rfl ?_
      refine RW.ti h1 ?_
      refine i_if_ne (tgt := 11) dX6_endPiece_7 (by decide) (by decide) (fun c7 => ?_) (fun c7 => by omega)
      refine i_aload_n dX6_endPiece_11 rfl ?_
      refine u_get_b (i := 3) (vv := .ref (Y (100 + 4 * v))) dX6_endPiece_12 fX6_40 (by decide) rfl (c_l9 h9) ?_
      refine u_getL_b (v := v) (vv := .ref (Y (100 + 4 * v + 2))) dX6_endPiece_15 fX6_145 (by omega) c_lf2 ?_
      refine i_astore_n dX6_endPiece_18 (L' := [some _, some _, none, none, none]) (by decide) rfl ?_
      refine i_aload_n dX6_endPiece_19 rfl ?_
      refine u_get_b (i := 3) (vv := .ref (Y (100 + 4 * v))) dX6_endPiece_20 fX6_40 (by decide) rfl (c_l9 h9) ?_
      refine u_getL_b (v := v) (vv := .ref (Y (100 + 4 * v + 3))) dX6_endPiece_23 fX6_138 (by omega) c_lf3 ?_
      refine i_astore_n dX6_endPiece_26 (L' := [some _, some _, some _, none, none]) (by decide) rfl ?_
      refine i_aload_n dX6_endPiece_27 rfl ?_
      refine i_aload_n dX6_endPiece_28 rfl ?_
      refine u_getQ_b (v := v) (k := 2) (vv := .int (iI (V (200 + 16 * v + 3 * 2)))) dX6_endPiece_29 fX6_132 (by omega) (by decide) rfl ?_
      refine RW.ti (show _ = bl from hl.2.1.2.2) ?_
      refine i_aload_n dX6_endPiece_32 rfl ?_
      refine u_getQ_b (v := v) (k := 3) (vv := .int (iI (V (199 + 16 * v + 3 * 3)))) dX6_endPiece_33 fX6_129 (by omega) (by decide) rfl ?_
      refine RW.ti (show _ = qf from hQ.2.1) ?_
      refine u_callV_b (i := 3) (mc := 0) (ms := 0) (As := [_, _]) dX6_endPiece_36 cfX6_addFollow imX6_addFollow seX6_addFollow lX6_141 (by decide) rfl rfl rfl rfl rfl (Nat.le_of_ble_eq_true rfl) (Nat.zero_add _).symm (Nat.zero_add _).symm ?_
      refine q_addFollow_b (b := bl) (x := qf) (by omega) (by omega) hf (fun C1 sc1 e1 => RK.n0 ?_)
      refine i_aload_n dX6_endPiece_39 rfl ?_
      refine u_getQ_b (v := v) (k := 2) (vv := .int (iI (V (198 + 16 * v + 3 * 2)))) dX6_endPiece_40 fX6_123 (by omega) (by decide) rfl ?_
      refine RW.ti (hl.2.1.1.trans bI_f) ?_
      refine i_if_eq (tgt := 58) dX6_endPiece_43 (by decide) (by decide) (fun c43 => ?_) (fun c43 => by omega)
      refine i_aload_n dX6_endPiece_58 rfl ?_
      refine u_getQ_b (v := v) (k := 2) (vv := .int (iI (V (199 + 16 * v + 3 * 2)))) dX6_endPiece_59 fX6_129 (by omega) (by decide) rfl ?_
      refine RW.ti (show _ = bf from hl.2.1.2.1) ?_
      refine i_istore_n dX6_endPiece_62 (L' := [some _, some _, some _, some _, none]) (by decide) rfl ?_
      refine i_aload_n dX6_endPiece_63 rfl ?_
      refine u_getQ_b (v := v) (k := 3) (vv := .int (iI (V (198 + 16 * v + 3 * 3)))) dX6_endPiece_64 fX6_123 (by omega) (by decide) rfl ?_
      refine RW.ti (hQ.1.trans bI_f) ?_
      refine i_if_eq (tgt := 82) dX6_endPiece_67 (by decide) (by decide) (fun c67 => ?_) (fun c67 => by omega)
      refine i_aload_n dX6_endPiece_82 rfl ?_
      refine u_getQ_b (v := v) (k := 3) (vv := .int (iI (V (200 + 16 * v + 3 * 3)))) dX6_endPiece_83 fX6_132 (by omega) (by decide) rfl ?_
      refine RW.ti (show _ = ql from hQ.2.2) ?_
      refine i_istore dX6_endPiece_86 (L' := [some _, some _, some _, some _, some _]) (by decide) rfl ?_
      refine i_aload_n dX6_endPiece_88 rfl ?_
      refine i_aload_n dX6_endPiece_89 rfl ?_
      refine u_getQ_b (v := v) (k := 2) (vv := .int (iI (V (198 + 16 * v + 3 * 2)))) dX6_endPiece_90 fX6_123 (by omega) (by decide) rfl ?_
      refine RW.ti (hl.2.1.1.trans bI_f) ?_
      refine i_if_eq (tgt := 107) dX6_endPiece_93 (by decide) (by decide) (fun c93 => ?_) (fun c93 => by omega)
      refine i_const dX6_endPiece_107 ?_
      refine i_iload_n dX6_endPiece_108 rfl ?_
      refine i_iload dX6_endPiece_109 rfl ?_
      refine u_callV_b (i := 100 + 4 * v + 2) (mc := 0) (ms := 0) (As := [_, _, _]) dX6_endPiece_111 cfX4_set imX4_set seX4_set lX6_148 (c_okL_b (v := v) (k := 2) (by omega) (by decide)) (c_cellQ (v := v) (k := 2) (by omega) (by decide)) rfl rfl rfl rfl (Nat.le_of_ble_eq_true rfl) (Nat.zero_add _).symm (Nat.zero_add _).symm ?_
      refine q_set_b (v := v) (k := 2) (q := (false, bf, ql)) (by omega) (by decide) (fun V2 pa2 pf2 => RK.n0 ?_)
      have h9s : V2 9 = (v : Int) := (pf2 9 (by omega)).trans h9
      refine i_aload_n dX6_endPiece_114 rfl ?_
      refine u_get_b (i := 3) (vv := .ref (Y (100 + 4 * v))) dX6_endPiece_115 fX6_40 (by decide) rfl (c_l9 h9s) ?_
      refine i_const dX6_endPiece_118 ?_
      refine u_putL_b (v := v) dX6_endPiece_119 fX6_135 (by omega) rfl rfl ?_
      refine i_return dX6_endPiece_122 rfl ?_
      refine hp _ _ ⟨hl.1.cg (fun i i0 i1 => ?_), pa2.cg (fun i i0 i1 => vu_ne (by omega)), Or.inl ⟨rfl, vu_at⟩⟩ e1 (fun i hi => ?_) sc1
      · rw [vu_ne (by omega)]; exact pf2 i (by omega)
      · rw [vu_ne (by omega)]; exact pf2 i (by omega)
    · -- False True
      refine i_aload_n dX6_endPiece_0 rfl ?_
      refine u_get_b (i := 3) (vv := .ref (Y (100 + 4 * v))) dX6_endPiece_1 fX6_40 (by decide) rfl (c_l9 h9) ?_
      refine u_getL_b (v := v) (vv := .int (iI (V (200 + 16 * v)))) dX6_endPiece_4 fX6_135 (by omega) rfl ?_
      refine RW.ti h1 ?_
      refine i_if_ne (tgt := 11) dX6_endPiece_7 (by decide) (by decide) (fun c7 => ?_) (fun c7 => by omega)
      refine i_aload_n dX6_endPiece_11 rfl ?_
      refine u_get_b (i := 3) (vv := .ref (Y (100 + 4 * v))) dX6_endPiece_12 fX6_40 (by decide) rfl (c_l9 h9) ?_
      refine u_getL_b (v := v) (vv := .ref (Y (100 + 4 * v + 2))) dX6_endPiece_15 fX6_145 (by omega) c_lf2 ?_
      refine i_astore_n dX6_endPiece_18 (L' := [some _, some _, none, none, none]) (by decide) rfl ?_
      refine i_aload_n dX6_endPiece_19 rfl ?_
      refine u_get_b (i := 3) (vv := .ref (Y (100 + 4 * v))) dX6_endPiece_20 fX6_40 (by decide) rfl (c_l9 h9) ?_
      refine u_getL_b (v := v) (vv := .ref (Y (100 + 4 * v + 3))) dX6_endPiece_23 fX6_138 (by omega) c_lf3 ?_
      refine i_astore_n dX6_endPiece_26 (L' := [some _, some _, some _, none, none]) (by decide) rfl ?_
      refine i_aload_n dX6_endPiece_27 rfl ?_
      refine i_aload_n dX6_endPiece_28 rfl ?_
      refine u_getQ_b (v := v) (k := 2) (vv := .int (iI (V (200 + 16 * v + 3 * 2)))) dX6_endPiece_29 fX6_132 (by omega) (by decide) rfl ?_
      refine RW.ti (show _ = bl from hl.2.1.2.2) ?_
      refine i_aload_n dX6_endPiece_32 rfl ?_
      refine u_getQ_b (v := v) (k := 3) (vv := .int (iI (V (199 + 16 * v + 3 * 3)))) dX6_endPiece_33 fX6_129 (by omega) (by decide) rfl ?_
      refine RW.ti (show _ = qf from hQ.2.1) ?_
      refine u_callV_b (i := 3) (mc := 0) (ms := 0) (As := [_, _]) dX6_endPiece_36 cfX6_addFollow imX6_addFollow seX6_addFollow lX6_141 (by decide) rfl rfl rfl rfl rfl (Nat.le_of_ble_eq_true rfl) (Nat.zero_add _).symm (Nat.zero_add _).symm ?_
      refine q_addFollow_b (b := bl) (x := qf) (by omega) (by omega) hf (fun C3 sc3 e3 => RK.n0 ?_)
      refine i_aload_n dX6_endPiece_39 rfl ?_
      refine u_getQ_b (v := v) (k := 2) (vv := .int (iI (V (198 + 16 * v + 3 * 2)))) dX6_endPiece_40 fX6_123 (by omega) (by decide) rfl ?_
      refine RW.ti (hl.2.1.1.trans bI_f) ?_
      refine i_if_eq (tgt := 58) dX6_endPiece_43 (by decide) (by decide) (fun c43 => ?_) (fun c43 => by omega)
      refine i_aload_n dX6_endPiece_58 rfl ?_
      refine u_getQ_b (v := v) (k := 2) (vv := .int (iI (V (199 + 16 * v + 3 * 2)))) dX6_endPiece_59 fX6_129 (by omega) (by decide) rfl ?_
      refine RW.ti (show _ = bf from hl.2.1.2.1) ?_
      refine i_istore_n dX6_endPiece_62 (L' := [some _, some _, some _, some _, none]) (by decide) rfl ?_
      refine i_aload_n dX6_endPiece_63 rfl ?_
      refine u_getQ_b (v := v) (k := 3) (vv := .int (iI (V (198 + 16 * v + 3 * 3)))) dX6_endPiece_64 fX6_123 (by omega) (by decide) rfl ?_
      refine RW.ti (hQ.1.trans bI_t) ?_
      refine i_if_eq (tgt := 82) dX6_endPiece_67 (by decide) (by decide) (fun c67 => by omega) (fun c67 => ?_)
      refine i_aload_n dX6_endPiece_70 rfl ?_
      refine u_getQ_b (v := v) (k := 2) (vv := .int (iI (V (200 + 16 * v + 3 * 2)))) dX6_endPiece_71 fX6_132 (by omega) (by decide) rfl ?_
      refine RW.ti (show _ = bl from hl.2.1.2.2) ?_
      refine i_aload_n dX6_endPiece_74 rfl ?_
      refine u_getQ_b (v := v) (k := 3) (vv := .int (iI (V (200 + 16 * v + 3 * 3)))) dX6_endPiece_75 fX6_132 (by omega) (by decide) rfl ?_
      refine RW.ti (show _ = ql from hQ.2.2) ?_
      refine i_or dX6_endPiece_78 (by omega) (by omega) ?_
      refine i_goto (tgt := 86) dX6_endPiece_79 (by decide) ?_
      refine i_istore dX6_endPiece_86 (L' := [some _, some _, some _, some _, some _]) (by decide) rfl ?_
      refine i_aload_n dX6_endPiece_88 rfl ?_
      refine i_aload_n dX6_endPiece_89 rfl ?_
      refine u_getQ_b (v := v) (k := 2) (vv := .int (iI (V (198 + 16 * v + 3 * 2)))) dX6_endPiece_90 fX6_123 (by omega) (by decide) rfl ?_
      refine RW.ti (hl.2.1.1.trans bI_f) ?_
      refine i_if_eq (tgt := 107) dX6_endPiece_93 (by decide) (by decide) (fun c93 => ?_) (fun c93 => by omega)
      refine i_const dX6_endPiece_107 ?_
      refine i_iload_n dX6_endPiece_108 rfl ?_
      refine i_iload dX6_endPiece_109 rfl ?_
      refine u_callV_b (i := 100 + 4 * v + 2) (mc := 0) (ms := 0) (As := [_, _, _]) dX6_endPiece_111 cfX4_set imX4_set seX4_set lX6_148 (c_okL_b (v := v) (k := 2) (by omega) (by decide)) (c_cellQ (v := v) (k := 2) (by omega) (by decide)) rfl rfl rfl rfl (Nat.le_of_ble_eq_true rfl) (Nat.zero_add _).symm (Nat.zero_add _).symm ?_
      refine q_set_b (v := v) (k := 2) (q := (false, bf, zo bl ql)) (by omega) (by decide) (fun V4 pa4 pf4 => RK.n0 ?_)
      have h9s : V4 9 = (v : Int) := (pf4 9 (by omega)).trans h9
      refine i_aload_n dX6_endPiece_114 rfl ?_
      refine u_get_b (i := 3) (vv := .ref (Y (100 + 4 * v))) dX6_endPiece_115 fX6_40 (by decide) rfl (c_l9 h9s) ?_
      refine i_const dX6_endPiece_118 ?_
      refine u_putL_b (v := v) dX6_endPiece_119 fX6_135 (by omega) rfl rfl ?_
      refine i_return dX6_endPiece_122 rfl ?_
      refine hp _ _ ⟨hl.1.cg (fun i i0 i1 => ?_), pa4.cg (fun i i0 i1 => vu_ne (by omega)), Or.inl ⟨rfl, vu_at⟩⟩ e3 (fun i hi => ?_) sc3
      · rw [vu_ne (by omega)]; exact pf4 i (by omega)
      · rw [vu_ne (by omega)]; exact pf4 i (by omega)
    · -- True False
      refine i_aload_n dX6_endPiece_0 rfl ?_
      refine u_get_b (i := 3) (vv := .ref (Y (100 + 4 * v))) dX6_endPiece_1 fX6_40 (by decide) rfl (c_l9 h9) ?_
      refine u_getL_b (v := v) (vv := .int (iI (V (200 + 16 * v)))) dX6_endPiece_4 fX6_135 (by omega) rfl ?_
      refine RW.ti h1 ?_
      refine i_if_ne (tgt := 11) dX6_endPiece_7 (by decide) (by decide) (fun c7 => ?_) (fun c7 => by omega)
      refine i_aload_n dX6_endPiece_11 rfl ?_
      refine u_get_b (i := 3) (vv := .ref (Y (100 + 4 * v))) dX6_endPiece_12 fX6_40 (by decide) rfl (c_l9 h9) ?_
      refine u_getL_b (v := v) (vv := .ref (Y (100 + 4 * v + 2))) dX6_endPiece_15 fX6_145 (by omega) c_lf2 ?_
      refine i_astore_n dX6_endPiece_18 (L' := [some _, some _, none, none, none]) (by decide) rfl ?_
      refine i_aload_n dX6_endPiece_19 rfl ?_
      refine u_get_b (i := 3) (vv := .ref (Y (100 + 4 * v))) dX6_endPiece_20 fX6_40 (by decide) rfl (c_l9 h9) ?_
      refine u_getL_b (v := v) (vv := .ref (Y (100 + 4 * v + 3))) dX6_endPiece_23 fX6_138 (by omega) c_lf3 ?_
      refine i_astore_n dX6_endPiece_26 (L' := [some _, some _, some _, none, none]) (by decide) rfl ?_
      refine i_aload_n dX6_endPiece_27 rfl ?_
      refine i_aload_n dX6_endPiece_28 rfl ?_
      refine u_getQ_b (v := v) (k := 2) (vv := .int (iI (V (200 + 16 * v + 3 * 2)))) dX6_endPiece_29 fX6_132 (by omega) (by decide) rfl ?_
      refine RW.ti (show _ = bl from hl.2.1.2.2) ?_
      refine i_aload_n dX6_endPiece_32 rfl ?_
      refine u_getQ_b (v := v) (k := 3) (vv := .int (iI (V (199 + 16 * v + 3 * 3)))) dX6_endPiece_33 fX6_129 (by omega) (by decide) rfl ?_
      refine RW.ti (show _ = qf from hQ.2.1) ?_
      refine u_callV_b (i := 3) (mc := 0) (ms := 0) (As := [_, _]) dX6_endPiece_36 cfX6_addFollow imX6_addFollow seX6_addFollow lX6_141 (by decide) rfl rfl rfl rfl rfl (Nat.le_of_ble_eq_true rfl) (Nat.zero_add _).symm (Nat.zero_add _).symm ?_
      refine q_addFollow_b (b := bl) (x := qf) (by omega) (by omega) hf (fun C5 sc5 e5 => RK.n0 ?_)
      refine i_aload_n dX6_endPiece_39 rfl ?_
      refine u_getQ_b (v := v) (k := 2) (vv := .int (iI (V (198 + 16 * v + 3 * 2)))) dX6_endPiece_40 fX6_123 (by omega) (by decide) rfl ?_
      refine RW.ti (hl.2.1.1.trans bI_t) ?_
      refine i_if_eq (tgt := 58) dX6_endPiece_43 (by decide) (by decide) (fun c43 => by omega) (fun c43 => ?_)
      refine i_aload_n dX6_endPiece_46 rfl ?_
      refine u_getQ_b (v := v) (k := 2) (vv := .int (iI (V (199 + 16 * v + 3 * 2)))) dX6_endPiece_47 fX6_129 (by omega) (by decide) rfl ?_
      refine RW.ti (show _ = bf from hl.2.1.2.1) ?_
      refine i_aload_n dX6_endPiece_50 rfl ?_
      refine u_getQ_b (v := v) (k := 3) (vv := .int (iI (V (199 + 16 * v + 3 * 3)))) dX6_endPiece_51 fX6_129 (by omega) (by decide) rfl ?_
      refine RW.ti (show _ = qf from hQ.2.1) ?_
      refine i_or dX6_endPiece_54 (by omega) (by omega) ?_
      refine i_goto (tgt := 62) dX6_endPiece_55 (by decide) ?_
      refine i_istore_n dX6_endPiece_62 (L' := [some _, some _, some _, some _, none]) (by decide) rfl ?_
      refine i_aload_n dX6_endPiece_63 rfl ?_
      refine u_getQ_b (v := v) (k := 3) (vv := .int (iI (V (198 + 16 * v + 3 * 3)))) dX6_endPiece_64 fX6_123 (by omega) (by decide) rfl ?_
      refine RW.ti (hQ.1.trans bI_f) ?_
      refine i_if_eq (tgt := 82) dX6_endPiece_67 (by decide) (by decide) (fun c67 => ?_) (fun c67 => by omega)
      refine i_aload_n dX6_endPiece_82 rfl ?_
      refine u_getQ_b (v := v) (k := 3) (vv := .int (iI (V (200 + 16 * v + 3 * 3)))) dX6_endPiece_83 fX6_132 (by omega) (by decide) rfl ?_
      refine RW.ti (show _ = ql from hQ.2.2) ?_
      refine i_istore dX6_endPiece_86 (L' := [some _, some _, some _, some _, some _]) (by decide) rfl ?_
      refine i_aload_n dX6_endPiece_88 rfl ?_
      refine i_aload_n dX6_endPiece_89 rfl ?_
      refine u_getQ_b (v := v) (k := 2) (vv := .int (iI (V (198 + 16 * v + 3 * 2)))) dX6_endPiece_90 fX6_123 (by omega) (by decide) rfl ?_
      refine RW.ti (hl.2.1.1.trans bI_t) ?_
      refine i_if_eq (tgt := 107) dX6_endPiece_93 (by decide) (by decide) (fun c93 => by omega) (fun c93 => ?_)
      refine i_aload_n dX6_endPiece_96 rfl ?_
      refine u_getQ_b (v := v) (k := 3) (vv := .int (iI (V (198 + 16 * v + 3 * 3)))) dX6_endPiece_97 fX6_123 (by omega) (by decide) rfl ?_
      refine RW.ti (hQ.1.trans bI_f) ?_
      refine i_if_eq (tgt := 107) dX6_endPiece_100 (by decide) (by decide) (fun c100 => ?_) (fun c100 => by omega)
      refine i_const dX6_endPiece_107 ?_
      refine i_iload_n dX6_endPiece_108 rfl ?_
      refine i_iload dX6_endPiece_109 rfl ?_
      refine u_callV_b (i := 100 + 4 * v + 2) (mc := 0) (ms := 0) (As := [_, _, _]) dX6_endPiece_111 cfX4_set imX4_set seX4_set lX6_148 (c_okL_b (v := v) (k := 2) (by omega) (by decide)) (c_cellQ (v := v) (k := 2) (by omega) (by decide)) rfl rfl rfl rfl (Nat.le_of_ble_eq_true rfl) (Nat.zero_add _).symm (Nat.zero_add _).symm ?_
      refine q_set_b (v := v) (k := 2) (q := (false, zo bf qf, ql)) (by omega) (by decide) (fun V6 pa6 pf6 => RK.n0 ?_)
      have h9s : V6 9 = (v : Int) := (pf6 9 (by omega)).trans h9
      refine i_aload_n dX6_endPiece_114 rfl ?_
      refine u_get_b (i := 3) (vv := .ref (Y (100 + 4 * v))) dX6_endPiece_115 fX6_40 (by decide) rfl (c_l9 h9s) ?_
      refine i_const dX6_endPiece_118 ?_
      refine u_putL_b (v := v) dX6_endPiece_119 fX6_135 (by omega) rfl rfl ?_
      refine i_return dX6_endPiece_122 rfl ?_
      refine hp _ _ ⟨hl.1.cg (fun i i0 i1 => ?_), pa6.cg (fun i i0 i1 => vu_ne (by omega)), Or.inl ⟨rfl, vu_at⟩⟩ e5 (fun i hi => ?_) sc5
      · rw [vu_ne (by omega)]; exact pf6 i (by omega)
      · rw [vu_ne (by omega)]; exact pf6 i (by omega)
    · -- True True
      refine i_aload_n dX6_endPiece_0 rfl ?_
      refine u_get_b (i := 3) (vv := .ref (Y (100 + 4 * v))) dX6_endPiece_1 fX6_40 (by decide) rfl (c_l9 h9) ?_
      refine u_getL_b (v := v) (vv := .int (iI (V (200 + 16 * v)))) dX6_endPiece_4 fX6_135 (by omega) rfl ?_
      refine RW.ti h1 ?_
      refine i_if_ne (tgt := 11) dX6_endPiece_7 (by decide) (by decide) (fun c7 => ?_) (fun c7 => by omega)
      refine i_aload_n dX6_endPiece_11 rfl ?_
      refine u_get_b (i := 3) (vv := .ref (Y (100 + 4 * v))) dX6_endPiece_12 fX6_40 (by decide) rfl (c_l9 h9) ?_
      refine u_getL_b (v := v) (vv := .ref (Y (100 + 4 * v + 2))) dX6_endPiece_15 fX6_145 (by omega) c_lf2 ?_
      refine i_astore_n dX6_endPiece_18 (L' := [some _, some _, none, none, none]) (by decide) rfl ?_
      refine i_aload_n dX6_endPiece_19 rfl ?_
      refine u_get_b (i := 3) (vv := .ref (Y (100 + 4 * v))) dX6_endPiece_20 fX6_40 (by decide) rfl (c_l9 h9) ?_
      refine u_getL_b (v := v) (vv := .ref (Y (100 + 4 * v + 3))) dX6_endPiece_23 fX6_138 (by omega) c_lf3 ?_
      refine i_astore_n dX6_endPiece_26 (L' := [some _, some _, some _, none, none]) (by decide) rfl ?_
      refine i_aload_n dX6_endPiece_27 rfl ?_
      refine i_aload_n dX6_endPiece_28 rfl ?_
      refine u_getQ_b (v := v) (k := 2) (vv := .int (iI (V (200 + 16 * v + 3 * 2)))) dX6_endPiece_29 fX6_132 (by omega) (by decide) rfl ?_
      refine RW.ti (show _ = bl from hl.2.1.2.2) ?_
      refine i_aload_n dX6_endPiece_32 rfl ?_
      refine u_getQ_b (v := v) (k := 3) (vv := .int (iI (V (199 + 16 * v + 3 * 3)))) dX6_endPiece_33 fX6_129 (by omega) (by decide) rfl ?_
      refine RW.ti (show _ = qf from hQ.2.1) ?_
      refine u_callV_b (i := 3) (mc := 0) (ms := 0) (As := [_, _]) dX6_endPiece_36 cfX6_addFollow imX6_addFollow seX6_addFollow lX6_141 (by decide) rfl rfl rfl rfl rfl (Nat.le_of_ble_eq_true rfl) (Nat.zero_add _).symm (Nat.zero_add _).symm ?_
      refine q_addFollow_b (b := bl) (x := qf) (by omega) (by omega) hf (fun C7 sc7 e7 => RK.n0 ?_)
      refine i_aload_n dX6_endPiece_39 rfl ?_
      refine u_getQ_b (v := v) (k := 2) (vv := .int (iI (V (198 + 16 * v + 3 * 2)))) dX6_endPiece_40 fX6_123 (by omega) (by decide) rfl ?_
      refine RW.ti (hl.2.1.1.trans bI_t) ?_
      refine i_if_eq (tgt := 58) dX6_endPiece_43 (by decide) (by decide) (fun c43 => by omega) (fun c43 => ?_)
      refine i_aload_n dX6_endPiece_46 rfl ?_
      refine u_getQ_b (v := v) (k := 2) (vv := .int (iI (V (199 + 16 * v + 3 * 2)))) dX6_endPiece_47 fX6_129 (by omega) (by decide) rfl ?_
      refine RW.ti (show _ = bf from hl.2.1.2.1) ?_
      refine i_aload_n dX6_endPiece_50 rfl ?_
      refine u_getQ_b (v := v) (k := 3) (vv := .int (iI (V (199 + 16 * v + 3 * 3)))) dX6_endPiece_51 fX6_129 (by omega) (by decide) rfl ?_
      refine RW.ti (show _ = qf from hQ.2.1) ?_
      refine i_or dX6_endPiece_54 (by omega) (by omega) ?_
      refine i_goto (tgt := 62) dX6_endPiece_55 (by decide) ?_
      refine i_istore_n dX6_endPiece_62 (L' := [some _, some _, some _, some _, none]) (by decide) rfl ?_
      refine i_aload_n dX6_endPiece_63 rfl ?_
      refine u_getQ_b (v := v) (k := 3) (vv := .int (iI (V (198 + 16 * v + 3 * 3)))) dX6_endPiece_64 fX6_123 (by omega) (by decide) rfl ?_
      refine RW.ti (hQ.1.trans bI_t) ?_
      refine i_if_eq (tgt := 82) dX6_endPiece_67 (by decide) (by decide) (fun c67 => by omega) (fun c67 => ?_)
      refine i_aload_n dX6_endPiece_70 rfl ?_
      refine u_getQ_b (v := v) (k := 2) (vv := .int (iI (V (200 + 16 * v + 3 * 2)))) dX6_endPiece_71 fX6_132 (by omega) (by decide) rfl ?_
      refine RW.ti (show _ = bl from hl.2.1.2.2) ?_
      refine i_aload_n dX6_endPiece_74 rfl ?_
      refine u_getQ_b (v := v) (k := 3) (vv := .int (iI (V (200 + 16 * v + 3 * 3)))) dX6_endPiece_75 fX6_132 (by omega) (by decide) rfl ?_
      refine RW.ti (show _ = ql from hQ.2.2) ?_
      refine i_or dX6_endPiece_78 (by omega) (by omega) ?_
      refine i_goto (tgt := 86) dX6_endPiece_79 (by decide) ?_
      refine i_istore dX6_endPiece_86 (L' := [some _, some _, some _, some _, some _]) (by decide) rfl ?_
      refine i_aload_n dX6_endPiece_88 rfl ?_
      refine i_aload_n dX6_endPiece_89 rfl ?_
      refine u_getQ_b (v := v) (k := 2) (vv := .int (iI (V (198 + 16 * v + 3 * 2)))) dX6_endPiece_90 fX6_123 (by omega) (by decide) rfl ?_
      refine RW.ti (hl.2.1.1.trans bI_t) ?_
      refine i_if_eq (tgt := 107) dX6_endPiece_93 (by decide) (by decide) (fun c93 => by omega) (fun c93 => ?_)
      refine i_aload_n dX6_endPiece_96 rfl ?_
      refine u_getQ_b (v := v) (k := 3) (vv := .int (iI (V (198 + 16 * v + 3 * 3)))) dX6_endPiece_97 fX6_123 (by omega) (by decide) rfl ?_
      refine RW.ti (hQ.1.trans bI_t) ?_
      refine i_if_eq (tgt := 107) dX6_endPiece_100 (by decide) (by decide) (fun c100 => by omega) (fun c100 => ?_)
      refine i_const dX6_endPiece_103 ?_
      refine i_goto (tgt := 108) dX6_endPiece_104 (by decide) ?_
      refine i_iload_n dX6_endPiece_108 rfl ?_
      refine i_iload dX6_endPiece_109 rfl ?_
      refine u_callV_b (i := 100 + 4 * v + 2) (mc := 0) (ms := 0) (As := [_, _, _]) dX6_endPiece_111 cfX4_set imX4_set seX4_set lX6_148 (c_okL_b (v := v) (k := 2) (by omega) (by decide)) (c_cellQ (v := v) (k := 2) (by omega) (by decide)) rfl rfl rfl rfl (Nat.le_of_ble_eq_true rfl) (Nat.zero_add _).symm (Nat.zero_add _).symm ?_
      refine q_set_b (v := v) (k := 2) (q := (true, zo bf qf, zo bl ql)) (by omega) (by decide) (fun V8 pa8 pf8 => RK.n0 ?_)
      have h9s : V8 9 = (v : Int) := (pf8 9 (by omega)).trans h9
      refine i_aload_n dX6_endPiece_114 rfl ?_
      refine u_get_b (i := 3) (vv := .ref (Y (100 + 4 * v))) dX6_endPiece_115 fX6_40 (by decide) rfl (c_l9 h9s) ?_
      refine i_const dX6_endPiece_118 ?_
      refine u_putL_b (v := v) dX6_endPiece_119 fX6_135 (by omega) rfl rfl ?_
      refine i_return dX6_endPiece_122 rfl ?_
      refine hp _ _ ⟨hl.1.cg (fun i i0 i1 => ?_), pa8.cg (fun i i0 i1 => vu_ne (by omega)), Or.inl ⟨rfl, vu_at⟩⟩ e7 (fun i hi => ?_) sc7
      · rw [vu_ne (by omega)]; exact pf8 i (by omega)
      · rw [vu_ne (by omega)]; exact pf8 i (by omega)
theorem q_endBranch_b  (h9 : V 9 = (v : Int)) (hv : v < 21) (hl : cLv V v l) (ho : zOKl l) (hf : zOKf (C 5)) (hp : ∀ V' C', cLv V' v ((zEb (C 5) l).2, (true, 0, 0), none) → C' 5 = (zEb (C 5) l).1 → lFr v V V' → sC [5] C C' → P (.inl none) (V', C', J)) : RM G mX6_endBranch (b_I Y h0) [.ref (Y 3)] (d + 2) 0 0 P (V, C, J) := by
  refine RM.of (L := [some (.ref (Y 3)), none, none]) cfX6_endBranch rfl (Nat.le_of_ble_eq_true rfl) ?_
  refine i_aload_n dX6_endBranch_0 rfl ?_
  refine u_callV_b (i := 3) (mc := 0) (ms := 0) (As := []) dX6_endBranch_1 cfX6_endPiece imX6_endPiece seX6_endPiece lX6_113 (by decide) rfl rfl rfl rfl rfl (Nat.le_of_ble_eq_true rfl) (Nat.zero_add _).symm (Nat.zero_add _).symm ?_
  refine q_endPiece_b h9 hv hl ho hf (fun V1 C1 ll1 e1 lf1 sc1 => RK.n0 ?_)
  have ho2 := (ho.ep hf).2
  have h92 : V1 9 = (v : Int) := (lf1 9 (by omega)).trans h9
  unfold zEb at hp
  obtain ⟨E, hE⟩ : ∃ E, E = (zEp (C 5) l).2 := ⟨_, rfl⟩
  rw [← hE] at hp ho2 ll1
  obtain ⟨⟨a1, af, al⟩, B, o⟩ := l
  obtain ⟨ee, ef, el⟩ := E
  have r1 : zMr af := ho.1.1
  have r2 : zMr al := ho.1.2
  have r3 : zMr ef := ho2.1
  have r4 : zMr el := ho2.2
  clear hE
  cases a1 <;> cases ee
  · -- False False
    refine i_aload_n dX6_endBranch_4 rfl ?_
    refine u_get_b (i := 3) (vv := .ref (Y (100 + 4 * v))) dX6_endBranch_5 fX6_40 (by decide) rfl (c_l9 h92) ?_
    refine u_getL_b (v := v) (vv := .ref (Y (100 + 4 * v + 1))) dX6_endBranch_8 fX6_47 (by omega) c_lf1 ?_
    refine i_astore_n dX6_endBranch_11 (L' := [some _, some _, none]) (by decide) rfl ?_
    refine i_aload_n dX6_endBranch_12 rfl ?_
    refine u_get_b (i := 3) (vv := .ref (Y (100 + 4 * v))) dX6_endBranch_13 fX6_40 (by decide) rfl (c_l9 h92) ?_
    refine u_getL_b (v := v) (vv := .ref (Y (100 + 4 * v + 2))) dX6_endBranch_16 fX6_145 (by omega) c_lf2 ?_
    refine i_astore_n dX6_endBranch_19 (L' := [some _, some _, some _]) (by decide) rfl ?_
    refine i_aload_n dX6_endBranch_20 rfl ?_
    refine i_aload_n dX6_endBranch_21 rfl ?_
    refine u_getQ_b (v := v) (k := 1) (vv := .int (iI (V1 (198 + 16 * v + 3 * 1)))) dX6_endBranch_22 fX6_123 (by omega) (by decide) rfl ?_
    refine RW.ti (ll1.1.1.trans bI_f) ?_
    refine i_if_ne (tgt := 35) dX6_endBranch_25 (by decide) (by decide) (fun c25 => by omega) (fun c25 => ?_)
    refine i_aload_n dX6_endBranch_28 rfl ?_
    refine u_getQ_b (v := v) (k := 2) (vv := .int (iI (V1 (198 + 16 * v + 3 * 2)))) dX6_endBranch_29 fX6_123 (by omega) (by decide) rfl ?_
    refine RW.ti (ll1.2.1.1.trans bI_f) ?_
    refine i_if_eq (tgt := 39) dX6_endBranch_32 (by decide) (by decide) (fun c32 => ?_) (fun c32 => by omega)
    refine i_const dX6_endBranch_39 ?_
    refine i_aload_n dX6_endBranch_40 rfl ?_
    refine u_getQ_b (v := v) (k := 1) (vv := .int (iI (V1 (199 + 16 * v + 3 * 1)))) dX6_endBranch_41 fX6_129 (by omega) (by decide) rfl ?_
    refine RW.ti (show _ = af from ll1.1.2.1) ?_
    refine i_aload_n dX6_endBranch_44 rfl ?_
    refine u_getQ_b (v := v) (k := 2) (vv := .int (iI (V1 (199 + 16 * v + 3 * 2)))) dX6_endBranch_45 fX6_129 (by omega) (by decide) rfl ?_
    refine RW.ti (show _ = ef from ll1.2.1.2.1) ?_
    refine i_or dX6_endBranch_48 (by omega) (by omega) ?_
    refine i_aload_n dX6_endBranch_49 rfl ?_
    refine u_getQ_b (v := v) (k := 1) (vv := .int (iI (V1 (200 + 16 * v + 3 * 1)))) dX6_endBranch_50 fX6_132 (by omega) (by decide) rfl ?_
    refine RW.ti (show _ = al from ll1.1.2.2) ?_
    refine i_aload_n dX6_endBranch_53 rfl ?_
    refine u_getQ_b (v := v) (k := 2) (vv := .int (iI (V1 (200 + 16 * v + 3 * 2)))) dX6_endBranch_54 fX6_132 (by omega) (by decide) rfl ?_
    refine RW.ti (show _ = el from ll1.2.1.2.2) ?_
    refine i_or dX6_endBranch_57 (by omega) (by omega) ?_
    refine u_callV_b (i := 100 + 4 * v + 1) (mc := 0) (ms := 0) (As := [_, _, _]) dX6_endBranch_58 cfX4_set imX4_set seX4_set lX6_148 (c_okL_b (v := v) (k := 1) (by omega) (by decide)) (c_cellQ (v := v) (k := 1) (by omega) (by decide)) rfl rfl rfl rfl (Nat.le_of_ble_eq_true rfl) (Nat.zero_add _).symm (Nat.zero_add _).symm ?_
    refine q_set_b (v := v) (k := 1) (q := (false, zo af ef, zo al el)) (by omega) (by decide) (fun V2 pa2 pf2 => RK.n0 ?_)
    have h93 : V2 9 = (v : Int) := (pf2 9 (by omega)).trans h92
    have hl3 : cLv V2 v (_, _, none) := ⟨pa2, ll1.2.1.cg (fun i i0 i1 => pf2 i (by omega)), Or.inl ⟨rfl, (pf2 _ (by omega)).trans (ll1.2.2.elim (fun z => z.2) (fun ⟨_, z, _⟩ => nomatch z))⟩⟩
    refine i_aload_n dX6_endBranch_61 rfl ?_
    refine u_get_b (i := 3) (vv := .ref (Y (100 + 4 * v))) dX6_endBranch_62 fX6_40 (by decide) rfl (c_l9 h93) ?_
    refine u_callV_b (i := 100 + 4 * v) (mc := 0) (ms := 0) (As := []) dX6_endBranch_65 cfX2_beginBranch imX2_beginBranch seX2_beginBranch lX6_151 (c_okL_b (v := v) (k := 0) (by omega) (by decide)) (c_cellL (v := v) (by omega)) rfl rfl rfl rfl (Nat.le_of_ble_eq_true rfl) (Nat.zero_add _).symm (Nat.zero_add _).symm ?_
    refine q_beginBranch_b (v := v) (by omega) hl3 (fun V3 bl3 bf3 => RK.n0 ?_)
    refine i_return dX6_endBranch_68 rfl ?_
    refine hp _ _ bl3 e1 (fun i hi => (bf3 i hi).trans ((pf2 i (by omega)).trans (lf1 i hi))) sc1
  · -- False True
    refine i_aload_n dX6_endBranch_4 rfl ?_
    refine u_get_b (i := 3) (vv := .ref (Y (100 + 4 * v))) dX6_endBranch_5 fX6_40 (by decide) rfl (c_l9 h92) ?_
    refine u_getL_b (v := v) (vv := .ref (Y (100 + 4 * v + 1))) dX6_endBranch_8 fX6_47 (by omega) c_lf1 ?_
    refine i_astore_n dX6_endBranch_11 (L' := [some _, some _, none]) (by decide) rfl ?_
    refine i_aload_n dX6_endBranch_12 rfl ?_
    refine u_get_b (i := 3) (vv := .ref (Y (100 + 4 * v))) dX6_endBranch_13 fX6_40 (by decide) rfl (c_l9 h92) ?_
    refine u_getL_b (v := v) (vv := .ref (Y (100 + 4 * v + 2))) dX6_endBranch_16 fX6_145 (by omega) c_lf2 ?_
    refine i_astore_n dX6_endBranch_19 (L' := [some _, some _, some _]) (by decide) rfl ?_
    refine i_aload_n dX6_endBranch_20 rfl ?_
    refine i_aload_n dX6_endBranch_21 rfl ?_
    refine u_getQ_b (v := v) (k := 1) (vv := .int (iI (V1 (198 + 16 * v + 3 * 1)))) dX6_endBranch_22 fX6_123 (by omega) (by decide) rfl ?_
    refine RW.ti (ll1.1.1.trans bI_f) ?_
    refine i_if_ne (tgt := 35) dX6_endBranch_25 (by decide) (by decide) (fun c25 => by omega) (fun c25 => ?_)
    refine i_aload_n dX6_endBranch_28 rfl ?_
    refine u_getQ_b (v := v) (k := 2) (vv := .int (iI (V1 (198 + 16 * v + 3 * 2)))) dX6_endBranch_29 fX6_123 (by omega) (by decide) rfl ?_
    refine RW.ti (ll1.2.1.1.trans bI_t) ?_
    refine i_if_eq (tgt := 39) dX6_endBranch_32 (by decide) (by decide) (fun c32 => by omega) (fun c32 => ?_)
    refine i_const dX6_endBranch_35 ?_
    refine i_goto (tgt := 40) dX6_endBranch_36 (by decide) ?_
    refine i_aload_n dX6_endBranch_40 rfl ?_
    refine u_getQ_b (v := v) (k := 1) (vv := .int (iI (V1 (199 + 16 * v + 3 * 1)))) dX6_endBranch_41 fX6_129 (by omega) (by decide) rfl ?_
    refine RW.ti (show _ = af from ll1.1.2.1) ?_
    refine i_aload_n dX6_endBranch_44 rfl ?_
    refine u_getQ_b (v := v) (k := 2) (vv := .int (iI (V1 (199 + 16 * v + 3 * 2)))) dX6_endBranch_45 fX6_129 (by omega) (by decide) rfl ?_
    refine RW.ti (show _ = ef from ll1.2.1.2.1) ?_
    refine i_or dX6_endBranch_48 (by omega) (by omega) ?_
    refine i_aload_n dX6_endBranch_49 rfl ?_
    refine u_getQ_b (v := v) (k := 1) (vv := .int (iI (V1 (200 + 16 * v + 3 * 1)))) dX6_endBranch_50 fX6_132 (by omega) (by decide) rfl ?_
    refine RW.ti (show _ = al from ll1.1.2.2) ?_
    refine i_aload_n dX6_endBranch_53 rfl ?_
    refine u_getQ_b (v := v) (k := 2) (vv := .int (iI (V1 (200 + 16 * v + 3 * 2)))) dX6_endBranch_54 fX6_132 (by omega) (by decide) rfl ?_
    refine RW.ti (show _ = el from ll1.2.1.2.2) ?_
    refine i_or dX6_endBranch_57 (by omega) (by omega) ?_
    refine u_callV_b (i := 100 + 4 * v + 1) (mc := 0) (ms := 0) (As := [_, _, _]) dX6_endBranch_58 cfX4_set imX4_set seX4_set lX6_148 (c_okL_b (v := v) (k := 1) (by omega) (by decide)) (c_cellQ (v := v) (k := 1) (by omega) (by decide)) rfl rfl rfl rfl (Nat.le_of_ble_eq_true rfl) (Nat.zero_add _).symm (Nat.zero_add _).symm ?_
    refine q_set_b (v := v) (k := 1) (q := (true, zo af ef, zo al el)) (by omega) (by decide) (fun V4 pa4 pf4 => RK.n0 ?_)
    have h93 : V4 9 = (v : Int) := (pf4 9 (by omega)).trans h92
    have hl3 : cLv V4 v (_, _, none) := ⟨pa4, ll1.2.1.cg (fun i i0 i1 => pf4 i (by omega)), Or.inl ⟨rfl, (pf4 _ (by omega)).trans (ll1.2.2.elim (fun z => z.2) (fun ⟨_, z, _⟩ => nomatch z))⟩⟩
    refine i_aload_n dX6_endBranch_61 rfl ?_
    refine u_get_b (i := 3) (vv := .ref (Y (100 + 4 * v))) dX6_endBranch_62 fX6_40 (by decide) rfl (c_l9 h93) ?_
    refine u_callV_b (i := 100 + 4 * v) (mc := 0) (ms := 0) (As := []) dX6_endBranch_65 cfX2_beginBranch imX2_beginBranch seX2_beginBranch lX6_151 (c_okL_b (v := v) (k := 0) (by omega) (by decide)) (c_cellL (v := v) (by omega)) rfl rfl rfl rfl (Nat.le_of_ble_eq_true rfl) (Nat.zero_add _).symm (Nat.zero_add _).symm ?_
    refine q_beginBranch_b (v := v) (by omega) hl3 (fun V5 bl5 bf5 => RK.n0 ?_)
    refine i_return dX6_endBranch_68 rfl ?_
    refine hp _ _ bl5 e1 (fun i hi => (bf5 i hi).trans ((pf4 i (by omega)).trans (lf1 i hi))) sc1
  · -- True False
    refine i_aload_n dX6_endBranch_4 rfl ?_
    refine u_get_b (i := 3) (vv := .ref (Y (100 + 4 * v))) dX6_endBranch_5 fX6_40 (by decide) rfl (c_l9 h92) ?_
    refine u_getL_b (v := v) (vv := .ref (Y (100 + 4 * v + 1))) dX6_endBranch_8 fX6_47 (by omega) c_lf1 ?_
    refine i_astore_n dX6_endBranch_11 (L' := [some _, some _, none]) (by decide) rfl ?_
    refine i_aload_n dX6_endBranch_12 rfl ?_
    refine u_get_b (i := 3) (vv := .ref (Y (100 + 4 * v))) dX6_endBranch_13 fX6_40 (by decide) rfl (c_l9 h92) ?_
    refine u_getL_b (v := v) (vv := .ref (Y (100 + 4 * v + 2))) dX6_endBranch_16 fX6_145 (by omega) c_lf2 ?_
    refine i_astore_n dX6_endBranch_19 (L' := [some _, some _, some _]) (by decide) rfl ?_
    refine i_aload_n dX6_endBranch_20 rfl ?_
    refine i_aload_n dX6_endBranch_21 rfl ?_
    refine u_getQ_b (v := v) (k := 1) (vv := .int (iI (V1 (198 + 16 * v + 3 * 1)))) dX6_endBranch_22 fX6_123 (by omega) (by decide) rfl ?_
    refine RW.ti (ll1.1.1.trans bI_t) ?_
    refine i_if_ne (tgt := 35) dX6_endBranch_25 (by decide) (by decide) (fun c25 => ?_) (fun c25 => by omega)
    refine i_const dX6_endBranch_35 ?_
    refine i_goto (tgt := 40) dX6_endBranch_36 (by decide) ?_
    refine i_aload_n dX6_endBranch_40 rfl ?_
    refine u_getQ_b (v := v) (k := 1) (vv := .int (iI (V1 (199 + 16 * v + 3 * 1)))) dX6_endBranch_41 fX6_129 (by omega) (by decide) rfl ?_
    refine RW.ti (show _ = af from ll1.1.2.1) ?_
    refine i_aload_n dX6_endBranch_44 rfl ?_
    refine u_getQ_b (v := v) (k := 2) (vv := .int (iI (V1 (199 + 16 * v + 3 * 2)))) dX6_endBranch_45 fX6_129 (by omega) (by decide) rfl ?_
    refine RW.ti (show _ = ef from ll1.2.1.2.1) ?_
    refine i_or dX6_endBranch_48 (by omega) (by omega) ?_
    refine i_aload_n dX6_endBranch_49 rfl ?_
    refine u_getQ_b (v := v) (k := 1) (vv := .int (iI (V1 (200 + 16 * v + 3 * 1)))) dX6_endBranch_50 fX6_132 (by omega) (by decide) rfl ?_
    refine RW.ti (show _ = al from ll1.1.2.2) ?_
    refine i_aload_n dX6_endBranch_53 rfl ?_
    refine u_getQ_b (v := v) (k := 2) (vv := .int (iI (V1 (200 + 16 * v + 3 * 2)))) dX6_endBranch_54 fX6_132 (by omega) (by decide) rfl ?_
    refine RW.ti (show _ = el from ll1.2.1.2.2) ?_
    refine i_or dX6_endBranch_57 (by omega) (by omega) ?_
    refine u_callV_b (i := 100 + 4 * v + 1) (mc := 0) (ms := 0) (As := [_, _, _]) dX6_endBranch_58 cfX4_set imX4_set seX4_set lX6_148 (c_okL_b (v := v) (k := 1) (by omega) (by decide)) (c_cellQ (v := v) (k := 1) (by omega) (by decide)) rfl rfl rfl rfl (Nat.le_of_ble_eq_true rfl) (Nat.zero_add _).symm (Nat.zero_add _).symm ?_
    refine q_set_b (v := v) (k := 1) (q := (true, zo af ef, zo al el)) (by omega) (by decide) (fun V6 pa6 pf6 => RK.n0 ?_)
    have h93 : V6 9 = (v : Int) := (pf6 9 (by omega)).trans h92
    have hl3 : cLv V6 v (_, _, none) := ⟨pa6, ll1.2.1.cg (fun i i0 i1 => pf6 i (by omega)), Or.inl ⟨rfl, (pf6 _ (by omega)).trans (ll1.2.2.elim (fun z => z.2) (fun ⟨_, z, _⟩ => nomatch z))⟩⟩
    refine i_aload_n dX6_endBranch_61 rfl ?_
    refine u_get_b (i := 3) (vv := .ref (Y (100 + 4 * v))) dX6_endBranch_62 fX6_40 (by decide) rfl (c_l9 h93) ?_
    refine u_callV_b (i := 100 + 4 * v) (mc := 0) (ms := 0) (As := []) dX6_endBranch_65 cfX2_beginBranch imX2_beginBranch seX2_beginBranch lX6_151 (c_okL_b (v := v) (k := 0) (by omega) (by decide)) (c_cellL (v := v) (by omega)) rfl rfl rfl rfl (Nat.le_of_ble_eq_true rfl) (Nat.zero_add _).symm (Nat.zero_add _).symm ?_
    refine q_beginBranch_b (v := v) (by omega) hl3 (fun V7 bl7 bf7 => RK.n0 ?_)
    refine i_return dX6_endBranch_68 rfl ?_
    refine hp _ _ bl7 e1 (fun i hi => (bf7 i hi).trans ((pf6 i (by omega)).trans (lf1 i hi))) sc1
  · -- True True
    refine i_aload_n dX6_endBranch_4 rfl ?_
    refine u_get_b (i := 3) (vv := .ref (Y (100 + 4 * v))) dX6_endBranch_5 fX6_40 (by decide) rfl (c_l9 h92) ?_
    refine u_getL_b (v := v) (vv := .ref (Y (100 + 4 * v + 1))) dX6_endBranch_8 fX6_47 (by omega) c_lf1 ?_
    refine i_astore_n dX6_endBranch_11 (L' := [some _, some _, none]) (by decide) rfl ?_
    refine i_aload_n dX6_endBranch_12 rfl ?_
    refine u_get_b (i := 3) (vv := .ref (Y (100 + 4 * v))) dX6_endBranch_13 fX6_40 (by decide) rfl (c_l9 h92) ?_
    refine u_getL_b (v := v) (vv := .ref (Y (100 + 4 * v + 2))) dX6_endBranch_16 fX6_145 (by omega) c_lf2 ?_
    refine i_astore_n dX6_endBranch_19 (L' := [some _, some _, some _]) (by decide) rfl ?_
    refine i_aload_n dX6_endBranch_20 rfl ?_
    refine i_aload_n dX6_endBranch_21 rfl ?_
    refine u_getQ_b (v := v) (k := 1) (vv := .int (iI (V1 (198 + 16 * v + 3 * 1)))) dX6_endBranch_22 fX6_123 (by omega) (by decide) rfl ?_
    refine RW.ti (ll1.1.1.trans bI_t) ?_
    refine i_if_ne (tgt := 35) dX6_endBranch_25 (by decide) (by decide) (fun c25 => ?_) (fun c25 => by omega)
    refine i_const dX6_endBranch_35 ?_
    refine i_goto (tgt := 40) dX6_endBranch_36 (by decide) ?_
    refine i_aload_n dX6_endBranch_40 rfl ?_
    refine u_getQ_b (v := v) (k := 1) (vv := .int (iI (V1 (199 + 16 * v + 3 * 1)))) dX6_endBranch_41 fX6_129 (by omega) (by decide) rfl ?_
    refine RW.ti (show _ = af from ll1.1.2.1) ?_
    refine i_aload_n dX6_endBranch_44 rfl ?_
    refine u_getQ_b (v := v) (k := 2) (vv := .int (iI (V1 (199 + 16 * v + 3 * 2)))) dX6_endBranch_45 fX6_129 (by omega) (by decide) rfl ?_
    refine RW.ti (show _ = ef from ll1.2.1.2.1) ?_
    refine i_or dX6_endBranch_48 (by omega) (by omega) ?_
    refine i_aload_n dX6_endBranch_49 rfl ?_
    refine u_getQ_b (v := v) (k := 1) (vv := .int (iI (V1 (200 + 16 * v + 3 * 1)))) dX6_endBranch_50 fX6_132 (by omega) (by decide) rfl ?_
    refine RW.ti (show _ = al from ll1.1.2.2) ?_
    refine i_aload_n dX6_endBranch_53 rfl ?_
    refine u_getQ_b (v := v) (k := 2) (vv := .int (iI (V1 (200 + 16 * v + 3 * 2)))) dX6_endBranch_54 fX6_132 (by omega) (by decide) rfl ?_
    refine RW.ti (show _ = el from ll1.2.1.2.2) ?_
    refine i_or dX6_endBranch_57 (by omega) (by omega) ?_
    refine u_callV_b (i := 100 + 4 * v + 1) (mc := 0) (ms := 0) (As := [_, _, _]) dX6_endBranch_58 cfX4_set imX4_set seX4_set lX6_148 (c_okL_b (v := v) (k := 1) (by omega) (by decide)) (c_cellQ (v := v) (k := 1) (by omega) (by decide)) rfl rfl rfl rfl (Nat.le_of_ble_eq_true rfl) (Nat.zero_add _).symm (Nat.zero_add _).symm ?_
    refine q_set_b (v := v) (k := 1) (q := (true, zo af ef, zo al el)) (by omega) (by decide) (fun V8 pa8 pf8 => RK.n0 ?_)
    have h93 : V8 9 = (v : Int) := (pf8 9 (by omega)).trans h92
    have hl3 : cLv V8 v (_, _, none) := ⟨pa8, ll1.2.1.cg (fun i i0 i1 => pf8 i (by omega)), Or.inl ⟨rfl, (pf8 _ (by omega)).trans (ll1.2.2.elim (fun z => z.2) (fun ⟨_, z, _⟩ => nomatch z))⟩⟩
    refine i_aload_n dX6_endBranch_61 rfl ?_
    refine u_get_b (i := 3) (vv := .ref (Y (100 + 4 * v))) dX6_endBranch_62 fX6_40 (by decide) rfl (c_l9 h93) ?_
    refine u_callV_b (i := 100 + 4 * v) (mc := 0) (ms := 0) (As := []) dX6_endBranch_65 cfX2_beginBranch imX2_beginBranch seX2_beginBranch lX6_151 (c_okL_b (v := v) (k := 0) (by omega) (by decide)) (c_cellL (v := v) (by omega)) rfl rfl rfl rfl (Nat.le_of_ble_eq_true rfl) (Nat.zero_add _).symm (Nat.zero_add _).symm ?_
    refine q_beginBranch_b (v := v) (by omega) hl3 (fun V9 bl9 bf9 => RK.n0 ?_)
    refine i_return dX6_endBranch_68 rfl ?_
    refine hp _ _ bl9 e1 (fun i hi => (bf9 i hi).trans ((pf8 i (by omega)).trans (lf1 i hi))) sc1
theorem q_readOp0_b {b : Int} (h9 : V 9 = (v : Int)) (hv : v < 21) (hl : cLv V v l) (he : l.2.2 = none) (hp : P (.inl (some (.int (iI 1)))) (V, C, J)) : RM G mX6_readOperator (b_I Y h0) [.ref (Y 3), .int (iI b)] (d) 0 0 P (V, C, J) := by
  refine RM.of (L := [some (.ref (Y 3)), some (.int (iI b)), none]) cfX6_readOperator rfl (Nat.le_of_ble_eq_true rfl) ?_
  have h0 : V (200 + 16 * v) = 0 := hl.2.2.elim (fun z => z.2) (fun ⟨Q, z, _⟩ => by rw [he] at z; exact nomatch z)
  refine i_aload_n dX6_readOperator_0 rfl ?_
  refine u_get_b (i := 3) (vv := .ref (Y (100 + 4 * v))) dX6_readOperator_1 fX6_40 (by decide) rfl (c_l9 h9) ?_
  refine u_getL_b (v := v) (vv := .int (iI (V (200 + 16 * v)))) dX6_readOperator_4 fX6_135 (by omega) rfl ?_
  refine RW.ti h0 ?_
  refine i_if_ne (tgt := 12) dX6_readOperator_7 (by decide) (by decide) (fun c7 => by omega) (fun c7 => ?_)
  refine i_const dX6_readOperator_10 ?_
  refine i_ireturn dX6_readOperator_11 rfl rfl ?_
  exact hp
theorem q_readOp_b {b : Int} {Q : zPt} (h9 : V 9 = (v : Int)) (hv : v < 21) (hl : cLv V v l) (ho : zOKl l) (hf : zOKf (C 5)) (hb : b = 42 ∨ b = 43 ∨ b = 63) (he : l.2.2 = some Q) (hp : ∀ V' C', cLv V' v (l.1, l.2.1, some (zOp b (C 5) Q).2) → C' 5 = (zOp b (C 5) Q).1 → V' 6 = (if b ≠ 63 then V 6 + 1 else V 6) → (∀ i, (i < 200 + 16 * v ∨ 210 + 16 * v ≤ i) → i ≠ 6 → V' i = V i) → sC [5] C C' → P (.inl (some (.int (iI 0)))) (V', C', J)) : RM G mX6_readOperator (b_I Y h0) [.ref (Y 3), .int (iI b)] (d + 1) 0 0 P (V, C, J) := by
  refine RM.of (L := [some (.ref (Y 3)), some (.int (iI b)), none]) cfX6_readOperator rfl (Nat.le_of_ble_eq_true rfl) ?_
  obtain ⟨A, B, o⟩ := l
  obtain ⟨q1, qf, ql⟩ := Q
  obtain rfl : o = some (q1, qf, ql) := he
  obtain ⟨h1, hQ⟩ : V (200 + 16 * v) = 1 ∧ cPa V v 3 (q1, qf, ql) := hl.2.2.elim (fun z => nomatch z.1) (fun ⟨Q, z, z1, z2⟩ => by obtain rfl : (q1, qf, ql) = Q := Option.some.inj z; exact ⟨z1, z2⟩)
  have r3 : zMr qf := (ho.2.2 _ rfl).1
  have r4 : zMr ql := (ho.2.2 _ rfl).2
  rcases hb with rfl | rfl | rfl <;> cases q1
  · -- 42
    refine i_aload_n dX6_readOperator_0 rfl ?_
    refine u_get_b (i := 3) (vv := .ref (Y (100 + 4 * v))) dX6_readOperator_1 fX6_40 (by decide) rfl (c_l9 h9) ?_
    refine u_getL_b (v := v) (vv := .int (iI (V (200 + 16 * v)))) dX6_readOperator_4 fX6_135 (by omega) rfl ?_
    refine RW.ti h1 ?_
    refine i_if_ne (tgt := 12) dX6_readOperator_7 (by decide) (by decide) (fun c7 => ?_) (fun c7 => by omega)
    refine i_aload_n dX6_readOperator_12 rfl ?_
    refine u_get_b (i := 3) (vv := .ref (Y (100 + 4 * v))) dX6_readOperator_13 fX6_40 (by decide) rfl (c_l9 h9) ?_
    refine u_getL_b (v := v) (vv := .ref (Y (100 + 4 * v + 3))) dX6_readOperator_16 fX6_138 (by omega) c_lf3 ?_
    refine i_astore_n dX6_readOperator_19 (L' := [some _, some _, some _]) (by decide) rfl ?_
    refine i_iload_n dX6_readOperator_20 rfl ?_
    refine i_bipush dX6_readOperator_21 (by decide) ?_
    refine i_icmp_eq (tgt := 48) dX6_readOperator_23 (by decide) (by decide) (by decide) (fun c23 => by omega) (fun c23 => ?_)
    refine i_aload_n dX6_readOperator_26 rfl ?_
    refine i_dup dX6_readOperator_27 rfl ?_
    refine u_get_b (i := 3) (vv := .int (iI (V 6))) dX6_readOperator_28 fX6_81 (by decide) rfl rfl ?_
    refine i_const dX6_readOperator_31 ?_
    refine i_add dX6_readOperator_32 ?_
    refine u_put_b (i := 3) (kV := 6) dX6_readOperator_33 fX6_81 (by decide) rfl rfl rfl (Nat.le_of_ble_eq_true rfl) rfl rfl ?_
    refine u_gen (fun V1 hV1 C1 hC1 => ?_)
    have f1 : ∀ i, i ≠ 6 → V1 i = V i := fun i h => by rw [hV1]; exact vu_ne h
    have e6 : V1 6 = V 6 + 1 := by rw [hV1]; exact vu_at
    obtain rfl : C1 = C := hC1
    have hQ1 : cPa V1 v 3 (_, qf, ql) := hQ.cg (fun i i0 i1 => f1 i (by omega))
    have hl1 := hl.cg (V' := V1) (fun i i0 i1 => f1 i (by omega))
    clear hV1
    refine i_aload_n dX6_readOperator_36 rfl ?_
    refine i_aload_n dX6_readOperator_37 rfl ?_
    refine u_getQ_b (v := v) (k := 3) (vv := .int (iI (V1 (200 + 16 * v + 3 * 3)))) dX6_readOperator_38 fX6_132 (by omega) (by decide) rfl ?_
    refine RW.ti (show _ = ql from hQ1.2.2) ?_
    refine i_aload_n dX6_readOperator_41 rfl ?_
    refine u_getQ_b (v := v) (k := 3) (vv := .int (iI (V1 (199 + 16 * v + 3 * 3)))) dX6_readOperator_42 fX6_129 (by omega) (by decide) rfl ?_
    refine RW.ti (show _ = qf from hQ1.2.1) ?_
    refine u_callV_b (i := 3) (mc := 0) (ms := 0) (As := [_, _]) dX6_readOperator_45 cfX6_addFollow imX6_addFollow seX6_addFollow lX6_141 (by decide) rfl rfl rfl rfl rfl (Nat.le_of_ble_eq_true rfl) (Nat.zero_add _).symm (Nat.zero_add _).symm ?_
    refine q_addFollow_b (b := ql) (x := qf) (by omega) (by omega) hf (fun C1 sc1 e1 => RK.n0 ?_)
    refine i_iload_n dX6_readOperator_48 rfl ?_
    refine i_bipush dX6_readOperator_49 (by decide) ?_
    refine i_icmp_eq (tgt := 59) dX6_readOperator_51 (by decide) (by decide) (by decide) (fun c51 => by omega) (fun c51 => ?_)
    refine i_aload_n dX6_readOperator_54 rfl ?_
    refine i_const dX6_readOperator_55 ?_
    refine u_putQ0_b (v := v) (k := 3) dX6_readOperator_56 fX6_123 (by omega) (by first | decide | omega) rfl rfl ?_
    refine i_const dX6_readOperator_59 ?_
    refine i_ireturn dX6_readOperator_60 rfl rfl ?_
    refine hp _ _ ⟨hl1.1.cg (fun i i0 i1 => vu_ne (by omega)), hl1.2.1.cg (fun i i0 i1 => vu_ne (by omega)), Or.inr ⟨(true, qf, ql), rfl, ?_, vu_at, ?_, ?_⟩⟩ e1 ?_ (fun i hi h6 => ?_) sc1
    · exact (vu_ne (by omega)).trans ((f1 _ (by omega)).trans h1)
    · exact (vu_ne (by omega)).trans ((f1 _ (by omega)).trans hQ.2.1)
    · exact (vu_ne (by omega)).trans ((f1 _ (by omega)).trans hQ.2.2)
    · exact (vu_ne (by omega)).trans e6
    · exact (vu_ne (by omega)).trans (f1 i h6)
  · -- 42
    refine i_aload_n dX6_readOperator_0 rfl ?_
    refine u_get_b (i := 3) (vv := .ref (Y (100 + 4 * v))) dX6_readOperator_1 fX6_40 (by decide) rfl (c_l9 h9) ?_
    refine u_getL_b (v := v) (vv := .int (iI (V (200 + 16 * v)))) dX6_readOperator_4 fX6_135 (by omega) rfl ?_
    refine RW.ti h1 ?_
    refine i_if_ne (tgt := 12) dX6_readOperator_7 (by decide) (by decide) (fun c7 => ?_) (fun c7 => by omega)
    refine i_aload_n dX6_readOperator_12 rfl ?_
    refine u_get_b (i := 3) (vv := .ref (Y (100 + 4 * v))) dX6_readOperator_13 fX6_40 (by decide) rfl (c_l9 h9) ?_
    refine u_getL_b (v := v) (vv := .ref (Y (100 + 4 * v + 3))) dX6_readOperator_16 fX6_138 (by omega) c_lf3 ?_
    refine i_astore_n dX6_readOperator_19 (L' := [some _, some _, some _]) (by decide) rfl ?_
    refine i_iload_n dX6_readOperator_20 rfl ?_
    refine i_bipush dX6_readOperator_21 (by decide) ?_
    refine i_icmp_eq (tgt := 48) dX6_readOperator_23 (by decide) (by decide) (by decide) (fun c23 => by omega) (fun c23 => ?_)
    refine i_aload_n dX6_readOperator_26 rfl ?_
    refine i_dup dX6_readOperator_27 rfl ?_
    refine u_get_b (i := 3) (vv := .int (iI (V 6))) dX6_readOperator_28 fX6_81 (by decide) rfl rfl ?_
    refine i_const dX6_readOperator_31 ?_
    refine i_add dX6_readOperator_32 ?_
    refine u_put_b (i := 3) (kV := 6) dX6_readOperator_33 fX6_81 (by decide) rfl rfl rfl (Nat.le_of_ble_eq_true rfl) rfl rfl ?_
    refine u_gen (fun V1 hV1 C1 hC1 => ?_)
    have f1 : ∀ i, i ≠ 6 → V1 i = V i := fun i h => by rw [hV1]; exact vu_ne h
    have e6 : V1 6 = V 6 + 1 := by rw [hV1]; exact vu_at
    obtain rfl : C1 = C := hC1
    have hQ1 : cPa V1 v 3 (_, qf, ql) := hQ.cg (fun i i0 i1 => f1 i (by omega))
    have hl1 := hl.cg (V' := V1) (fun i i0 i1 => f1 i (by omega))
    clear hV1
    refine i_aload_n dX6_readOperator_36 rfl ?_
    refine i_aload_n dX6_readOperator_37 rfl ?_
    refine u_getQ_b (v := v) (k := 3) (vv := .int (iI (V1 (200 + 16 * v + 3 * 3)))) dX6_readOperator_38 fX6_132 (by omega) (by decide) rfl ?_
    refine RW.ti (show _ = ql from hQ1.2.2) ?_
    refine i_aload_n dX6_readOperator_41 rfl ?_
    refine u_getQ_b (v := v) (k := 3) (vv := .int (iI (V1 (199 + 16 * v + 3 * 3)))) dX6_readOperator_42 fX6_129 (by omega) (by decide) rfl ?_
    refine RW.ti (show _ = qf from hQ1.2.1) ?_
    refine u_callV_b (i := 3) (mc := 0) (ms := 0) (As := [_, _]) dX6_readOperator_45 cfX6_addFollow imX6_addFollow seX6_addFollow lX6_141 (by decide) rfl rfl rfl rfl rfl (Nat.le_of_ble_eq_true rfl) (Nat.zero_add _).symm (Nat.zero_add _).symm ?_
    refine q_addFollow_b (b := ql) (x := qf) (by omega) (by omega) hf (fun C2 sc2 e2 => RK.n0 ?_)
    refine i_iload_n dX6_readOperator_48 rfl ?_
    refine i_bipush dX6_readOperator_49 (by decide) ?_
    refine i_icmp_eq (tgt := 59) dX6_readOperator_51 (by decide) (by decide) (by decide) (fun c51 => by omega) (fun c51 => ?_)
    refine i_aload_n dX6_readOperator_54 rfl ?_
    refine i_const dX6_readOperator_55 ?_
    refine u_putQ0_b (v := v) (k := 3) dX6_readOperator_56 fX6_123 (by omega) (by first | decide | omega) rfl rfl ?_
    refine i_const dX6_readOperator_59 ?_
    refine i_ireturn dX6_readOperator_60 rfl rfl ?_
    refine hp _ _ ⟨hl1.1.cg (fun i i0 i1 => vu_ne (by omega)), hl1.2.1.cg (fun i i0 i1 => vu_ne (by omega)), Or.inr ⟨(true, qf, ql), rfl, ?_, vu_at, ?_, ?_⟩⟩ e2 ?_ (fun i hi h6 => ?_) sc2
    · exact (vu_ne (by omega)).trans ((f1 _ (by omega)).trans h1)
    · exact (vu_ne (by omega)).trans ((f1 _ (by omega)).trans hQ.2.1)
    · exact (vu_ne (by omega)).trans ((f1 _ (by omega)).trans hQ.2.2)
    · exact (vu_ne (by omega)).trans e6
    · exact (vu_ne (by omega)).trans (f1 i h6)
  · -- 43
    refine i_aload_n dX6_readOperator_0 rfl ?_
    refine u_get_b (i := 3) (vv := .ref (Y (100 + 4 * v))) dX6_readOperator_1 fX6_40 (by decide) rfl (c_l9 h9) ?_
    refine u_getL_b (v := v) (vv := .int (iI (V (200 + 16 * v)))) dX6_readOperator_4 fX6_135 (by omega) rfl ?_
    refine RW.ti h1 ?_
    refine i_if_ne (tgt := 12) dX6_readOperator_7 (by decide) (by decide) (fun c7 => ?_) (fun c7 => by omega)
    refine i_aload_n dX6_readOperator_12 rfl ?_
    refine u_get_b (i := 3) (vv := .ref (Y (100 + 4 * v))) dX6_readOperator_13 fX6_40 (by decide) rfl (c_l9 h9) ?_
    refine u_getL_b (v := v) (vv := .ref (Y (100 + 4 * v + 3))) dX6_readOperator_16 fX6_138 (by omega) c_lf3 ?_
    refine i_astore_n dX6_readOperator_19 (L' := [some _, some _, some _]) (by decide) rfl ?_
    refine i_iload_n dX6_readOperator_20 rfl ?_
    refine i_bipush dX6_readOperator_21 (by decide) ?_
    refine i_icmp_eq (tgt := 48) dX6_readOperator_23 (by decide) (by decide) (by decide) (fun c23 => by omega) (fun c23 => ?_)
    refine i_aload_n dX6_readOperator_26 rfl ?_
    refine i_dup dX6_readOperator_27 rfl ?_
    refine u_get_b (i := 3) (vv := .int (iI (V 6))) dX6_readOperator_28 fX6_81 (by decide) rfl rfl ?_
    refine i_const dX6_readOperator_31 ?_
    refine i_add dX6_readOperator_32 ?_
    refine u_put_b (i := 3) (kV := 6) dX6_readOperator_33 fX6_81 (by decide) rfl rfl rfl (Nat.le_of_ble_eq_true rfl) rfl rfl ?_
    refine u_gen (fun V1 hV1 C1 hC1 => ?_)
    have f1 : ∀ i, i ≠ 6 → V1 i = V i := fun i h => by rw [hV1]; exact vu_ne h
    have e6 : V1 6 = V 6 + 1 := by rw [hV1]; exact vu_at
    obtain rfl : C1 = C := hC1
    have hQ1 : cPa V1 v 3 (_, qf, ql) := hQ.cg (fun i i0 i1 => f1 i (by omega))
    have hl1 := hl.cg (V' := V1) (fun i i0 i1 => f1 i (by omega))
    clear hV1
    refine i_aload_n dX6_readOperator_36 rfl ?_
    refine i_aload_n dX6_readOperator_37 rfl ?_
    refine u_getQ_b (v := v) (k := 3) (vv := .int (iI (V1 (200 + 16 * v + 3 * 3)))) dX6_readOperator_38 fX6_132 (by omega) (by decide) rfl ?_
    refine RW.ti (show _ = ql from hQ1.2.2) ?_
    refine i_aload_n dX6_readOperator_41 rfl ?_
    refine u_getQ_b (v := v) (k := 3) (vv := .int (iI (V1 (199 + 16 * v + 3 * 3)))) dX6_readOperator_42 fX6_129 (by omega) (by decide) rfl ?_
    refine RW.ti (show _ = qf from hQ1.2.1) ?_
    refine u_callV_b (i := 3) (mc := 0) (ms := 0) (As := [_, _]) dX6_readOperator_45 cfX6_addFollow imX6_addFollow seX6_addFollow lX6_141 (by decide) rfl rfl rfl rfl rfl (Nat.le_of_ble_eq_true rfl) (Nat.zero_add _).symm (Nat.zero_add _).symm ?_
    refine q_addFollow_b (b := ql) (x := qf) (by omega) (by omega) hf (fun C3 sc3 e3 => RK.n0 ?_)
    refine i_iload_n dX6_readOperator_48 rfl ?_
    refine i_bipush dX6_readOperator_49 (by decide) ?_
    refine i_icmp_eq (tgt := 59) dX6_readOperator_51 (by decide) (by decide) (by decide) (fun c51 => ?_) (fun c51 => by omega)
    refine i_const dX6_readOperator_59 ?_
    refine i_ireturn dX6_readOperator_60 rfl rfl ?_
    exact hp V1 _ (hl1) e3 e6 (fun i hi h6 => f1 i h6) sc3
  · -- 43
    refine i_aload_n dX6_readOperator_0 rfl ?_
    refine u_get_b (i := 3) (vv := .ref (Y (100 + 4 * v))) dX6_readOperator_1 fX6_40 (by decide) rfl (c_l9 h9) ?_
    refine u_getL_b (v := v) (vv := .int (iI (V (200 + 16 * v)))) dX6_readOperator_4 fX6_135 (by omega) rfl ?_
    refine RW.ti h1 ?_
    refine i_if_ne (tgt := 12) dX6_readOperator_7 (by decide) (by decide) (fun c7 => ?_) (fun c7 => by omega)
    refine i_aload_n dX6_readOperator_12 rfl ?_
    refine u_get_b (i := 3) (vv := .ref (Y (100 + 4 * v))) dX6_readOperator_13 fX6_40 (by decide) rfl (c_l9 h9) ?_
    refine u_getL_b (v := v) (vv := .ref (Y (100 + 4 * v + 3))) dX6_readOperator_16 fX6_138 (by omega) c_lf3 ?_
    refine i_astore_n dX6_readOperator_19 (L' := [some _, some _, some _]) (by decide) rfl ?_
    refine i_iload_n dX6_readOperator_20 rfl ?_
    refine i_bipush dX6_readOperator_21 (by decide) ?_
    refine i_icmp_eq (tgt := 48) dX6_readOperator_23 (by decide) (by decide) (by decide) (fun c23 => by omega) (fun c23 => ?_)
    refine i_aload_n dX6_readOperator_26 rfl ?_
    refine i_dup dX6_readOperator_27 rfl ?_
    refine u_get_b (i := 3) (vv := .int (iI (V 6))) dX6_readOperator_28 fX6_81 (by decide) rfl rfl ?_
    refine i_const dX6_readOperator_31 ?_
    refine i_add dX6_readOperator_32 ?_
    refine u_put_b (i := 3) (kV := 6) dX6_readOperator_33 fX6_81 (by decide) rfl rfl rfl (Nat.le_of_ble_eq_true rfl) rfl rfl ?_
    refine u_gen (fun V1 hV1 C1 hC1 => ?_)
    have f1 : ∀ i, i ≠ 6 → V1 i = V i := fun i h => by rw [hV1]; exact vu_ne h
    have e6 : V1 6 = V 6 + 1 := by rw [hV1]; exact vu_at
    obtain rfl : C1 = C := hC1
    have hQ1 : cPa V1 v 3 (_, qf, ql) := hQ.cg (fun i i0 i1 => f1 i (by omega))
    have hl1 := hl.cg (V' := V1) (fun i i0 i1 => f1 i (by omega))
    clear hV1
    refine i_aload_n dX6_readOperator_36 rfl ?_
    refine i_aload_n dX6_readOperator_37 rfl ?_
    refine u_getQ_b (v := v) (k := 3) (vv := .int (iI (V1 (200 + 16 * v + 3 * 3)))) dX6_readOperator_38 fX6_132 (by omega) (by decide) rfl ?_
    refine RW.ti (show _ = ql from hQ1.2.2) ?_
    refine i_aload_n dX6_readOperator_41 rfl ?_
    refine u_getQ_b (v := v) (k := 3) (vv := .int (iI (V1 (199 + 16 * v + 3 * 3)))) dX6_readOperator_42 fX6_129 (by omega) (by decide) rfl ?_
    refine RW.ti (show _ = qf from hQ1.2.1) ?_
    refine u_callV_b (i := 3) (mc := 0) (ms := 0) (As := [_, _]) dX6_readOperator_45 cfX6_addFollow imX6_addFollow seX6_addFollow lX6_141 (by decide) rfl rfl rfl rfl rfl (Nat.le_of_ble_eq_true rfl) (Nat.zero_add _).symm (Nat.zero_add _).symm ?_
    refine q_addFollow_b (b := ql) (x := qf) (by omega) (by omega) hf (fun C4 sc4 e4 => RK.n0 ?_)
    refine i_iload_n dX6_readOperator_48 rfl ?_
    refine i_bipush dX6_readOperator_49 (by decide) ?_
    refine i_icmp_eq (tgt := 59) dX6_readOperator_51 (by decide) (by decide) (by decide) (fun c51 => ?_) (fun c51 => by omega)
    refine i_const dX6_readOperator_59 ?_
    refine i_ireturn dX6_readOperator_60 rfl rfl ?_
    exact hp V1 _ (hl1) e4 e6 (fun i hi h6 => f1 i h6) sc4
  · -- 63
    refine i_aload_n dX6_readOperator_0 rfl ?_
    refine u_get_b (i := 3) (vv := .ref (Y (100 + 4 * v))) dX6_readOperator_1 fX6_40 (by decide) rfl (c_l9 h9) ?_
    refine u_getL_b (v := v) (vv := .int (iI (V (200 + 16 * v)))) dX6_readOperator_4 fX6_135 (by omega) rfl ?_
    refine RW.ti h1 ?_
    refine i_if_ne (tgt := 12) dX6_readOperator_7 (by decide) (by decide) (fun c7 => ?_) (fun c7 => by omega)
    refine i_aload_n dX6_readOperator_12 rfl ?_
    refine u_get_b (i := 3) (vv := .ref (Y (100 + 4 * v))) dX6_readOperator_13 fX6_40 (by decide) rfl (c_l9 h9) ?_
    refine u_getL_b (v := v) (vv := .ref (Y (100 + 4 * v + 3))) dX6_readOperator_16 fX6_138 (by omega) c_lf3 ?_
    refine i_astore_n dX6_readOperator_19 (L' := [some _, some _, some _]) (by decide) rfl ?_
    refine i_iload_n dX6_readOperator_20 rfl ?_
    refine i_bipush dX6_readOperator_21 (by decide) ?_
    refine i_icmp_eq (tgt := 48) dX6_readOperator_23 (by decide) (by decide) (by decide) (fun c23 => ?_) (fun c23 => by omega)
    refine i_iload_n dX6_readOperator_48 rfl ?_
    refine i_bipush dX6_readOperator_49 (by decide) ?_
    refine i_icmp_eq (tgt := 59) dX6_readOperator_51 (by decide) (by decide) (by decide) (fun c51 => by omega) (fun c51 => ?_)
    refine i_aload_n dX6_readOperator_54 rfl ?_
    refine i_const dX6_readOperator_55 ?_
    refine u_putQ0_b (v := v) (k := 3) dX6_readOperator_56 fX6_123 (by omega) (by first | decide | omega) rfl rfl ?_
    refine i_const dX6_readOperator_59 ?_
    refine i_ireturn dX6_readOperator_60 rfl rfl ?_
    refine hp _ _ ⟨hl.1.cg (fun i i0 i1 => vu_ne (by omega)), hl.2.1.cg (fun i i0 i1 => vu_ne (by omega)), Or.inr ⟨(true, qf, ql), rfl, ?_, vu_at, ?_, ?_⟩⟩ rfl ?_ (fun i hi h6 => ?_) sC.rfl
    · exact (vu_ne (by omega)).trans h1
    · exact (vu_ne (by omega)).trans hQ.2.1
    · exact (vu_ne (by omega)).trans hQ.2.2
    · exact vu_ne (by omega)
    · exact vu_ne (by omega)
  · -- 63
    refine i_aload_n dX6_readOperator_0 rfl ?_
    refine u_get_b (i := 3) (vv := .ref (Y (100 + 4 * v))) dX6_readOperator_1 fX6_40 (by decide) rfl (c_l9 h9) ?_
    refine u_getL_b (v := v) (vv := .int (iI (V (200 + 16 * v)))) dX6_readOperator_4 fX6_135 (by omega) rfl ?_
    refine RW.ti h1 ?_
    refine i_if_ne (tgt := 12) dX6_readOperator_7 (by decide) (by decide) (fun c7 => ?_) (fun c7 => by omega)
    refine i_aload_n dX6_readOperator_12 rfl ?_
    refine u_get_b (i := 3) (vv := .ref (Y (100 + 4 * v))) dX6_readOperator_13 fX6_40 (by decide) rfl (c_l9 h9) ?_
    refine u_getL_b (v := v) (vv := .ref (Y (100 + 4 * v + 3))) dX6_readOperator_16 fX6_138 (by omega) c_lf3 ?_
    refine i_astore_n dX6_readOperator_19 (L' := [some _, some _, some _]) (by decide) rfl ?_
    refine i_iload_n dX6_readOperator_20 rfl ?_
    refine i_bipush dX6_readOperator_21 (by decide) ?_
    refine i_icmp_eq (tgt := 48) dX6_readOperator_23 (by decide) (by decide) (by decide) (fun c23 => ?_) (fun c23 => by omega)
    refine i_iload_n dX6_readOperator_48 rfl ?_
    refine i_bipush dX6_readOperator_49 (by decide) ?_
    refine i_icmp_eq (tgt := 59) dX6_readOperator_51 (by decide) (by decide) (by decide) (fun c51 => by omega) (fun c51 => ?_)
    refine i_aload_n dX6_readOperator_54 rfl ?_
    refine i_const dX6_readOperator_55 ?_
    refine u_putQ0_b (v := v) (k := 3) dX6_readOperator_56 fX6_123 (by omega) (by first | decide | omega) rfl rfl ?_
    refine i_const dX6_readOperator_59 ?_
    refine i_ireturn dX6_readOperator_60 rfl rfl ?_
    refine hp _ _ ⟨hl.1.cg (fun i i0 i1 => vu_ne (by omega)), hl.2.1.cg (fun i i0 i1 => vu_ne (by omega)), Or.inr ⟨(true, qf, ql), rfl, ?_, vu_at, ?_, ?_⟩⟩ rfl ?_ (fun i hi h6 => ?_) sC.rfl
    · exact (vu_ne (by omega)).trans h1
    · exact (vu_ne (by omega)).trans hQ.2.1
    · exact (vu_ne (by omega)).trans hQ.2.2
    · exact vu_ne (by omega)
    · exact vu_ne (by omega)
end C77b
section C78b
variable {G : p_G} {Y : Nat → Nat} {h0 : p_H} {P : (Option Value) ⊕ String → c_X → Prop} {d : Nat} {V : Nat → Int} {C : Nat → Int → Int} {J : c_J}
variable {v : Nat} {l : zLv}
theorem q_rp_l_b {sv m q : Int} (hm : 0 ≤ m ∧ m < 64) (hq : 1 ≤ q ∧ q ≤ 24) (hr : ∀ c, 0 ≤ c → c < 6 → 0 ≤ C 6 c ∧ C 6 c < 33554432) (hp : ∀ C', sC [6] C C' → (∀ c, 0 ≤ c → c < 6 → C' 6 c = if zt m c then zo (C 6 c) (zp q) else C 6 c) → RW G mX6_readPosition (b_I Y h0) P (d) 0 0 65 [some (.ref (Y 3)), some (.int (iI sv)), some (.int (iI m)), some (.int (iI q)), none] [] (V, C', J)) : ∀ (zz : Nat) (c : Int) (C' : Nat → Int → Int), zz = (6 - c).toNat → (0 ≤ c ∧ c ≤ 6) → (sC [6] C C') → (∀ j, 0 ≤ j → j < 6 → C' 6 j = if j < c then (if zt m j then zo (C 6 j) (zp q) else C 6 j) else C 6 j) → RW G mX6_readPosition (b_I Y h0) P (d) 0 0 30 [some (.ref (Y 3)), some (.int (iI sv)), some (.int (iI m)), some (.int (iI q)), some (.int (iI c))] [] (V, C', J) := by
  intro zz
  induction zz using Nat.strongRecOn with
  | _ zz ih =>
    intro c C' hzz h1 hC hI
    have zq := @zp_nn q
    refine i_iload dX6_readPosition_30 rfl ?_
    refine i_bipush dX6_readPosition_32 (by decide) ?_
    refine i_icmp_ge (tgt := 65) dX6_readPosition_34 (by decide) (by omega) (by omega) (fun c34 => ?_) (fun c34 => ?_)
    · -- jumps
      refine RW.wk (L' := [some _, some _, some _, some _, none]) (p_subL.at (by repeat (first | exact subL_nil | refine subL_s ?_ | refine subL_n ?_))) ?_
      obtain rfl : c = 6 := by omega
      exact hp _ hC (fun c c0 c1 => (hI c c0 c1).trans (if_pos c1))
    · -- on
      refine i_iload_n dX6_readPosition_37 rfl ?_
      refine i_iload dX6_readPosition_38 rfl ?_
      refine i_shr dX6_readPosition_40 (iI_shr (by omega) (by omega)) ?_
      refine i_const dX6_readPosition_41 ?_
      refine i_and dX6_readPosition_42 (zs_nn) (by omega) ?_
      refine RW.ti zs_1 ?_
      refine i_ifeq_b (tgt := 59) dX6_readPosition_43 (by decide) (fun c43 => ?_) (fun c43 => ?_)
      · -- jumps
        refine i_iinc dX6_readPosition_59 rfl (L' := [some _, some _, some _, some _, some _]) (by decide) rfl ?_
        refine i_goto (tgt := 30) dX6_readPosition_62 (by decide) ?_
        refine ih _ ?_ (c + 1) _ rfl (by omega) hC (fun j j0 j1 => (hI j j0 j1).trans ?_)
        · omega
        by_cases z9 : j = c
        · rw [z9, if_neg (by omega), if_pos (by omega), if_neg (by assumption)]
        · exact if_cg (by omega)
      · -- on
        refine i_aload_n dX6_readPosition_46 rfl ?_
        refine u_get_b (i := 3) (vv := .ref (Y (6))) dX6_readPosition_47 fX6_18.o (by decide) rfl rfl ?_
        refine i_iload dX6_readPosition_50 rfl ?_
        refine i_dup2 dX6_readPosition_52 rfl rfl ?_
        have f6 := hr c (by omega) (by omega)
        have g6 : C' 6 c = C 6 c := (hI c (by omega) (by omega)).trans (if_neg (by omega))
        refine u_iald_b (i := 6) (N := 6) (v := C' 6 c) dX6_readPosition_53 (by decide) rfl (by decide) (by omega) rfl ?_
        refine i_const dX6_readPosition_54 ?_
        refine i_iload_n dX6_readPosition_55 rfl ?_
        refine i_shl dX6_readPosition_56 (iI_shl1 (by omega)) ?_
        refine i_or dX6_readPosition_57 (by omega) (by omega) ?_
        refine u_iast_b (i := 6) (N := 6) dX6_readPosition_58 (by decide) rfl (by decide) (by omega) rfl ?_
        refine i_iinc dX6_readPosition_59 rfl (L' := [some _, some _, some _, some _, some _]) (by decide) rfl ?_
        refine i_goto (tgt := 30) dX6_readPosition_62 (by decide) ?_
        refine ih _ ?_ (c + 1) _ rfl (by omega) (hC.cu (by decide)) (fun j j0 j1 => ?_)
        · omega
        rw [cu_at]
        by_cases z9 : j = c
        · rw [z9, zu_at, if_pos (by omega), if_pos (by assumption), hI c (by omega) (by omega), if_neg (by omega)]
        · rw [zu_ne z9, hI j j0 j1]; exact if_cg (by omega)
theorem q_readPosition_b {sv m : Int} (h9 : V 9 = (v : Int)) (hv : v < 21) (hl : cLv V v l) (ho : zOKl l) (hf : zOKf (C 5)) (hm : 0 ≤ m ∧ m < 64) (hs0 : -1 ≤ sv ∧ sv < 6) (h5 : 0 ≤ V 5 ∧ V 5 ≤ 24) (hr : ∀ c, 0 ≤ c → c < 6 → 0 ≤ C 6 c ∧ C 6 c < 33554432) (hp2 : V 5 = 24 → P (.inl (some (.int (iI 2)))) (V, C, J)) (hp0 : V 5 < 24 → ∀ V' C', cLv V' v (l.1, (zEp (C 5) l).2, some (false, zp (V 5 + 1), zp (V 5 + 1))) → C' 5 = (zEp (C 5) l).1 → V' 5 = V 5 + 1 → C' 4 = zu (C 4) (V 5 + 1) sv → (∀ c, 0 ≤ c → c < 6 → C' 6 c = if zt m c then zo (C 6 c) (zp (V 5 + 1)) else C 6 c) → (∀ i, (i < 200 + 16 * v ∨ 210 + 16 * v ≤ i) → i ≠ 5 → V' i = V i) → sC [4, 5, 6] C C' → P (.inl (some (.int (iI 0)))) (V', C', J)) : RM G mX6_readPosition (b_I Y h0) [.ref (Y 3), .int (iI sv), .int (iI m)] (d + 2) 0 0 P (V, C, J) := by
  refine RM.of (L := [some (.ref (Y 3)), some (.int (iI sv)), some (.int (iI m)), none, none]) cfX6_readPosition rfl (Nat.le_of_ble_eq_true rfl) ?_
  refine i_aload_n dX6_readPosition_0 rfl ?_
  refine u_get_b (i := 3) (vv := .int (iI (V 5))) dX6_readPosition_1 fX6_78 (by decide) rfl rfl ?_
  refine i_const dX6_readPosition_4 ?_
  refine i_add dX6_readPosition_5 ?_
  refine i_istore_n dX6_readPosition_6 (L' := [some _, some _, some _, some _, none]) (by decide) rfl ?_
  refine i_iload_n dX6_readPosition_7 rfl ?_
  refine i_bipush dX6_readPosition_8 (by decide) ?_
  refine i_icmp_le (tgt := 15) dX6_readPosition_10 (by decide) (by omega) (by omega) (fun c10 => ?_) (fun c10 => ?_)
  · -- jumps
    refine i_aload_n dX6_readPosition_15 rfl ?_
    refine i_iload_n dX6_readPosition_16 rfl ?_
    refine u_put_b (i := 3) (kV := 5) dX6_readPosition_17 fX6_78 (by decide) rfl rfl rfl (Nat.le_of_ble_eq_true rfl) rfl rfl ?_
    refine i_aload_n dX6_readPosition_20 rfl ?_
    refine u_get_b (i := 3) (vv := .ref (Y (4))) dX6_readPosition_21 fX6_9.o (by decide) rfl rfl ?_
    refine i_iload_n dX6_readPosition_24 rfl ?_
    refine i_iload_n dX6_readPosition_25 rfl ?_
    refine u_iast_b (i := 4) (N := 25) dX6_readPosition_26 (by decide) rfl (by decide) (by omega) rfl ?_
    refine i_const dX6_readPosition_27 ?_
    refine i_istore dX6_readPosition_28 (L' := [some _, some _, some _, some _, some _]) (by decide) rfl ?_
    refine u_gen (fun V1 hV1 C1 hC1 => ?_)
    have f1 : ∀ i, i ≠ 5 → V1 i = V i := fun i h => by rw [hV1]; exact vu_ne h
    have e5 : V1 5 = V 5 + 1 := by rw [hV1]; exact vu_at
    have sc0 : sC [4] C C1 := by rw [hC1]; exact sC.rfl.cu (by decide)
    have e4 : C1 4 = zu (C 4) (V 5 + 1) sv := by rw [hC1]; rfl
    clear hV1 hC1
    have c5 : C1 5 = C 5 := sc0 5 (by decide)
    have c6 : C1 6 = C 6 := sc0 6 (by decide)
    refine q_rp_l_b hm (by omega) (fun c c0 c1 => by rw [c6]; exact hr c c0 c1) (fun C2 sc2 h6 => ?_) _ 0 C1 rfl (by decide) sC.rfl (fun j j0 j1 => (if_neg (by omega)).symm)
    have c52 : C2 5 = C 5 := (sc2 5 (by decide)).trans c5
    have h91 : V1 9 = (v : Int) := (f1 9 (by decide)).trans h9
    have hl1 := hl.cg (V' := V1) (fun i i0 i1 => f1 i (by omega))
    have hf2 : zOKf (C2 5) := by rw [c52]; exact hf
    refine i_aload_n dX6_readPosition_65 rfl ?_
    refine u_callV_b (i := 3) (mc := 0) (ms := 0) (As := []) dX6_readPosition_66 cfX6_endPiece imX6_endPiece seX6_endPiece lX6_113 (by decide) rfl rfl rfl rfl rfl (Nat.le_of_ble_eq_true rfl) (Nat.zero_add _).symm (Nat.zero_add _).symm ?_
    refine q_endPiece_b h91 hv hl1 ho hf2 (fun V11 C11 ll11 e11 lf11 sc11 => RK.n0 ?_)
    have h92 : V11 9 = (v : Int) := (lf11 9 (by omega)).trans h91
    refine i_aload_n dX6_readPosition_69 rfl ?_
    refine u_get_b (i := 3) (vv := .ref (Y (100 + 4 * v))) dX6_readPosition_70 fX6_40 (by decide) rfl (c_l9 h92) ?_
    have zq := @zp_nn (V 5 + 1)
    refine i_const dX6_readPosition_73 ?_
    refine i_const dX6_readPosition_74 ?_
    refine i_iload_n dX6_readPosition_75 rfl ?_
    refine i_shl dX6_readPosition_76 (iI_shl1 (by omega)) ?_
    refine i_const dX6_readPosition_77 ?_
    refine i_iload_n dX6_readPosition_78 rfl ?_
    refine i_shl dX6_readPosition_79 (iI_shl1 (by omega)) ?_
    refine u_callV_b (i := 100 + 4 * v) (mc := 0) (ms := 0) (As := [_, _, _]) dX6_readPosition_80 cfX2_beginPiece imX2_beginPiece seX2_beginPiece lX6_116 (c_okL_b (v := v) (k := 0) (by omega) (by decide)) (c_cellL (v := v) (by omega)) rfl rfl rfl rfl (Nat.le_of_ble_eq_true rfl) (Nat.zero_add _).symm (Nat.zero_add _).symm ?_
    refine q_beginPiece_b (v := v) (q := (false, zp (V 5 + 1), zp (V 5 + 1))) (by omega) ll11 (fun V12 bl12 bf12 => RK.n0 ?_)
    refine i_const dX6_readPosition_83 ?_
    refine i_ireturn dX6_readPosition_84 rfl rfl ?_
    rw [c52] at bl12 e11
    refine hp0 (by omega) _ _ bl12 e11 ?_ ?_ (fun c c0 c1 => ?_) (fun i hi h5 => ?_) (fun i hi => ?_)
    · exact (bf12 5 (by omega)).trans ((lf11 5 (by omega)).trans e5)
    · rw [sc11 4 (by decide), sc2 4 (by decide)]; exact e4
    · rw [sc11 6 (by decide), h6 c c0 c1, c6]
    · exact (bf12 i hi).trans ((lf11 i hi).trans (f1 i h5))
    · rw [sc11 i (by simp only [List.mem_cons, List.not_mem_nil, or_false] at hi ⊢; omega), sc2 i (by simp only [List.mem_cons, List.not_mem_nil, or_false] at hi ⊢; omega), sc0 i (by simp only [List.mem_cons, List.not_mem_nil, or_false] at hi ⊢; omega)]
  · -- on
    refine i_const dX6_readPosition_13 ?_
    refine i_ireturn dX6_readPosition_14 rfl rfl ?_
    exact hp2 (by omega)
theorem q_openGroup_b  (h9 : V 9 = (v : Int)) (hv : v < 21) (hl : cLv V v l) (ho : zOKl l) (hf : zOKf (C 5)) (hp3 : v = 20 → P (.inl (some (.int (iI 3)))) (V, C, J)) (hp0 : v ≠ 20 → ∀ V' C', cLv V' v (l.1, (zEp (C 5) l).2, none) → cLv V' (v + 1) zL0 → C' 5 = (zEp (C 5) l).1 → V' 9 = (v : Int) + 1 → (∀ i, (i < 200 + 16 * v ∨ 226 + 16 * v ≤ i) → i ≠ 9 → V' i = V i) → sC [5] C C' → P (.inl (some (.int (iI 0)))) (V', C', J)) : RM G mX6_openGroup (b_I Y h0) [.ref (Y 3)] (d + 3) 0 0 P (V, C, J) := by
  refine RM.of (L := [some (.ref (Y 3)), none]) cfX6_openGroup rfl (Nat.le_of_ble_eq_true rfl) ?_
  refine i_aload_n dX6_openGroup_0 rfl ?_
  refine u_get_b (i := 3) (vv := .ref (Y (100 + 4 * v))) dX6_openGroup_1 fX6_40 (by decide) rfl (c_l9 h9) ?_
  by_cases z20 : v = 20
  · subst z20
    refine u_getL_b (v := 20) (vv := .null) dX6_openGroup_4 fX6_120 (by decide) c_lfiz ?_
    refine i_astore_nN dX6_openGroup_7 (L' := [some _, some _]) (by decide) rfl ?_
    refine i_aload_nN dX6_openGroup_8 rfl ?_
    refine i_ifnonnullN dX6_openGroup_9 ?_
    refine i_const dX6_openGroup_12 ?_
    refine i_ireturn dX6_openGroup_13 rfl rfl ?_
    exact hp3 rfl
  · refine u_getL_b (v := v) (vv := .ref (Y (100 + 4 * (v + 1)))) dX6_openGroup_4 fX6_120 (by omega) (c_lfi z20) ?_
    refine i_astore_n dX6_openGroup_7 (L' := [some _, some _]) (by decide) rfl ?_
    refine i_aload_n dX6_openGroup_8 rfl ?_
    refine i_ifnonnull (tgt := 14) dX6_openGroup_9 (by decide) ?_
    refine i_aload_n dX6_openGroup_14 rfl ?_
    refine u_callV_b (i := 3) (mc := 0) (ms := 0) (As := []) dX6_openGroup_15 cfX6_endPiece imX6_endPiece seX6_endPiece lX6_113 (by decide) rfl rfl rfl rfl rfl (Nat.le_of_ble_eq_true rfl) (Nat.zero_add _).symm (Nat.zero_add _).symm ?_
    refine q_endPiece_b h9 hv hl ho hf (fun V1 C1 ll1 e1 lf1 sc1 => RK.n0 ?_)
    refine i_aload_n dX6_openGroup_18 rfl ?_
    refine u_callV_b (i := 100 + 4 * (v + 1)) (mc := 0) (ms := 0) (As := []) dX6_openGroup_19 cfX2_begin imX2_begin seX2_begin lX6_77 (c_okL_b (v := (v + 1)) (k := 0) (by omega) (by decide)) (c_cellL (v := (v + 1)) (by omega)) rfl rfl rfl rfl (Nat.le_of_ble_eq_true rfl) (Nat.zero_add _).symm (Nat.zero_add _).symm ?_
    refine q_lbegin_b (v := (v + 1)) (by omega) (fun V2 bl2 bf2 => RK.n0 ?_)
    refine i_aload_n dX6_openGroup_22 rfl ?_
    refine i_aload_n dX6_openGroup_23 rfl ?_
    refine u_putV_b (u := v + 1) dX6_openGroup_24 fX6_40 rfl rfl ?_
    refine i_const dX6_openGroup_27 ?_
    refine i_ireturn dX6_openGroup_28 rfl rfl ?_
    refine hp0 z20 _ _ ((bf2.ot (show v ≠ v + 1 by omega) ll1).cg (fun i i0 i1 => vu_ne (by omega))) (bl2.cg (fun i i0 i1 => vu_ne (by omega))) e1 ?_ (fun i hi h9' => ?_) sc1
    · rw [vu_at]; omega
    · exact (vu_ne h9').trans ((bf2 i (by omega)).trans (lf1 i (by omega)))
theorem q_closeGroup_b {o : zLv} (h9 : V 9 = (v : Int)) (hv : v < 21) (hl : cLv V v l) (ho : zOKl l) (hf : zOKf (C 5)) (hou : ∀ u, v = u + 1 → cLv V u o) (hp1 : v = 0 → P (.inl (some (.int (iI 1)))) (V, C, J)) (hp0 : ∀ u, v = u + 1 → ∀ V' C', cLv V' u (o.1, o.2.1, some (zEb (C 5) l).2) → C' 5 = (zEb (C 5) l).1 → V' 9 = (u : Int) → (∀ i, (i < 200 + 16 * u ∨ 226 + 16 * u ≤ i) → i ≠ 9 → V' i = V i) → sC [5] C C' → P (.inl (some (.int (iI 0)))) (V', C', J)) : RM G mX6_closeGroup (b_I Y h0) [.ref (Y 3)] (d + 3) 0 0 P (V, C, J) := by
  refine RM.of (L := [some (.ref (Y 3)), none, none]) cfX6_closeGroup rfl (Nat.le_of_ble_eq_true rfl) ?_
  refine i_aload_n dX6_closeGroup_0 rfl ?_
  refine u_get_b (i := 3) (vv := .ref (Y (100 + 4 * v))) dX6_closeGroup_1 fX6_40 (by decide) rfl (c_l9 h9) ?_
  cases v with
  | zero =>
    refine u_getL_b (v := 0) (vv := .null) dX6_closeGroup_4 fX6_67 (by decide) c_lf0z ?_
    refine i_astore_nN dX6_closeGroup_7 (L' := [some _, some _, none]) (by decide) rfl ?_
    refine i_aload_nN dX6_closeGroup_8 rfl ?_
    refine i_ifnonnullN dX6_closeGroup_9 ?_
    refine i_const dX6_closeGroup_12 ?_
    refine i_ireturn dX6_closeGroup_13 rfl rfl ?_
    exact hp1 rfl
  | succ u =>
    refine u_getL_b (v := u + 1) (vv := .ref (Y (100 + 4 * u))) dX6_closeGroup_4 fX6_67 (by omega) (c_lf0 (by omega) rfl) ?_
    refine i_astore_n dX6_closeGroup_7 (L' := [some _, some _, none]) (by decide) rfl ?_
    refine i_aload_n dX6_closeGroup_8 rfl ?_
    refine i_ifnonnull (tgt := 14) dX6_closeGroup_9 (by decide) ?_
    refine i_aload_n dX6_closeGroup_14 rfl ?_
    refine u_callV_b (i := 3) (mc := 0) (ms := 0) (As := []) dX6_closeGroup_15 cfX6_endBranch imX6_endBranch seX6_endBranch lX6_70 (by decide) rfl rfl rfl rfl rfl (Nat.le_of_ble_eq_true rfl) (Nat.zero_add _).symm (Nat.zero_add _).symm ?_
    refine q_endBranch_b h9 hv hl ho hf (fun V1 C1 ll1 e1 lf1 sc1 => RK.n0 ?_)
    have h92 : V1 9 = ((u + 1 : Nat) : Int) := (lf1 9 (by omega)).trans h9
    have hlo := hou u rfl
    have hlo2 := lf1.ot (show u ≠ u + 1 by omega) hlo
    refine i_aload_n dX6_closeGroup_18 rfl ?_
    refine u_get_b (i := 3) (vv := .ref (Y (100 + 4 * (u + 1)))) dX6_closeGroup_19 fX6_40 (by decide) rfl (c_l9 h92) ?_
    refine u_getL_b (v := (u + 1)) (vv := .ref (Y (100 + 4 * (u + 1) + 1))) dX6_closeGroup_22 fX6_47 (by omega) c_lf1 ?_
    refine i_astore_n dX6_closeGroup_25 (L' := [some _, some _, some _]) (by decide) rfl ?_
    refine i_aload_n dX6_closeGroup_26 rfl ?_
    refine i_aload_n dX6_closeGroup_27 rfl ?_
    refine u_getQ_b (v := (u + 1)) (k := 1) (vv := .int (iI (V1 (198 + 16 * (u + 1) + 3 * 1)))) dX6_closeGroup_28 fX6_123 (by omega) (by decide) rfl ?_
    refine RW.ti ll1.1.1 ?_
    refine i_aload_n dX6_closeGroup_31 rfl ?_
    refine u_getQ_b (v := (u + 1)) (k := 1) (vv := .int (iI (V1 (199 + 16 * (u + 1) + 3 * 1)))) dX6_closeGroup_32 fX6_129 (by omega) (by decide) rfl ?_
    refine RW.ti ll1.1.2.1 ?_
    refine i_aload_n dX6_closeGroup_35 rfl ?_
    refine u_getQ_b (v := (u + 1)) (k := 1) (vv := .int (iI (V1 (200 + 16 * (u + 1) + 3 * 1)))) dX6_closeGroup_36 fX6_132 (by omega) (by decide) rfl ?_
    refine RW.ti ll1.1.2.2 ?_
    refine u_callV_b (i := 100 + 4 * u) (mc := 0) (ms := 0) (As := [_, _, _]) dX6_closeGroup_39 cfX2_beginPiece imX2_beginPiece seX2_beginPiece lX6_116 (c_okL_b (v := u) (k := 0) (by omega) (by decide)) (c_cellL (v := u) (by omega)) rfl rfl rfl rfl (Nat.le_of_ble_eq_true rfl) (Nat.zero_add _).symm (Nat.zero_add _).symm ?_
    refine q_beginPiece_b (v := u) (q := (zEb (C 5) l).2) (by omega) hlo2 (fun V2 bl2 bf2 => RK.n0 ?_)
    refine i_aload_n dX6_closeGroup_42 rfl ?_
    refine i_aload_n dX6_closeGroup_43 rfl ?_
    refine u_putV_b (u := u) dX6_closeGroup_44 fX6_40 rfl rfl ?_
    refine i_const dX6_closeGroup_47 ?_
    refine i_ireturn dX6_closeGroup_48 rfl rfl ?_
    refine hp0 u rfl _ _ (bl2.cg (fun i i0 i1 => vu_ne (by omega))) e1 vu_at (fun i hi h9' => ?_) sc1
    exact (vu_ne h9').trans ((bf2 i (by omega)).trans (lf1 i (by omega)))
end C78b
section C79b
variable {G : p_G} {Y : Nat → Nat} {h0 : p_H} {P : (Option Value) ⊕ String → c_X → Prop} {d : Nat} {V : Nat → Int} {C : Nat → Int → Int} {J : c_J}
variable {x : zSt}
theorem q_rdPos_b {b t sv m : Int} (h : cRd V C x) (hb : b = 46 ∨ (97 ≤ b ∧ b ≤ 102)) (ht : t = if b = 46 then 6 else b - 97) (hs : (t = 6 ∧ sv = -1 ∧ m = 63) ∨ ((0 ≤ t ∧ t < 6) ∧ sv = t ∧ m = zp t)) (hm : 0 ≤ m ∧ m < 64) (hpE : ∀ k, zStep b x = .inl k → 1 ≤ k ∧ k ≤ 3 → P (.inl (some (.int (iI k)))) (V, C, J)) (hpS : ∀ y V' C', zStep b x = .inr y → cRd V' C' y → rdF V V' C C' → P (.inl (some (.int (iI 0)))) (V', C', J)) : RM G mX6_readPosition (b_I Y h0) [.ref (Y 3), .int (iI sv), .int (iI m)] (d + 2) 0 0 P (V, C, J) := by
  obtain ⟨⟨a1, ⟨a2, a3⟩, a4⟩, ⟨b1, b2⟩, ⟨c1, c2⟩, ⟨d1, d2⟩, e0⟩ := id h
  have hf5 := d1.ok d2
  refine q_readPosition_b a1.1 (by omega) b1 c1 hf5 hm (by omega) (by omega) (fun c c0 c1 => (e0.2 c c0 c1).1) (fun h24 => ?_) (fun h24 V' C' z1 z2 z3 z4 z5 z6 z7 => ?_)
  · exact hpE 2 (zStep_p2 hb (by omega)) (by decide)
  · have q1 := d1.ep (l := x.2.1)
    have q2 := c1.ep d2
    rw [a2] at z1 z3 z4 z5 h24
    rw [q1.1] at z1
    have q3 := h.pos (l' := (x.2.1.1, (zEp x.1.2.2 x.2.1).2, some (false, zp (x.1.1.1 + 1), zp (x.1.1.1 + 1)))) (fo' := (zEp x.1.2.2 x.2.1).1) (by omega) hs z1 ⟨c1.1, q2.2, fun Q hQ => by obtain rfl := Option.some.inj hQ; exact ⟨zp_rg (by omega), zp_rg (by omega)⟩⟩ (by rw [z2]; exact q1.2) q2.1 z3 z4 z5 z6 z7
    refine hpS _ _ _ (zStep_p hb (by omega)) ?_ q3.2
    rw [← ht]
    exact q3.1
theorem q_readLetter_b {b : Int} (h : cRd V C x) (hb : 0 ≤ b ∧ b < 256) (hno : ¬ (b = 40 ∨ b = 41 ∨ b = 124 ∨ b = 42 ∨ b = 43 ∨ b = 63 ∨ b = 46)) (hpE : ∀ k, zStep b x = .inl k → 1 ≤ k ∧ k ≤ 3 → P (.inl (some (.int (iI k)))) (V, C, J)) (hpS : ∀ y V' C', zStep b x = .inr y → cRd V' C' y → rdF V V' C C' → P (.inl (some (.int (iI 0)))) (V', C', J)) : RM G mX6_readLetter (b_I Y h0) [.ref (Y 3), .int (iI (b - 97))] (d + 3) 0 0 P (V, C, J) := by
  refine RM.of (L := [some (.ref (Y 3)), some (.int (iI (b - 97)))]) cfX6_readLetter rfl (Nat.le_of_ble_eq_true rfl) ?_
  refine i_iload_n dX6_readLetter_0 rfl ?_
  refine i_bipush dX6_readLetter_1 (by decide) ?_
  refine i_callSN (mc := 0) (ms := 0) (As := [_, _]) dX6_readLetter_3 cfX10_isIndex stX10_isIndex lX6_109 rfl rfl (Nat.le_of_ble_eq_true rfl) (Nat.zero_add _).symm (Nat.zero_add _).symm ?_
  refine q_isIndex (by omega) (by omega) (RKN.v ?_)
  refine i_ifeq_b (tgt := 20) dX6_readLetter_6 (by decide) (fun c6 => ?_) (fun c6 => ?_)
  · -- jumps
    refine i_const dX6_readLetter_20 ?_
    refine i_ireturn dX6_readLetter_21 rfl rfl ?_
    exact hpE 1 (zStep_x (fun z => by omega) (by omega) (fun z => by omega) (fun z => by omega)) (by decide)
  · -- on
    have hb2 : b = 46 ∨ (97 ≤ b ∧ b ≤ 102) := by omega
    have zq := zp6 (c := b - 97) (by omega)
    refine i_aload_n dX6_readLetter_9 rfl ?_
    refine i_iload_n dX6_readLetter_10 rfl ?_
    refine i_const dX6_readLetter_11 ?_
    refine i_iload_n dX6_readLetter_12 rfl ?_
    refine i_shl dX6_readLetter_13 (iI_shl1 (by omega)) ?_
    refine u_callV_b (i := 3) (mc := 0) (ms := 0) (As := [_, _]) dX6_readLetter_14 cfX6_readPosition imX6_readPosition seX6_readPosition lX6_102 (by decide) rfl rfl rfl rfl rfl (Nat.le_of_ble_eq_true rfl) (Nat.zero_add _).symm (Nat.zero_add _).symm ?_
    refine q_rdPos_b h hb2 (t := b - 97) (if_neg (by omega)).symm (Or.inr ⟨by omega, rfl, rfl⟩) (by omega) (fun k hk hk1 => RK.v ?_) (fun y V9 C9 hk hr9 hf9 => RK.v ?_)
    · -- case
      refine i_goto (tgt := 21) dX6_readLetter_17 (by decide) ?_
      refine i_ireturn dX6_readLetter_21 rfl rfl ?_
      exact hpE _ hk hk1
    · -- case
      refine i_goto (tgt := 21) dX6_readLetter_17 (by decide) ?_
      refine i_ireturn dX6_readLetter_21 rfl rfl ?_
      exact hpS _ _ _ hk hr9 hf9
theorem q_readByte_b {b : Int} (h : cRd V C x) (hb : 0 ≤ b ∧ b < 256) (hpE : ∀ k, zStep b x = .inl k → 1 ≤ k ∧ k ≤ 3 → P (.inl (some (.int (iI k)))) (V, C, J)) (hpS : ∀ y V' C', zStep b x = .inr y → cRd V' C' y → rdF V V' C C' → P (.inl (some (.int (iI 0)))) (V', C', J)) : RM G mX6_readByte (b_I Y h0) [.ref (Y 3), .int (iI b)] (d + 4) 0 0 P (V, C, J) := by
  refine RM.of (L := [some (.ref (Y 3)), some (.int (iI b))]) cfX6_readByte rfl (Nat.le_of_ble_eq_true rfl) ?_
  refine i_iload_n dX6_readByte_0 rfl ?_
  obtain ⟨⟨a1, ⟨a2, a3⟩, a4⟩, ⟨b1, b2⟩, ⟨c1, c2⟩, ⟨d1, d2⟩, e0⟩ := id h
  have hf5 := d1.ok d2
  by_cases n1 : b = 40
  · subst n1
    refine i_lookup (off := 67) (tgt := 68) dX6_readByte_1 (by decide) (by omega) rfl (by decide) ?_
    refine i_aload_n dX6_readByte_68 rfl ?_
    refine u_callV_b (i := 3) (mc := 0) (ms := 0) (As := []) dX6_readByte_69 cfX6_openGroup imX6_openGroup seX6_openGroup lX6_93 (by decide) rfl rfl rfl rfl rfl (Nat.le_of_ble_eq_true rfl) (Nat.zero_add _).symm (Nat.zero_add _).symm ?_
    refine q_openGroup_b a1.1 (by omega) b1 c1 hf5 (fun z20 => RK.v ?_) (fun z20 V9 C9 z1 z2 z3 z4 z5 z6 => RK.v ?_)
    · -- case
      refine i_ireturn dX6_readByte_72 rfl rfl ?_
      exact hpE 3 (zStep_g3 rfl z20) (by decide)
    · -- case
      refine i_ireturn dX6_readByte_72 rfl rfl ?_
      have q1 := d1.ep (l := x.2.1); have q2 := c1.ep d2; rw [q1.1] at z1; have q3 := h.grp z20 z1 ⟨c1.1, q2.2, fun Q hQ => nomatch hQ⟩ z2 (by rw [z3]; exact q1.2) q2.1 z4 z5 z6; exact hpS _ _ _ (zStep_g rfl z20) q3.1 q3.2
  by_cases n2 : b = 41
  · subst n2
    refine i_lookup (off := 72) (tgt := 73) dX6_readByte_1 (by decide) (by omega) rfl (by decide) ?_
    refine i_aload_n dX6_readByte_73 rfl ?_
    refine u_callV_b (i := 3) (mc := 0) (ms := 0) (As := []) dX6_readByte_74 cfX6_closeGroup imX6_closeGroup seX6_closeGroup lX6_96 (by decide) rfl rfl rfl rfl rfl (Nat.le_of_ble_eq_true rfl) (Nat.zero_add _).symm (Nat.zero_add _).symm ?_
    obtain ⟨o, ho9⟩ := h.hd
    refine q_closeGroup_b (o := o) a1.1 (by omega) b1 c1 hf5 (fun u hu => (ho9 u hu).2) (fun z0 => RK.v ?_) (fun u hu V9 C9 z1 z3 z4 z5 z6 => RK.v ?_)
    · -- case
      refine i_ireturn dX6_readByte_77 rfl rfl ?_
      exact hpE 1 (zStep_x (fun z => by omega) (by omega) (fun _ => List.eq_nil_of_length_eq_zero z0) (fun z => by omega)) (by decide)
    · -- case
      refine i_ireturn dX6_readByte_77 rfl rfl ?_
      obtain ⟨o', r, hx⟩ : ∃ o' r, x.2.2 = o' :: r := List.exists_cons_of_length_eq_add_one hu
      have hur : r.length = u := by rw [hx, List.length_cons] at hu; omega
      obtain rfl : o' = o := by have := (ho9 u hu).1; rw [hx] at this; exact Option.some.inj this
      have q1 := d1.eb (l := x.2.1)
      have q2 := c1.eb d2
      rw [q1.1] at z1
      have q3 := h.end (Q := (zEb x.1.2.2 x.2.1).2) (fo' := (zEb x.1.2.2 x.2.1).1) hx q2.2 (by rw [hur]; exact z1) (by rw [z3]; exact q1.2) q2.1 (by rw [hur]; exact z4) (by rw [hur]; exact z5) z6
      exact hpS _ _ _ (zStep_c rfl hx) q3.1 q3.2
  by_cases n3 : b = 124
  · subst n3
    refine i_lookup (off := 77) (tgt := 78) dX6_readByte_1 (by decide) (by omega) rfl (by decide) ?_
    refine i_aload_n dX6_readByte_78 rfl ?_
    refine u_callV_b (i := 3) (mc := 0) (ms := 0) (As := []) dX6_readByte_79 cfX6_endBranch imX6_endBranch seX6_endBranch lX6_70 (by decide) rfl rfl rfl rfl rfl (Nat.le_of_ble_eq_true rfl) (Nat.zero_add _).symm (Nat.zero_add _).symm ?_
    refine q_endBranch_b a1.1 (by omega) b1 c1 hf5 (fun V9 C9 z1 z3 z5 z6 => RK.n0 ?_)
    refine i_const dX6_readByte_82 ?_
    refine i_ireturn dX6_readByte_83 rfl rfl ?_
    have q1 := d1.eb (l := x.2.1); have q2 := c1.eb d2; rw [q1.1] at z1; have q3 := h.cur z1 ⟨q2.2, zOKl_z.2.1, fun Q hQ => nomatch hQ⟩ (by rw [z3]; exact q1.2) q2.1 ((z5 6 (by omega)).trans a3) (fun i hi _ => z5 i hi) z6; exact hpS _ _ _ (zStep_b rfl) q3.1 q3.2
  by_cases n4 : b = 42 ∨ b = 43 ∨ b = 63
  · have hop : zOpr b := n4
    have hlk : Op.lookupswitch.offset [(40, 67), (41, 72), (42, 83), (43, 83), (46, 89), (63, 83), (124, 77)] 97 b = 83 := by rcases n4 with rfl | rfl | rfl <;> rfl
    refine i_lookup (off := 83) (tgt := 84) dX6_readByte_1 (by decide) (by omega) hlk (by decide) ?_
    cases ho9 : x.2.1.2.2 with
    | none =>
      refine i_aload_n dX6_readByte_84 rfl ?_
      refine i_iload_n dX6_readByte_85 rfl ?_
      refine u_callV_b (i := 3) (mc := 0) (ms := 0) (As := [_]) dX6_readByte_86 cfX6_readOperator imX6_readOperator seX6_readOperator lX6_99 (by decide) rfl rfl rfl rfl rfl (Nat.le_of_ble_eq_true rfl) (Nat.zero_add _).symm (Nat.zero_add _).symm ?_
      refine q_readOp0_b a1.1 (by omega) b1 ho9 (RK.v ?_)
      refine i_ireturn dX6_readByte_89 rfl rfl ?_
      exact hpE 1 (zStep_x (fun z => by omega) (by omega) (fun z => by omega) (fun _ => ho9)) (by decide)
    | some Q =>
      refine i_aload_n dX6_readByte_84 rfl ?_
      refine i_iload_n dX6_readByte_85 rfl ?_
      refine u_callV_b (i := 3) (mc := 0) (ms := 0) (As := [_]) dX6_readByte_86 cfX6_readOperator imX6_readOperator seX6_readOperator lX6_99 (by decide) rfl rfl rfl rfl rfl (Nat.le_of_ble_eq_true rfl) (Nat.zero_add _).symm (Nat.zero_add _).symm ?_
      refine q_readOp_b a1.1 (by omega) b1 c1 hf5 (b := b) hop ho9 (fun V9 C9 z1 z3 z4 z5 z6 => RK.v ?_)
      refine i_ireturn dX6_readByte_89 rfl rfl ?_
      have q1 := d1.op (b := b) (Q := Q); have q2 := (c1.2.2 Q ho9).op (b := b) d2; rw [q1.1] at z1; have q3 := h.cur z1 ⟨c1.1, c1.2.1, fun Q' hQ => by obtain rfl := Option.some.inj hQ; exact q2.2⟩ (by rw [z3]; exact q1.2) q2.1 (z4.trans (by rw [a3])) z5 z6; exact hpS _ _ _ (zStep_o hop ho9) q3.1 q3.2
  by_cases n5 : b = 46
  · subst n5
    refine i_lookup (off := 89) (tgt := 90) dX6_readByte_1 (by decide) (by omega) rfl (by decide) ?_
    have hb2 : (46 : Int) = 46 ∨ (97 ≤ (46 : Int) ∧ (46 : Int) ≤ 102) := Or.inl rfl
    refine i_aload_n dX6_readByte_90 rfl ?_
    refine i_const dX6_readByte_91 ?_
    refine i_bipush dX6_readByte_92 (by decide) ?_
    refine u_callV_b (i := 3) (mc := 0) (ms := 0) (As := [_, _]) dX6_readByte_94 cfX6_readPosition imX6_readPosition seX6_readPosition lX6_102 (by decide) rfl rfl rfl rfl rfl (Nat.le_of_ble_eq_true rfl) (Nat.zero_add _).symm (Nat.zero_add _).symm ?_
    refine q_rdPos_b h hb2 (t := 6) (if_pos rfl).symm (Or.inl ⟨rfl, rfl, rfl⟩) (by omega) (fun k hk hk1 => RK.v ?_) (fun y V9 C9 hk hr9 hf9 => RK.v ?_)
    · -- case
      refine i_ireturn dX6_readByte_97 rfl rfl ?_
      exact hpE _ hk hk1
    · -- case
      refine i_ireturn dX6_readByte_97 rfl rfl ?_
      exact hpS _ _ _ hk hr9 hf9
  have hlk := lk_else b.toNat (by omega) (by omega)
  rw [Int.toNat_of_nonneg hb.1] at hlk
  refine i_lookup (off := 97) (tgt := 98) dX6_readByte_1 (by decide) (by omega) hlk (by decide) ?_
  refine i_aload_n dX6_readByte_98 rfl ?_
  refine i_iload_n dX6_readByte_99 rfl ?_
  refine i_bipush dX6_readByte_100 (by decide) ?_
  refine i_sub dX6_readByte_102 ?_
  refine u_callV_b (i := 3) (mc := 0) (ms := 0) (As := [_]) dX6_readByte_103 cfX6_readLetter imX6_readLetter seX6_readLetter lX6_106 (by decide) rfl rfl rfl rfl rfl (Nat.le_of_ble_eq_true rfl) (Nat.zero_add _).symm (Nat.zero_add _).symm ?_
  refine q_readLetter_b h (b := b) hb (by omega) (fun k hk hk1 => RK.v ?_) (fun y V9 C9 hk hr9 hf9 => RK.v ?_)
  · -- case
    refine i_ireturn dX6_readByte_106 rfl rfl ?_
    exact hpE _ hk hk1
  · -- case
    refine i_ireturn dX6_readByte_106 rfl rfl ?_
    exact hpS _ _ _ hk hr9 hf9
end C79b
section C80b
variable {G : p_G} {Y : Nat → Nat} {h0 : p_H} {P : (Option Value) ⊕ String → c_X → Prop} {d : Nat} {V : Nat → Int} {C : Nat → Int → Int} {J : c_J}
variable {x : zSt}
theorem q_rbegin_b  (hp : ∀ V' C', cRd V' C' zX0 → V' 7 = 0 → rdG V V' C C' → P (.inl none) (V', C', J)) : RM G mX6_begin (b_I Y h0) [.ref (Y 3)] (d + 3) 0 0 P (V, C, J) := by
  refine RM.of (L := [some (.ref (Y 3))]) cfX6_begin rfl (Nat.le_of_ble_eq_true rfl) ?_
  refine i_aload_n dX6_begin_0 rfl ?_
  refine i_aload_n dX6_begin_1 rfl ?_
  refine u_get_b (i := 3) (vv := .ref (Y (100 + 4 * 0))) dX6_begin_2 fX6_32.o (by decide) rfl rfl ?_
  refine u_putV_b (u := 0) dX6_begin_5 fX6_40 rfl rfl ?_
  refine i_aload_n dX6_begin_8 rfl ?_
  refine u_get_b (i := 3) (vv := .ref (Y (100 + 4 * 0))) dX6_begin_9 fX6_40 (by decide) rfl (c_l9 (show vu V 9 ((0 : Nat) : Int) 9 = ((0 : Nat) : Int) from vu_at)) ?_
  refine u_callV_b (i := 100 + 4 * 0) (mc := 0) (ms := 0) (As := []) dX6_begin_12 cfX2_begin imX2_begin seX2_begin lX6_77 (c_okL_b (v := 0) (k := 0) (by omega) (by decide)) (c_cellL (v := 0) (by omega)) rfl rfl rfl rfl (Nat.le_of_ble_eq_true rfl) (Nat.zero_add _).symm (Nat.zero_add _).symm ?_
  refine q_lbegin_b (v := 0) (by decide) (fun V1 bl1 bf1 => RK.n0 ?_)
  refine i_aload_n dX6_begin_15 rfl ?_
  refine i_const dX6_begin_16 ?_
  refine u_put_b (i := 3) (kV := 5) dX6_begin_17 fX6_78 (by decide) rfl rfl rfl (Nat.le_of_ble_eq_true rfl) rfl rfl ?_
  refine i_aload_n dX6_begin_20 rfl ?_
  refine i_const dX6_begin_21 ?_
  refine u_put_b (i := 3) (kV := 6) dX6_begin_22 fX6_81 (by decide) rfl rfl rfl (Nat.le_of_ble_eq_true rfl) rfl rfl ?_
  refine i_aload_n dX6_begin_25 rfl ?_
  refine i_const dX6_begin_26 ?_
  refine u_put_b (i := 3) (kV := 7) dX6_begin_27 fX6_84 (by decide) rfl rfl rfl (Nat.le_of_ble_eq_true rfl) rfl rfl ?_
  refine i_aload_n dX6_begin_30 rfl ?_
  refine u_get_b (i := 3) (vv := .ref (Y (5))) dX6_begin_31 fX6_15.o (by decide) rfl rfl ?_
  refine i_const dX6_begin_34 ?_
  refine i_callS (mc := 0) (ms := 0) (As := [_, _]) dX6_begin_35 cfJ7_fill_53178 stJ7_fill_53178 lX6_87 rfl rfl (Nat.le_of_ble_eq_true rfl) (Nat.zero_add _).symm (Nat.zero_add _).symm ?_
  refine q_fillA_b (i := 5) (N := 25) (by decide) (fun _ => rfl) (by decide) (fun C2 sc2 hc2 => RK.n0 ?_)
  refine i_aload_n dX6_begin_38 rfl ?_
  refine u_get_b (i := 3) (vv := .ref (Y (6))) dX6_begin_39 fX6_18.o (by decide) rfl rfl ?_
  refine i_const dX6_begin_42 ?_
  refine i_callS (mc := 0) (ms := 0) (As := [_, _]) dX6_begin_43 cfJ7_fill_53178 stJ7_fill_53178 lX6_87 rfl rfl (Nat.le_of_ble_eq_true rfl) (Nat.zero_add _).symm (Nat.zero_add _).symm ?_
  refine q_fillA_b (i := 6) (N := 6) (by decide) (fun _ => rfl) (by decide) (fun C3 sc3 hc3 => RK.n0 ?_)
  refine i_return dX6_begin_46 rfl ?_
  have e5 : ∀ j, 0 ≤ j → j < 25 → C3 5 j = 0 := fun j j0 j1 => by rw [congrFun (sc3 5 (by decide)) j, hc2 j, if_pos (by omega)]
  have e6 : ∀ j, 0 ≤ j → j < 6 → C3 6 j = 0 := fun j j0 j1 => by rw [hc3 j, if_pos (by omega)]
  have ev : ∀ i, 8 ≤ i → vu (vu (vu V1 5 0) 6 0) 7 0 i = V1 i := fun i hi => by rw [vu_ne (by omega), vu_ne (by omega), vu_ne (by omega)]
  refine hp _ _ ⟨⟨⟨?_, by decide⟩, ⟨rfl, rfl⟩, by decide⟩, ⟨bl1.cg (fun i i0 i1 => ev i (by omega)), fun i o hi => nomatch hi⟩, ⟨zOKl_z, fun o ho => nomatch ho⟩, ⟨fun p p0 p1 => e5 p (by omega) (by omega), fun p p0 p1 => ?_⟩, fun q q0 q1 => absurd q1 (by show ¬ q ≤ 0; omega), fun c c0 c1 => ⟨by rw [e6 c c0 c1]; decide, fun q q0 => ?_⟩⟩ rfl ⟨fun i hi => ?_, fun i hi => ?_⟩
  · rw [ev 9 (by decide), bf1 9 (by decide)]; exact vu_at
  · exact (show zMr 0 by decide)
  · rw [e6 c c0 c1]; exact ⟨fun z => absurd z zt_0, fun z => absurd z.1 (by show ¬ (1 ≤ q ∧ q ≤ 0); omega)⟩
  · rw [vu_ne (by omega), vu_ne (by omega), vu_ne (by omega), bf1 i (by omega), vu_ne (by omega)]
  · rw [sc3 i (by simp only [List.mem_cons, List.not_mem_nil, or_false]; omega), sc2 i (by simp only [List.mem_cons, List.not_mem_nil, or_false]; omega)]
theorem q_whole_b  (h9 : V 9 = ((0 : Nat) : Int)) (hp : P (.inl (some (.ref (Y (100 + 4 * 0 + 1))))) (V, C, J)) : RM G mX6_whole (b_I Y h0) [.ref (Y 3)] (d) 0 0 P (V, C, J) := by
  refine RM.of (L := [some (.ref (Y 3))]) cfX6_whole rfl (Nat.le_of_ble_eq_true rfl) ?_
  refine i_aload_n dX6_whole_0 rfl ?_
  refine u_get_b (i := 3) (vv := .ref (Y (100 + 4 * 0))) dX6_whole_1 fX6_32.o (by decide) rfl rfl ?_
  refine u_getL_b (v := 0) (vv := .ref (Y (100 + 4 * 0 + 1))) dX6_whole_4 fX6_47 (by omega) c_lf1 ?_
  refine i_areturn dX6_whole_7 rfl ?_
  exact hp
theorem q_pa_l_b {y : Int} (hy : 0 ≤ y ∧ y < 33554432) (h9 : V 9 = ((0 : Nat) : Int)) (hf : zOKf (C 5)) (h2 : zMr (V 202)) (hy1 : y ≠ 1) (hp : ∀ a, cAft C (V 202) y a → P (.inl (some (.int (iI a)))) (V, C, J)) : ∀ (zz : Nat) (p a : Int), zz = (25 - p).toNat → (1 ≤ p ∧ p ≤ 25) → (zMr a) → (∀ q, 0 ≤ q → (zt a q ↔ ∃ p' : Int, (1 ≤ p' ∧ p' < p) ∧ zt y p' ∧ zt (C 5 p') q)) → RW G mX6_positionsAfter (b_I Y h0) P (d) 0 0 17 [some (.ref (Y 3)), some (.int (iI y)), some (.int (iI a)), some (.int (iI p))] [] (V, C, J) := by
  intro zz
  induction zz using Nat.strongRecOn with
  | _ zz ih =>
    intro p a hzz h1 hA hI
    refine i_iload_n dX6_positionsAfter_17 rfl ?_
    refine i_bipush dX6_positionsAfter_18 (by decide) ?_
    refine i_icmp_gt (tgt := 46) dX6_positionsAfter_20 (by decide) (by omega) (by omega) (fun c20 => ?_) (fun c20 => ?_)
    · -- jumps
      refine i_iload_n dX6_positionsAfter_46 rfl ?_
      refine i_ireturn dX6_positionsAfter_47 rfl rfl ?_
      obtain rfl : p = 25 := by omega
      refine hp a ⟨hA, fun q q0 => ?_⟩
      rw [hI q q0]
      constructor
      · rintro ⟨p', p1, p2⟩
        exact Or.inr ⟨hy1, p', by omega, p2⟩
      · rintro (z | ⟨_, p', p1, p2⟩)
        · exact absurd z.1 hy1
        · exact ⟨p', by omega, p2⟩
    · -- on
      refine i_iload_n dX6_positionsAfter_23 rfl ?_
      refine i_iload_n dX6_positionsAfter_24 rfl ?_
      refine i_shr dX6_positionsAfter_25 (iI_shr (by omega) (by omega)) ?_
      refine i_const dX6_positionsAfter_26 ?_
      refine i_and dX6_positionsAfter_27 (zs_nn) (by omega) ?_
      refine RW.ti zs_1 ?_
      refine i_ifeq_b (tgt := 40) dX6_positionsAfter_28 (by decide) (fun c28 => ?_) (fun c28 => ?_)
      · -- jumps
        refine i_iinc dX6_positionsAfter_40 rfl (L' := [some _, some _, some _, some _]) (by decide) rfl ?_
        refine i_goto (tgt := 17) dX6_positionsAfter_43 (by decide) ?_
        refine ih _ ?_ (p + 1) _ rfl (by omega) hA (fun q q0 => ?_)
        · omega
        rw [hI q q0]
        constructor
        · rintro ⟨p', p1, p2⟩
          exact ⟨p', by omega, p2⟩
        · rintro ⟨p', p1, p2⟩
          by_cases z9 : p' = p
          · subst z9; exact absurd p2.1 (by assumption)
          · exact ⟨p', by omega, p2⟩
      · -- on
        refine i_iload_n dX6_positionsAfter_31 rfl ?_
        refine i_aload_n dX6_positionsAfter_32 rfl ?_
        refine u_get_b (i := 3) (vv := .ref (Y (5))) dX6_positionsAfter_33 fX6_15.o (by decide) rfl rfl ?_
        refine i_iload_n dX6_positionsAfter_36 rfl ?_
        have f5 := hf p (by omega) (by omega)
        refine u_iald_b (i := 5) (N := 25) (v := C 5 p) dX6_positionsAfter_37 (by decide) rfl (by decide) (by omega) rfl ?_
        refine i_or dX6_positionsAfter_38 (by omega) (by omega) ?_
        refine i_istore_n dX6_positionsAfter_39 (L' := [some _, some _, some _, some _]) (by decide) rfl ?_
        refine i_iinc dX6_positionsAfter_40 rfl (L' := [some _, some _, some _, some _]) (by decide) rfl ?_
        refine i_goto (tgt := 17) dX6_positionsAfter_43 (by decide) ?_
        refine ih _ ?_ (p + 1) _ rfl (by omega) (zo_rg hA f5) (fun q q0 => ?_)
        · omega
        rw [zt_zo, hI q q0]
        constructor
        · rintro (⟨p', p1, p2⟩ | p2)
          · exact ⟨p', by omega, p2⟩
          · exact ⟨p, by omega, by assumption, p2⟩
        · rintro ⟨p', p1, p2⟩
          by_cases z9 : p' = p
          · exact Or.inr (z9 ▸ p2.2)
          · exact Or.inl ⟨p', by omega, p2⟩
theorem q_positionsAfter_b {y : Int} (hy : 0 ≤ y ∧ y < 33554432) (h9 : V 9 = ((0 : Nat) : Int)) (hf : zOKf (C 5)) (h2 : zMr (V 202)) (hp : ∀ a, cAft C (V 202) y a → P (.inl (some (.int (iI a)))) (V, C, J)) : RM G mX6_positionsAfter (b_I Y h0) [.ref (Y 3), .int (iI y)] (d + 1) 0 0 P (V, C, J) := by
  refine RM.of (L := [some (.ref (Y 3)), some (.int (iI y)), none, none]) cfX6_positionsAfter rfl (Nat.le_of_ble_eq_true rfl) ?_
  refine i_iload_n dX6_positionsAfter_0 rfl ?_
  refine i_const dX6_positionsAfter_1 ?_
  refine i_icmp_ne (tgt := 13) dX6_positionsAfter_2 (by decide) (by omega) (by omega) (fun c2 => ?_) (fun c2 => ?_)
  · -- jumps
    refine i_const dX6_positionsAfter_13 ?_
    refine i_istore_n dX6_positionsAfter_14 (L' := [some _, some _, some _, none]) (by decide) rfl ?_
    refine i_const dX6_positionsAfter_15 ?_
    refine i_istore_n dX6_positionsAfter_16 (L' := [some _, some _, some _, some _]) (by decide) rfl ?_
    exact q_pa_l_b hy h9 hf h2 (by assumption) hp _ 1 0 rfl (by decide) (by decide) (fun q q0 => ⟨fun z => absurd z zt_0, fun ⟨p', p1, _⟩ => by omega⟩)
  · -- on
    refine i_aload_n dX6_positionsAfter_5 rfl ?_
    refine u_callV_b (i := 3) (mc := 0) (ms := 0) (As := []) dX6_positionsAfter_6 cfX6_whole imX6_whole seX6_whole lX6_160 (by decide) rfl rfl rfl rfl rfl (Nat.le_of_ble_eq_true rfl) (Nat.zero_add _).symm (Nat.zero_add _).symm ?_
    refine q_whole_b h9 (RK.v ?_)
    refine u_getQ_b (v := 0) (k := 1) (vv := .int (iI (V (199 + 16 * 0 + 3 * 1)))) dX6_positionsAfter_9 fX6_129 (by omega) (by decide) rfl ?_
    refine i_ireturn dX6_positionsAfter_12 rfl rfl ?_
    subst c2
    exact hp _ ⟨h2, fun q q0 => ⟨fun z => Or.inl ⟨rfl, z⟩, fun z => z.elim (fun z => z.2) (fun z => absurd rfl z.1)⟩⟩
theorem q_ss_l_b {y : Int} (h7 : 0 ≤ V 7 ∧ V 7 ≤ 60) (hy : 0 ≤ y ∧ y < 33554432) (hr : ∀ j, 0 ≤ j → j < V 7 → zMr (C 7 j)) (hp1 : ∀ k, (0 ≤ k ∧ k < V 7) → C 7 k = y → (∀ j, 0 ≤ j → j < k → C 7 j ≠ y) → P (.inl (some (.int (iI k)))) (V, C, J)) (hp2 : ∀ r, r = V 7 → V 7 < 60 → (∀ j, 0 ≤ j → j < V 7 → C 7 j ≠ y) → P (.inl (some (.int (iI r)))) (vu V 7 (V 7 + 1), cu C 7 (zu (C 7) (V 7) y), J)) (hp3 : V 7 = 60 → (∀ j, 0 ≤ j → j < V 7 → C 7 j ≠ y) → P (.inl (some (.int (iI (-1))))) (V, C, J)) : ∀ (zz : Nat) (k : Int), zz = (60 - k).toNat → (0 ≤ k ∧ k ≤ V 7) → (∀ j, 0 ≤ j → j < k → C 7 j ≠ y) → RW G mX6_stateOfSet (b_I Y h0) P (d + 1) 0 0 2 [some (.ref (Y 3)), some (.int (iI y)), some (.int (iI k))] [] (V, C, J) := by
  intro zz
  induction zz using Nat.strongRecOn with
  | _ zz ih =>
    intro k hzz h1 hI
    refine i_iload_n dX6_stateOfSet_2 rfl ?_
    refine i_bipush dX6_stateOfSet_3 (by decide) ?_
    refine i_icmp_ge (tgt := 34) dX6_stateOfSet_5 (by decide) (by omega) (by omega) (fun c5 => ?_) (fun c5 => ?_)
    · -- jumps
      refine i_aload_n dX6_stateOfSet_34 rfl ?_
      refine u_get_b (i := 3) (vv := .int (iI (V 7))) dX6_stateOfSet_35 fX6_84 (by decide) rfl rfl ?_
      refine i_bipush dX6_stateOfSet_38 (by decide) ?_
      refine i_callSN (mc := 0) (ms := 0) (As := [_, _]) dX6_stateOfSet_40 cfX10_isIndex stX10_isIndex lX6_109 rfl rfl (Nat.le_of_ble_eq_true rfl) (Nat.zero_add _).symm (Nat.zero_add _).symm ?_
      refine q_isIndex (by omega) (by omega) (RKN.v ?_)
      refine i_ifne_b (tgt := 48) dX6_stateOfSet_43 (by decide) (fun c43 => ?_) (fun c43 => ?_)
      · -- jumps
        refine i_aload_n dX6_stateOfSet_48 rfl ?_
        refine u_get_b (i := 3) (vv := .ref (Y (7))) dX6_stateOfSet_49 fX6_21.o (by decide) rfl rfl ?_
        refine i_aload_n dX6_stateOfSet_52 rfl ?_
        refine u_get_b (i := 3) (vv := .int (iI (V 7))) dX6_stateOfSet_53 fX6_84 (by decide) rfl rfl ?_
        refine i_iload_n dX6_stateOfSet_56 rfl ?_
        refine u_iast_b (i := 7) (N := 60) dX6_stateOfSet_57 (by decide) rfl (by decide) (by omega) rfl ?_
        refine i_aload_n dX6_stateOfSet_58 rfl ?_
        refine i_dup dX6_stateOfSet_59 rfl ?_
        refine u_get_b (i := 3) (vv := .int (iI (V 7))) dX6_stateOfSet_60 fX6_84 (by decide) rfl rfl ?_
        refine i_const dX6_stateOfSet_63 ?_
        refine i_add dX6_stateOfSet_64 ?_
        refine u_put_b (i := 3) (kV := 7) dX6_stateOfSet_65 fX6_84 (by decide) rfl rfl rfl (Nat.le_of_ble_eq_true rfl) rfl rfl ?_
        refine i_aload_n dX6_stateOfSet_68 rfl ?_
        refine u_get_b (i := 3) (vv := .int (iI (V 7 + 1))) dX6_stateOfSet_69 fX6_84 (by decide) rfl rfl ?_
        refine i_const dX6_stateOfSet_72 ?_
        refine i_sub dX6_stateOfSet_73 ?_
        refine i_ireturn dX6_stateOfSet_74 rfl rfl ?_
        exact hp2 _ (by omega) (by omega) (fun j j0 j1 => hI j j0 (by omega))
      · -- on
        refine i_const dX6_stateOfSet_46 ?_
        refine i_ireturn dX6_stateOfSet_47 rfl rfl ?_
        exact hp3 (by omega) (fun j j0 j1 => hI j j0 (by omega))
    · -- on
      refine i_iload_n dX6_stateOfSet_8 rfl ?_
      refine i_aload_n dX6_stateOfSet_9 rfl ?_
      refine u_get_b (i := 3) (vv := .int (iI (V 7))) dX6_stateOfSet_10 fX6_84 (by decide) rfl rfl ?_
      refine i_icmp_ge (tgt := 34) dX6_stateOfSet_13 (by decide) (by omega) (by omega) (fun c13 => ?_) (fun c13 => ?_)
      · -- jumps
        refine i_aload_n dX6_stateOfSet_34 rfl ?_
        refine u_get_b (i := 3) (vv := .int (iI (V 7))) dX6_stateOfSet_35 fX6_84 (by decide) rfl rfl ?_
        refine i_bipush dX6_stateOfSet_38 (by decide) ?_
        refine i_callSN (mc := 0) (ms := 0) (As := [_, _]) dX6_stateOfSet_40 cfX10_isIndex stX10_isIndex lX6_109 rfl rfl (Nat.le_of_ble_eq_true rfl) (Nat.zero_add _).symm (Nat.zero_add _).symm ?_
        refine q_isIndex (by omega) (by omega) (RKN.v ?_)
        refine i_ifne_b (tgt := 48) dX6_stateOfSet_43 (by decide) (fun c43 => ?_) (fun c43 => ?_)
        · -- jumps
          refine i_aload_n dX6_stateOfSet_48 rfl ?_
          refine u_get_b (i := 3) (vv := .ref (Y (7))) dX6_stateOfSet_49 fX6_21.o (by decide) rfl rfl ?_
          refine i_aload_n dX6_stateOfSet_52 rfl ?_
          refine u_get_b (i := 3) (vv := .int (iI (V 7))) dX6_stateOfSet_53 fX6_84 (by decide) rfl rfl ?_
          refine i_iload_n dX6_stateOfSet_56 rfl ?_
          refine u_iast_b (i := 7) (N := 60) dX6_stateOfSet_57 (by decide) rfl (by decide) (by omega) rfl ?_
          refine i_aload_n dX6_stateOfSet_58 rfl ?_
          refine i_dup dX6_stateOfSet_59 rfl ?_
          refine u_get_b (i := 3) (vv := .int (iI (V 7))) dX6_stateOfSet_60 fX6_84 (by decide) rfl rfl ?_
          refine i_const dX6_stateOfSet_63 ?_
          refine i_add dX6_stateOfSet_64 ?_
          refine u_put_b (i := 3) (kV := 7) dX6_stateOfSet_65 fX6_84 (by decide) rfl rfl rfl (Nat.le_of_ble_eq_true rfl) rfl rfl ?_
          refine i_aload_n dX6_stateOfSet_68 rfl ?_
          refine u_get_b (i := 3) (vv := .int (iI (V 7 + 1))) dX6_stateOfSet_69 fX6_84 (by decide) rfl rfl ?_
          refine i_const dX6_stateOfSet_72 ?_
          refine i_sub dX6_stateOfSet_73 ?_
          refine i_ireturn dX6_stateOfSet_74 rfl rfl ?_
          exact hp2 _ (by omega) (by omega) (fun j j0 j1 => hI j j0 (by omega))
        · -- on
          refine i_const dX6_stateOfSet_46 ?_
          refine i_ireturn dX6_stateOfSet_47 rfl rfl ?_
          exact hp3 (by omega) (fun j j0 j1 => hI j j0 (by omega))
      · -- on
        refine i_aload_n dX6_stateOfSet_16 rfl ?_
        refine u_get_b (i := 3) (vv := .ref (Y (7))) dX6_stateOfSet_17 fX6_21.o (by decide) rfl rfl ?_
        refine i_iload_n dX6_stateOfSet_20 rfl ?_
        have r7 := hr (k) (by omega) (by omega)
        refine u_iald_b (i := 7) (N := 60) (v := C 7 k) dX6_stateOfSet_21 (by decide) rfl (by decide) (by omega) rfl ?_
        refine i_iload_n dX6_stateOfSet_22 rfl ?_
        refine i_icmp_ne (tgt := 28) dX6_stateOfSet_23 (by decide) (by omega) (by omega) (fun c23 => ?_) (fun c23 => ?_)
        · -- jumps
          refine i_iinc dX6_stateOfSet_28 rfl (L' := [some _, some _, some _]) (by decide) rfl ?_
          refine i_goto (tgt := 2) dX6_stateOfSet_31 (by decide) ?_
          refine ih _ ?_ (k + 1) rfl (by omega) (fun j j0 j1 => ?_)
          · omega
          by_cases z9 : j = k
          · rw [z9]; assumption
          · exact hI j j0 (by omega)
        · -- on
          refine i_iload_n dX6_stateOfSet_26 rfl ?_
          refine i_ireturn dX6_stateOfSet_27 rfl rfl ?_
          exact hp1 k (by omega) (by assumption) hI
theorem q_stateOfSet_b {y : Int} (h7 : 0 ≤ V 7 ∧ V 7 ≤ 60) (hy : 0 ≤ y ∧ y < 33554432) (hr : ∀ j, 0 ≤ j → j < V 7 → zMr (C 7 j)) (hp1 : ∀ k, (0 ≤ k ∧ k < V 7) → C 7 k = y → (∀ j, 0 ≤ j → j < k → C 7 j ≠ y) → P (.inl (some (.int (iI k)))) (V, C, J)) (hp2 : ∀ r, r = V 7 → V 7 < 60 → (∀ j, 0 ≤ j → j < V 7 → C 7 j ≠ y) → P (.inl (some (.int (iI r)))) (vu V 7 (V 7 + 1), cu C 7 (zu (C 7) (V 7) y), J)) (hp3 : V 7 = 60 → (∀ j, 0 ≤ j → j < V 7 → C 7 j ≠ y) → P (.inl (some (.int (iI (-1))))) (V, C, J)) : RM G mX6_stateOfSet (b_I Y h0) [.ref (Y 3), .int (iI y)] (d + 1) 0 0 P (V, C, J) := by
  refine RM.of (L := [some (.ref (Y 3)), some (.int (iI y)), none]) cfX6_stateOfSet rfl (Nat.le_of_ble_eq_true rfl) ?_
  refine i_const dX6_stateOfSet_0 ?_
  refine i_istore_n dX6_stateOfSet_1 (L' := [some _, some _, some _]) (by decide) rfl ?_
  exact q_ss_l_b h7 hy hr hp1 hp2 hp3 _ 0 rfl (by omega) (fun j j0 j1 => by omega)
theorem q_fs_l1_b {yt t a : Int} (hn : 0 ≤ x.1.1.1 ∧ x.1.1.1 ≤ 24) (h9 : V 9 = ((0 : Nat) : Int)) (h2 : V 202 = (zEb x.1.2.2 x.2.1).2.2.1) (hm : zMr (V 202)) (hf : zOKf (C 5)) (hfe : zFe (C 5) (zEb x.1.2.2 x.2.1).1) (hs : cSt C x.1.1.1 x.1.2.1) (ha : zMr a) (hya0 : ∀ c', (0 ≤ c' ∧ c' < 6) → za a (C 6 c') = zLd x yt c') (kk : ∀ V' C', sV [7] V V' → sC [7, 8] C C' → cDI V' C' (zLd x) (6 * (t + 1)).toNat → V' 7 ≤ 60 → (0 ≤ t ∧ t < V' 7) → (∀ N' : Nat, (N' : Int) < 6 * (t + 1) → ((N' / 6 : Nat) : Int) < ((zD (zLd x) N').1 : Int)) → RW G mX6_findStates (b_I Y h0) P (d + 2) 0 0 82 [some (.ref (Y 3)), some (.int (iI t)), none, none, none] [] (V', C', J)) (hpf : ∀ V' C', zOver x → sV [7] V V' → sC [7, 8] C C' → P (.inl (some (.int (iI 0)))) (V', C', J)) (hps : ∀ V' C' N, zDone x N → cDI V' C' (zLd x) N → sV [7] V V' → sC [7, 8] C C' → P (.inl (some (.int (iI 1)))) (V', C', J)) : ∀ (zz : Nat) (c : Int) (V' : Nat → Int) (C' : Nat → Int → Int), zz = (6 - c).toNat → (0 ≤ c ∧ c ≤ 6) → (sV [7] V V') → (sC [7, 8] C C') → (cDI V' C' (zLd x) (6 * t + c).toNat) → (V' 7 ≤ 60) → (0 ≤ t ∧ t < V' 7) → (C' 7 t = yt) → (∀ N' : Nat, (N' : Int) < 6 * t + c → ((N' / 6 : Nat) : Int) < ((zD (zLd x) N').1 : Int)) → RW G mX6_findStates (b_I Y h0) P (d + 2) 0 0 35 [some (.ref (Y 3)), some (.int (iI t)), some (.int (iI a)), some (.int (iI c)), none] [] (V', C', J) := by
  intro zz
  induction zz using Nat.strongRecOn with
  | _ zz ih =>
    intro c V' C' hzz hc0 hV hC hI h60 ht hyt hH
    have h1' : 0 ≤ t ∧ t < V' 7 := ht
    have h6e : C' 6 = C 6 := hC 6 (by decide)
    have hya : ∀ c', (0 ≤ c' ∧ c' < 6) → za a (C' 6 c') = zLd x yt c' := fun c' hc' => by rw [h6e]; exact hya0 c' hc'
    have h17 := hI.1
    have hr7 : ∀ j, 0 ≤ j → j < V' 7 → zMr (C' 7 j) := fun j j0 j1 => by rw [hI.2.1 j j0 j1]; exact zD_rg (ld := zLd x) (fun y c => zLd_rg hn) _ j j0 (by omega)
    have hyy : (0 ≤ c ∧ c < 6) → za a (C' 6 c) = zLd x ((zD (zLd x) (6 * t + c).toNat).2.1 (((6 * t + c).toNat / 6 : Nat) : Int)) (((6 * t + c).toNat % 6 : Nat) : Int) := fun hc => by
      rw [show (((6 * t + c).toNat / 6 : Nat) : Int) = t by omega, show (((6 * t + c).toNat % 6 : Nat) : Int) = c by omega, ← hI.2.1 t ht.1 ht.2, hyt]
      exact hya c hc
    have hN2 : ∀ (V2 : Nat → Int) {C2 : Nat → Int → Int}, cDI V2 C2 (zLd x) ((6 * t + c).toNat + 1) → cDI V2 C2 (zLd x) (6 * t + (c + 1)).toNat := fun V2 C2 h => by
      rw [show (6 * t + (c + 1)).toNat = (6 * t + c).toNat + 1 by omega]; exact h
    have hH2 : c < 6 → (∀ N' : Nat, (N' : Int) < 6 * t + c → ((N' / 6 : Nat) : Int) < ((zD (zLd x) N').1 : Int)) → ∀ N' : Nat, (N' : Int) < 6 * t + (c + 1) → ((N' / 6 : Nat) : Int) < ((zD (zLd x) N').1 : Int) := fun hc6 h N' hN' => by
      by_cases z9 : N' = (6 * t + c).toNat
      · rw [z9]; omega
      · exact h N' (by omega)
    refine i_iload_n dX6_findStates_35 rfl ?_
    refine i_bipush dX6_findStates_36 (by decide) ?_
    refine i_icmp_ge (tgt := 82) dX6_findStates_38 (by decide) (by omega) (by omega) (fun c38 => ?_) (fun c38 => ?_)
    · -- jumps
      refine RW.wk (L' := [some _, some _, none, none, none]) (p_subL.at (by repeat (first | exact subL_nil | refine subL_s ?_ | refine subL_n ?_))) ?_
      obtain rfl : c = 6 := by omega
      exact kk _ _ hV hC (by rw [show 6 * (t + 1) = 6 * t + 6 by omega]; exact hI) h60 ht (by rw [show 6 * (t + 1) = 6 * t + 6 by omega]; exact hH)
    · -- on
      have h1 : 0 ≤ c ∧ c < 6 := by omega
      have hyy := hyy h1
      have c6 := (hs.2 c h1.1 h1.2).1
      rw [← h6e] at c6
      refine i_aload_n dX6_findStates_41 rfl ?_
      refine i_iload_n dX6_findStates_42 rfl ?_
      refine i_aload_n dX6_findStates_43 rfl ?_
      refine u_get_b (i := 3) (vv := .ref (Y (6))) dX6_findStates_44 fX6_18.o (by decide) rfl rfl ?_
      refine i_iload_n dX6_findStates_47 rfl ?_
      refine u_iald_b (i := 6) (N := 6) (v := C' 6 c) dX6_findStates_48 (by decide) rfl (by decide) (by omega) rfl ?_
      refine i_and dX6_findStates_49 (by omega) (by omega) ?_
      refine u_callV_b (i := 3) (mc := 0) (ms := 0) (As := [_]) dX6_findStates_50 cfX6_stateOfSet imX6_stateOfSet seX6_stateOfSet lX6_154 (by decide) rfl rfl rfl rfl rfl (Nat.le_of_ble_eq_true rfl) (Nat.zero_add _).symm (Nat.zero_add _).symm ?_
      refine q_stateOfSet_b (V := V') (C := C') (y := za a (C' 6 c)) (by omega) (by rw [hya c h1]; exact zLd_rg hn) hr7 (fun k k0 k1 k2 => RK.v ?_) (fun r r0 r1 r2 => RK.v ?_) (fun r0 r2 => RK.v ?_)
      · -- case
        refine i_istore dX6_findStates_53 (L' := [some _, some _, some _, some _, some _]) (by decide) rfl ?_
        refine i_iload dX6_findStates_55 rfl ?_
        refine i_const dX6_findStates_57 ?_
        refine i_icmp_ne (tgt := 63) dX6_findStates_58 (by decide) (by omega) (by omega) (fun c58 => ?_) (fun c58 => ?_)
        · -- jumps
          refine i_aload_n dX6_findStates_63 rfl ?_
          refine u_get_b (i := 3) (vv := .ref (Y (8))) dX6_findStates_64 fX6_24.o (by decide) rfl rfl ?_
          refine i_iload_n dX6_findStates_67 rfl ?_
          refine i_bipush dX6_findStates_68 (by decide) ?_
          refine i_mul dX6_findStates_70 ?_
          refine i_iload_n dX6_findStates_71 rfl ?_
          refine i_add dX6_findStates_72 ?_
          refine i_iload dX6_findStates_73 rfl ?_
          refine u_iast_b (i := 8) (N := 360) dX6_findStates_75 (by decide) rfl (by decide) (by omega) rfl ?_
          refine i_iinc dX6_findStates_76 rfl (L' := [some _, some _, some _, some _, some _]) (by decide) rfl ?_
          refine i_goto (tgt := 35) dX6_findStates_79 (by decide) ?_
          refine RW.wk (L' := [some _, some _, some _, some _, none]) (p_subL.at (by repeat (first | exact subL_nil | refine subL_s ?_ | refine subL_n ?_))) ?_
          refine ih _ ?_ (c + 1) V' _ rfl (by omega) hV (hC.cu (by decide)) (hN2 _ (hI.old hyy k0 k1 k2 (by omega))) h60 ht hyt (hH2 (by omega) hH)
          · omega
        · -- on
          refine i_const dX6_findStates_61 ?_
          refine i_ireturn dX6_findStates_62 rfl rfl ?_
          exfalso; omega
      · -- case
        refine i_istore dX6_findStates_53 (L' := [some _, some _, some _, some _, some _]) (by decide) rfl ?_
        refine i_iload dX6_findStates_55 rfl ?_
        refine i_const dX6_findStates_57 ?_
        refine i_icmp_ne (tgt := 63) dX6_findStates_58 (by decide) (by omega) (by omega) (fun c58 => ?_) (fun c58 => ?_)
        · -- jumps
          refine i_aload_n dX6_findStates_63 rfl ?_
          refine u_get_b (i := 3) (vv := .ref (Y (8))) dX6_findStates_64 fX6_24.o (by decide) rfl rfl ?_
          refine i_iload_n dX6_findStates_67 rfl ?_
          refine i_bipush dX6_findStates_68 (by decide) ?_
          refine i_mul dX6_findStates_70 ?_
          refine i_iload_n dX6_findStates_71 rfl ?_
          refine i_add dX6_findStates_72 ?_
          refine i_iload dX6_findStates_73 rfl ?_
          refine u_iast_b (i := 8) (N := 360) dX6_findStates_75 (by decide) rfl (by decide) (by omega) rfl ?_
          refine i_iinc dX6_findStates_76 rfl (L' := [some _, some _, some _, some _, some _]) (by decide) rfl ?_
          refine i_goto (tgt := 35) dX6_findStates_79 (by decide) ?_
          refine RW.wk (L' := [some _, some _, some _, some _, none]) (p_subL.at (by repeat (first | exact subL_nil | refine subL_s ?_ | refine subL_n ?_))) ?_
          refine ih _ ?_ (c + 1) _ _ rfl (by omega) (hV.vu (by decide)) ((hC.cu (by decide)).cu (by decide)) (hN2 _ (hI.new hyy r2 (by omega) r0)) (by show V' 7 + 1 ≤ 60; omega) (by show 0 ≤ t ∧ t < V' 7 + 1; omega) ?_ (hH2 (by omega) hH)
          · omega
          · show zu (C' 7) (V' 7) _ t = _
            rw [zu_ne (by omega)]; exact hyt
        · -- on
          refine i_const dX6_findStates_61 ?_
          refine i_ireturn dX6_findStates_62 rfl rfl ?_
          exfalso; omega
      · -- case
        refine i_istore dX6_findStates_53 (L' := [some _, some _, some _, some _, some _]) (by decide) rfl ?_
        refine i_iload dX6_findStates_55 rfl ?_
        refine i_const dX6_findStates_57 ?_
        refine i_icmp_ne (tgt := 63) dX6_findStates_58 (by decide) (by decide) (by decide) (fun c58 => by omega) (fun c58 => ?_)
        refine i_const dX6_findStates_61 ?_
        refine i_ireturn dX6_findStates_62 rfl rfl ?_
        refine hpf _ _ ⟨(6 * t + c).toNat, fun N' hN' => ?_, ?_⟩ hV hC
        · by_cases z9 : N' = (6 * t + c).toNat
          · rw [z9]; omega
          · have := hH N' (by omega); omega
        · rw [hI.full hyy r2]; omega
theorem q_fs_l2_b  (hn : 0 ≤ x.1.1.1 ∧ x.1.1.1 ≤ 24) (h9 : V 9 = ((0 : Nat) : Int)) (h2 : V 202 = (zEb x.1.2.2 x.2.1).2.2.1) (hm : zMr (V 202)) (hf : zOKf (C 5)) (hfe : zFe (C 5) (zEb x.1.2.2 x.2.1).1) (hs : cSt C x.1.1.1 x.1.2.1) (hpf : ∀ V' C', zOver x → sV [7] V V' → sC [7, 8] C C' → P (.inl (some (.int (iI 0)))) (V', C', J)) (hps : ∀ V' C' N, zDone x N → cDI V' C' (zLd x) N → sV [7] V V' → sC [7, 8] C C' → P (.inl (some (.int (iI 1)))) (V', C', J)) : ∀ (zz : Nat) (t : Int) (V' : Nat → Int) (C' : Nat → Int → Int), zz = (60 - t).toNat → (0 ≤ t ∧ t ≤ V' 7) → (sV [7] V V') → (sC [7, 8] C C') → (cDI V' C' (zLd x) (6 * t).toNat) → (V' 7 ≤ 60) → (∀ N' : Nat, (N' : Int) < 6 * t → ((N' / 6 : Nat) : Int) < ((zD (zLd x) N').1 : Int)) → RW G mX6_findStates (b_I Y h0) P (d + 2) 0 0 8 [some (.ref (Y 3)), some (.int (iI t)), none, none, none] [] (V', C', J) := by
  intro zz
  induction zz using Nat.strongRecOn with
  | _ zz ih =>
    intro t V' C' hzz h1 hV hC hI h60 hH
    have h17 := hI.1
    have h5e : C' 5 = C 5 := hC 5 (by decide)
    have h2e : V' 202 = V 202 := hV 202 (by decide)
    refine i_iload_n dX6_findStates_8 rfl ?_
    refine i_bipush dX6_findStates_9 (by decide) ?_
    refine i_icmp_ge (tgt := 88) dX6_findStates_11 (by decide) (by omega) (by omega) (fun c11 => ?_) (fun c11 => ?_)
    · -- jumps
      refine i_const dX6_findStates_88 ?_
      refine i_ireturn dX6_findStates_89 rfl rfl ?_
      obtain rfl : t = V' 7 := by omega
      refine hps _ _ _ ⟨?_, fun N' hN' => ?_, ?_⟩ hI hV hC
      · omega
      · have := hH N' (by omega); omega
      · omega
    · -- on
      refine i_iload_n dX6_findStates_14 rfl ?_
      refine i_aload_n dX6_findStates_15 rfl ?_
      refine u_get_b (i := 3) (vv := .int (iI (V' 7))) dX6_findStates_16 fX6_84 (by decide) rfl rfl ?_
      refine i_icmp_ge (tgt := 88) dX6_findStates_19 (by decide) (by omega) (by omega) (fun c19 => ?_) (fun c19 => ?_)
      · -- jumps
        refine i_const dX6_findStates_88 ?_
        refine i_ireturn dX6_findStates_89 rfl rfl ?_
        obtain rfl : t = V' 7 := by omega
        refine hps _ _ _ ⟨?_, fun N' hN' => ?_, ?_⟩ hI hV hC
        · omega
        · have := hH N' (by omega); omega
        · omega
      · -- on
        refine i_aload_n dX6_findStates_22 rfl ?_
        refine i_aload_n dX6_findStates_23 rfl ?_
        refine u_get_b (i := 3) (vv := .ref (Y (7))) dX6_findStates_24 fX6_21.o (by decide) rfl rfl ?_
        refine i_iload_n dX6_findStates_27 rfl ?_
        refine u_iald_b (i := 7) (N := 60) (v := C' 7 t) dX6_findStates_28 (by decide) rfl (by decide) (by omega) rfl ?_
        refine u_callV_b (i := 3) (mc := 0) (ms := 0) (As := [_]) dX6_findStates_29 cfX6_positionsAfter imX6_positionsAfter seX6_positionsAfter lX6_157 (by decide) rfl rfl rfl rfl rfl (Nat.le_of_ble_eq_true rfl) (Nat.zero_add _).symm (Nat.zero_add _).symm ?_
        have r7 := zD_rg (ld := zLd x) (fun y c => zLd_rg hn) (6 * t).toNat t (by omega) (by omega)
        rw [← hI.2.1 t (by omega) (by omega)] at r7
        have hsb := zD_sub hn (6 * t).toNat t (by omega) (by omega)
        rw [← hI.2.1 t (by omega) (by omega)] at hsb
        refine q_positionsAfter_b (V := V') (C := C') r7 ((hV 9 (by decide)).trans h9) (by rw [h5e]; exact hf) (by rw [h2e]; exact hm) (fun a hA => RK.v ?_)
        refine i_istore_n dX6_findStates_32 (L' := [some _, some _, some _, none, none]) (by decide) rfl ?_
        refine i_const dX6_findStates_33 ?_
        refine i_istore_n dX6_findStates_34 (L' := [some _, some _, some _, some _, none]) (by decide) rfl ?_
        rw [h2e, h2] at hA
        have hs' : cSt C' x.1.1.1 x.1.2.1 := hs.cg (hC 4 (by decide)) (hC 6 (by decide))
        refine q_fs_l1_b (V := V') (C := C') (yt := C' 7 t) hn ((hV 9 (by decide)).trans h9) (h2e.trans h2) (by rw [h2e]; exact hm) (by rw [h5e]; exact hf) (by rw [h5e]; exact hfe) hs' hA.1 (fun c' hc' => hA.lead hn (by rw [h5e]; exact hfe) hs' r7.1 hsb hc') (fun V2 C2 sv2 sc2 hI2 h602 ht2 hH2 => ?_) (fun V2 C2 hO sv2 sc2 => hpf _ _ hO (hV.tr sv2 (fun _ z => z)) (hC.tr sc2 (fun _ z => z))) (fun V2 C2 N hd hI2 sv2 sc2 => hps _ _ N hd hI2 (hV.tr sv2 (fun _ z => z)) (hC.tr sc2 (fun _ z => z))) _ 0 V' C' rfl (by decide) sV.rfl sC.rfl (by rw [show 6 * t + 0 = 6 * t by omega]; exact hI) h60 (by omega) rfl (by rw [show 6 * t + 0 = 6 * t by omega]; exact hH)
        refine i_iinc dX6_findStates_82 rfl (L' := [some _, some _, none, none, none]) (by decide) rfl ?_
        refine i_goto (tgt := 8) dX6_findStates_85 (by decide) ?_
        refine ih _ ?_ (t + 1) V2 C2 rfl (by omega) (hV.tr sv2 (fun _ z => z)) (hC.tr sc2 (fun _ z => z)) hI2 h602 hH2
        · omega
theorem q_findStates_b  (h7 : V 7 = 0) (hn : 0 ≤ x.1.1.1 ∧ x.1.1.1 ≤ 24) (h9 : V 9 = ((0 : Nat) : Int)) (h2 : V 202 = (zEb x.1.2.2 x.2.1).2.2.1) (hm : zMr (V 202)) (hf : zOKf (C 5)) (hfe : zFe (C 5) (zEb x.1.2.2 x.2.1).1) (hs : cSt C x.1.1.1 x.1.2.1) (hpf : ∀ V' C', zOver x → sV [7] V V' → sC [7, 8] C C' → P (.inl (some (.int (iI 0)))) (V', C', J)) (hps : ∀ V' C' N, zDone x N → cDI V' C' (zLd x) N → sV [7] V V' → sC [7, 8] C C' → P (.inl (some (.int (iI 1)))) (V', C', J)) : RM G mX6_findStates (b_I Y h0) [.ref (Y 3)] (d + 2) 0 0 P (V, C, J) := by
  refine RM.of (L := [some (.ref (Y 3)), none, none, none, none]) cfX6_findStates rfl (Nat.le_of_ble_eq_true rfl) ?_
  refine i_aload_n dX6_findStates_0 rfl ?_
  refine i_const dX6_findStates_1 ?_
  refine u_callV_b (i := 3) (mc := 0) (ms := 0) (As := [_]) dX6_findStates_2 cfX6_stateOfSet imX6_stateOfSet seX6_stateOfSet lX6_154 (by decide) rfl rfl rfl rfl rfl (Nat.le_of_ble_eq_true rfl) (Nat.zero_add _).symm (Nat.zero_add _).symm ?_
  refine q_stateOfSet_b (y := 1) (by omega) (by decide) (fun j j0 j1 => by omega) (fun k k0 k1 k2 => by omega) (fun r r0 r1 r2 => RK.v ?_) (fun r0 r1 => by omega)
  refine i_pop dX6_findStates_5 rfl ?_
  refine i_const dX6_findStates_6 ?_
  refine i_istore_n dX6_findStates_7 (L' := [some _, some _, none, none, none]) (by decide) rfl ?_
  exact q_fs_l2_b hn h9 h2 hm hf hfe hs hpf hps _ 0 _ _ rfl (by show 0 ≤ 0 ∧ 0 ≤ V 7 + 1; omega) (sV.rfl.vu (by decide)) (sC.rfl.cu (by decide)) (cDI.z (by show V 7 + 1 = 1; omega) (by show zu (C 7) (V 7) 1 0 = 1; rw [h7, zu_at])) (by show V 7 + 1 ≤ 60; omega) (fun N' hN' => by omega)
theorem q_read_l_b  (h4 : 0 ≤ V 4 ∧ V 4 ≤ 200) (hB : ∀ j, 0 ≤ j → j < V 4 → 0 ≤ C 2 j ∧ C 2 j < 256) (hpE : ∀ V' C' kd, zCE (C 2) (V 4) kd (V' 8) → (1 ≤ kd ∧ kd ≤ 4) → rdG V V' C C' → P (.inl (some (.int (iI kd)))) (V', C', J)) (hpS : ∀ V' C' x N, zRn (C 2) (V 4) 0 zX0 = .inr x → zDone x N → cGot V' C' x N → rdG V V' C C' → P (.inl (some (.int (iI 0)))) (V', C', J)) : ∀ (zz : Nat) (i : Int) (x : zSt) (V' : Nat → Int) (C' : Nat → Int → Int), zz = (V 4 - i).toNat → (0 ≤ i ∧ i ≤ V 4) → (cRd V' C' x) → (zRn (C 2) (V 4) 0 zX0 = zRn (C 2) (V 4) i x) → (rdG V V' C C') → (V' 7 = 0) → RW G mX6_read (b_I Y h0) P (d + 5) 0 0 6 [some (.ref (Y 3)), some (.ref (Y 1)), some (.int (iI i)), none] [] (V', C', J) := by
  intro zz
  induction zz using Nat.strongRecOn with
  | _ zz ih =>
    intro i x V' C' hzz h1 hR hZ hG h70
    have e4 : V' 4 = V 4 := hG.1 4 (by decide)
    have e2 : C' 2 = C 2 := hG.2 2 (by decide)
    refine i_iload_n dX6_read_6 rfl ?_
    refine i_aload_n dX6_read_7 rfl ?_
    refine u_callV_b (i := 1) (mc := 0) (ms := 0) (As := []) dX6_read_8 cfX1_size imX1_size seX1_size lX6_54 (by decide) rfl rfl rfl rfl rfl (Nat.le_of_ble_eq_true rfl) (Nat.zero_add _).symm (Nat.zero_add _).symm ?_
    refine q_size1_b (RK.v ?_)
    refine i_icmp_ge (tgt := 41) dX6_read_11 (by decide) (by omega) (by omega) (fun c11 => ?_) (fun c11 => ?_)
    · -- jumps
      refine i_aload_n dX6_read_41 rfl ?_
      refine i_aload_n dX6_read_42 rfl ?_
      refine u_callV_b (i := 1) (mc := 0) (ms := 0) (As := []) dX6_read_43 cfX1_size imX1_size seX1_size lX6_54 (by decide) rfl rfl rfl rfl rfl (Nat.le_of_ble_eq_true rfl) (Nat.zero_add _).symm (Nat.zero_add _).symm ?_
      refine q_size1_b (RK.v ?_)
      refine u_put_b (i := 3) (kV := 8) dX6_read_46 fX6_43 (by decide) rfl rfl rfl (Nat.le_of_ble_eq_true rfl) rfl rfl ?_
      refine i_aload_n dX6_read_49 rfl ?_
      obtain ⟨⟨a1, ⟨a2, a3⟩, a4⟩, ⟨b1, b2⟩, ⟨c1, c2⟩, ⟨d1, d2⟩, e0⟩ := id hR
      have hf5 := d1.ok d2
      obtain ⟨v, hv⟩ : ∃ v, v = x.2.2.length := ⟨_, rfl⟩
      rw [← hv] at a1 b1
      have h9 : V' 9 = (v : Int) := a1.1
      refine u_get_b (i := 3) (vv := .ref (Y (100 + 4 * v))) dX6_read_50 fX6_40 (by decide) rfl (c_l9 (show vu V' 8 (V' 4) 9 = _ from h9)) ?_
      cases v with
      | succ u =>
        refine u_getL_b (v := u + 1) (vv := .ref (Y (100 + 4 * u))) dX6_read_53 fX6_67 (by omega) (c_lf0 (by omega) rfl) ?_
        refine i_ifnull dX6_read_56 ?_
        refine i_const dX6_read_59 ?_
        refine i_ireturn dX6_read_60 rfl rfl ?_
        obtain ⟨o, r, hx⟩ : ∃ o r, x.2.2 = o :: r := List.exists_cons_of_length_eq_add_one hv.symm
        refine hpE _ _ 1 (Or.inl (hZ.trans ((zRn_z (by omega) hx).trans ?_))) (by decide) (hG.tr ⟨fun i' hi => vu_ne (by omega), fun i' hi => rfl⟩)
        rw [show i = V' 4 by omega, vu_at]
      | zero =>
        refine u_getL_b (v := 0) (vv := .null) dX6_read_53 fX6_67 (by decide) c_lf0z ?_
        refine i_ifnullN (tgt := 61) dX6_read_56 (by decide) ?_
        refine i_aload_n dX6_read_61 rfl ?_
        refine u_callV_b (i := 3) (mc := 0) (ms := 0) (As := []) dX6_read_62 cfX6_endBranch imX6_endBranch seX6_endBranch lX6_70 (by decide) rfl rfl rfl rfl rfl (Nat.le_of_ble_eq_true rfl) (Nat.zero_add _).symm (Nat.zero_add _).symm ?_
        refine q_endBranch_b (V := vu V' 8 (V' 4)) (C := C') (v := 0) (l := x.2.1) h9 (by decide) (b1.cg (fun i' i0 i1 => vu_ne (by omega))) c1 hf5 (fun V9 C9 z1 z3 z5 z6 => RK.n0 ?_)
        have q1 := d1.eb (l := x.2.1)
        have q2 := c1.eb d2
        rw [q1.1] at z1
        have zb1 := z1.1
        have hfe : zFe (C9 5) (zEb x.1.2.2 x.2.1).1 := by rw [z3]; exact q1.2
        have hf9 : zOKf (C9 5) := hfe.ok q2.1
        refine i_aload_n dX6_read_65 rfl ?_
        refine u_callV_b (i := 3) (mc := 0) (ms := 0) (As := []) dX6_read_66 cfX6_findStates imX6_findStates seX6_findStates lX6_73 (by decide) rfl rfl rfl rfl rfl (Nat.le_of_ble_eq_true rfl) (Nat.zero_add _).symm (Nat.zero_add _).symm ?_
        refine q_findStates_b (V := V9) (C := C9) (x := x) ((z5 7 (by omega)).trans h70) a4 ((z5 9 (by omega)).trans h9) zb1.2.1 (zb1.2.1 ▸ q2.2.1) hf9 hfe (e0.cg (z6 4 (by decide)) (z6 6 (by decide))) (fun V10 C10 hO sv sc => RK.v ?_) (fun V10 C10 N hd hI sv sc => RK.v ?_)
        · -- case
          refine i_if_eq (tgt := 76) dX6_read_69 (by decide) (by decide) (fun c69 => ?_) (fun c69 => by omega)
          refine i_const dX6_read_76 ?_
          refine i_ireturn dX6_read_77 rfl rfl ?_
          have hZe := hZ.trans (zRn_e (show i = V 4 by omega) (List.eq_nil_of_length_eq_zero hv.symm))
          have e9 : ∀ i', i' ≠ 7 → i' < 200 → V10 i' = vu V' 8 (V' 4) i' := fun i' hi hi2 => (sv i' (by simp only [List.mem_cons, List.not_mem_nil, or_false]; exact hi)).trans (z5 i' (by omega))
          have hG2 : rdG V V10 C C10 := hG.tr ⟨fun i' hi => (e9 i' (by omega) (by omega)).trans (vu_ne (by omega)), fun i' hi => (sc i' (by simp only [List.mem_cons, List.not_mem_nil, or_false]; omega)).trans (z6 i' (by simp only [List.mem_cons, List.not_mem_nil, or_false]; omega))⟩
          exact hpE _ _ 4 (Or.inr ⟨x, hZe, hO, rfl, (e9 8 (by decide) (by decide)).trans (vu_at.trans e4)⟩) (by decide) hG2
        · -- case
          refine i_if_eq (tgt := 76) dX6_read_69 (by decide) (by decide) (fun c69 => by omega) (fun c69 => ?_)
          refine i_const dX6_read_72 ?_
          refine i_goto (tgt := 77) dX6_read_73 (by decide) ?_
          refine i_ireturn dX6_read_77 rfl rfl ?_
          have hZe := hZ.trans (zRn_e (show i = V 4 by omega) (List.eq_nil_of_length_eq_zero hv.symm))
          have e9 : ∀ i', i' ≠ 7 → i' < 200 → V10 i' = vu V' 8 (V' 4) i' := fun i' hi hi2 => (sv i' (by simp only [List.mem_cons, List.not_mem_nil, or_false]; exact hi)).trans (z5 i' (by omega))
          have hG2 : rdG V V10 C C10 := hG.tr ⟨fun i' hi => (e9 i' (by omega) (by omega)).trans (vu_ne (by omega)), fun i' hi => (sc i' (by simp only [List.mem_cons, List.not_mem_nil, or_false]; omega)).trans (z6 i' (by simp only [List.mem_cons, List.not_mem_nil, or_false]; omega))⟩
          refine hpS _ _ x N hZe hd ⟨⟨(e9 5 (by decide) (by decide)).trans a2, (e9 6 (by decide) (by decide)).trans a3, (e9 9 (by decide) (by decide)).trans h9, a4⟩, ⟨?_, ?_, ?_, q2.2⟩, e0.cg ((sc 4 (by decide)).trans (z6 4 (by decide))) ((sc 6 (by decide)).trans (z6 6 (by decide))), hI⟩ hG2
          · exact zb1.cg (fun i' i0 i1 => sv i' (by simp only [List.mem_cons, List.not_mem_nil, or_false]; omega))
          · rw [sc 5 (by decide)]; exact hfe
          · rw [sc 5 (by decide)]; exact hf9
    · -- on
      refine i_aload_n dX6_read_14 rfl ?_
      refine i_aload_n dX6_read_15 rfl ?_
      refine i_iload_n dX6_read_16 rfl ?_
      refine u_callV_b (i := 1) (mc := 0) (ms := 0) (As := [_]) dX6_read_17 cfX1_value imX1_value seX1_value lX6_60 (by decide) rfl rfl rfl rfl rfl (Nat.le_of_ble_eq_true rfl) (Nat.zero_add _).symm (Nat.zero_add _).symm ?_
      have hb := hB i (by omega) (by omega)
      refine q_value_b (V := V') (C := C') (by omega) (by omega) (fun _ => RK.v ?_) (fun q9 => absurd ⟨by omega, by omega⟩ q9)
      rw [e2]
      refine u_callV_b (i := 3) (mc := 0) (ms := 0) (As := [_]) dX6_read_20 cfX6_readByte imX6_readByte seX6_readByte lX6_64 (by decide) rfl rfl rfl rfl rfl (Nat.le_of_ble_eq_true rfl) (Nat.zero_add _).symm (Nat.zero_add _).symm ?_
      refine q_readByte_b (V := V') (C := C') (x := x) hR hb (fun k hk hk1 => RK.v ?_) (fun y V9 C9 hk hR9 hF9 => RK.v ?_)
      · -- case
        refine i_istore_n dX6_read_23 (L' := [some _, some _, some _, some _]) (by decide) rfl ?_
        refine i_iload_n dX6_read_24 rfl ?_
        refine i_if_eq (tgt := 35) dX6_read_25 (by decide) (by omega) (fun c25 => ?_) (fun c25 => ?_)
        · -- jumps
          refine i_iinc dX6_read_35 rfl (L' := [some _, some _, some _, some _]) (by decide) rfl ?_
          refine i_goto (tgt := 6) dX6_read_38 (by decide) ?_
          refine RW.wk (L' := [some _, some _, some _, none]) (p_subL.at (by repeat (first | exact subL_nil | refine subL_s ?_ | refine subL_n ?_))) ?_
          exfalso; omega
        · -- on
          refine i_aload_n dX6_read_28 rfl ?_
          refine i_iload_n dX6_read_29 rfl ?_
          refine u_put_b (i := 3) (kV := 8) dX6_read_30 fX6_43 (by decide) rfl rfl rfl (Nat.le_of_ble_eq_true rfl) rfl rfl ?_
          refine i_iload_n dX6_read_33 rfl ?_
          refine i_ireturn dX6_read_34 rfl rfl ?_
          exact hpE _ _ k (Or.inl (hZ.trans (zRn_l h1.1 (by omega) hk))) (by omega) (hG.tr ⟨fun i' hi => vu_ne (by omega), fun i' hi => rfl⟩)
      · -- case
        refine i_istore_n dX6_read_23 (L' := [some _, some _, some _, some _]) (by decide) rfl ?_
        refine i_iload_n dX6_read_24 rfl ?_
        refine i_if_eq (tgt := 35) dX6_read_25 (by decide) (by decide) (fun c25 => ?_) (fun c25 => by omega)
        refine i_iinc dX6_read_35 rfl (L' := [some _, some _, some _, some _]) (by decide) rfl ?_
        refine i_goto (tgt := 6) dX6_read_38 (by decide) ?_
        refine RW.wk (L' := [some _, some _, some _, none]) (p_subL.at (by repeat (first | exact subL_nil | refine subL_s ?_ | refine subL_n ?_))) ?_
        refine ih _ ?_ (i + 1) y V9 C9 rfl (by omega) hR9 (hZ.trans (zRn_i h1.1 (by omega) hk)) (hG.tr hF9.g) ((hF9.1 7 (by decide)).trans h70)
        · omega
theorem q_read_b  (h4 : 0 ≤ V 4 ∧ V 4 ≤ 200) (hB : ∀ j, 0 ≤ j → j < V 4 → 0 ≤ C 2 j ∧ C 2 j < 256) (hpE : ∀ V' C' kd, zCE (C 2) (V 4) kd (V' 8) → (1 ≤ kd ∧ kd ≤ 4) → rdG V V' C C' → P (.inl (some (.int (iI kd)))) (V', C', J)) (hpS : ∀ V' C' x N, zRn (C 2) (V 4) 0 zX0 = .inr x → zDone x N → cGot V' C' x N → rdG V V' C C' → P (.inl (some (.int (iI 0)))) (V', C', J)) : RM G mX6_read (b_I Y h0) [.ref (Y 3), .ref (Y 1)] (d + 5) 0 0 P (V, C, J) := by
  refine RM.of (L := [some (.ref (Y 3)), some (.ref (Y 1)), none, none]) cfX6_read rfl (Nat.le_of_ble_eq_true rfl) ?_
  refine i_aload_n dX6_read_0 rfl ?_
  refine u_callV_b (i := 3) (mc := 0) (ms := 0) (As := []) dX6_read_1 cfX6_begin imX6_begin seX6_begin lX6_51 (by decide) rfl rfl rfl rfl rfl (Nat.le_of_ble_eq_true rfl) (Nat.zero_add _).symm (Nat.zero_add _).symm ?_
  refine q_rbegin_b (fun V1 C1 r1 r2 r3 => RK.n0 ?_)
  refine i_const dX6_read_4 ?_
  refine i_istore_n dX6_read_5 (L' := [some _, some _, some _, none]) (by decide) rfl ?_
  exact q_read_l_b h4 hB hpE hpS _ 0 zX0 V1 C1 rfl (by omega) r1 rfl r3 r2
end C80b
