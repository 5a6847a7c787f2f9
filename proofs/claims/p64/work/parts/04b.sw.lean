/-! ===== stores into locals; fields; arrays ===== -/
def p_as (L : p_LL) : List (Nat × Value) := L.zipIdx.filterMap (fun q => q.1.map (fun v => (q.2, v)))
theorem p_as_mem {L : p_LL} {i : Nat} {v : Value} : (i, v) ∈ p_as L ↔ L[i]? = some (some v) := by
  constructor
  · intro hm
    obtain ⟨⟨o, j⟩, h1, h2⟩ := List.mem_filterMap.mp hm
    have h3 := List.mem_zipIdx_iff_getElem?.mp h1
    cases o with
    | none => cases h2
    | some w => cases h2; exact h3
  · intro h
    exact List.mem_filterMap.mpr ⟨(some v, i), List.mem_zipIdx_iff_getElem?.mpr h, rfl⟩
def p_clr : p_LL → Nat → p_LL
  | L, 0 => L
  | L, i + 1 => match L[i]? with
    | some (some v) => if v.category = 2 then L.set i none else L
    | _ => L
def p_st1 (L : p_LL) (i : Nat) (v : Value) : p_LL := (p_clr L i).set i (some v)
def p_st2 (L : p_LL) (i : Nat) (v : Value) : p_LL := ((p_clr L i).set i (some v)).set (i + 1) none
theorem p_clr_sub {L : p_LL} {i j : Nat} {w : Value} (h : (p_clr L i)[j]? = some (some w)) : L[j]? = some (some w) ∧ ¬ (j + 1 = i ∧ w.category = 2) := by
  cases i with
  | zero => exact ⟨h, fun q => by omega⟩
  | succ i =>
    rw [show p_clr L (i + 1) = (match L[i]? with | some (some v) => if v.category = 2 then L.set i none else L | _ => L) from rfl] at h
    split at h
    · rename_i v hv
      split at h
      · by_cases e : i = j
        · subst e
          rw [List.getElem?_set_self (List.getElem?_eq_some_iff.mp hv).1] at h
          cases h
        · rw [List.getElem?_set_ne e] at h
          exact ⟨h, fun q => e (by omega)⟩
      · rename_i hc
        refine ⟨h, fun q => ?_⟩
        obtain ⟨q1, q2⟩ := q
        have e : j = i := by omega
        subst e
        rw [hv] at h
        cases h
        exact hc q2
    · rename_i hn
      refine ⟨h, fun q => ?_⟩
      obtain ⟨q1, q2⟩ := q
      have e : j = i := by omega
      subst e
      exact hn w h
theorem p_L.has {nL : Nat} {L : p_LL} {ls : Array Slot} (hL : p_L nL L ls) : lv_has ls nL (p_as L) := ⟨hL.1, hL.2.1, fun q hq => hL.2.2 q.1 q.2 (p_as_mem.mp hq)⟩
theorem p_set_at {α : Type} {l : List α} {i : Nat} {a b : α} (h : (l.set i a)[i]? = some b) : b = a := by
  rw [List.getElem?_set] at h
  simp only [if_true] at h
  split at h
  · cases h; rfl
  · cases h
theorem p_L.s1 {nL i : Nat} {v : Value} {L : p_LL} {ls : Array Slot} (h : lv_has ls nL ((i, v) :: (p_as L).filter (fun q => !(q.1 == i) && !(q.1 + 1 == i && q.2.category == 2)))) : p_L nL (p_st1 L i v) ls := by
  refine ⟨h.1, h.2.1, fun j w hj => ?_⟩
  unfold p_st1 at hj
  by_cases e : j = i
  · subst e
    have hw := p_set_at hj
    cases hw
    exact h.2.2 (j, v) List.mem_cons_self
  · rw [List.getElem?_set_ne (Ne.symm e)] at hj
    obtain ⟨h1, h2⟩ := p_clr_sub hj
    refine h.2.2 (j, w) (List.mem_cons_of_mem _ (List.mem_filter.mpr ⟨p_as_mem.mpr h1, ?_⟩))
    simp only [Bool.and_eq_true, Bool.not_eq_true', beq_eq_false_iff_ne, ne_eq, Bool.and_eq_false_iff]
    refine ⟨e, ?_⟩
    by_cases q : j + 1 = i
    · exact Or.inr (fun z => h2 ⟨q, z⟩)
    · exact Or.inl q
theorem p_L.s2 {nL i : Nat} {v : Value} {L : p_LL} {ls : Array Slot} (h : lv_has ls nL ((i, v) :: (p_as L).filter (fun q => !(q.1 == i) && (!(q.1 == i + 1) && !(q.1 + 1 == i && q.2.category == 2))))) : p_L nL (p_st2 L i v) ls := by
  refine ⟨h.1, h.2.1, fun j w hj => ?_⟩
  unfold p_st2 at hj
  by_cases e1 : j = i + 1
  · subst e1
    have hw := p_set_at hj
    cases hw
  · rw [List.getElem?_set_ne (Ne.symm e1)] at hj
    by_cases e : j = i
    · subst e
      have hw := p_set_at hj
      cases hw
      exact h.2.2 (j, v) List.mem_cons_self
    · rw [List.getElem?_set_ne (Ne.symm e)] at hj
      obtain ⟨h1, h2⟩ := p_clr_sub hj
      refine h.2.2 (j, w) (List.mem_cons_of_mem _ (List.mem_filter.mpr ⟨p_as_mem.mpr h1, ?_⟩))
      simp only [Bool.and_eq_true, Bool.not_eq_true', beq_eq_false_iff_ne, ne_eq, Bool.and_eq_false_iff]
      refine ⟨e, e1, ?_⟩
      by_cases q : j + 1 = i
      · exact Or.inr (fun z => h2 ⟨q, z⟩)
      · exact Or.inl q
section SWrules2
variable {G : p_G} {M : p_M} {P : p_P} {d k n : Nat} {h : p_H} {pc : Nat} {L : p_LL} {st : List Value}
theorem SW.wk {L' : p_LL} (hs : ∀ (i : Nat) (v : Value), L'[i]? = some (some v) → L[i]? = some (some v)) (kk : SW G M P d k n h pc L' st) : SW G M P d k n h pc L st :=
  fun p e R s m args below meth c H locs cells slots ls C B hS hR hL => kk p e R s m args below meth c H locs cells slots ls C B hS hR ⟨hL.1, hL.2.1, fun i v hi => hL.2.2 i v (hs i v hi)⟩
theorem SW.lk {L' : p_LL} (he : L = L') (kk : SW G M P d k n h pc L' st) : SW G M P d k n h pc L st := he ▸ kk
theorem SW.room {d' k' n' : Nat} (hd : d' ≤ d) (hk : k' ≤ k) (hn : n' ≤ n) (kk : SW G M P d' k' n' h pc L st) : SW G M P d k n h pc L st :=
  fun p e R s m args below meth c H locs cells slots ls C B hS hR hL => kk p e R s m args below meth c H locs cells slots ls C ⟨Nat.le_trans hd B.1, Nat.le_trans (Nat.mul_le_mul_left 32 hd) B.2.1, Nat.le_trans (Nat.add_le_add_left hk _) B.2.2.1, Nat.le_trans (Nat.add_le_add_left hn _) B.2.2.2⟩ hS hR hL

theorem r_istore {i : Nat} {x : Int32} {L' : p_LL} (hd : decode M.2.1 pc = .ok (.istore i, 2)) (hn : i < M.2.2.1) (hl : p_st1 L i (.int x) = L') (kk : SW G M P d k n h (pc + 2) L' st) : SW G M P d k n h pc L (.int x :: st) :=
  fun p e R s m args below meth c H locs cells slots ls C B hS hR hL => lv_istore C.1 C.2.1 hd hL.has hn rfl (fun ls' h' => kk p e R s m args below meth c H locs cells slots ls' C B hS hR (hl ▸ p_L.s1 h'))
theorem r_istore_n {q : Fin 4} {x : Int32} {L' : p_LL} (hd : decode M.2.1 pc = .ok (.istore_n q, 1)) (hn : (q : Nat) < M.2.2.1) (hl : p_st1 L (q : Nat) (.int x) = L') (kk : SW G M P d k n h (pc + 1) L' st) : SW G M P d k n h pc L (.int x :: st) :=
  fun p e R s m args below meth c H locs cells slots ls C B hS hR hL => lv_istore_n C.1 C.2.1 hd rfl hL.has hn rfl (fun ls' h' => kk p e R s m args below meth c H locs cells slots ls' C B hS hR (hl ▸ p_L.s1 h'))
theorem r_astore {i : Nat} {x : Nat} {L' : p_LL} (hd : decode M.2.1 pc = .ok (.astore i, 2)) (hn : i < M.2.2.1) (hl : p_st1 L i (.ref x) = L') (kk : SW G M P d k n h (pc + 2) L' st) : SW G M P d k n h pc L (.ref x :: st) :=
  fun p e R s m args below meth c H locs cells slots ls C B hS hR hL => lv_astore C.1 C.2.1 hd hL.has hn rfl (fun ls' h' => kk p e R s m args below meth c H locs cells slots ls' C B hS hR (hl ▸ p_L.s1 h'))
theorem r_astore_n {q : Fin 4} {x : Nat} {L' : p_LL} (hd : decode M.2.1 pc = .ok (.astore_n q, 1)) (hn : (q : Nat) < M.2.2.1) (hl : p_st1 L (q : Nat) (.ref x) = L') (kk : SW G M P d k n h (pc + 1) L' st) : SW G M P d k n h pc L (.ref x :: st) :=
  fun p e R s m args below meth c H locs cells slots ls C B hS hR hL => lv_astore_n C.1 C.2.1 hd rfl hL.has hn rfl (fun ls' h' => kk p e R s m args below meth c H locs cells slots ls' C B hS hR (hl ▸ p_L.s1 h'))
theorem r_lstore {i : Nat} {x : Int64} {L' : p_LL} (hd : decode M.2.1 pc = .ok (.lstore i, 2)) (hn : i + 1 < M.2.2.1) (hl : p_st2 L i (.long x) = L') (kk : SW G M P d k n h (pc + 2) L' st) : SW G M P d k n h pc L (.long x :: st) :=
  fun p e R s m args below meth c H locs cells slots ls C B hS hR hL => lv_lstore C.1 C.2.1 hd hL.has hn rfl (fun ls' h' => kk p e R s m args below meth c H locs cells slots ls' C B hS hR (hl ▸ p_L.s2 h'))
theorem r_lstore_n {q : Fin 4} {x : Int64} {L' : p_LL} (hd : decode M.2.1 pc = .ok (.lstore_n q, 1)) (hn : (q : Nat) + 1 < M.2.2.1) (hl : p_st2 L (q : Nat) (.long x) = L') (kk : SW G M P d k n h (pc + 1) L' st) : SW G M P d k n h pc L (.long x :: st) :=
  fun p e R s m args below meth c H locs cells slots ls C B hS hR hL => lv_lstore_n C.1 C.2.1 hd rfl hL.has hn rfl (fun ls' h' => kk p e R s m args below meth c H locs cells slots ls' C B hS hR (hl ▸ p_L.s2 h'))
theorem r_dstore {i : Nat} {x : UInt64} {L' : p_LL} (hd : decode M.2.1 pc = .ok (.dstore i, 2)) (hn : i + 1 < M.2.2.1) (hl : p_st2 L i (.double x) = L') (kk : SW G M P d k n h (pc + 2) L' st) : SW G M P d k n h pc L (.double x :: st) :=
  fun p e R s m args below meth c H locs cells slots ls C B hS hR hL => lv_dstore C.1 C.2.1 hd hL.has hn rfl (fun ls' h' => kk p e R s m args below meth c H locs cells slots ls' C B hS hR (hl ▸ p_L.s2 h'))
theorem r_dstore_n {q : Fin 4} {x : UInt64} {L' : p_LL} (hd : decode M.2.1 pc = .ok (.dstore_n q, 1)) (hn : (q : Nat) + 1 < M.2.2.1) (hl : p_st2 L (q : Nat) (.double x) = L') (kk : SW G M P d k n h (pc + 1) L' st) : SW G M P d k n h pc L (.double x :: st) :=
  fun p e R s m args below meth c H locs cells slots ls C B hS hR hL => lv_dstore_n C.1 C.2.1 hd rfl hL.has hn rfl (fun ls' h' => kk p e R s m args below meth c H locs cells slots ls' C B hS hR (hl ▸ p_L.s2 h'))
theorem r_astoreN {i : Nat} {L' : p_LL} (hd : decode M.2.1 pc = .ok (.astore i, 2)) (hn : i < M.2.2.1) (hl : p_st1 L i .null = L') (kk : SW G M P d k n h (pc + 2) L' st) : SW G M P d k n h pc L (.null :: st) :=
  fun p e R s m args below meth c H locs cells slots ls C B hS hR hL => lv_astoreN C.1 C.2.1 hd hL.has hn rfl (fun ls' h' => kk p e R s m args below meth c H locs cells slots ls' C B hS hR (hl ▸ p_L.s1 h'))
theorem r_astore_nN {q : Fin 4} {L' : p_LL} (hd : decode M.2.1 pc = .ok (.astore_n q, 1)) (hn : (q : Nat) < M.2.2.1) (hl : p_st1 L (q : Nat) .null = L') (kk : SW G M P d k n h (pc + 1) L' st) : SW G M P d k n h pc L (.null :: st) :=
  fun p e R s m args below meth c H locs cells slots ls C B hS hR hL => lv_astore_nN C.1 C.2.1 hd rfl hL.has hn rfl (fun ls' h' => kk p e R s m args below meth c H locs cells slots ls' C B hS hR (hl ▸ p_L.s1 h'))
theorem r_iinc {i : Nat} {q : Int} {x v : Int32} {L' : p_LL} (hd : decode M.2.1 pc = .ok (.iinc i q, 3)) (hi : L[i]? = some (some (.int x))) (hv : x + Int32.ofInt q = v) (hn : i < M.2.2.1) (hl : p_st1 L i (.int v) = L') (kk : SW G M P d k n h (pc + 3) L' st) : SW G M P d k n h pc L st :=
  fun p e R s m args below meth c H locs cells slots ls C B hS hR hL => by
    obtain ⟨j, hj⟩ := List.getElem?_of_mem (p_as_mem.mpr hi)
    exact lv_iinc C.1 C.2.1 hd hL.has hj hv hn rfl (fun ls' h' => kk p e R s m args below meth c H locs cells slots ls' C B hS hR (hl ▸ p_L.s1 h'))
/-! heap -/
theorem p_R.set {a q0 : Nat} {e0 : va_E} {e : p_E} {ws : va_W} {H1 : Heap} (hw : ∀ (a : Nat) (e : p_E), h a = some e → ∃ k : Nat, ws[k]? = some (a, p_enc G.2.2.2 e)) (hq : ws[q0]? = some (a, e0)) (hP : va_P G.2.2.1 vwCl (ws.set q0 (a, p_enc G.2.2.2 e)) H1) (hD : va_D (p_A G) (ws.set q0 (a, p_enc G.2.2.2 e))) : p_R G (p_up h a e) H1 := by
  refine ⟨_, hP, hD, fun b f hb => ?_⟩
  by_cases z : b = a
  · subst z
    rw [p_up_eq] at hb
    cases hb
    exact ⟨q0, List.getElem?_set_self (List.getElem?_eq_some_iff.mp hq).1⟩
  · rw [p_up_ne z] at hb
    obtain ⟨j, hj⟩ := hw b f hb
    refine ⟨j, ?_⟩
    rw [List.getElem?_set_ne]
    · exact hj
    · intro y
      subst y
      rw [hq] at hj
      cases hj
      exact z rfl
theorem p_R.push {q : Nat} {e : p_E} {ws : va_W} {H1 : Heap} (hw : ∀ (a : Nat) (e : p_E), h a = some e → ∃ k : Nat, ws[k]? = some (a, p_enc G.2.2.2 e)) (hP : va_P G.2.2.1 vwCl (ws ++ [(q, p_enc G.2.2.2 e)]) H1) (hD : va_D (p_A G) (ws ++ [(q, p_enc G.2.2.2 e)])) : h q = none ∧ p_R G (p_up h q e) H1 := by
  have hl : (ws ++ [(q, p_enc G.2.2.2 e)])[ws.length]? = some (q, p_enc G.2.2.2 e) := by simp
  have hn : h q = none := by
    cases hq : h q with
    | none => rfl
    | some f =>
      obtain ⟨j, hj⟩ := hw q f hq
      have hlt := (List.getElem?_eq_some_iff.mp hj).1
      have h2 := hD.1 j ws.length (q, p_enc G.2.2.2 f) (q, p_enc G.2.2.2 e) (by rw [List.getElem?_append_left hlt]; exact hj) hl rfl
      omega
  refine ⟨hn, _, hP, hD, fun b f hb => ?_⟩
  by_cases z : b = q
  · subst z
    rw [p_up_eq] at hb
    cases hb
    exact ⟨ws.length, hl⟩
  · rw [p_up_ne z] at hb
    obtain ⟨j, hj⟩ := hw b f hb
    exact ⟨j, by rw [List.getElem?_append_left (List.getElem?_eq_some_iff.mp hj).1]; exact hj⟩
theorem p_lays_good {C : String} {T : u_T} {N : Nat} : ∀ w ∈ u_ws C T N, goodWord w = true := by
  intro w hw
  obtain ⟨j, -, rfl⟩ := List.mem_map.mp hw
  unfold u_lay
  split <;> rfl
theorem p_inC {ci : Nat} {q : vw_C} (hc : vwCl[ci]? = some q) : ∀ w ∈ u_ws q.1 q.2.1 q.2.2, w ∈ p_ws := by
  intro w hw
  refine p_in ?_ (p_lays_good w hw)
  match ci, hc with

  | 0, hc => cases hc; exact inX0 w hw
  | 1, hc => cases hc; exact inX1 w hw
  | 2, hc => cases hc; exact inX2 w hw
  | 3, hc => cases hc; exact inX3 w hw
  | 4, hc => cases hc; exact inX4 w hw
  | 5, hc => cases hc; exact inX5 w hw
  | 6, hc => cases hc; exact inX6 w hw
  | 7, hc => cases hc; exact inX7 w hw
  | 8, hc => cases hc; exact inX8 w hw
  | 9, hc => cases hc; exact inX9 w hw
  | 10, hc => cases hc; exact inX10 w hw
  | (j + 11), hc => simp [vwCl] at hc
/-- an entry of a constant pool that names a field: its class, its place, its type, whether it is final -/
def p_F (own : String) (idx ci kf : Nat) (ty : FieldType) (fin : Bool) : Prop := ∃ (C : String) (T : u_T) (N : Nat) (ty0 : Nat → FieldType), vwCl[ci]? = some (C, T, N) ∧ kf < N ∧ Cond.fieldLink own idx (T kf).1 (T kf).2.1 (T kf).2.2.1 ∈ p_ws ∧ (∀ j, j < N → parseFieldDescriptor (T j).2.2.1 = some (ty0 j)) ∧ (∀ a, a < N → ∀ b, b < N → a ≠ b → (T a).2.1 ≠ (T b).2.1) ∧ ty0 kf = ty ∧ (T kf).2.2.2 = fin ∧ (T kf).1 = own
theorem p_F.of {own C : String} {idx ci kf N : Nat} {T : u_T} {ty : FieldType} {fin : Bool} (ty0 : Nat → FieldType) (hc : vwCl[ci]? = some (C, T, N)) (hk : kf < N) (hm : Cond.fieldLink own idx (T kf).1 (T kf).2.1 (T kf).2.2.1 ∈ lw_tbl) (hty : ∀ j, j < N → parseFieldDescriptor (T j).2.2.1 = some (ty0 j)) (hnm : ∀ a, a < N → ∀ b, b < N → a ≠ b → (T a).2.1 ≠ (T b).2.1) (h1 : ty0 kf = ty) (h2 : (T kf).2.2.2 = fin) (h3 : (T kf).1 = own) : p_F own idx ci kf ty fin :=
  ⟨C, T, N, ty0, hc, hk, p_in hm rfl, hty, hnm, h1, h2, h3⟩
/-- the same of another class's field -/
def p_Fo (own : String) (idx ci kf : Nat) (ty : FieldType) (fin : Bool) : Prop := ∃ (C : String) (T : u_T) (N : Nat) (ty0 : Nat → FieldType), vwCl[ci]? = some (C, T, N) ∧ kf < N ∧ Cond.fieldLink own idx (T kf).1 (T kf).2.1 (T kf).2.2.1 ∈ p_ws ∧ (∀ j, j < N → parseFieldDescriptor (T j).2.2.1 = some (ty0 j)) ∧ (∀ a, a < N → ∀ b, b < N → a ≠ b → (T a).2.1 ≠ (T b).2.1) ∧ ty0 kf = ty ∧ (T kf).2.2.2 = fin
theorem p_F.o {own : String} {idx ci kf : Nat} {ty : FieldType} {fin : Bool} (h : p_F own idx ci kf ty fin) : p_Fo own idx ci kf ty fin := by
  obtain ⟨C, T, N, ty0, h1, h2, h3, h4, h5, h6, h7, -⟩ := h
  exact ⟨C, T, N, ty0, h1, h2, h3, h4, h5, h6, h7⟩
theorem p_Fo.of {own C : String} {idx ci kf N : Nat} {T : u_T} {ty : FieldType} {fin : Bool} (ty0 : Nat → FieldType) (hc : vwCl[ci]? = some (C, T, N)) (hk : kf < N) (hm : Cond.fieldLink own idx (T kf).1 (T kf).2.1 (T kf).2.2.1 ∈ lw_tbl) (hty : ∀ j, j < N → parseFieldDescriptor (T j).2.2.1 = some (ty0 j)) (hnm : ∀ a, a < N → ∀ b, b < N → a ≠ b → (T a).2.1 ≠ (T b).2.1) (h1 : ty0 kf = ty) (h2 : (T kf).2.2.2 = fin) : p_Fo own idx ci kf ty fin :=
  ⟨C, T, N, ty0, hc, hk, p_in hm rfl, hty, hnm, h1, h2⟩
theorem r_get {a idx ci kf : Nat} {ty : FieldType} {fin : Bool} {fs : List Value} {v : Value} (hd : decode M.2.1 pc = .ok (.getfield idx, 3)) (hf : p_Fo M.1.cls idx ci kf ty fin) (ha : h a = some (.inr (ci, fs))) (hv : fs[kf]? = some v) (kk : SW G M P d k n h (pc + 3) L (v :: st)) : SW G M P d k n h pc L (.ref a :: st) := by
  intro p e R s m args below meth c H locs cells slots ls C B hS hR hL
  obtain ⟨hx, hb, -, -, -, hown, -, -, hU⟩ := id C
  obtain ⟨Cn, T, N, ty0, hc, hk, hlk, -⟩ := hf
  obtain ⟨ws, hP, hD, hw⟩ := id hR
  obtain ⟨q0, hq⟩ := hw a _ ha
  exact va_get (Ts := p_ws) hx hb (fun w hw => hU.word hw args) (p_inC hc) hown hU.K hP q0 hq hc kf hk (hU.word hlk args) (fun _ h9 => h9) hv hd (kk p e R s m args below meth c H locs cells slots ls C B hS hR hL)
theorem r_put {a idx ci kf : Nat} {ty : FieldType} {fs : List Value} {v : Value} (hd : decode M.2.1 pc = .ok (.putfield idx, 3)) (hf : p_Fo M.1.cls idx ci kf ty false) (ha : h a = some (.inr (ci, fs))) (hn : narrow ty v = v) (hfit : fits ty v = true) (hl : kf < fs.length) (kk : SW G M P d k n (p_up h a (.inr (ci, fs.set kf v))) (pc + 3) L st) : SW G M P d k n h pc L (v :: .ref a :: st) := by
  intro p e R s m args below meth c H locs cells slots ls C B hS hR hL
  obtain ⟨hx, hb, -, -, -, hown, -, -, hU⟩ := id C
  obtain ⟨Cn, T, N, ty0, hc, hk, hlk, hty, hnm, h1, h2⟩ := hf
  obtain ⟨ws, hP, hD, hw⟩ := id hR
  obtain ⟨q0, hq⟩ := hw a _ ha
  exact va_put (Ts := p_ws) hx hb (fun w hw => hU.word hw args) (p_inC hc) ty0 hty hnm hown hU.K hP hD hS q0 hq hc kf hk (hU.word hlk args) (fun _ h9 => h9) h2 (h1 ▸ hty kf hk) hn hfit hl hd
    (fun H1 locs1 hP1 hD1 hS1 => kk p e R s m args below meth c H1 locs1 cells slots ls C B hS1 (p_R.set (e := .inr (ci, fs.set kf v)) hw hq hP1 hD1) hL)
theorem r_putF {a idx ci kf : Nat} {ty : FieldType} {fs : List Value} {v : Value} (hd : decode M.2.1 pc = .ok (.putfield idx, 3)) (hf : p_F M.1.cls idx ci kf ty true) (hi : M.1.name = "<init>") (ha : h a = some (.inr (ci, fs))) (hn : narrow ty v = v) (hfit : fits ty v = true) (hl : kf < fs.length) (kk : SW G M P d k n (p_up h a (.inr (ci, fs.set kf v))) (pc + 3) L st) : SW G M P d k n h pc L (v :: .ref a :: st) := by
  intro p e R s m args below meth c H locs cells slots ls C B hS hR hL
  obtain ⟨hx, hb, -, -, -, hown, hnam, -, hU⟩ := id C
  obtain ⟨Cn, T, N, ty0, hc, hk, hlk, hty, hnm, h1, h2, h3⟩ := hf
  obtain ⟨ws, hP, hD, hw⟩ := id hR
  obtain ⟨q0, hq⟩ := hw a _ ha
  exact va_putF (Ts := p_ws) hx hb (fun w hw => hU.word hw args) (p_inC hc) ty0 hty hnm hown hU.K hP hD hS q0 hq hc kf hk (hU.word hlk args) (fun _ h9 => h9) h2 (hnam.trans hi) h3 (h1 ▸ hty kf hk) hn hfit hl hd
    (fun H1 locs1 hP1 hD1 hS1 => kk p e R s m args below meth c H1 locs1 cells slots ls C B hS1 (p_R.set (e := .inr (ci, fs.set kf v)) hw hq hP1 hD1) hL)

theorem r_iaload {a N : Nat} {f : Nat → Int32} {i : Int32} (hd : decode M.2.1 pc = .ok (.iaload, 1)) (ha : h a = some (.inl (0, (N, .inl f)))) (hi : vp_in i N) (kk : SW G M P d k n h (pc + 1) L (.int (f i.toNatClampNeg) :: st)) : SW G M P d k n h pc L (.int i :: .ref a :: st) := by
  intro p e R s m args below meth c H locs cells slots ls C B hS hR hL
  obtain ⟨hx, hb, -, -, -, hown, -, -, hU⟩ := id C
  obtain ⟨ws, hP, hD, hw⟩ := id hR
  obtain ⟨q0, hq⟩ := hw a _ ha
  exact va_iald hx hb hU.K hP q0 0 hq rfl hi hd (kk p e R s m args below meth c H locs cells slots ls C B hS hR hL)
theorem r_laload {a N : Nat} {f : Nat → Int64} {i : Int32} (hd : decode M.2.1 pc = .ok (.laload, 1)) (ha : h a = some (.inl (1, (N, .inr (.inl f))))) (hi : vp_in i N) (kk : SW G M P d k n h (pc + 1) L (.long (f i.toNatClampNeg) :: st)) : SW G M P d k n h pc L (.int i :: .ref a :: st) := by
  intro p e R s m args below meth c H locs cells slots ls C B hS hR hL
  obtain ⟨hx, hb, -, -, -, hown, -, -, hU⟩ := id C
  obtain ⟨ws, hP, hD, hw⟩ := id hR
  obtain ⟨q0, hq⟩ := hw a _ ha
  exact va_lald hx hb hU.K hP q0 1 hq rfl hi hd (kk p e R s m args below meth c H locs cells slots ls C B hS hR hL)
theorem r_zaload {a N : Nat} {f : Nat → Int32} {i : Int32} (hd : decode M.2.1 pc = .ok (.baload, 1)) (ha : h a = some (.inl (2, (N, .inl f)))) (hi : vp_in i N) (kk : SW G M P d k n h (pc + 1) L (.int (f i.toNatClampNeg) :: st)) : SW G M P d k n h pc L (.int i :: .ref a :: st) := by
  intro p e R s m args below meth c H locs cells slots ls C B hS hR hL
  obtain ⟨hx, hb, -, -, -, hown, -, -, hU⟩ := id C
  obtain ⟨ws, hP, hD, hw⟩ := id hR
  obtain ⟨q0, hq⟩ := hw a _ ha
  exact va_zald hx hb hU.K hP q0 2 hq rfl hi hd (kk p e R s m args below meth c H locs cells slots ls C B hS hR hL)
theorem r_aaload {a N : Nat} {f : Nat → Option Nat} {i : Int32} (hd : decode M.2.1 pc = .ok (.aaload, 1)) (ha : h a = some (.inl (5, (N, .inr (.inr (.inr (.inr f))))))) (hi : vp_in i N) (kk : SW G M P d k n h (pc + 1) L (va_rf (f i.toNatClampNeg) :: st)) : SW G M P d k n h pc L (.int i :: .ref a :: st) := by
  intro p e R s m args below meth c H locs cells slots ls C B hS hR hL
  obtain ⟨hx, hb, -, -, -, hown, -, -, hU⟩ := id C
  obtain ⟨ws, hP, hD, hw⟩ := id hR
  obtain ⟨q0, hq⟩ := hw a _ ha
  exact va_aldq hx hb hU.K hP q0 5 hq rfl hi hd (kk p e R s m args below meth c H locs cells slots ls C B hS hR hL)
theorem r_iastore {a N : Nat} {f : Nat → Int32} {i : Int32} {x : Int32} (hd : decode M.2.1 pc = .ok (.iastore, 1)) (ha : h a = some (.inl (0, (N, .inl f)))) (hi : vp_in i N) (kk : SW G M P d k n (p_up h a (.inl (0, (N, .inl (upd f i.toNatClampNeg x))))) (pc + 1) L st) : SW G M P d k n h pc L (.int x :: .int i :: .ref a :: st) := by
  intro p e R s m args below meth c H locs cells slots ls C B hS hR hL
  obtain ⟨hx, hb, -, -, -, hown, -, -, hU⟩ := id C
  obtain ⟨ws, hP, hD, hw⟩ := id hR
  obtain ⟨q0, hq⟩ := hw a _ ha
  exact va_iast hx hb hU.K hP hD hS q0 0 hq rfl hi hd (fun H1 locs1 hP1 hD1 hS1 => kk p e R s m args below meth c H1 locs1 cells slots ls C B hS1 (p_R.set (e := .inl (0, (N, .inl (upd f i.toNatClampNeg x)))) hw hq hP1 hD1) hL)
theorem r_lastore {a N : Nat} {f : Nat → Int64} {i : Int32} {x : Int64} (hd : decode M.2.1 pc = .ok (.lastore, 1)) (ha : h a = some (.inl (1, (N, .inr (.inl f))))) (hi : vp_in i N) (kk : SW G M P d k n (p_up h a (.inl (1, (N, .inr (.inl (vp_updL f i.toNatClampNeg x)))))) (pc + 1) L st) : SW G M P d k n h pc L (.long x :: .int i :: .ref a :: st) := by
  intro p e R s m args below meth c H locs cells slots ls C B hS hR hL
  obtain ⟨hx, hb, -, -, -, hown, -, -, hU⟩ := id C
  obtain ⟨ws, hP, hD, hw⟩ := id hR
  obtain ⟨q0, hq⟩ := hw a _ ha
  exact va_last hx hb hU.K hP hD hS q0 1 hq rfl hi hd (fun H1 locs1 hP1 hD1 hS1 => kk p e R s m args below meth c H1 locs1 cells slots ls C B hS1 (p_R.set (e := .inl (1, (N, .inr (.inl (vp_updL f i.toNatClampNeg x))))) hw hq hP1 hD1) hL)
theorem r_zastore {a N : Nat} {f : Nat → Int32} {i : Int32} {x : Int32} (hd : decode M.2.1 pc = .ok (.bastore, 1)) (ha : h a = some (.inl (2, (N, .inl f)))) (hi : vp_in i N) (kk : SW G M P d k n (p_up h a (.inl (2, (N, .inl (upd f i.toNatClampNeg (vp_nar .boolean x)))))) (pc + 1) L st) : SW G M P d k n h pc L (.int x :: .int i :: .ref a :: st) := by
  intro p e R s m args below meth c H locs cells slots ls C B hS hR hL
  obtain ⟨hx, hb, -, -, -, hown, -, -, hU⟩ := id C
  obtain ⟨ws, hP, hD, hw⟩ := id hR
  obtain ⟨q0, hq⟩ := hw a _ ha
  exact va_zast hx hb hU.K hP hD hS q0 2 hq rfl hi hd (fun H1 locs1 hP1 hD1 hS1 => kk p e R s m args below meth c H1 locs1 cells slots ls C B hS1 (p_R.set (e := .inl (2, (N, .inl (upd f i.toNatClampNeg (vp_nar .boolean x))))) hw hq hP1 hD1) hL)
theorem r_alen {a t : Nat} {x : vp_A} (hd : decode M.2.1 pc = .ok (.arraylength, 1)) (ha : h a = some (.inl (t, x))) (ht : t < 6) (kk : SW G M P d k n h (pc + 1) L (.int (Int32.ofNat x.1) :: st)) : SW G M P d k n h pc L (.ref a :: st) := by
  intro p e R s m args below meth c H locs cells slots ls C B hS hR hL
  obtain ⟨hx, hb, -, -, -, hown, -, -, hU⟩ := id C
  obtain ⟨ws, hP, hD, hw⟩ := id hR
  obtain ⟨q0, hq⟩ := hw a _ ha
  obtain ⟨ty, hty⟩ : ∃ ty, (p_tys G.2.2.2)[t]? = some (G.2.2.2 t, ty) := by
    match t, ht with
    | 0, _ => exact ⟨_, rfl⟩
    | 1, _ => exact ⟨_, rfl⟩
    | 2, _ => exact ⟨_, rfl⟩
    | 3, _ => exact ⟨_, rfl⟩
    | 4, _ => exact ⟨_, rfl⟩
    | 5, _ => exact ⟨_, rfl⟩
  exact va_alen hx hb hU.K hP q0 t hq hty rfl hd (kk p e R s m args below meth c H locs cells slots ls C B hS hR hL)
end SWrules2
