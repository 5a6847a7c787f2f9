/-! ===== arrays as lists ===== -/
def p_iA (l : List Int32) : p_E := .inl (0, (l.length, .inl (fun j => l.getD j 0)))
def p_jA (l : List Int64) : p_E := .inl (1, (l.length, .inr (.inl (fun j => l.getD j 0))))
def p_zA (l : List Int32) : p_E := .inl (2, (l.length, .inl (fun j => l.getD j 0)))
def p_cA (l : List Int32) : p_E := .inl (3, (l.length, .inl (fun j => l.getD j 0)))
theorem p_getD_set {α : Type} {l : List α} {k : Nat} {x y : α} (hk : k < l.length) : (fun j => (l.set k x).getD j y) = fun j => if j = k then x else l.getD j y := by
  funext j
  simp only [List.getD_eq_getElem?_getD, List.getElem?_set]
  by_cases e : k = j
  · subst e
    simp [hk]
  · have e2 : ¬ j = k := fun z => e z.symm
    simp [e, e2]
theorem p_iA_set {l : List Int32} {k : Nat} {x : Int32} (hk : k < l.length) : p_iA (l.set k x) = .inl (0, (l.length, .inl (upd (fun j => l.getD j 0) k x))) := by
  unfold p_iA upd
  rw [p_getD_set hk, List.length_set]
theorem p_zA_set {l : List Int32} {k : Nat} {x : Int32} (hk : k < l.length) : p_zA (l.set k x) = .inl (2, (l.length, .inl (upd (fun j => l.getD j 0) k x))) := by
  unfold p_zA upd
  rw [p_getD_set hk, List.length_set]
theorem p_cA_set {l : List Int32} {k : Nat} {x : Int32} (hk : k < l.length) : p_cA (l.set k x) = .inl (3, (l.length, .inl (upd (fun j => l.getD j 0) k x))) := by
  unfold p_cA upd
  rw [p_getD_set hk, List.length_set]
theorem p_jA_set {l : List Int64} {k : Nat} {x : Int64} (hk : k < l.length) : p_jA (l.set k x) = .inl (1, (l.length, .inr (.inl (vp_updL (fun j => l.getD j 0) k x)))) := by
  unfold p_jA vp_updL
  rw [p_getD_set hk, List.length_set]
/-! ===== the reference: one object, its numbers V, its rows C and J, at the addresses Y ===== -/
def m_fs (Y : Nat → Nat) (V : Nat → Int32) : List Value := [.ref (Y 0), .ref (Y 1), .ref (Y 2), .ref (Y 3), .int (V 4), .int (V 5), .ref (Y 6), .int (V 7), .int (V 8), .int (V 9), .ref (Y 10), .int (V 11), .int (V 12), .ref (Y 13), .ref (Y 14), .ref (Y 15), .ref (Y 16), .ref (Y 17), .ref (Y 18), .ref (Y 19), .int (V 20), .int (V 21), .int (V 22), .ref (Y 23), .ref (Y 24), .ref (Y 25), .ref (Y 26), .int (V 27), .int (V 28), .ref (Y 29), .ref (Y 30), .int (V 31), .int (V 32), .int (V 33), .int (V 34), .int (V 35), .int (V 36), .ref (Y 37)]
def m_ix : List Nat := [0, 1, 2, 3, 6, 10, 13, 14, 15, 16, 17, 18, 19, 23, 24, 25, 26, 29, 30, 37, 38]
def m_in : List Nat := [4, 5, 7, 8, 9, 11, 12, 20, 21, 22, 27, 28, 31, 32, 33, 34, 35, 36]
def m_cell (Y : Nat → Nat) (V : Nat → Int32) (C : Nat → List Int32) (J : List Int64) (i : Nat) : p_E := if i = 38 then .inr (11, m_fs Y V) else if i = 29 then p_jA J else if i = 10 then p_cA (C 10) else if i = 30 then p_zA (C 30) else p_iA (C i)
def m_At (Y : Nat → Nat) (V : Nat → Int32) (C : Nat → List Int32) (J : List Int64) (h : p_H) : Prop := (∀ i, i ∈ m_ix → h (Y i) = some (m_cell Y V C J i)) ∧ ∀ i, i ∈ m_ix → ∀ j, j ∈ m_ix → Y i = Y j → i = j
/-- all but the reference's cells are as they were -/
def m_Fr (Y : Nat → Nat) (h0 h : p_H) : Prop := ∀ q : Nat, (∀ i, i ∈ m_ix → q ≠ Y i) → h q = h0 q
abbrev m_P : Type := (Option Value) ⊕ String → (Nat → Int32) → (Nat → List Int32) → List Int64 → Prop
def m_E (Y : Nat → Nat) (h0 : p_H) (P : m_P) : p_P := fun o h => ∃ (V : Nat → Int32) (C : Nat → List Int32) (J : List Int64), P o V C J ∧ m_At Y V C J h ∧ m_Fr Y h0 h
def MW (G : p_G) (M : p_M) (Y : Nat → Nat) (P : m_P) (d pc : Nat) (L : p_LL) (st : List Value) (V : Nat → Int32) (C : Nat → List Int32) (J : List Int64) : Prop :=
  ∀ h0 h : p_H, m_At Y V C J h → m_Fr Y h0 h → SW G M (m_E Y h0 P) d 0 0 h pc L st
def MM (G : p_G) (M : p_M) (Y : Nat → Nat) (As : List Value) (d : Nat) (P : m_P) (V : Nat → Int32) (C : Nat → List Int32) (J : List Int64) : Prop :=
  ∀ h0 h : p_H, m_At Y V C J h → m_Fr Y h0 h → SM G M h As d 0 0 (m_E Y h0 P)
theorem m_set {Y : Nat → Nat} {V : Nat → Int32} {kf : Nat} {x : Int32} (hk : kf ∈ m_in) : (m_fs Y V).set kf (.int x) = m_fs Y (upd V kf x) := by
  simp only [m_in, List.mem_cons, List.not_mem_nil, or_false] at hk
  rcases hk with rfl | rfl | rfl | rfl | rfl | rfl | rfl | rfl | rfl | rfl | rfl | rfl | rfl | rfl | rfl | rfl | rfl | rfl <;> rfl
theorem m_V {Y : Nat → Nat} {V : Nat → Int32} {kf : Nat} (hk : kf ∈ m_in) : (m_fs Y V)[kf]? = some (.int (V kf)) := by
  simp only [m_in, List.mem_cons, List.not_mem_nil, or_false] at hk
  rcases hk with rfl | rfl | rfl | rfl | rfl | rfl | rfl | rfl | rfl | rfl | rfl | rfl | rfl | rfl | rfl | rfl | rfl | rfl <;> rfl
theorem m_in_lt {kf : Nat} (hk : kf ∈ m_in) : kf < 38 := by
  simp only [m_in, List.mem_cons, List.not_mem_nil, or_false] at hk
  omega
theorem m_At.put {Y : Nat → Nat} {V V' : Nat → Int32} {C C' : Nat → List Int32} {J J' : List Int64} {h : p_H} {i : Nat} {e : p_E} (hA : m_At Y V C J h) (hi : i ∈ m_ix) (he : e = m_cell Y V' C' J' i) (ho : ∀ j, j ∈ m_ix → j ≠ i → m_cell Y V' C' J' j = m_cell Y V C J j) : m_At Y V' C' J' (p_up h (Y i) e) := by
  refine ⟨fun j hj => ?_, hA.2⟩
  by_cases z : j = i
  · subst z
    rw [p_up_eq, he]
  · rw [p_up_ne (fun y => z (hA.2 j hj i hi y)), ho j hj z]
    exact hA.1 j hj
theorem m_Fr.put {Y : Nat → Nat} {h0 h : p_H} {i : Nat} {e : p_E} (hF : m_Fr Y h0 h) (hi : i ∈ m_ix) : m_Fr Y h0 (p_up h (Y i) e) := fun q hq => by
  rw [p_up_ne (hq i hi)]
  exact hF q hq
def m_uc (C : Nat → List Int32) (k : Nat) (l : List Int32) : Nat → List Int32 := fun j => if j = k then l else C j
section MWrules
variable {G : p_G} {M : p_M} {Y : Nat → Nat} {P : m_P} {d pc : Nat} {L : p_LL} {st : List Value} {V : Nat → Int32} {C : Nat → List Int32} {J : List Int64}
theorem MW.up {pc' : Nat} {L' : p_LL} {st' : List Value} (f : ∀ {P' : p_P} {h : p_H}, SW G M P' d 0 0 h pc' L' st' → SW G M P' d 0 0 h pc L st) (kk : MW G M Y P d pc' L' st' V C J) : MW G M Y P d pc L st V C J := fun h0 h hA hF => f (kk h0 h hA hF)
theorem MW.up2 {c1 c2 : Prop} {pt pf : Nat} {st' : List Value} (f : ∀ {P' : p_P} {h : p_H}, (c1 → SW G M P' d 0 0 h pt L st') → (c2 → SW G M P' d 0 0 h pf L st') → SW G M P' d 0 0 h pc L st) (kt : c1 → MW G M Y P d pt L st' V C J) (kf : c2 → MW G M Y P d pf L st' V C J) : MW G M Y P d pc L st V C J := fun h0 h hA hF => f (fun c => kt c h0 h hA hF) (fun c => kf c h0 h hA hF)
theorem MW.wk {L' : p_LL} (hs : ∀ (i : Nat) (v : Value), L'[i]? = some (some v) → L[i]? = some (some v)) (kk : MW G M Y P d pc L' st V C J) : MW G M Y P d pc L st V C J := MW.up (fun k => SW.wk hs k) kk
theorem MW.ti {x y : Int32} (e : x = y) (kk : MW G M Y P d pc L (.int y :: st) V C J) : MW G M Y P d pc L (.int x :: st) V C J := e ▸ kk
theorem MW.tj {x y : Int64} (e : x = y) (kk : MW G M Y P d pc L (.long y :: st) V C J) : MW G M Y P d pc L (.long x :: st) V C J := e ▸ kk
theorem MW.lk {L' : p_LL} (e : L = L') (kk : MW G M Y P d pc L' st V C J) : MW G M Y P d pc L st V C J := e ▸ kk
theorem MW.room {d' : Nat} (hd : d' ≤ d) (kk : MW G M Y P d' pc L st V C J) : MW G M Y P d pc L st V C J := fun h0 h hA hF => SW.room hd (Nat.le_refl _) (Nat.le_refl _) (kk h0 h hA hF)
theorem t_getI {idx kf : Nat} {ty : FieldType} {fin : Bool} (hd : decode M.2.1 pc = .ok (.getfield idx, 3)) (hf : p_Fo M.1.cls idx 11 kf ty fin) (hk : kf ∈ m_in) (kk : MW G M Y P d (pc + 3) L (.int (V kf) :: st) V C J) : MW G M Y P d pc L (.ref (Y 38) :: st) V C J :=
  fun h0 h hA hF => r_get hd hf (hA.1 38 (by decide)) (m_V hk) (kk h0 h hA hF)
theorem t_getA {idx kf : Nat} {ty : FieldType} {fin : Bool} (hd : decode M.2.1 pc = .ok (.getfield idx, 3)) (hf : p_Fo M.1.cls idx 11 kf ty fin) (hv : (m_fs Y V)[kf]? = some (.ref (Y kf))) (kk : MW G M Y P d (pc + 3) L (.ref (Y kf) :: st) V C J) : MW G M Y P d pc L (.ref (Y 38) :: st) V C J :=
  fun h0 h hA hF => r_get hd hf (hA.1 38 (by decide)) hv (kk h0 h hA hF)
theorem t_put {idx kf : Nat} {ty : FieldType} {x : Int32} (hd : decode M.2.1 pc = .ok (.putfield idx, 3)) (hf : p_Fo M.1.cls idx 11 kf ty false) (hk : kf ∈ m_in) (hn : narrow ty (.int x) = .int x) (hfit : fits ty (.int x) = true) (kk : MW G M Y P d (pc + 3) L st (upd V kf x) C J) : MW G M Y P d pc L (.int x :: .ref (Y 38) :: st) V C J :=
  fun h0 h hA hF => r_put hd hf (hA.1 38 (by decide)) hn hfit (m_in_lt hk) (kk h0 _ (hA.put (by decide) (by rw [m_set hk]; rfl) (fun j _ hj => by unfold m_cell; rw [if_neg hj, if_neg hj])) (hF.put (by decide)))

theorem t_iald {kf : Nat} {i : Int32} {j : Nat} (hd : decode M.2.1 pc = .ok (.iaload, 1)) (h1 : kf ∈ m_ix) (h2 : kf ≠ 38 ∧ kf ≠ 29 ∧ kf ≠ 10 ∧ kf ≠ 30) (hi : i = nI j) (hj : j < (C kf).length) (hb : (C kf).length < 60000) (kk : MW G M Y P d (pc + 1) L (.int ((C kf).getD j 0) :: st) V C J) : MW G M Y P d pc L (.int i :: .ref (Y kf) :: st) V C J := by
  intro h0 h hA hF
  subst hi
  refine r_iaload (N := (C kf).length) (f := fun j => (C kf).getD j 0) hd (by rw [hA.1 kf h1]; unfold m_cell; rw [if_neg h2.1, if_neg h2.2.1, if_neg h2.2.2.1, if_neg h2.2.2.2]; rfl) (vp_in_nI hj (by omega)) ?_
  rw [nI_clamp (by omega)]
  exact kk h0 h hA hF
theorem t_cald {i : Int32} {j : Nat} (hd : decode M.2.1 pc = .ok (.caload, 1))  (hi : i = nI j) (hj : j < (C 10).length) (hb : (C 10).length < 60000) (kk : MW G M Y P d (pc + 1) L (.int ((C 10).getD j 0) :: st) V C J) : MW G M Y P d pc L (.int i :: .ref (Y 10) :: st) V C J := by
  intro h0 h hA hF
  subst hi
  refine r_caload (N := (C 10).length) (f := fun j => (C 10).getD j 0) hd (hA.1 10 (by decide)) (vp_in_nI hj (by omega)) ?_
  rw [nI_clamp (by omega)]
  exact kk h0 h hA hF
theorem t_zald {i : Int32} {j : Nat} (hd : decode M.2.1 pc = .ok (.baload, 1))  (hi : i = nI j) (hj : j < (C 30).length) (hb : (C 30).length < 60000) (kk : MW G M Y P d (pc + 1) L (.int ((C 30).getD j 0) :: st) V C J) : MW G M Y P d pc L (.int i :: .ref (Y 30) :: st) V C J := by
  intro h0 h hA hF
  subst hi
  refine r_zaload (N := (C 30).length) (f := fun j => (C 30).getD j 0) hd (hA.1 30 (by decide)) (vp_in_nI hj (by omega)) ?_
  rw [nI_clamp (by omega)]
  exact kk h0 h hA hF
theorem t_lald {i : Int32} {j : Nat} (hd : decode M.2.1 pc = .ok (.laload, 1)) (hi : i = nI j) (hj : j < J.length) (hb : J.length < 60000) (kk : MW G M Y P d (pc + 1) L (.long (J.getD j 0) :: st) V C J) : MW G M Y P d pc L (.int i :: .ref (Y 29) :: st) V C J := by
  intro h0 h hA hF
  subst hi
  refine r_laload (N := J.length) (f := fun j => J.getD j 0) hd (hA.1 29 (by decide)) (vp_in_nI hj (by omega)) ?_
  rw [nI_clamp (by omega)]
  exact kk h0 h hA hF
theorem t_last {i : Int32} {x : Int64} {j : Nat} (hd : decode M.2.1 pc = .ok (.lastore, 1)) (hi : i = nI j) (hj : j < J.length) (hb : J.length < 60000) (kk : MW G M Y P d (pc + 1) L st V C (J.set j x)) : MW G M Y P d pc L (.long x :: .int i :: .ref (Y 29) :: st) V C J := by
  intro h0 h hA hF
  subst hi
  refine r_lastore (N := J.length) (f := fun j => J.getD j 0) hd (hA.1 29 (by decide)) (vp_in_nI hj (by omega)) ?_
  rw [nI_clamp (by omega)]
  refine kk h0 _ (hA.put (by decide) (p_jA_set hj).symm (fun q _ hq => ?_)) (hF.put (by decide))
  unfold m_cell
  rw [if_neg hq, if_neg hq]
theorem t_iast {kf : Nat} {i x : Int32} {j : Nat} (hd : decode M.2.1 pc = .ok (.iastore, 1)) (h1 : kf ∈ m_ix) (h2 : kf ≠ 38 ∧ kf ≠ 29 ∧ kf ≠ 10 ∧ kf ≠ 30) (hi : i = nI j) (hj : j < (C kf).length) (hb : (C kf).length < 60000) (kk : MW G M Y P d (pc + 1) L st V (m_uc C kf ((C kf).set j x)) J) : MW G M Y P d pc L (.int x :: .int i :: .ref (Y kf) :: st) V C J := by
  intro h0 h hA hF
  subst hi
  refine r_iastore (N := (C kf).length) (f := fun j => (C kf).getD j 0) hd (by rw [hA.1 kf h1]; unfold m_cell; rw [if_neg h2.1, if_neg h2.2.1, if_neg h2.2.2.1, if_neg h2.2.2.2]; rfl) (vp_in_nI hj (by omega)) ?_
  rw [nI_clamp (by omega)]
  refine kk h0 _ (hA.put h1 ?_ (fun q _ hq => ?_)) (hF.put h1)
  · unfold m_cell m_uc
    rw [if_neg h2.1, if_neg h2.2.1, if_neg h2.2.2.1, if_neg h2.2.2.2, if_pos rfl]
    exact (p_iA_set hj).symm
  · unfold m_cell m_uc
    rw [if_neg (Ne.symm h2.2.2.1), if_neg (Ne.symm h2.2.2.2), if_neg hq]
theorem t_cast {i x : Int32} {j : Nat} (hd : decode M.2.1 pc = .ok (.castore, 1)) (hx : vp_nar .char x = x) (hi : i = nI j) (hj : j < (C 10).length) (hb : (C 10).length < 60000) (kk : MW G M Y P d (pc + 1) L st V (m_uc C 10 ((C 10).set j x)) J) : MW G M Y P d pc L (.int x :: .int i :: .ref (Y 10) :: st) V C J := by
  intro h0 h hA hF
  subst hi
  refine r_castore (N := (C 10).length) (f := fun j => (C 10).getD j 0) hd (hA.1 10 (by decide)) (vp_in_nI hj (by omega)) ?_
  rw [nI_clamp (by omega), hx]
  refine kk h0 _ (hA.put (by decide) (p_cA_set hj).symm (fun q _ hq => ?_)) (hF.put (by decide))
  unfold m_cell m_uc
  by_cases z : q = 38
  · rw [if_pos z, if_pos z]
  · rw [if_neg hq, if_neg (show ¬ (30 = 10) by decide), if_neg hq, if_neg hq]
theorem t_zast {i x : Int32} {j : Nat} (hd : decode M.2.1 pc = .ok (.bastore, 1)) (hx : vp_nar .boolean x = x) (hi : i = nI j) (hj : j < (C 30).length) (hb : (C 30).length < 60000) (kk : MW G M Y P d (pc + 1) L st V (m_uc C 30 ((C 30).set j x)) J) : MW G M Y P d pc L (.int x :: .int i :: .ref (Y 30) :: st) V C J := by
  intro h0 h hA hF
  subst hi
  refine r_zastore (N := (C 30).length) (f := fun j => (C 30).getD j 0) hd (hA.1 30 (by decide)) (vp_in_nI hj (by omega)) ?_
  rw [nI_clamp (by omega), hx]
  refine kk h0 _ (hA.put (by decide) (p_zA_set hj).symm (fun q _ hq => ?_)) (hF.put (by decide))
  unfold m_cell m_uc
  simp [hq]
/-- ends -/
theorem t_ireturn {v : Int32} {ty : FieldType} (hd : decode M.2.1 pc = .ok (.ireturn, 1)) (hr : M.2.2.2 = some ty) (hn : narrow ty (.int v) = .int v) (hp : P (.inl (some (.int v))) V C J) : MW G M Y P d pc L [.int v] V C J := fun h0 h hA hF => r_ireturn hd hr hn ⟨V, C, J, hp, hA, hF⟩
theorem t_lreturn {v : Int64} (hd : decode M.2.1 pc = .ok (.lreturn, 1)) (hr : M.2.2.2 = some .long) (hp : P (.inl (some (.long v))) V C J) : MW G M Y P d pc L [.long v] V C J := fun h0 h hA hF => r_lreturn hd hr ⟨V, C, J, hp, hA, hF⟩
theorem t_freturn {v : UInt32} (hd : decode M.2.1 pc = .ok (.freturn, 1)) (hr : M.2.2.2 = some .float) (hp : P (.inl (some (.float v))) V C J) : MW G M Y P d pc L [.float v] V C J := fun h0 h hA hF => r_freturn hd hr ⟨V, C, J, hp, hA, hF⟩
theorem t_dreturn {v : UInt64} (hd : decode M.2.1 pc = .ok (.dreturn, 1)) (hr : M.2.2.2 = some .double) (hp : P (.inl (some (.double v))) V C J) : MW G M Y P d pc L [.double v] V C J := fun h0 h hA hF => r_dreturn hd hr ⟨V, C, J, hp, hA, hF⟩
theorem t_return (hd : decode M.2.1 pc = .ok (.return_, 1)) (hr : M.2.2.2 = none) (hp : P (.inl none) V C J) : MW G M Y P d pc L [] V C J := fun h0 h hA hF => r_return hd hr ⟨V, C, J, hp, hA, hF⟩
theorem MM.of {As : List Value} {na : Nat} (hc : p_cf M na) (hL : p_ini As M.2.2.1 = L) (hl : (lg_sl As).length ≤ M.2.2.1) (kk : MW G M Y P d 0 L [] V C J) : MM G M Y As d P V C J := fun h0 h hA hF => SM.of2 hc hL hl (kk h0 h hA hF)
/-- a call's end -/
def m_K (G : p_G) (M : p_M) (Y : Nat → Nat) (P : m_P) (d pc : Nat) (L : p_LL) (rest : List Value) : m_P := fun o V C J => match o with
  | .inl none => MW G M Y P d pc L rest V C J
  | .inl (some v) => MW G M Y P d pc L (v :: rest) V C J
  | .inr _ => False
theorem m_kv {v : Value} (kk : MW G M Y P d pc L (v :: st) V C J) : m_K G M Y P d pc L st (.inl (some v)) V C J := kk
theorem m_k0 (kk : MW G M Y P d pc L st V C J) : m_K G M Y P d pc L st (.inl none) V C J := kk
theorem m_goes {h0 : p_H} : ∀ (o : (Option Value) ⊕ String) (h' : p_H), m_E Y h0 (m_K G M Y P d pc L st) o h' → p_K G M (m_E Y h0 P) d 0 0 pc L st o h' := by
  intro o h' hq
  obtain ⟨V', C', J', q1, q2, q3⟩ := hq
  match o, q1 with
  | .inl none, q1 => exact q1 h0 h' q2 q3
  | .inl (some v), q1 => exact q1 h0 h' q2 q3
theorem t_callV {M' : p_M} {na d' idx : Nat} {As rest : List Value} (hd : decode M.2.1 pc = .ok (.invokevirtual idx, 3)) (hc : p_cf M' na) (hi : Cond.instanceMethod M'.1 ∈ p_ws) (hse : Cond.selects M'.1.cls M'.1 M'.1 ∈ p_ws) (hl : Cond.methodLink M.1.cls idx M'.1 ∈ p_ws) (hq1 : RX11 = M'.1.cls) (hn : As.length = na) (he : st = As.reverse ++ .ref (Y 38) :: rest) (hr : (rest.map fun v => v.category).sum ≤ 8)
    (kk : MM G M' Y (.ref (Y 38) :: As) d' (m_K G M Y P (d' + 1) (pc + 3) L rest) V C J) : MW G M Y P (d' + 1) pc L st V C J :=
  fun h0 h hA hF => r_callV (mc := 0) (ms := 0) hd hc hi hse hl (hA.1 38 (by decide)) (q := (RX11, TX11, 38)) rfl hq1 hn he hr (Nat.zero_add _).symm (Nat.zero_add _).symm ((kk h0 h hA hF).mono m_goes)
theorem t_callS {M' : p_M} {na d' idx : Nat} {As rest : List Value} (hd : decode M.2.1 pc = .ok (.invokestatic idx, 3)) (hc : p_cf M' na) (hs : Cond.static M'.1 ∈ p_ws) (hl : Cond.methodLink M.1.cls idx M'.1 ∈ p_ws) (hn : As.length = na) (he : st = As.reverse ++ rest) (hr : (rest.map fun v => v.category).sum ≤ 8)
    (kk : MM G M' Y As d' (m_K G M Y P (d' + 1) (pc + 3) L rest) V C J) : MW G M Y P (d' + 1) pc L st V C J :=
  fun h0 h hA hF => r_callS (mc := 0) (ms := 0) hd hc hs hl hn he hr (Nat.zero_add _).symm (Nat.zero_add _).symm ((kk h0 h hA hF).mono m_goes)
theorem MM.mono {As : List Value} {P' : m_P} (kk : MM G M Y As d P' V C J) (hP : ∀ o V C J, P' o V C J → P o V C J) : MM G M Y As d P V C J := fun h0 h hA hF => (kk h0 h hA hF).mono (fun o h' hq => by
  obtain ⟨V', C', J', q1, q2, q3⟩ := hq
  exact ⟨V', C', J', hP _ _ _ _ q1, q2, q3⟩)
end MWrules
