/-! ===== the reference: one object, its numbers V, its rows C and J, at the addresses Y ===== -/
abbrev m_X : Type := (Nat → Int) × (Nat → Int → Int) × (Int → Int)
def m_fs (Y : Nat → Nat) (V : Nat → Int) : List Value := [.ref (Y 0), .ref (Y 1), .ref (Y 2), .ref (Y 3), .int (iI (V 4)), .int (iI (V 5)), .ref (Y 6), .int (iI (V 7)), .int (iI (V 8)), .int (iI (V 9)), .ref (Y 10), .int (iI (V 11)), .int (iI (V 12)), .ref (Y 13), .ref (Y 14), .ref (Y 15), .ref (Y 16), .ref (Y 17), .ref (Y 18), .ref (Y 19), .int (iI (V 20)), .int (iI (V 21)), .int (iI (V 22)), .ref (Y 23), .ref (Y 24), .ref (Y 25), .ref (Y 26), .int (iI (V 27)), .int (iI (V 28)), .ref (Y 29), .ref (Y 30), .int (iI (V 31)), .int (iI (V 32)), .int (iI (V 33)), .int (iI (V 34)), .int (iI (V 35)), .int (iI (V 36)), .ref (Y 37)]
def m_ix : List Nat := [0, 1, 2, 3, 6, 10, 13, 14, 15, 16, 17, 18, 19, 23, 24, 25, 26, 29, 30, 37, 38]
def m_in : List Nat := [4, 5, 7, 8, 9, 11, 12, 20, 21, 22, 27, 28, 31, 32, 33, 34, 35, 36]
def m_len (i : Nat) : Nat := if i = 0 then 985 else if i = 1 then 985 else if i = 2 then 7880 else if i = 3 then 985 else if i = 6 then 200 else if i = 10 then 3600 else if i = 13 then 1400 else if i = 14 then 2800 else if i = 15 then 2800 else if i = 16 then 1400 else if i = 17 then 1400 else if i = 18 then 1400 else if i = 19 then 25 else if i = 23 then 3600 else if i = 24 then 3600 else if i = 25 then 3600 else if i = 26 then 3600 else if i = 29 then 1260 else if i = 30 then 3600 else if i = 37 then 3600 else 0
theorem m_ite {c : Prop} [Decidable c] {a b n : Nat} (h1 : a < n) (h2 : b < n) : (if c then a else b) < n := by
  split
  · exact h1
  · exact h2
theorem m_len_lt (i : Nat) : m_len i < 60000 := by
  unfold m_len
  repeat refine m_ite (by omega) ?_
  omega
def m_cell (Y : Nat → Nat) (X : m_X) (i : Nat) : p_E := if i = 38 then .inr (11, m_fs Y X.1) else if i = 29 then .inl (1, (1260, .inr (.inl (fun j => lI (X.2.2 (j : Int)))))) else if i = 10 then .inl (3, (3600, .inl (fun j => iI (X.2.1 10 (j : Int))))) else if i = 30 then .inl (2, (3600, .inl (fun j => iI (X.2.1 30 (j : Int))))) else .inl (0, (m_len i, .inl (fun j => iI (X.2.1 i (j : Int)))))
def m_At (Y : Nat → Nat) (X : m_X) (h : p_H) : Prop := (∀ i, i ∈ m_ix → h (Y i) = some (m_cell Y X i)) ∧ ∀ i, i ∈ m_ix → ∀ j, j ∈ m_ix → Y i = Y j → i = j
/-- all but the reference's cells are as they were -/
def m_Fr (Y : Nat → Nat) (h0 h : p_H) : Prop := ∀ q : Nat, (∀ i, i ∈ m_ix → q ≠ Y i) → h q = h0 q
def m_I (Y : Nat → Nat) (h0 : p_H) : m_X → p_H → Prop := fun X h => m_At Y X h ∧ m_Fr Y h0 h
theorem m_set {Y : Nat → Nat} {V : Nat → Int} {kf : Nat} {x : Int} (hk : kf ∈ m_in) : (m_fs Y V).set kf (.int (iI x)) = m_fs Y (vu V kf x) := by
  simp only [m_in, List.mem_cons, List.not_mem_nil, or_false] at hk
  rcases hk with rfl | rfl | rfl | rfl | rfl | rfl | rfl | rfl | rfl | rfl | rfl | rfl | rfl | rfl | rfl | rfl | rfl | rfl <;> rfl
theorem m_V {Y : Nat → Nat} {V : Nat → Int} {kf : Nat} (hk : kf ∈ m_in) : (m_fs Y V)[kf]? = some (.int (iI (V kf))) := by
  simp only [m_in, List.mem_cons, List.not_mem_nil, or_false] at hk
  rcases hk with rfl | rfl | rfl | rfl | rfl | rfl | rfl | rfl | rfl | rfl | rfl | rfl | rfl | rfl | rfl | rfl | rfl | rfl <;> rfl
theorem m_in_lt {kf : Nat} (hk : kf ∈ m_in) : kf < 38 := by
  simp only [m_in, List.mem_cons, List.not_mem_nil, or_false] at hk
  omega
theorem m_I.put {Y : Nat → Nat} {h0 h : p_H} {X X' : m_X} {i : Nat} {e : p_E} (hA : m_I Y h0 X h) (hi : i ∈ m_ix) (he : e = m_cell Y X' i) (ho : ∀ j, j ∈ m_ix → j ≠ i → m_cell Y X' j = m_cell Y X j) : m_I Y h0 X' (p_up h (Y i) e) := by
  refine ⟨⟨fun j hj => ?_, hA.1.2⟩, fun q hq => ?_⟩
  · by_cases z : j = i
    · subst z
      rw [p_up_eq, he]
    · rw [p_up_ne (fun y => z (hA.1.2 j hj i hi y)), ho j hj z]
      exact hA.1.1 j hj
  · rw [p_up_ne (hq i hi)]
    exact hA.2 q hq
section MRrules
variable {G : p_G} {M : p_M} {Y : Nat → Nat} {h0 : p_H} {P : (Option Value) ⊕ String → m_X → Prop} {d pc : Nat} {L : p_LL} {st : List Value} {V : Nat → Int} {C : Nat → Int → Int} {J : Int → Int}
theorem t_getI {idx kf : Nat} {ty : FieldType} {fin : Bool} {v : Int} (hd : decode M.2.1 pc = .ok (.getfield idx, 3)) (hf : p_Fo M.1.cls idx 11 kf ty fin) (hk : kf ∈ m_in) (hv : V kf = v) (kk : RW G M (m_I Y h0) P d 0 0 (pc + 3) L (.int (iI v) :: st) (V, C, J)) : RW G M (m_I Y h0) P d 0 0 pc L (.ref (Y 38) :: st) (V, C, J) :=
  fun h hI => r_get hd hf (hI.1.1 38 (by decide)) (m_V hk) (by show SW G M _ d 0 0 h (pc + 3) L (.int (iI (V kf)) :: st); rw [hv]; exact kk h hI)
theorem t_getA {idx kf : Nat} {ty : FieldType} {fin : Bool} (hd : decode M.2.1 pc = .ok (.getfield idx, 3)) (hf : p_Fo M.1.cls idx 11 kf ty fin) (hv : (m_fs Y V)[kf]? = some (.ref (Y kf))) (kk : RW G M (m_I Y h0) P d 0 0 (pc + 3) L (.ref (Y kf) :: st) (V, C, J)) : RW G M (m_I Y h0) P d 0 0 pc L (.ref (Y 38) :: st) (V, C, J) :=
  fun h hI => r_get hd hf (hI.1.1 38 (by decide)) hv (kk h hI)
theorem t_put {idx kf : Nat} {ty : FieldType} {x : Int} (hd : decode M.2.1 pc = .ok (.putfield idx, 3)) (hf : p_Fo M.1.cls idx 11 kf ty false) (hk : kf ∈ m_in) (hn : narrow ty (.int (iI x)) = .int (iI x)) (hfit : fits ty (.int (iI x)) = true) (kk : RW G M (m_I Y h0) P d 0 0 (pc + 3) L st (vu V kf x, C, J)) : RW G M (m_I Y h0) P d 0 0 pc L (.int (iI x) :: .ref (Y 38) :: st) (V, C, J) :=
  fun h hI => r_put hd hf (hI.1.1 38 (by decide)) hn hfit (m_in_lt hk) (kk _ (hI.put (by decide) (by rw [m_set hk]; rfl) (fun j _ hj => by unfold m_cell; rw [if_neg hj, if_neg hj])))
theorem t_iald {kf N : Nat} {j v : Int} (hd : decode M.2.1 pc = .ok (.iaload, 1)) (h1 : kf ∈ m_ix) (h2 : kf ≠ 38 ∧ kf ≠ 29 ∧ kf ≠ 10 ∧ kf ≠ 30) (hN : m_len kf = N) (hj : 0 ≤ j ∧ j < (N : Int)) (hv : C kf j = v) (kk : RW G M (m_I Y h0) P d 0 0 (pc + 1) L (.int (iI v) :: st) (V, C, J)) : RW G M (m_I Y h0) P d 0 0 pc L (.int (iI j) :: .ref (Y kf) :: st) (V, C, J) := by
  intro h hI
  have hb := m_len_lt kf
  rw [hN] at hb
  refine r_iaload (N := N) (f := fun j => iI (C kf j)) hd (by rw [hI.1.1 kf h1]; unfold m_cell; rw [if_neg h2.1, if_neg h2.2.1, if_neg h2.2.2.1, if_neg h2.2.2.2, hN]) (iI_in hj.1 hj.2 (by omega)) ?_
  rw [iI_clamp hj.1 (by omega)]
  show SW G M _ d 0 0 h (pc + 1) L (.int (iI (C kf (j.toNat : Int))) :: st)
  rw [Int.toNat_of_nonneg hj.1, hv]
  exact kk h hI
theorem t_zald {j v : Int} (hd : decode M.2.1 pc = .ok (.baload, 1)) (hj : 0 ≤ j ∧ j < 3600) (hv : C 30 j = v) (kk : RW G M (m_I Y h0) P d 0 0 (pc + 1) L (.int (iI v) :: st) (V, C, J)) : RW G M (m_I Y h0) P d 0 0 pc L (.int (iI j) :: .ref (Y 30) :: st) (V, C, J) := by
  intro h hI
  refine r_zaload (N := 3600) (f := fun j => iI (C 30 j)) hd (hI.1.1 30 (by decide)) (iI_in hj.1 hj.2 (by omega)) ?_
  rw [iI_clamp hj.1 (by omega)]
  show SW G M _ d 0 0 h (pc + 1) L (.int (iI (C 30 (j.toNat : Int))) :: st)
  rw [Int.toNat_of_nonneg hj.1, hv]
  exact kk h hI
theorem t_lald {j v : Int} (hd : decode M.2.1 pc = .ok (.laload, 1)) (hj : 0 ≤ j ∧ j < 1260) (hv : J j = v) (kk : RW G M (m_I Y h0) P d 0 0 (pc + 1) L (.long (lI v) :: st) (V, C, J)) : RW G M (m_I Y h0) P d 0 0 pc L (.int (iI j) :: .ref (Y 29) :: st) (V, C, J) := by
  intro h hI
  refine r_laload (N := 1260) (f := fun j => lI (J j)) hd (hI.1.1 29 (by decide)) (iI_in hj.1 hj.2 (by omega)) ?_
  rw [iI_clamp hj.1 (by omega)]
  show SW G M _ d 0 0 h (pc + 1) L (.long (lI (J (j.toNat : Int))) :: st)
  rw [Int.toNat_of_nonneg hj.1, hv]
  exact kk h hI
theorem t_last {j x : Int} (hd : decode M.2.1 pc = .ok (.lastore, 1)) (hj : 0 ≤ j ∧ j < 1260) (kk : RW G M (m_I Y h0) P d 0 0 (pc + 1) L st (V, C, zu J j x)) : RW G M (m_I Y h0) P d 0 0 pc L (.long (lI x) :: .int (iI j) :: .ref (Y 29) :: st) (V, C, J) := by
  intro h hI
  refine r_lastore (N := 1260) (f := fun j => lI (J j)) hd (hI.1.1 29 (by decide)) (iI_in hj.1 hj.2 (by omega)) ?_
  rw [iI_clamp hj.1 (by omega), zu_updL hj.1]
  refine kk _ (hI.put (i := 29) (by decide) rfl (fun q _ hq => ?_))
  unfold m_cell
  rw [if_neg hq, if_neg hq]
theorem t_iast {kf N : Nat} {j x : Int} (hd : decode M.2.1 pc = .ok (.iastore, 1)) (h1 : kf ∈ m_ix) (h2 : kf ≠ 38 ∧ kf ≠ 29 ∧ kf ≠ 10 ∧ kf ≠ 30) (hN : m_len kf = N) (hj : 0 ≤ j ∧ j < (N : Int)) (kk : RW G M (m_I Y h0) P d 0 0 (pc + 1) L st (V, cu C kf (zu (C kf) j x), J)) : RW G M (m_I Y h0) P d 0 0 pc L (.int (iI x) :: .int (iI j) :: .ref (Y kf) :: st) (V, C, J) := by
  intro h hI
  have hb := m_len_lt kf
  rw [hN] at hb
  refine r_iastore (N := N) (f := fun j => iI (C kf j)) hd (by rw [hI.1.1 kf h1]; unfold m_cell; rw [if_neg h2.1, if_neg h2.2.1, if_neg h2.2.2.1, if_neg h2.2.2.2, hN]) (iI_in hj.1 hj.2 (by omega)) ?_
  rw [iI_clamp hj.1 (by omega), zu_upd hj.1]
  refine kk _ (hI.put h1 ?_ (fun q _ hq => ?_))
  · unfold m_cell cu
    simp only []
    rw [if_neg h2.1, if_neg h2.2.1, if_neg h2.2.2.1, if_neg h2.2.2.2, if_pos trivial, hN]
  · unfold m_cell cu
    simp only []
    rw [if_neg (Ne.symm h2.2.2.1), if_neg (Ne.symm h2.2.2.2), if_neg hq]
theorem cu_cu {C : Nat → Int → Int} {k : Nat} {f g : Int → Int} : cu (cu C k f) k g = cu C k g := by
  funext j
  unfold cu
  by_cases e : j = k
  · rw [if_pos e, if_pos e]
  · rw [if_neg e, if_neg e, if_neg e]
theorem cu_at {C : Nat → Int → Int} {k : Nat} {f : Int → Int} : cu C k f k = f := if_pos rfl
theorem t_iast2 {kf N : Nat} {j x : Int} {f : Int → Int} (hd : decode M.2.1 pc = .ok (.iastore, 1)) (h1 : kf ∈ m_ix) (h2 : kf ≠ 38 ∧ kf ≠ 29 ∧ kf ≠ 10 ∧ kf ≠ 30) (hN : m_len kf = N) (hj : 0 ≤ j ∧ j < (N : Int)) (kk : RW G M (m_I Y h0) P d 0 0 (pc + 1) L st (V, cu C kf (zu f j x), J)) : RW G M (m_I Y h0) P d 0 0 pc L (.int (iI x) :: .int (iI j) :: .ref (Y kf) :: st) (V, cu C kf f, J) := by
  refine t_iast hd h1 h2 hN hj ?_
  rw [cu_cu, cu_at]
  exact kk
theorem t_zast {j x : Int} (hd : decode M.2.1 pc = .ok (.bastore, 1)) (hx : x = 0 ∨ x = 1) (hj : 0 ≤ j ∧ j < 3600) (kk : RW G M (m_I Y h0) P d 0 0 (pc + 1) L st (V, cu C 30 (zu (C 30) j x), J)) : RW G M (m_I Y h0) P d 0 0 pc L (.int (iI x) :: .int (iI j) :: .ref (Y 30) :: st) (V, C, J) := by
  intro h hI
  refine r_zastore (N := 3600) (f := fun j => iI (C 30 j)) hd (hI.1.1 30 (by decide)) (iI_in hj.1 hj.2 (by omega)) ?_
  have hx2 : vp_nar .boolean (iI x) = iI x := by rcases hx with rfl | rfl <;> rfl
  rw [iI_clamp hj.1 (by omega), hx2, zu_upd hj.1]
  refine kk _ (hI.put (i := 30) (by decide) rfl (fun q _ hq => ?_))
  unfold m_cell cu
  simp only []
  rw [if_neg (show ¬ (10 = 30) by decide), if_neg hq, if_neg hq, if_neg hq]
theorem t_callV {M' : p_M} {na d' idx : Nat} {As rest : List Value} {X : m_X} (hd : decode M.2.1 pc = .ok (.invokevirtual idx, 3)) (hc : p_cf M' na) (hi : Cond.instanceMethod M'.1 ∈ p_ws) (hse : Cond.selects M'.1.cls M'.1 M'.1 ∈ p_ws) (hl : Cond.methodLink M.1.cls idx M'.1 ∈ p_ws) (hq1 : RX11 = M'.1.cls) (hn : As.length = na) (he : st = As.reverse ++ .ref (Y 38) :: rest) (hr : (rest.map fun v => v.category).sum ≤ 8)
    (kk : RM G M' (m_I Y h0) (.ref (Y 38) :: As) d' 0 0 (RK G M (m_I Y h0) P (d' + 1) 0 0 (pc + 3) L rest) X) : RW G M (m_I Y h0) P (d' + 1) 0 0 pc L st X :=
  i_callV (mc := 0) (ms := 0) hd hc hi hse hl (fun h hI => ⟨_, hI.1.1 38 (by decide)⟩) (q := (RX11, TX11, 38)) rfl hq1 hn he hr (Nat.zero_add _).symm (Nat.zero_add _).symm kk
theorem t_callS {M' : p_M} {na d' idx : Nat} {As rest : List Value} {X : m_X} (hd : decode M.2.1 pc = .ok (.invokestatic idx, 3)) (hc : p_cf M' na) (hs : Cond.static M'.1 ∈ p_ws) (hl : Cond.methodLink M.1.cls idx M'.1 ∈ p_ws) (hn : As.length = na) (he : st = As.reverse ++ rest) (hr : (rest.map fun v => v.category).sum ≤ 8)
    (kk : RM G M' (m_I Y h0) As d' 0 0 (RK G M (m_I Y h0) P (d' + 1) 0 0 (pc + 3) L rest) X) : RW G M (m_I Y h0) P (d' + 1) 0 0 pc L st X :=
  i_callS (mc := 0) (ms := 0) hd hc hs hl hn he hr (Nat.zero_add _).symm (Nat.zero_add _).symm kk
end MRrules
