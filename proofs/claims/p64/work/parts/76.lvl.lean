/-! ===== the class: levels and parts ===== -/
section C76a
variable {Y : Nat → Nat} {V : Nat → Int} {X : c_X} {v k i : Nat} {x : Int}
theorem c_okL (h : v < 21) (hk : k < 4) : c_ok (100 + 4 * v + k) := Or.inr (Or.inr (by omega))
theorem c_l9 (h : V 9 = (v : Int)) : (some (Value.ref (Y (100 + 4 * (V 9).toNat)))) = some (Value.ref (Y (100 + 4 * v))) := congrArg (fun z : Nat => some (Value.ref (Y (100 + 4 * z)))) (by omega)
theorem c_lf1 : (c_lfs Y V v)[2]? = some (.ref (Y (100 + 4 * v + 1))) := congrArg (fun z : Nat => some (Value.ref (Y z))) (show 101 + 4 * v = 100 + 4 * v + 1 by omega)
theorem c_lf2 : (c_lfs Y V v)[3]? = some (.ref (Y (100 + 4 * v + 2))) := congrArg (fun z : Nat => some (Value.ref (Y z))) (show 102 + 4 * v = 100 + 4 * v + 2 by omega)
theorem c_lf3 : (c_lfs Y V v)[4]? = some (.ref (Y (100 + 4 * v + 3))) := congrArg (fun z : Nat => some (Value.ref (Y z))) (show 103 + 4 * v = 100 + 4 * v + 3 by omega)
theorem c_lf0 (h : v ≠ 0) {u : Nat} (hu : v = u + 1) : (c_lfs Y V v)[0]? = some (.ref (Y (100 + 4 * u))) := by
  show some (if v = 0 then Value.null else .ref (Y (100 + 4 * (v - 1)))) = _
  rw [if_neg h, show v - 1 = u by omega]
theorem c_lf0z : (c_lfs Y V 0)[0]? = some .null := rfl
theorem c_lfi (h : v ≠ 20) : (c_lfs Y V v)[1]? = some (.ref (Y (100 + 4 * (v + 1)))) := by
  show some (if v = 20 then Value.null else .ref (Y (100 + 4 * (v + 1)))) = _
  rw [if_neg h]
theorem c_lfiz : (c_lfs Y V 20)[1]? = some .null := rfl
end C76a
section C76b
variable {G : p_G} {M : p_M} {Y : Nat → Nat} {h0 : p_H} {P : (Option Value) ⊕ String → c_X → Prop} {d j n pc : Nat} {L : p_LL} {st : List Value} {V : Nat → Int} {C : Nat → Int → Int} {J : c_J} {v k u idx kf : Nat} {ty : FieldType} {fin : Bool} {x : Int} {vv : Value}
theorem u_getL (hd : decode M.2.1 pc = .ok (.getfield idx, 3)) (hf : p_Fo M.1.cls idx 2 kf ty fin) (hv : v < 21) (h : (c_lfs Y V v)[kf]? = some vv) (kk : RW G M (c_I Y h0) P d j n (pc + 3) L (vv :: st) (V, C, J)) : RW G M (c_I Y h0) P d j n pc L (.ref (Y (100 + 4 * v)) :: st) (V, C, J) :=
  u_get hd hf (c_okL (k := 0) hv (by decide)) (c_cellL hv) h kk
theorem u_getQ (hd : decode M.2.1 pc = .ok (.getfield idx, 3)) (hf : p_Fo M.1.cls idx 4 kf ty fin) (hv : v < 21) (hk : 1 ≤ k ∧ k ≤ 3) (h : [Value.int (iI (V (198 + 16 * v + 3 * k))), Value.int (iI (V (199 + 16 * v + 3 * k))), Value.int (iI (V (200 + 16 * v + 3 * k)))][kf]? = some vv) (kk : RW G M (c_I Y h0) P d j n (pc + 3) L (vv :: st) (V, C, J)) : RW G M (c_I Y h0) P d j n pc L (.ref (Y (100 + 4 * v + k)) :: st) (V, C, J) :=
  u_get hd hf (c_okL hv (by omega)) (c_cellQ hv hk) h kk
theorem u_putL (hd : decode M.2.1 pc = .ok (.putfield idx, 3)) (hf : p_Fo M.1.cls idx 2 5 ty false) (hv : v < 21) (hn : narrow ty (.int (iI x)) = .int (iI x)) (hfit : fits ty (.int (iI x)) = true) (kk : RW G M (c_I Y h0) P d j n (pc + 3) L st (vu V (200 + 16 * v) x, C, J)) : RW G M (c_I Y h0) P d j n pc L (.int (iI x) :: .ref (Y (100 + 4 * v)) :: st) (V, C, J) :=
  u_put hd hf (c_okL (k := 0) hv (by decide)) (c_cellL hv) hn hfit (show 5 < 6 by decide) c_ownL ((c_cellL hv).trans (congrArg (fun z => (.inr (2, z) : p_E)) (by unfold c_lfs; dsimp only; rw [vu_at]; rfl))) kk
theorem u_putQ0 (hd : decode M.2.1 pc = .ok (.putfield idx, 3)) (hf : p_Fo M.1.cls idx 4 0 ty false) (hv : v < 21) (hk : 1 ≤ k ∧ k ≤ 3) (hn : narrow ty (.int (iI x)) = .int (iI x)) (hfit : fits ty (.int (iI x)) = true) (kk : RW G M (c_I Y h0) P d j n (pc + 3) L st (vu V (198 + 16 * v + 3 * k) x, C, J)) : RW G M (c_I Y h0) P d j n pc L (.int (iI x) :: .ref (Y (100 + 4 * v + k)) :: st) (V, C, J) :=
  u_put hd hf (c_okL hv (by omega)) (c_cellQ hv hk) hn hfit (show 0 < 3 by decide) (c_ownQ hk (by omega)) ((c_cellQ hv hk).trans (by show (Sum.inr (4, [Value.int (iI (vu V (198 + 16 * v + 3 * k) x (198 + 16 * v + 3 * k))), Value.int (iI (vu V (198 + 16 * v + 3 * k) x (199 + 16 * v + 3 * k))), Value.int (iI (vu V (198 + 16 * v + 3 * k) x (200 + 16 * v + 3 * k)))]) : p_E) = _; rw [vu_at, vu_ne (show 199 + 16 * v + 3 * k ≠ 198 + 16 * v + 3 * k by omega), vu_ne (show 200 + 16 * v + 3 * k ≠ 198 + 16 * v + 3 * k by omega)]; rfl)) kk
theorem u_putQ1 (hd : decode M.2.1 pc = .ok (.putfield idx, 3)) (hf : p_Fo M.1.cls idx 4 1 ty false) (hv : v < 21) (hk : 1 ≤ k ∧ k ≤ 3) (hn : narrow ty (.int (iI x)) = .int (iI x)) (hfit : fits ty (.int (iI x)) = true) (kk : RW G M (c_I Y h0) P d j n (pc + 3) L st (vu V (199 + 16 * v + 3 * k) x, C, J)) : RW G M (c_I Y h0) P d j n pc L (.int (iI x) :: .ref (Y (100 + 4 * v + k)) :: st) (V, C, J) :=
  u_put hd hf (c_okL hv (by omega)) (c_cellQ hv hk) hn hfit (show 1 < 3 by decide) (c_ownQ hk (by omega)) ((c_cellQ hv hk).trans (by show (Sum.inr (4, [Value.int (iI (vu V (199 + 16 * v + 3 * k) x (198 + 16 * v + 3 * k))), Value.int (iI (vu V (199 + 16 * v + 3 * k) x (199 + 16 * v + 3 * k))), Value.int (iI (vu V (199 + 16 * v + 3 * k) x (200 + 16 * v + 3 * k)))]) : p_E) = _; rw [vu_ne (show 198 + 16 * v + 3 * k ≠ 199 + 16 * v + 3 * k by omega), vu_at, vu_ne (show 200 + 16 * v + 3 * k ≠ 199 + 16 * v + 3 * k by omega)]; rfl)) kk
theorem u_putQ2 (hd : decode M.2.1 pc = .ok (.putfield idx, 3)) (hf : p_Fo M.1.cls idx 4 2 ty false) (hv : v < 21) (hk : 1 ≤ k ∧ k ≤ 3) (hn : narrow ty (.int (iI x)) = .int (iI x)) (hfit : fits ty (.int (iI x)) = true) (kk : RW G M (c_I Y h0) P d j n (pc + 3) L st (vu V (200 + 16 * v + 3 * k) x, C, J)) : RW G M (c_I Y h0) P d j n pc L (.int (iI x) :: .ref (Y (100 + 4 * v + k)) :: st) (V, C, J) :=
  u_put hd hf (c_okL hv (by omega)) (c_cellQ hv hk) hn hfit (show 2 < 3 by decide) (c_ownQ hk (by omega)) ((c_cellQ hv hk).trans (by show (Sum.inr (4, [Value.int (iI (vu V (200 + 16 * v + 3 * k) x (198 + 16 * v + 3 * k))), Value.int (iI (vu V (200 + 16 * v + 3 * k) x (199 + 16 * v + 3 * k))), Value.int (iI (vu V (200 + 16 * v + 3 * k) x (200 + 16 * v + 3 * k)))]) : p_E) = _; rw [vu_ne (show 198 + 16 * v + 3 * k ≠ 200 + 16 * v + 3 * k by omega), vu_ne (show 199 + 16 * v + 3 * k ≠ 200 + 16 * v + 3 * k by omega), vu_at]; rfl)) kk
/-- the reader goes to another level -/
theorem u_putV (hd : decode M.2.1 pc = .ok (.putfield idx, 3)) (hf : p_Fo M.1.cls idx 6 10 ty false) (hn : narrow ty (.ref (Y (100 + 4 * u))) = .ref (Y (100 + 4 * u))) (hfit : fits ty (.ref (Y (100 + 4 * u))) = true) (kk : RW G M (c_I Y h0) P d j n (pc + 3) L st (vu V 9 (u : Int), C, J)) : RW G M (c_I Y h0) P d j n pc L (.ref (Y (100 + 4 * u)) :: .ref (Y 3) :: st) (V, C, J) :=
  fun h hI => r_put hd hf (hI.1.1 3 (by decide)) hn hfit (show 10 < 11 by decide) (kk _ (hI.put (i := 3) (by decide) (by
    show (Sum.inr (6, _) : p_E) = Sum.inr (6, [_, _, _, _, _, _, _, _, _, _, Value.ref (Y (100 + 4 * (vu V 9 (u : Int) 9).toNat))])
    rw [vu_at, Int.toNat_natCast]
    rfl) (fun q hq hqi => c_cell_V hq (fun k hk => vu_ne (fun e => hqi (by rw [← hk, e]; rfl)))) rfl))
end C76b
def bI (b : Bool) : Int := if b = true then 1 else 0
theorem bI_t : bI true = 1 := rfl
theorem bI_f : bI false = 0 := rfl
theorem bI_or (b : Bool) : bI b = 0 ∨ bI b = 1 := by cases b <;> simp [bI]
/-- a part of the reader -/
def cPa (V : Nat → Int) (v k : Nat) (q : zPt) : Prop := V (198 + 16 * v + 3 * k) = bI q.1 ∧ V (199 + 16 * v + 3 * k) = q.2.1 ∧ V (200 + 16 * v + 3 * k) = q.2.2
/-- a level of the reader -/
def cLv (V : Nat → Int) (v : Nat) (l : zLv) : Prop := cPa V v 1 l.1 ∧ cPa V v 2 l.2.1 ∧ ((l.2.2 = none ∧ V (200 + 16 * v) = 0) ∨ ∃ Q, l.2.2 = some Q ∧ V (200 + 16 * v) = 1 ∧ cPa V v 3 Q)
/-- all numbers but those of one level -/
def lFr (v : Nat) (V V' : Nat → Int) : Prop := ∀ i, (i < 200 + 16 * v ∨ 210 + 16 * v ≤ i) → V' i = V i
section C76c
variable {V V' V1 : Nat → Int} {v u k : Nat} {l : zLv} {q : zPt}
theorem cPa.cg (h : cPa V v k q) (e : ∀ i, 198 + 16 * v + 3 * k ≤ i → i ≤ 200 + 16 * v + 3 * k → V' i = V i) : cPa V' v k q := by
  unfold cPa at h ⊢
  rw [e _ (by omega) (by omega), e (199 + 16 * v + 3 * k) (by omega) (by omega), e (200 + 16 * v + 3 * k) (by omega) (by omega)]
  exact h
theorem cLv.cg (h : cLv V v l) (e : ∀ i, 200 + 16 * v ≤ i → i < 210 + 16 * v → V' i = V i) : cLv V' v l := by
  obtain ⟨h1, h2, h3⟩ := h
  refine ⟨h1.cg (fun i i0 i1 => e i (by omega) (by omega)), h2.cg (fun i i0 i1 => e i (by omega) (by omega)), ?_⟩
  rcases h3 with ⟨a, b⟩ | ⟨Q, a, b, c⟩
  · exact Or.inl ⟨a, by rw [e _ (by omega) (by omega)]; exact b⟩
  · exact Or.inr ⟨Q, a, by rw [e _ (by omega) (by omega)]; exact b, c.cg (fun i i0 i1 => e i (by omega) (by omega))⟩
theorem lFr.tr (h : lFr v V V1) (h' : lFr v V1 V') : lFr v V V' := fun i hi => (h' i hi).trans (h i hi)
theorem lFr.ot (h : lFr v V V') (hu : u ≠ v) (hl : cLv V u l) : cLv V' u l := hl.cg (fun i i0 i1 => h i (by omega))
end C76c
section C76
variable {G : p_G} {Y : Nat → Nat} {h0 : p_H} {P : (Option Value) ⊕ String → c_X → Prop} {d : Nat} {V : Nat → Int} {C : Nat → Int → Int} {J : c_J}
variable {v : Nat} {l : zLv}
theorem q_set {k : Nat} {q : zPt} (hv : v < 21) (hk : 1 ≤ k ∧ k ≤ 3) (hp : ∀ V', cPa V' v k q → (∀ i, (i < 198 + 16 * v + 3 * k ∨ 200 + 16 * v + 3 * k < i) → V' i = V i) → P (.inl none) (V', C, J)) : RM G mX4_set (c_I Y h0) [.ref (Y (100 + 4 * v + k)), .int (iI (bI q.1)), .int (iI (q.2.1)), .int (iI (q.2.2))] (d) 0 0 P (V, C, J) := by
  refine RM.of (L := [some (.ref (Y (100 + 4 * v + k))), some (.int (iI (bI q.1))), some (.int (iI (q.2.1))), some (.int (iI (q.2.2)))]) cfX4_set rfl (Nat.le_of_ble_eq_true rfl) ?_
  refine i_aload_n dX4_set_0 rfl ?_
  refine i_iload_n dX4_set_1 rfl ?_
  refine u_putQ0 (v := v) (k := k) dX4_set_2 fX4_7 hv hk (zb_nar (bI_or _)) (zb_fit (bI_or _)) ?_
  refine i_aload_n dX4_set_5 rfl ?_
  refine i_iload_n dX4_set_6 rfl ?_
  refine u_putQ1 (v := v) (k := k) dX4_set_7 fX4_13 hv hk rfl rfl ?_
  refine i_aload_n dX4_set_10 rfl ?_
  refine i_iload_n dX4_set_11 rfl ?_
  refine u_putQ2 (v := v) (k := k) dX4_set_12 fX4_17 hv hk rfl rfl ?_
  refine i_return dX4_set_15 rfl ?_
  refine hp _ ⟨?_, ?_, ?_⟩ (fun i hi => ?_)
  · show vu (vu (vu V (198 + 16 * v + 3 * k) _) (199 + 16 * v + 3 * k) _) (200 + 16 * v + 3 * k) _ (198 + 16 * v + 3 * k) = _; rw [vu_ne (by omega), vu_ne (by omega), vu_at]
  · show vu (vu (vu V (198 + 16 * v + 3 * k) _) (199 + 16 * v + 3 * k) _) (200 + 16 * v + 3 * k) _ (199 + 16 * v + 3 * k) = _; rw [vu_ne (by omega), vu_at]
  · exact vu_at
  · rw [vu_ne (by omega), vu_ne (by omega), vu_ne (by omega)]
theorem q_beginBranch  (hv : v < 21) (hl : cLv V v l) (hp : ∀ V', cLv V' v (l.1, (true, 0, 0), none) → lFr v V V' → P (.inl none) (V', C, J)) : RM G mX2_beginBranch (c_I Y h0) [.ref (Y (100 + 4 * v))] (d + 1) 0 0 P (V, C, J) := by
  refine RM.of (L := [some (.ref (Y (100 + 4 * v)))]) cfX2_beginBranch rfl (Nat.le_of_ble_eq_true rfl) ?_
  refine i_aload_n dX2_beginBranch_0 rfl ?_
  refine u_getL (v := v) (vv := .ref (Y (100 + 4 * v + 2))) dX2_beginBranch_1 fX2_16.o (by omega) c_lf2 ?_
  refine i_const dX2_beginBranch_4 ?_
  refine i_const dX2_beginBranch_5 ?_
  refine i_const dX2_beginBranch_6 ?_
  refine u_callV (i := 100 + 4 * v + 2) (mc := 0) (ms := 0) (As := [_, _, _]) dX2_beginBranch_7 cfX4_set imX4_set seX4_set lX2_32 (c_okL (v := v) (k := 2) (by omega) (by decide)) (c_cellQ (v := v) (k := 2) (by omega) (by decide)) rfl rfl rfl rfl (Nat.le_of_ble_eq_true rfl) (Nat.zero_add _).symm (Nat.zero_add _).symm ?_
  refine q_set (v := v) (k := 2) (q := (true, 0, 0)) (by omega) (by decide) (fun V1 pa1 pf1 => RK.n0 ?_)
  refine i_aload_n dX2_beginBranch_10 rfl ?_
  refine i_const dX2_beginBranch_11 ?_
  refine u_putL (v := v) dX2_beginBranch_12 fX2_39 (by omega) rfl rfl ?_
  refine i_return dX2_beginBranch_15 rfl ?_
  refine hp _ ⟨hl.1.cg (fun i i0 i1 => ?_), pa1.cg (fun i i0 i1 => vu_ne (by omega)), Or.inl ⟨rfl, vu_at⟩⟩ (fun i hi => ?_)
  · rw [vu_ne (by omega)]; exact pf1 i (by omega)
  · rw [vu_ne (by omega)]; exact pf1 i (by omega)
/-- beginBranch, whatever the branch and the piece were -/
theorem cPa.any {V : Nat → Int} {v k : Nat} (h : V (198 + 16 * v + 3 * k) = 0 ∨ V (198 + 16 * v + 3 * k) = 1) : ∃ q, cPa V v k q := by
  rcases h with h | h
  · exact ⟨(false, _, _), h, rfl, rfl⟩
  · exact ⟨(true, _, _), h, rfl, rfl⟩
theorem q_beginBranch2 {q : zPt} (hv : v < 21) (hl : cPa V v 1 q) (hp : ∀ V', cLv V' v (q, (true, 0, 0), none) → lFr v V V' → P (.inl none) (V', C, J)) : RM G mX2_beginBranch (c_I Y h0) [.ref (Y (100 + 4 * v))] (d + 1) 0 0 P (V, C, J) := by
  refine RM.of (L := [some (.ref (Y (100 + 4 * v)))]) cfX2_beginBranch rfl (Nat.le_of_ble_eq_true rfl) ?_
  refine i_aload_n dX2_beginBranch_0 rfl ?_
  refine u_getL (v := v) (vv := .ref (Y (100 + 4 * v + 2))) dX2_beginBranch_1 fX2_16.o (by omega) c_lf2 ?_
  refine i_const dX2_beginBranch_4 ?_
  refine i_const dX2_beginBranch_5 ?_
  refine i_const dX2_beginBranch_6 ?_
  refine u_callV (i := 100 + 4 * v + 2) (mc := 0) (ms := 0) (As := [_, _, _]) dX2_beginBranch_7 cfX4_set imX4_set seX4_set lX2_32 (c_okL (v := v) (k := 2) (by omega) (by decide)) (c_cellQ (v := v) (k := 2) (by omega) (by decide)) rfl rfl rfl rfl (Nat.le_of_ble_eq_true rfl) (Nat.zero_add _).symm (Nat.zero_add _).symm ?_
  refine q_set (v := v) (k := 2) (q := (true, 0, 0)) (by omega) (by decide) (fun V1 pa1 pf1 => RK.n0 ?_)
  refine i_aload_n dX2_beginBranch_10 rfl ?_
  refine i_const dX2_beginBranch_11 ?_
  refine u_putL (v := v) dX2_beginBranch_12 fX2_39 (by omega) rfl rfl ?_
  refine i_return dX2_beginBranch_15 rfl ?_
  refine hp _ ⟨hl.cg (fun i i0 i1 => ?_), pa1.cg (fun i i0 i1 => vu_ne (by omega)), Or.inl ⟨rfl, vu_at⟩⟩ (fun i hi => ?_)
  · rw [vu_ne (by omega)]; exact pf1 i (by omega)
  · rw [vu_ne (by omega)]; exact pf1 i (by omega)
theorem q_lbegin  (hv : v < 21) (hp : ∀ V', cLv V' v zL0 → lFr v V V' → P (.inl none) (V', C, J)) : RM G mX2_begin (c_I Y h0) [.ref (Y (100 + 4 * v))] (d + 2) 0 0 P (V, C, J) := by
  refine RM.of (L := [some (.ref (Y (100 + 4 * v)))]) cfX2_begin rfl (Nat.le_of_ble_eq_true rfl) ?_
  refine i_aload_n dX2_begin_0 rfl ?_
  refine u_getL (v := v) (vv := .ref (Y (100 + 4 * v + 1))) dX2_begin_1 fX2_10.o (by omega) c_lf1 ?_
  refine i_const dX2_begin_4 ?_
  refine i_const dX2_begin_5 ?_
  refine i_const dX2_begin_6 ?_
  refine u_callV (i := 100 + 4 * v + 1) (mc := 0) (ms := 0) (As := [_, _, _]) dX2_begin_7 cfX4_set imX4_set seX4_set lX2_32 (c_okL (v := v) (k := 1) (by omega) (by decide)) (c_cellQ (v := v) (k := 1) (by omega) (by decide)) rfl rfl rfl rfl (Nat.le_of_ble_eq_true rfl) (Nat.zero_add _).symm (Nat.zero_add _).symm ?_
  refine q_set (v := v) (k := 1) (q := (false, 0, 0)) (by omega) (by decide) (fun V1 pa1 pf1 => RK.n0 ?_)
  refine i_aload_n dX2_begin_10 rfl ?_
  refine u_callV (i := 100 + 4 * v) (mc := 0) (ms := 0) (As := []) dX2_begin_11 cfX2_beginBranch imX2_beginBranch seX2_beginBranch lX2_36 (c_okL (v := v) (k := 0) (by omega) (by decide)) (c_cellL (v := v) (by omega)) rfl rfl rfl rfl (Nat.le_of_ble_eq_true rfl) (Nat.zero_add _).symm (Nat.zero_add _).symm ?_
  refine q_beginBranch2 (v := v) (by omega) pa1 (fun V2 bl2 bf2 => RK.n0 ?_)
  refine i_return dX2_begin_14 rfl ?_
  exact hp _ bl2 (fun i hi => (bf2 i hi).trans (pf1 i (by omega)))
theorem q_beginPiece {q : zPt} (hv : v < 21) (hl : cLv V v l) (hp : ∀ V', cLv V' v (l.1, l.2.1, some q) → lFr v V V' → P (.inl none) (V', C, J)) : RM G mX2_beginPiece (c_I Y h0) [.ref (Y (100 + 4 * v)), .int (iI (bI q.1)), .int (iI (q.2.1)), .int (iI (q.2.2))] (d + 1) 0 0 P (V, C, J) := by
  refine RM.of (L := [some (.ref (Y (100 + 4 * v))), some (.int (iI (bI q.1))), some (.int (iI (q.2.1))), some (.int (iI (q.2.2)))]) cfX2_beginPiece rfl (Nat.le_of_ble_eq_true rfl) ?_
  refine i_aload_n dX2_beginPiece_0 rfl ?_
  refine u_getL (v := v) (vv := .ref (Y (100 + 4 * v + 3))) dX2_beginPiece_1 fX2_19.o (by omega) c_lf3 ?_
  refine i_iload_n dX2_beginPiece_4 rfl ?_
  refine i_iload_n dX2_beginPiece_5 rfl ?_
  refine i_iload_n dX2_beginPiece_6 rfl ?_
  refine u_callV (i := 100 + 4 * v + 3) (mc := 0) (ms := 0) (As := [_, _, _]) dX2_beginPiece_7 cfX4_set imX4_set seX4_set lX2_32 (c_okL (v := v) (k := 3) (by omega) (by decide)) (c_cellQ (v := v) (k := 3) (by omega) (by decide)) rfl rfl rfl rfl (Nat.le_of_ble_eq_true rfl) (Nat.zero_add _).symm (Nat.zero_add _).symm ?_
  refine q_set (v := v) (k := 3) (q := q) (by omega) (by decide) (fun V1 pa1 pf1 => RK.n0 ?_)
  refine i_aload_n dX2_beginPiece_10 rfl ?_
  refine i_const dX2_beginPiece_11 ?_
  refine u_putL (v := v) dX2_beginPiece_12 fX2_39 (by omega) rfl rfl ?_
  refine i_return dX2_beginPiece_15 rfl ?_
  refine hp _ ⟨hl.1.cg (fun i i0 i1 => ?_), hl.2.1.cg (fun i i0 i1 => ?_), Or.inr ⟨q, rfl, vu_at, pa1.cg (fun i i0 i1 => vu_ne (by omega))⟩⟩ (fun i hi => ?_)
  · rw [vu_ne (by omega)]; exact pf1 i (by omega)
  · rw [vu_ne (by omega)]; exact pf1 i (by omega)
  · rw [vu_ne (by omega)]; exact pf1 i (by omega)
theorem q_af_l {b x : Int} (hb : 0 ≤ b ∧ b < 33554432) (hx : 0 ≤ x ∧ x < 33554432) (hf : ∀ p, 1 ≤ p → p ≤ 24 → 0 ≤ C 5 p ∧ C 5 p < 33554432) (hp : ∀ C', sC [5] C C' → C' 5 = zAF b x (C 5) → P (.inl none) (V, C', J)) : ∀ (zz : Nat) (p : Int) (C' : Nat → Int → Int), zz = (25 - p).toNat → (1 ≤ p ∧ p ≤ 25) → (sC [5] C C') → (∀ j, C' 5 j = if 1 ≤ j ∧ j < p ∧ zt b j then zo (C 5 j) x else C 5 j) → RW G mX6_addFollow (c_I Y h0) P (d) 0 0 2 [some (.ref (Y 3)), some (.int (iI b)), some (.int (iI x)), some (.int (iI p))] [] (V, C', J) := by
  intro zz
  induction zz using Nat.strongRecOn with
  | _ zz ih =>
    intro p C' hzz h1 hC hI
    refine i_iload_n dX6_addFollow_2 rfl ?_
    refine i_bipush dX6_addFollow_3 (by decide) ?_
    refine i_icmp_gt (tgt := 32) dX6_addFollow_5 (by decide) (by omega) (by omega) (fun c5 => ?_) (fun c5 => ?_)
    · -- jumps
      refine i_return dX6_addFollow_32 rfl ?_
      obtain rfl : p = 25 := by omega
      refine hp _ hC (funext (fun j => (hI j).trans ?_))
      unfold zAF
      exact if_cg ⟨fun y => ⟨y.1, by omega, y.2.2⟩, fun y => ⟨y.1, by omega, y.2.2⟩⟩
    · -- on
      refine i_iload_n dX6_addFollow_8 rfl ?_
      refine i_iload_n dX6_addFollow_9 rfl ?_
      refine i_shr dX6_addFollow_10 (iI_shr (by omega) (by omega)) ?_
      refine i_const dX6_addFollow_11 ?_
      refine i_and dX6_addFollow_12 (zs_nn) (by omega) ?_
      refine RW.ti zs_1 ?_
      refine i_ifeq_b (tgt := 26) dX6_addFollow_13 (by decide) (fun c13 => ?_) (fun c13 => ?_)
      · -- jumps
        refine i_iinc dX6_addFollow_26 rfl (L' := [some _, some _, some _, some _]) (by decide) rfl ?_
        refine i_goto (tgt := 2) dX6_addFollow_29 (by decide) ?_
        refine ih _ ?_ (p + 1) _ rfl (by omega) hC (fun j => (hI j).trans ?_)
        · omega
        by_cases z9 : j = p
        · rw [z9, if_neg (fun y => by omega), if_neg (fun y => absurd y.2.2 (by assumption))]
        · exact if_cg ⟨fun y => ⟨y.1, by omega, y.2.2⟩, fun y => ⟨y.1, by omega, y.2.2⟩⟩
      · -- on
        refine i_aload_n dX6_addFollow_16 rfl ?_
        refine u_get (i := 3) (vv := .ref (Y (5))) dX6_addFollow_17 fX6_15.o (by decide) rfl rfl ?_
        refine i_iload_n dX6_addFollow_20 rfl ?_
        refine i_dup2 dX6_addFollow_21 rfl rfl ?_
        have f5 := hf p (by omega) (by omega)
        have g5 : C' 5 p = C 5 p := (hI p).trans (if_neg (fun y => by omega))
        refine u_iald (i := 5) (N := 25) (v := C' 5 p) dX6_addFollow_22 (by decide) rfl (by decide) (by omega) rfl ?_
        refine i_iload_n dX6_addFollow_23 rfl ?_
        refine i_or dX6_addFollow_24 (by omega) (by omega) ?_
        refine u_iast (i := 5) (N := 25) dX6_addFollow_25 (by decide) rfl (by decide) (by omega) rfl ?_
        refine i_iinc dX6_addFollow_26 rfl (L' := [some _, some _, some _, some _]) (by decide) rfl ?_
        refine i_goto (tgt := 2) dX6_addFollow_29 (by decide) ?_
        refine ih _ ?_ (p + 1) _ rfl (by omega) (hC.cu (by decide)) (fun j => ?_)
        · omega
        rw [cu_at]
        by_cases z9 : j = p
        · rw [z9, zu_at, hI p, if_neg (fun y => by omega), if_pos ⟨by omega, by omega, by assumption⟩]
        · rw [zu_ne z9, hI j]; exact if_cg ⟨fun y => ⟨y.1, by omega, y.2.2⟩, fun y => ⟨y.1, by omega, y.2.2⟩⟩
theorem q_addFollow {b x : Int} (hb : 0 ≤ b ∧ b < 33554432) (hx : 0 ≤ x ∧ x < 33554432) (hf : ∀ p, 1 ≤ p → p ≤ 24 → 0 ≤ C 5 p ∧ C 5 p < 33554432) (hp : ∀ C', sC [5] C C' → C' 5 = zAF b x (C 5) → P (.inl none) (V, C', J)) : RM G mX6_addFollow (c_I Y h0) [.ref (Y 3), .int (iI b), .int (iI x)] (d) 0 0 P (V, C, J) := by
  refine RM.of (L := [some (.ref (Y 3)), some (.int (iI b)), some (.int (iI x)), none]) cfX6_addFollow rfl (Nat.le_of_ble_eq_true rfl) ?_
  refine i_const dX6_addFollow_0 ?_
  refine i_istore_n dX6_addFollow_1 (L' := [some _, some _, some _, some _]) (by decide) rfl ?_
  exact q_af_l hb hx hf hp _ 1 C rfl (by decide) sC.rfl (fun j => (if_neg (fun y => by omega)).symm)
end C76
