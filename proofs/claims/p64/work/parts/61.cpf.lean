/-! ===== the class: worlds copied ===== -/
def ru (R : Nat → Nat) (k v : Nat) : Nat → Nat := fun j => if j = k then v else R j
theorem ru_at {R : Nat → Nat} {k v : Nat} : ru R k v k = v := if_pos rfl
theorem ru_ne {R : Nat → Nat} {k v j : Nat} (h : j ≠ k) : ru R k v j = R j := if_neg h
theorem vu_at {V : Nat → Int} {k : Nat} {v : Int} : vu V k v k = v := if_pos rfl
theorem vu_ne {V : Nat → Int} {k j : Nat} {v : Int} (h : j ≠ k) : vu V k v j = V j := if_neg h
theorem cu_ne {C : Nat → Int → Int} {k j : Nat} {f : Int → Int} (h : j ≠ k) : cu C k f j = C j := if_neg h
theorem zb_fit {a : Int} (h : a = 0 ∨ a = 1) : fits .boolean (.int (iI a)) = true := by
  rcases h with rfl | rfl <;> rfl
section C61a
variable {Y : Nat → Nat} {V : Nat → Int} {C : Nat → Int → Int} {J : c_J} {R : Nat → Nat} {X : c_X} {u r i k : Nat} {x : Int}
theorem c_wfs_0 : c_wfs Y (vu V (20 + 8 * u) x) R u = (c_wfs Y V R u).set 0 (.int (iI x)) := by
  unfold c_wfs
  rw [vu_at, vu_ne (show 21 + 8 * u ≠ 20 + 8 * u by omega), vu_ne (show 22 + 8 * u ≠ 20 + 8 * u by omega), vu_ne (show 23 + 8 * u ≠ 20 + 8 * u by omega), vu_ne (show 24 + 8 * u ≠ 20 + 8 * u by omega)]
  rfl
theorem c_wfs_1 : c_wfs Y (vu V (21 + 8 * u) x) R u = (c_wfs Y V R u).set 1 (.int (iI x)) := by
  unfold c_wfs
  rw [vu_ne (show 20 + 8 * u ≠ 21 + 8 * u by omega), vu_at, vu_ne (show 22 + 8 * u ≠ 21 + 8 * u by omega), vu_ne (show 23 + 8 * u ≠ 21 + 8 * u by omega), vu_ne (show 24 + 8 * u ≠ 21 + 8 * u by omega)]
  rfl
theorem c_wfs_2 : c_wfs Y (vu V (22 + 8 * u) x) R u = (c_wfs Y V R u).set 2 (.int (iI x)) := by
  unfold c_wfs
  rw [vu_ne (show 20 + 8 * u ≠ 22 + 8 * u by omega), vu_ne (show 21 + 8 * u ≠ 22 + 8 * u by omega), vu_at, vu_ne (show 23 + 8 * u ≠ 22 + 8 * u by omega), vu_ne (show 24 + 8 * u ≠ 22 + 8 * u by omega)]
  rfl
theorem c_wfs_5 : c_wfs Y (vu V (23 + 8 * u) x) R u = (c_wfs Y V R u).set 5 (.int (iI x)) := by
  unfold c_wfs
  rw [vu_ne (show 20 + 8 * u ≠ 23 + 8 * u by omega), vu_ne (show 21 + 8 * u ≠ 23 + 8 * u by omega), vu_ne (show 22 + 8 * u ≠ 23 + 8 * u by omega), vu_at, vu_ne (show 24 + 8 * u ≠ 23 + 8 * u by omega)]
  rfl
theorem c_wfs_6 : c_wfs Y (vu V (24 + 8 * u) x) R u = (c_wfs Y V R u).set 6 (.int (iI x)) := by
  unfold c_wfs
  rw [vu_ne (show 20 + 8 * u ≠ 24 + 8 * u by omega), vu_ne (show 21 + 8 * u ≠ 24 + 8 * u by omega), vu_ne (show 22 + 8 * u ≠ 24 + 8 * u by omega), vu_ne (show 23 + 8 * u ≠ 24 + 8 * u by omega), vu_at]
  rfl
theorem c_wfs_r0 : c_wfs Y V (ru R (2 * u) r) u = (c_wfs Y V R u).set 3 (.ref r) := by
  unfold c_wfs
  rw [ru_at, ru_ne (show 2 * u + 1 ≠ 2 * u by omega)]
  rfl
theorem c_wfs_r1 : c_wfs Y V (ru R (2 * u + 1) r) u = (c_wfs Y V R u).set 4 (.ref r) := by
  unfold c_wfs
  rw [ru_at, ru_ne (show 2 * u ≠ 2 * u + 1 by omega)]
  rfl
theorem c_okW (h : u < 10) (hk : k < 4) (hi : i = 30 + 4 * u + k) : c_ok i := Or.inr (Or.inl (by omega))
theorem c_cellR (hw : u < 10) (hk : 1 ≤ k ∧ k ≤ 3) (hi : i = 30 + 4 * u + k) : c_cell Y X i = c_ia 6 (X.2.1 i) := by
  subst hi
  exact c_cellA hw hk
end C61a
section C61b
variable {G : p_G} {M : p_M} {Y : Nat → Nat} {h0 : p_H} {P : (Option Value) ⊕ String → c_X → Prop} {d k n pc : Nat} {L : p_LL} {st : List Value} {V : Nat → Int} {C : Nat → Int → Int} {J : c_J} {u r idx kf kV i q : Nat} {ty : FieldType} {fin : Bool} {x j v : Int} {vv : Value}
theorem u_getW (hd : decode M.2.1 pc = .ok (.getfield idx, 3)) (hf : p_Fo M.1.cls idx 9 kf ty fin) (hu : u < 10) (hv : (c_wfs Y V J.2.1 u)[kf]? = some vv) (kk : RW G M (c_I Y h0) P d k n (pc + 3) L (vv :: st) (V, C, J)) : RW G M (c_I Y h0) P d k n pc L (.ref (Y (30 + 4 * u)) :: st) (V, C, J) :=
  u_get hd hf (c_okW (k := 0) hu (by decide) rfl) (c_cellW hu) hv kk
theorem u_putW (hd : decode M.2.1 pc = .ok (.putfield idx, 3)) (hf : p_Fo M.1.cls idx 9 kf ty false) (hu : u < 10) (hs : c_wfs Y (vu V kV x) J.2.1 u = (c_wfs Y V J.2.1 u).set kf (.int (iI x))) (hk : 20 + 8 * u ≤ kV ∧ kV < 28 + 8 * u) (hl : kf < 10) (hn : narrow ty (.int (iI x)) = .int (iI x)) (hfit : fits ty (.int (iI x)) = true) (kk : RW G M (c_I Y h0) P d k n (pc + 3) L st (vu V kV x, C, J)) : RW G M (c_I Y h0) P d k n pc L (.int (iI x) :: .ref (Y (30 + 4 * u)) :: st) (V, C, J) :=
  u_put hd hf (c_okW (k := 0) hu (by decide) rfl) (c_cellW hu) hn hfit hl (c_ownW hu hk) ((c_cellW hu).trans (congrArg (fun z => (.inr (9, z) : p_E)) hs)) kk
theorem u_putR (hd : decode M.2.1 pc = .ok (.putfield idx, 3)) (hf : p_Fo M.1.cls idx 9 kf ty false) (hu : u < 10) (hs : c_wfs Y V (ru J.2.1 q r) u = (c_wfs Y V J.2.1 u).set kf (.ref r)) (hq : q = 2 * u ∨ q = 2 * u + 1) (hl : kf < 10) (hn : narrow ty (.ref r) = .ref r) (hfit : fits ty (.ref r) = true) (kk : RW G M (c_I Y h0) P d k n (pc + 3) L st (V, C, (J.1, ru J.2.1 q r, J.2.2))) : RW G M (c_I Y h0) P d k n pc L (.ref r :: .ref (Y (30 + 4 * u)) :: st) (V, C, J) :=
  fun h hI => r_put (fs := c_wfs Y V J.2.1 u) hd hf ((hI.1.1 _ (c_okW (k := 0) hu (by decide) rfl)).trans (congrArg some (c_cellW hu))) hn hfit hl (kk _ (hI.put (c_okW (k := 0) hu (by decide) rfl) (((c_cellW hu).trans (congrArg (fun z => (.inr (9, z) : p_E)) hs)).symm) (fun p hp hpi => c_cell_J hp (fun _ => rfl) (fun w' hw' => by
    have hne : w' ≠ u := fun e => hpi (by rw [hw', e])
    exact ⟨ru_ne (by omega), ru_ne (by omega)⟩)) rfl))
theorem u_iaW {f : Int → Int} (hd : decode M.2.1 pc = .ok (.iastore, 1)) (hu : u < 10) (hq : 1 ≤ q ∧ q ≤ 3) (hi : i = 30 + 4 * u + q) (hj : 0 ≤ j ∧ j < 6) (kk : RW G M (c_I Y h0) P d k n (pc + 1) L st (V, cu C i (zu (C i) j x), J)) : RW G M (c_I Y h0) P d k n pc L (.int (iI x) :: .int (iI j) :: .ref (Y i) :: st) (V, C, J) :=
  u_iast (N := 6) hd (c_okW hu (by omega) hi) (c_cellR hu hq hi) (by decide) hj ((c_cellR hu hq hi).trans (congrArg (c_ia 6) cu_at)) kk
end C61b
/-- the world u becomes the world v -/
def cCp (u v : Nat) (V V' : Nat → Int) (C C' : Nat → Int → Int) (R R' : Nat → Nat) : Prop :=
  (V' (20 + 8 * u) = V (20 + 8 * v) ∧ V' (21 + 8 * u) = V (21 + 8 * v) ∧ V' (22 + 8 * u) = V (22 + 8 * v) ∧ V' (23 + 8 * u) = V (23 + 8 * v) ∧ V' (24 + 8 * u) = V (24 + 8 * v)) ∧
  sV [20 + 8 * u, 21 + 8 * u, 22 + 8 * u, 23 + 8 * u, 24 + 8 * u] V V' ∧
  (∀ j, 0 ≤ j → j < 6 → C' (31 + 4 * u) j = C (31 + 4 * v) j ∧ C' (32 + 4 * u) j = C (32 + 4 * v) j ∧ C' (33 + 4 * u) j = C (33 + 4 * v) j) ∧
  sC [31 + 4 * u, 32 + 4 * u, 33 + 4 * u] C C' ∧ (R' (2 * u) = R (2 * v) ∧ R' (2 * u + 1) = R (2 * v + 1)) ∧ ∀ q, q ≠ 2 * u → q ≠ 2 * u + 1 → R' q = R q
section C61
variable {G : p_G} {Y : Nat → Nat} {h0 : p_H} {P : (Option Value) ⊕ String → c_X → Prop} {d : Nat} {V : Nat → Int} {C : Nat → Int → Int} {J : c_J}
variable {u v : Nat}
theorem q_cf_l (hu : u < 10) (hv : v < 10) (huv : u ≠ v) (hp : ∀ C', sC [31 + 4 * u, 32 + 4 * u, 33 + 4 * u] C C' → (∀ j, 0 ≤ j → j < 6 → C' (31 + 4 * u) j = C (31 + 4 * v) j ∧ C' (32 + 4 * u) j = C (32 + 4 * v) j ∧ C' (33 + 4 * u) j = C (33 + 4 * v) j) → P (.inl none) (V, C', J)) : ∀ (zz : Nat) (k : Int) (C' : Nat → Int → Int), zz = (6 - k).toNat → (0 ≤ k ∧ k ≤ 6) → (sC [31 + 4 * u, 32 + 4 * u, 33 + 4 * u] C C') → (∀ j, 0 ≤ j → j < k → C' (31 + 4 * u) j = C (31 + 4 * v) j ∧ C' (32 + 4 * u) j = C (32 + 4 * v) j ∧ C' (33 + 4 * u) j = C (33 + 4 * v) j) → RW G mX9_copyFrom (c_I Y h0) P d 0 0 58 [some (.ref (Y (30 + 4 * u))), some (.ref (Y (30 + 4 * v))), some (.int (iI k))] [] (V, C', J) := by
  intro zz
  induction zz using Nat.strongRecOn with
  | _ zz ih =>
    intro k C' hzz h1 hC hI
    refine i_iload_n dX9_copyFrom_58 rfl ?_
    refine i_bipush dX9_copyFrom_59 (by decide) ?_
    refine i_icmp_ge (tgt := 106) dX9_copyFrom_61 (by decide) (by omega) (by omega) (fun c1 => ?_) (fun c1 => ?_)
    · refine i_return dX9_copyFrom_106 rfl ?_
      obtain rfl : k = 6 := by omega
      exact hp _ hC hI
    ·
      refine i_aload_n dX9_copyFrom_64 rfl ?_
      refine u_getW (vv := .ref (Y (31 + 4 * u))) dX9_copyFrom_65 fX9_18.o hu rfl ?_
      refine i_iload_n dX9_copyFrom_68 rfl ?_
      refine i_aload_n dX9_copyFrom_69 rfl ?_
      refine u_getW (vv := .ref (Y (31 + 4 * v))) dX9_copyFrom_70 fX9_18.o hv rfl ?_
      refine i_iload_n dX9_copyFrom_73 rfl ?_
      refine u_iald (i := 31 + 4 * v) (N := 6) (v := C' (31 + 4 * v) k) dX9_copyFrom_74 (c_okW hv (k := 1) (by decide) (by omega)) (c_cellR hv (k := 1) (by decide) (by omega)) (by decide) (by omega) rfl ?_
      refine u_iaW (u := u) (q := 1) (f := C' 31) dX9_copyFrom_75 hu (by decide) (by omega) (by omega) ?_
      refine i_aload_n dX9_copyFrom_76 rfl ?_
      refine u_getW (vv := .ref (Y (32 + 4 * u))) dX9_copyFrom_77 fX9_22.o hu rfl ?_
      refine i_iload_n dX9_copyFrom_80 rfl ?_
      refine i_aload_n dX9_copyFrom_81 rfl ?_
      refine u_getW (vv := .ref (Y (32 + 4 * v))) dX9_copyFrom_82 fX9_22.o hv rfl ?_
      refine i_iload_n dX9_copyFrom_85 rfl ?_
      refine u_iald (i := 32 + 4 * v) (N := 6) (v := C' (32 + 4 * v) k) dX9_copyFrom_86 (c_okW hv (k := 2) (by decide) (by omega)) (c_cellR hv (k := 2) (by decide) (by omega)) (by decide) (by omega) (by rw [cu_ne (by omega)]) ?_
      refine u_iaW (u := u) (q := 2) (f := C' 32) dX9_copyFrom_87 hu (by decide) (by omega) (by omega) ?_
      refine i_aload_n dX9_copyFrom_88 rfl ?_
      refine u_getW (vv := .ref (Y (33 + 4 * u))) dX9_copyFrom_89 fX9_25.o hu rfl ?_
      refine i_iload_n dX9_copyFrom_92 rfl ?_
      refine i_aload_n dX9_copyFrom_93 rfl ?_
      refine u_getW (vv := .ref (Y (33 + 4 * v))) dX9_copyFrom_94 fX9_25.o hv rfl ?_
      refine i_iload_n dX9_copyFrom_97 rfl ?_
      refine u_iald (i := 33 + 4 * v) (N := 6) (v := C' (33 + 4 * v) k) dX9_copyFrom_98 (c_okW hv (k := 3) (by decide) (by omega)) (c_cellR hv (k := 3) (by decide) (by omega)) (by decide) (by omega) (by rw [cu_ne (by omega), cu_ne (by omega)]) ?_
      refine u_iaW (u := u) (q := 3) (f := C' 33) dX9_copyFrom_99 hu (by decide) (by omega) (by omega) ?_
      refine i_iinc dX9_copyFrom_100 rfl (L' := [some _, some _, some _]) (by decide) rfl ?_
      refine i_goto (tgt := 58) dX9_copyFrom_103 (by decide) ?_
      refine ih _ ?_ (k + 1) _ rfl (by omega) (((hC.cu (by simp)).cu (by simp)).cu (by simp)) (fun j j0 j1 => ?_)
      · omega
      have y31 : C' (31 + 4 * v) = C (31 + 4 * v) := hC _ (by simp only [List.mem_cons, List.not_mem_nil, or_false]; omega)
      have y32 : C' (32 + 4 * v) = C (32 + 4 * v) := hC _ (by simp only [List.mem_cons, List.not_mem_nil, or_false]; omega)
      have y33 : C' (33 + 4 * v) = C (33 + 4 * v) := hC _ (by simp only [List.mem_cons, List.not_mem_nil, or_false]; omega)
      rw [cu_ne (show 31 + 4 * u ≠ 33 + 4 * u by omega), cu_ne (show 31 + 4 * u ≠ 32 + 4 * u by omega), cu_at, cu_ne (show 32 + 4 * u ≠ 33 + 4 * u by omega), cu_at, cu_at, cu_ne (show 32 + 4 * u ≠ 31 + 4 * u by omega), cu_ne (show 33 + 4 * u ≠ 32 + 4 * u by omega), cu_ne (show 33 + 4 * u ≠ 31 + 4 * u by omega), y31, y32, y33]
      by_cases z : j = k
      · rw [z, zu_at, zu_at, zu_at]; exact ⟨rfl, rfl, rfl⟩
      · rw [zu_ne z, zu_ne z, zu_ne z]; exact hI j j0 (by omega)
theorem q_copyFrom (hu : u < 10) (hv : v < 10) (huv : u ≠ v) (hb : V (20 + 8 * v) = 0 ∨ V (20 + 8 * v) = 1) (hp : ∀ V' C' R', cCp u v V V' C C' J.2.1 R' → P (.inl none) (V', C', (J.1, R', J.2.2))) : RM G mX9_copyFrom (c_I Y h0) [.ref (Y (30 + 4 * u)), .ref (Y (30 + 4 * v))] d 0 0 P (V, C, J) := by
  refine RM.of (L := [some (.ref (Y (30 + 4 * u))), some (.ref (Y (30 + 4 * v))), none]) cfX9_copyFrom rfl (Nat.le_of_ble_eq_true rfl) ?_
  refine i_aload_n dX9_copyFrom_0 rfl ?_
  refine i_aload_n dX9_copyFrom_1 rfl ?_
  refine u_getW (vv := .int (iI (V (20 + 8 * v)))) dX9_copyFrom_2 fX9_35 hv rfl ?_
  refine u_putW (kV := 20 + 8 * u) dX9_copyFrom_5 fX9_35 hu c_wfs_0 (by omega) (by decide) (zb_nar hb) (zb_fit hb) ?_
  refine i_aload_n dX9_copyFrom_8 rfl ?_
  refine i_aload_n dX9_copyFrom_9 rfl ?_
  refine u_getW (vv := .int (iI (V (21 + 8 * v)))) dX9_copyFrom_10 fX9_39 hv (congrArg (fun z : Int => some (Value.int (iI z))) (show _ = V (21 + 8 * v) from by rw [vu_ne (by omega)])) ?_
  refine u_putW (kV := 21 + 8 * u) dX9_copyFrom_13 fX9_39 hu c_wfs_1 (by omega) (by decide) rfl rfl ?_
  refine i_aload_n dX9_copyFrom_16 rfl ?_
  refine i_aload_n dX9_copyFrom_17 rfl ?_
  refine u_getW (vv := .int (iI (V (22 + 8 * v)))) dX9_copyFrom_18 fX9_42 hv (congrArg (fun z : Int => some (Value.int (iI z))) (show _ = V (22 + 8 * v) from by rw [vu_ne (by omega), vu_ne (by omega)])) ?_
  refine u_putW (kV := 22 + 8 * u) dX9_copyFrom_21 fX9_42 hu c_wfs_2 (by omega) (by decide) rfl rfl ?_
  refine i_aload_n dX9_copyFrom_24 rfl ?_
  refine i_aload_n dX9_copyFrom_25 rfl ?_
  refine u_getW (vv := .ref (J.2.1 (2 * v))) dX9_copyFrom_26 fX9_28 hv rfl ?_
  refine u_putR (q := 2 * u) dX9_copyFrom_29 fX9_28 hu c_wfs_r0 (by omega) (by decide) rfl rfl ?_
  refine i_aload_n dX9_copyFrom_32 rfl ?_
  refine i_aload_n dX9_copyFrom_33 rfl ?_
  refine u_getW (vv := .ref (J.2.1 (2 * v + 1))) dX9_copyFrom_34 fX9_32 hv (congrArg (fun z : Nat => some (Value.ref z)) (show _ = J.2.1 (2 * v + 1) from ru_ne (by omega))) ?_
  refine u_putR (q := 2 * u + 1) dX9_copyFrom_37 fX9_32 hu c_wfs_r1 (by omega) (by decide) rfl rfl ?_
  refine i_aload_n dX9_copyFrom_40 rfl ?_
  refine i_aload_n dX9_copyFrom_41 rfl ?_
  refine u_getW (vv := .int (iI (V (23 + 8 * v)))) dX9_copyFrom_42 fX9_9 hv (congrArg (fun z : Int => some (Value.int (iI z))) (show _ = V (23 + 8 * v) from by rw [vu_ne (by omega), vu_ne (by omega), vu_ne (by omega)])) ?_
  refine u_putW (kV := 23 + 8 * u) dX9_copyFrom_45 fX9_9 hu c_wfs_5 (by omega) (by decide) rfl rfl ?_
  refine i_aload_n dX9_copyFrom_48 rfl ?_
  refine i_aload_n dX9_copyFrom_49 rfl ?_
  refine u_getW (vv := .int (iI (V (24 + 8 * v)))) dX9_copyFrom_50 fX9_15 hv (congrArg (fun z : Int => some (Value.int (iI z))) (show _ = V (24 + 8 * v) from by rw [vu_ne (by omega), vu_ne (by omega), vu_ne (by omega), vu_ne (by omega)])) ?_
  refine u_putW (kV := 24 + 8 * u) dX9_copyFrom_53 fX9_15 hu c_wfs_6 (by omega) (by decide) rfl rfl ?_
  refine i_const dX9_copyFrom_56 ?_
  refine i_istore_n dX9_copyFrom_57 (L' := [some _, some _, some _]) (by decide) rfl ?_
  refine q_cf_l hu hv huv (fun C' hC hI => hp _ _ _ ⟨?_, ?_, hI, hC, ?_, ?_⟩) _ 0 C rfl (by decide) sC.rfl (fun j j0 j1 => by omega)
  · exact ⟨by rw [vu_ne (show 20 + 8 * u ≠ 24 + 8 * u by omega), vu_ne (show 20 + 8 * u ≠ 23 + 8 * u by omega), vu_ne (show 20 + 8 * u ≠ 22 + 8 * u by omega), vu_ne (show 20 + 8 * u ≠ 21 + 8 * u by omega), vu_at], by rw [vu_ne (show 21 + 8 * u ≠ 24 + 8 * u by omega), vu_ne (show 21 + 8 * u ≠ 23 + 8 * u by omega), vu_ne (show 21 + 8 * u ≠ 22 + 8 * u by omega), vu_at], by rw [vu_ne (show 22 + 8 * u ≠ 24 + 8 * u by omega), vu_ne (show 22 + 8 * u ≠ 23 + 8 * u by omega), vu_at], by rw [vu_ne (show 23 + 8 * u ≠ 24 + 8 * u by omega), vu_at], by rw [vu_at]⟩
  · exact ((((sV.rfl.vu (by simp)).vu (by simp)).vu (by simp)).vu (by simp)).vu (by simp)
  · exact ⟨(ru_ne (by omega)).trans ru_at, (ru_at).trans rfl⟩
  · intro q q0 q1; exact (ru_ne q1).trans (ru_ne q0)
end C61
