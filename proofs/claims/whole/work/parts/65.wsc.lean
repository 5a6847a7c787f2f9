/-! ===== the class: walks, undo, the snapshot, copies ===== -/
section C65a
theorem wCan_c {w v b : Int → Int} {k c : Int} (hc : (0 ≤ b k - 97 ∧ b k - 97 ≤ 5 ∧ c = b k - 97) ∨ (¬ (0 ≤ b k - 97 ∧ b k - 97 ≤ 5) ∧ c = -1)) (e : 0 ≤ c → c < 6 → v (971 + 2 * c + v 983) = w (971 + 2 * c + w 983)) : (0 ≤ c ∧ c < 6 ∧ v (971 + 2 * c + v 983) = 1) ↔ wCan w b k := by
  rcases hc with ⟨h1, h2, rfl⟩ | ⟨h1, rfl⟩
  · constructor
    · rintro ⟨a, b, c⟩
      exact ⟨h1, h2, (e a b) ▸ c⟩
    · rintro ⟨a, b, c⟩
      exact ⟨a, by omega, (e a (by omega)).trans c⟩
  · constructor
    · rintro ⟨a, b, c⟩
      omega
    · rintro ⟨a, b, c⟩
      exact absurd ⟨a, b⟩ h1
theorem zite {c x : Int} {p : Prop} [Decidable p] (h : c = (if p then x else -1)) : (p ∧ c = x) ∨ (¬ p ∧ c = -1) := by
  by_cases z : p
  · rw [if_pos z] at h; exact Or.inl ⟨z, h⟩
  · rw [if_neg z] at h; exact Or.inr ⟨z, h⟩
end C65a
section C65
variable {G : p_G} {Y : Nat → Nat} {h0 : p_H} {P : (Option Value) ⊕ String → c_X → Prop} {d : Nat} {V : Nat → Int} {C : Nat → Int → Int} {J : c_J}
variable {w b : Int → Int} {n : Int} {H : Int → Int → Int}
theorem q_wkw_l {p : Int} (hO : wOK w) (h4 : 0 ≤ V 4 ∧ V 4 ≤ 200) (hB : ∀ j, 0 ≤ j → j < V 4 → C 2 j = b j ∧ 0 ≤ b j ∧ b j < 256) (hk : 0 ≤ p ∧ p < w 952) (hp : ∀ k V' C', 0 ≤ k → k ≤ V 4 → (∀ i, 0 ≤ i → i < k → wCan w b i) → ¬ (k < V 4 ∧ wCan w b k) → cNow V' C' J (wWalk w b p k.toNat) → (∀ i, i ≠ 22 → V' i = V i) → (∀ i, i ≠ 32 → i ≠ 33 → C' i = C i) → P (.inl (some (.int (iI k)))) (vu V' 4 0, C', J)) : ∀ (zz : Nat) (k : Int) (V' : Nat → Int) (C' : Nat → Int → Int), zz = (V 4 - k).toNat → (0 ≤ k ∧ k ≤ V 4) → (∀ i, 0 ≤ i → i < k → wCan w b i) → (cNow V' C' J (wWalk w b p k.toNat)) → (∀ i, i ≠ 22 → V' i = V i) → (∀ i, i ≠ 32 → i ≠ 33 → C' i = C i) → RW G mX10_walkWord (c_I Y h0) P (d + 4) 0 0 20 [some (.ref (Y 0)), some (.int (iI p)), some (.int (iI k)), some (.int (iI k)), none] [] (V', C', J) := by
  intro zz
  induction zz using Nat.strongRecOn with
  | _ zz ih =>
    intro k V' C' hzz h1 hcan hn hv hc
    have h6 := hO.2.1
    have e4 := hv 4 (by decide)
    have e2 := hc 2 (by decide) (by decide)
    have lo : ∀ j, (j < 953 ∨ 971 ≤ j ∧ j ≤ 983) → wWalk w b p k.toNat j = w j := fun j hj => wWalk_lo (by omega) _ j hj
    have e3 := lo 983 (by omega)
    have e52 := lo 952 (by omega)
    have o3 := hO.nght
    have ec : ∀ {c : Int}, 0 ≤ c → c < 6 → wWalk w b p k.toNat (971 + 2 * c + wWalk w b p k.toNat 983) = w (971 + 2 * c + w 983) := fun c0 c1 => by rw [e3, lo _ (by omega)]
    have hO' := wWalk_ok hO hk k.toNat (fun i i0 i1 => hcan i i0 (by omega))
    refine i_iload_n dX10_walkWord_20 rfl ?_
    refine i_aload_n dX10_walkWord_21 rfl ?_
    refine u_get (i := 0) (vv := .ref (Y (1))) dX10_walkWord_22 fX10_36.o (by decide) rfl rfl ?_
    refine u_callV (i := 1) (mc := 0) (ms := 0) (As := []) dX10_walkWord_25 cfX1_size imX1_size seX1_size lX10_95 (by decide) rfl rfl rfl rfl rfl (Nat.le_of_ble_eq_true rfl) (Nat.zero_add _).symm (Nat.zero_add _).symm ?_
    refine q_size1 (RK.v ?_)
    refine i_icmp_ge (tgt := 75) dX10_walkWord_28 (by decide) (by omega) (by omega) (fun c28 => ?_) (fun c28 => ?_)
    · -- jumps
      refine i_aload_n dX10_walkWord_75 rfl ?_
      refine u_get (i := 0) (vv := .ref (Y (1))) dX10_walkWord_76 fX10_36.o (by decide) rfl rfl ?_
      refine i_const dX10_walkWord_79 ?_
      refine u_callV (i := 1) (mc := 0) (ms := 0) (As := [_]) dX10_walkWord_80 cfX1_shorten imX1_shorten seX1_shorten lX10_32 (by decide) rfl rfl rfl rfl rfl (Nat.le_of_ble_eq_true rfl) (Nat.zero_add _).symm (Nat.zero_add _).symm ?_
      refine q_shorten (RK.n0 ?_)
      refine i_iload_n dX10_walkWord_83 rfl ?_
      refine i_ireturn dX10_walkWord_84 rfl rfl ?_
      first | exact hp k _ _ h1.1 h1.2 hcan (fun z => by omega) hn hv hc | exact hp k _ _ h1.1 h1.2 hcan (fun z => absurd (hcc.mpr z.2) (by assumption)) hn hv hc
    · -- on
      refine i_aload_n dX10_walkWord_31 rfl ?_
      refine u_get (i := 0) (vv := .ref (Y (1))) dX10_walkWord_32 fX10_36.o (by decide) rfl rfl ?_
      refine i_iload_n dX10_walkWord_35 rfl ?_
      refine u_callV (i := 1) (mc := 0) (ms := 0) (As := [_]) dX10_walkWord_36 cfX1_street imX1_street seX1_street lX10_171 (by decide) rfl rfl rfl rfl rfl (Nat.le_of_ble_eq_true rfl) (Nat.zero_add _).symm (Nat.zero_add _).symm ?_
      have hb := hB k (by omega) (by omega)
      refine q_street (by omega) (fun j j0 j1 => by rw [e2]; have y := hB j j0 (by omega); rw [y.1]; exact y.2) (by omega) (RK.v ?_)
      rw [e2, hb.1]
      obtain ⟨c, h9⟩ : ∃ c, c = (if 0 ≤ b k - 97 ∧ b k - 97 ≤ 5 then b k - 97 else -1) := ⟨_, rfl⟩
      rw [← h9]
      have h8 := zite h9
      rw [and_assoc] at h8
      clear h9
      have hcc := wCan_c h8 ec
      refine i_istore dX10_walkWord_39 (L' := [some _, some _, some _, some _, some _]) (by decide) rfl ?_
      refine i_aload_n dX10_walkWord_41 rfl ?_
      refine u_get (i := 0) (vv := .ref (Y (30))) dX10_walkWord_42 fX10_49.o (by decide) rfl rfl ?_
      refine i_iload dX10_walkWord_45 rfl ?_
      refine u_callV (i := 30) (mc := 0) (ms := 0) (As := [_]) dX10_walkWord_47 cfX9_isOpen imX9_isOpen seX9_isOpen lX10_158 (by decide) rfl rfl rfl rfl rfl (Nat.le_of_ble_eq_true rfl) (Nat.zero_add _).symm (Nat.zero_add _).symm ?_
      refine q_isOpen hn hO' (by omega) (RK.v ?_)
      refine i_ifne_b (tgt := 56) dX10_walkWord_50 (by decide) (fun c50 => ?_) (fun c50 => ?_)
      · -- jumps
        refine i_aload_n dX10_walkWord_56 rfl ?_
        refine u_get (i := 0) (vv := .ref (Y (30))) dX10_walkWord_57 fX10_49.o (by decide) rfl rfl ?_
        refine i_iload_n dX10_walkWord_60 rfl ?_
        refine i_iload dX10_walkWord_61 rfl ?_
        refine u_callV (i := 30) (mc := 0) (ms := 0) (As := [_, _]) dX10_walkWord_63 cfX9_moveWalker imX9_moveWalker seX9_moveWalker lX10_164 (by decide) rfl rfl rfl rfl rfl (Nat.le_of_ble_eq_true rfl) (Nat.zero_add _).symm (Nat.zero_add _).symm ?_
        refine q_moveWalker hn hO' (by omega) (by omega) (fun V1 C1 ho1 sv1 sc1 => RK.n0 ?_)
        refine i_iinc dX10_walkWord_66 rfl (L' := [some _, some _, some _, some _, some _]) (by decide) rfl ?_
        refine i_iinc dX10_walkWord_69 rfl (L' := [some _, some _, some _, some _, some _]) (by decide) rfl ?_
        refine i_goto (tgt := 20) dX10_walkWord_72 (by decide) ?_
        refine RW.wk (L' := [some _, some _, some _, some _, none]) (p_subL.at (by repeat (first | exact subL_nil | refine subL_s ?_ | refine subL_n ?_))) ?_
        have hcn := hcc.mp (by assumption)
        refine ih _ ?_ (k + 1) V1 C1 rfl (by omega) (fun i i0 i1 => ?_) ?_ (fun i i0 => ?_) (fun i i0 i1 => ?_)
        · omega
        · by_cases z : i = k
          · rw [z]; exact hcn
          · exact hcan i i0 (by omega)
        · rw [wWalk_s h1.1, show b k - 97 = c by have := hcn.1; have := hcn.2.1; omega]; exact ho1
        · exact (sv1 i (by simp only [List.mem_cons, List.not_mem_nil, or_false]; omega)).trans (hv i i0)
        · exact (sc1 i (by simp only [List.mem_cons, List.not_mem_nil, or_false]; omega)).trans (hc i i0 i1)
      · -- on
        refine i_goto (tgt := 75) dX10_walkWord_53 (by decide) ?_
        refine i_aload_n dX10_walkWord_75 rfl ?_
        refine u_get (i := 0) (vv := .ref (Y (1))) dX10_walkWord_76 fX10_36.o (by decide) rfl rfl ?_
        refine i_const dX10_walkWord_79 ?_
        refine u_callV (i := 1) (mc := 0) (ms := 0) (As := [_]) dX10_walkWord_80 cfX1_shorten imX1_shorten seX1_shorten lX10_32 (by decide) rfl rfl rfl rfl rfl (Nat.le_of_ble_eq_true rfl) (Nat.zero_add _).symm (Nat.zero_add _).symm ?_
        refine q_shorten (RK.n0 ?_)
        refine i_iload_n dX10_walkWord_83 rfl ?_
        refine i_ireturn dX10_walkWord_84 rfl rfl ?_
        first | exact hp k _ _ h1.1 h1.2 hcan (fun z => by omega) hn hv hc | exact hp k _ _ h1.1 h1.2 hcan (fun z => absurd (hcc.mpr z.2) (by assumption)) hn hv hc
theorem q_walkWord {p : Int} (hZ : p_Zs G) (hN : cNow V C J w) (hO : wOK w) (hH : cHs V C J n H) (h4 : 0 ≤ V 4 ∧ V 4 ≤ 200) (hB : ∀ j, 0 ≤ j → j < V 4 → C 2 j = b j ∧ 0 ≤ b j ∧ b j < 256) (h_p : -2147483648 ≤ p ∧ p < 2147483648) (hp1 : ¬ (0 ≤ p ∧ p < w 952) → P (.inr "java/lang/IndexOutOfBoundsException") (V, C, J)) (hp0 : 0 ≤ p ∧ p < w 952 → ∀ k, 0 ≤ k → k ≤ V 4 → (∀ i, 0 ≤ i → i < k → wCan w b i) → ¬ (k < V 4 ∧ wCan w b k) → ∀ V' C' J', V' 4 = 0 → cChg (vu V 4 0) V' C C' J J' w (wWalk w b p k.toNat) n H → P (.inl (some (.int (iI k)))) (V', C', J')) : RM G mX10_walkWord (c_I Y h0) [.ref (Y 0), .int (iI p)] (d + 7) 1 6 P (V, C, J) := by
  refine RM.of (L := [some (.ref (Y 0)), some (.int (iI p)), none, none, none]) cfX10_walkWord rfl (Nat.le_of_ble_eq_true rfl) ?_
  have h6 := hO.2.1
  refine i_aload_n dX10_walkWord_0 rfl ?_
  refine i_iload_n dX10_walkWord_1 rfl ?_
  refine u_callV (i := 0) (mc := 1) (ms := 6) (k' := 0) (n' := 0) (As := [_]) dX10_walkWord_2 cfX10_checkWalker imX10_checkWalker seX10_checkWalker lX10_146 (by decide) rfl rfl rfl rfl rfl (Nat.le_of_ble_eq_true rfl) rfl rfl ?_
  refine q_checkWalker hZ hN hO (by omega) (fun g1 => RK.n0 ?_) (fun g1 => RK.x ?_)
  · -- case
    refine i_aload_n dX10_walkWord_5 rfl ?_
    refine u_get (i := 0) (vv := .ref (Y (9))) dX10_walkWord_6 fX10_56.o (by decide) rfl rfl ?_
    refine i_aload_n dX10_walkWord_9 rfl ?_
    refine u_get (i := 0) (vv := .ref (Y (30))) dX10_walkWord_10 fX10_49.o (by decide) rfl rfl ?_
    refine u_callV (i := 9) (mc := 0) (ms := 0) (As := [_]) dX10_walkWord_13 cfX0_remember imX0_remember seX0_remember lX10_113 (by decide) rfl rfl rfl rfl rfl (Nat.le_of_ble_eq_true rfl) (Nat.zero_add _).symm (Nat.zero_add _).symm ?_
    refine q_remember hN hO hH (fun V2 C2 J2 hn2 hh2 hf2 hj2 => RK.n0 ?_)
    refine i_const dX10_walkWord_16 ?_
    refine i_istore_n dX10_walkWord_17 (L' := [some _, some _, some _, none, none]) (by decide) rfl ?_
    refine i_const dX10_walkWord_18 ?_
    refine i_istore_n dX10_walkWord_19 (L' := [some _, some _, some _, some _, none]) (by decide) rfl ?_
    have e4 : V2 4 = V 4 := hf2.1 4 (by omega)
    have e2 : C2 2 = C 2 := hf2.2.1 2 (by omega)
    refine q_wkw_l hO (by omega) (fun j j0 j1 => by rw [e2]; exact hB j j0 (by omega)) (by omega) (fun k V' C' k0 k1 hcan hno hn hv hc => ?_) _ 0 V2 C2 rfl (by omega) (fun i i0 i1 => by omega) hn2 (fun _ _ => rfl) (fun _ _ _ => rfl)
    rw [e4] at k1 hno
    have h9 := cChg.of hh2 hf2 hn (fun i hi => hv i (by omega)) (fun i hi => hc i (by omega) (by omega)) (fun _ _ => rfl) rfl rfl
    refine hp0 (by omega) k k0 k1 hcan hno _ _ _ vu_at ⟨h9.1, h9.2.1.cg (fun i hi => vu_ne (by omega)) (fun _ _ _ => rfl) (fun _ _ _ => rfl) (fun _ _ h => h), fun i hi => ?_, h9.2.2.2⟩
    by_cases z : i = 4
    · rw [z, vu_at, vu_at]
    · rw [vu_ne z, vu_ne z]; exact h9.2.2.1 i hi
  · -- case
    exact hp1 (by omega)
theorem q_undo  (hH : cHs V C J n H) (hOH : ∀ i, 0 ≤ i → i < n → wOK (H i)) (hp0 : n = 0 → P (.inl (some (.int (iI (-1))))) (V, C, J)) (hp : n ≠ 0 → ∀ V' C' J', cNow V' C' J' (H (n - 1)) → cHs V' C' J' (n - 1) H → cFr V V' C C' J J' → P (.inl (some (.int (iI (n - 1))))) (V', C', J')) : RM G mX10_undo (c_I Y h0) [.ref (Y 0)] (d + 2) 0 0 P (V, C, J) := by
  refine RM.of (L := [some (.ref (Y 0))]) cfX10_undo rfl (Nat.le_of_ble_eq_true rfl) ?_
  refine i_aload_n dX10_undo_0 rfl ?_
  refine u_get (i := 0) (vv := .ref (Y (9))) dX10_undo_1 fX10_56.o (by decide) rfl rfl ?_
  refine i_aload_n dX10_undo_4 rfl ?_
  refine u_get (i := 0) (vv := .ref (Y (30))) dX10_undo_5 fX10_49.o (by decide) rfl rfl ?_
  refine u_callV (i := 9) (mc := 0) (ms := 0) (As := [_]) dX10_undo_8 cfX0_takeBack imX0_takeBack seX0_takeBack lX10_193 (by decide) rfl rfl rfl rfl rfl (Nat.le_of_ble_eq_true rfl) (Nat.zero_add _).symm (Nat.zero_add _).symm ?_
  refine q_takeBack hH hOH (fun g1 => RK.v ?_) (fun g1 V1 C1 J1 hn1 hh1 hf1 => RK.v ?_)
  · -- case
    refine i_if_eq (tgt := 24) dX10_undo_11 (by decide) (by decide) (fun c11 => ?_) (fun c11 => by omega)
    refine i_const dX10_undo_24 ?_
    refine i_ireturn dX10_undo_25 rfl rfl ?_
    exact hp0 (by assumption)
  · -- case
    refine i_if_eq (tgt := 24) dX10_undo_11 (by decide) (by decide) (fun c11 => by omega) (fun c11 => ?_)
    refine i_aload_n dX10_undo_14 rfl ?_
    refine u_get (i := 0) (vv := .ref (Y (9))) dX10_undo_15 fX10_56.o (by decide) rfl rfl ?_
    refine u_callV (i := 9) (mc := 0) (ms := 0) (As := []) dX10_undo_18 cfX0_size imX0_size seX0_size lX10_197 (by decide) rfl rfl rfl rfl rfl (Nat.le_of_ble_eq_true rfl) (Nat.zero_add _).symm (Nat.zero_add _).symm ?_
    refine q_size0 (RK.v ?_)
    refine i_goto (tgt := 25) dX10_undo_21 (by decide) ?_
    refine i_ireturn dX10_undo_25 rfl rfl ?_
    rw [hh1.2.1.1]
    exact hp g1 _ _ _ hn1 hh1 hf1
theorem q_saveSnapshot  (hN : cNow V C J w) (hO : wOK w) (hp : ∀ V' C' J', cNow V' C' J' w → cWk V' C' J' 1 w → V' 0 = 1 → (∀ i, i ≠ 0 → ¬ (28 ≤ i ∧ i < 33) → V' i = V i) → (∀ i, ¬ (35 ≤ i ∧ i < 38) → C' i = C i) → (∀ q, q ≠ 2 → q ≠ 3 → J'.2.1 q = J.2.1 q) → J'.1 = J.1 → J'.2.2 = J.2.2 → P (.inl (some (.int (iI (w 952))))) (V', C', J')) : RM G mX10_saveSnapshot (c_I Y h0) [.ref (Y 0)] (d + 1) 0 0 P (V, C, J) := by
  refine RM.of (L := [some (.ref (Y 0))]) cfX10_saveSnapshot rfl (Nat.le_of_ble_eq_true rfl) ?_
  refine i_aload_n dX10_saveSnapshot_0 rfl ?_
  refine u_get (i := 0) (vv := .ref (Y (34))) dX10_saveSnapshot_1 fX10_60.o (by decide) rfl rfl ?_
  refine i_aload_n dX10_saveSnapshot_4 rfl ?_
  refine u_get (i := 0) (vv := .ref (Y (30))) dX10_saveSnapshot_5 fX10_49.o (by decide) rfl rfl ?_
  refine u_callV (i := 34) (mc := 0) (ms := 0) (As := [_]) dX10_saveSnapshot_8 cfX9_copyFrom imX9_copyFrom seX9_copyFrom lX10_198 (by decide) rfl rfl rfl rfl rfl (Nat.le_of_ble_eq_true rfl) (Nat.zero_add _).symm (Nat.zero_add _).symm ?_
  refine q_copyFrom (u := 1) (v := 0) (by decide) (by decide) (by decide) (show V 20 = 0 ∨ V 20 = 1 from by have := hN.n; have := hO.nght; omega) (fun V1 C1 R1 hc1 => RK.n0 ?_)
  refine i_aload_n dX10_saveSnapshot_11 rfl ?_
  refine i_const dX10_saveSnapshot_12 ?_
  refine u_put (i := 0) (kV := 0) dX10_saveSnapshot_13 fX10_201 (by decide) rfl rfl rfl (Nat.le_of_ble_eq_true rfl) rfl rfl ?_
  refine i_aload_n dX10_saveSnapshot_16 rfl ?_
  refine u_get (i := 0) (vv := .ref (Y (30))) dX10_saveSnapshot_17 fX10_49.o (by decide) rfl rfl ?_
  refine u_get (i := 30) (vv := .int (iI (V1 21))) dX10_saveSnapshot_20 fX10_135 (by decide) rfl rfl ?_
  refine i_ireturn dX10_saveSnapshot_23 rfl rfl ?_
  have hw1 : cWk V1 C1 (J.1, R1, J.2.2) 1 w := cWk.cp (v := 0) hN hO.2.1 hc1
  have hw0 : cWk V1 C1 (J.1, R1, J.2.2) 0 w := cWk.ot (x := 0) hN (by decide) hc1
  have e1 : V1 21 = w 952 := hw0.1.2.1
  rw [e1]
  refine hp _ _ _ (hw0.cg (fun i i0 i1 => vu_ne (by omega)) (fun _ _ _ => rfl) ⟨rfl, rfl⟩ (fun _ _ h => h)) (hw1.cg (fun i i0 i1 => vu_ne (by omega)) (fun _ _ _ => rfl) ⟨rfl, rfl⟩ (fun _ _ h => h)) vu_at (fun i i0 i1 => (vu_ne i0).trans (hc1.2.1 i (by simp only [List.mem_cons, List.not_mem_nil, or_false]; omega))) (fun i i0 => hc1.2.2.2.1 i (by simp only [List.mem_cons, List.not_mem_nil, or_false]; omega)) (fun q q0 q1 => hc1.2.2.2.2.2 q q0 q1) rfl rfl
/-- a copied pattern -/
theorem cPt.copy {p : c_P} {s : Int} (h : cPt p w s) (hO : wOK w) (hs : s = 0 ∨ s = 1) : cPt p (wCopy w s) (1 - s) ∧ wP (wCopy w s) (1 - s) := by
  have e : ∀ j, 0 ≤ j → j < 476 → wCopy w s (476 * (1 - s) + j) = w (476 * s + j) := fun j j0 j1 => by
    unfold wCopy
    rw [if_pos (by omega)]
    exact congrArg w (by omega)
  have o := hO.1 s hs
  have o5 := o.2.2.2.1
  have o0 := o.1
  obtain ⟨h1, h2, h3, h4, h5⟩ := h
  refine ⟨⟨?_, fun q q0 q1 => ?_, fun c c0 c1 => ⟨(h3 c c0 c1).1, fun q q0 => ?_⟩, fun t t0 t1 => ?_, fun t c t0 t1 c0 c1 => ?_⟩, ?_, ?_, fun k k0 k1 => ?_, ?_, fun q q0 q1 => ?_, fun t c t0 t1 c0 c1 => ?_⟩
  · rw [e 0 (by decide) (by decide), e 4 (by decide) (by decide), e 1 (by decide) (by decide), e 2 (by decide) (by decide), e 3 (by decide) (by decide), e 5 (by decide) (by decide)]
    exact h1
  · rw [e 0 (by decide) (by decide)] at q1
    rw [e _ (by omega) (by omega), e _ (by omega) (by omega)]
    exact h2 q q0 (by omega)
  · rw [(h3 c c0 c1).2 q q0, e 0 (by decide) (by decide)]
    constructor
    · rintro ⟨k1, k2⟩
      exact ⟨k1, by rw [e _ (by omega) (by omega)]; exact k2⟩
    · rintro ⟨k1, k2⟩
      rw [e _ (by omega) (by omega)] at k2
      exact ⟨k1, k2⟩
  · rw [e 5 (by decide) (by decide)] at t1
    rw [e _ (by omega) (by omega)]
    exact h4 t t0 (by omega)
  · rw [e 5 (by decide) (by decide)] at t1
    rw [e _ (by omega) (by omega)]
    exact h5 t c t0 (by omega) c0 c1
  · rw [e 0 (by decide) (by decide)]; exact o0
  · rw [e 1 (by decide) (by decide)]; exact o.2.1
  · rw [e _ (by omega) (by omega)]; exact o.2.2.1 k k0 k1
  · rw [e 5 (by decide) (by decide)]; exact o5
  · rw [e _ (by omega) (by omega)]; exact o.2.2.2.2.1 q q0 q1
  · rw [e 5 (by decide) (by decide)] at t1 ⊢
    rw [e _ (by omega) (by omega)]; exact o.2.2.2.2.2 t c t0 t1 c0 c1
theorem q_copyPattern {s : Int} (hZ : p_Zs G) (hN : cNow V C J w) (hO : wOK w) (hH : cHs V C J n H) (h_s : -2147483648 ≤ s ∧ s < 2147483648) (hp1 : ¬ (s = 0 ∨ s = 1) → P (.inr "java/lang/IndexOutOfBoundsException") (V, C, J)) (hp0 : s = 0 ∨ s = 1 → ∀ V' C' J', cChg V V' C C' J J' w (wRes (wCopy w s) (1 - s)) n H → P (.inl (some (.int (iI (w (476 * s + 5)))))) (V', C', J')) : RM G mX10_copyPattern (c_I Y h0) [.ref (Y 0), .int (iI s)] (d + 7) 1 6 P (V, C, J) := by
  refine RM.of (L := [some (.ref (Y 0)), some (.int (iI s)), none]) cfX10_copyPattern rfl (Nat.le_of_ble_eq_true rfl) ?_
  refine i_iload_n dX10_copyPattern_0 rfl ?_
  refine i_callS (mc := 1) (ms := 6) (k' := 0) (n' := 0) (As := [_]) dX10_copyPattern_1 cfX10_checkSlot stX10_checkSlot lX10_108 rfl rfl (Nat.le_of_ble_eq_true rfl) rfl rfl ?_
  refine q_checkSlot hZ  (by omega) (fun g1 => RK.n0 ?_) (fun g1 => RK.x ?_)
  · -- case
    refine i_aload_n dX10_copyPattern_4 rfl ?_
    refine u_get (i := 0) (vv := .ref (Y (30))) dX10_copyPattern_5 fX10_49.o (by decide) rfl rfl ?_
    refine i_iload_n dX10_copyPattern_8 rfl ?_
    refine u_callV (i := 30) (mc := 0) (ms := 0) (As := [_]) dX10_copyPattern_9 cfX9_pattern imX9_pattern seX9_pattern lX10_124 (by decide) rfl rfl rfl rfl rfl (Nat.le_of_ble_eq_true rfl) (Nat.zero_add _).symm (Nat.zero_add _).symm ?_
    refine q_pattern hN (by omega) (fun a2 p2 ha2 hp2 hr2 => RK.v ?_)
    refine i_astore_n dX10_copyPattern_12 (L' := [some _, some _, some _]) (by decide) rfl ?_
    refine i_aload_n dX10_copyPattern_13 rfl ?_
    refine u_get (i := 0) (vv := .ref (Y (9))) dX10_copyPattern_14 fX10_56.o (by decide) rfl rfl ?_
    refine i_aload_n dX10_copyPattern_17 rfl ?_
    refine u_get (i := 0) (vv := .ref (Y (30))) dX10_copyPattern_18 fX10_49.o (by decide) rfl rfl ?_
    refine u_callV (i := 9) (mc := 0) (ms := 0) (As := [_]) dX10_copyPattern_21 cfX0_remember imX0_remember seX0_remember lX10_113 (by decide) rfl rfl rfl rfl rfl (Nat.le_of_ble_eq_true rfl) (Nat.zero_add _).symm (Nat.zero_add _).symm ?_
    refine q_remember hN hO hH (fun V3 C3 J3 hn3 hh3 hf3 hj3 => RK.n0 ?_)
    refine i_aload_n dX10_copyPattern_24 rfl ?_
    refine u_get (i := 0) (vv := .ref (Y (30))) dX10_copyPattern_25 fX10_49.o (by decide) rfl rfl ?_
    refine i_iload_n dX10_copyPattern_28 rfl ?_
    refine i_callS (mc := 0) (ms := 0) (As := [_]) dX10_copyPattern_29 cfX10_otherSlot stX10_otherSlot lX10_128 rfl rfl (Nat.le_of_ble_eq_true rfl) (Nat.zero_add _).symm (Nat.zero_add _).symm ?_
    refine q_otherSlot (RK.v ?_)
    refine i_aload_n dX10_copyPattern_32 rfl ?_
    refine u_callV (i := 30) (mc := 0) (ms := 0) (As := [_, _]) dX10_copyPattern_33 cfX9_putPattern imX9_putPattern seX9_putPattern lX10_117 (by decide) rfl rfl rfl rfl rfl (Nat.le_of_ble_eq_true rfl) (Nat.zero_add _).symm (Nat.zero_add _).symm ?_
    have hpa4 : J3.2.2 a2 = some p2 := by rw [hj3]; exact hp2
    have hcr := cPt.copy hr2 hO (by omega)
    refine q_putPattern hn3 hO (by omega) hpa4 hcr.1 hcr.2 (fun j hj => if_neg hj) (fun C4 J4 ho4 sc4 rr4 j14 j24 => RK.n0 ?_)
    refine i_aload_n dX10_copyPattern_36 rfl ?_
    have hpz : J4.2.2 a2 = some p2 := by rw [j24]; exact hpa4
    refine u_getP (vv := .int (iI (p2.1 5))) hpz dX10_copyPattern_37 fX10_132 rfl ?_
    refine i_ireturn dX10_copyPattern_40 rfl rfl ?_
    rw [hr2.1.2.2.2.2.2]
    exact hp0 (by omega) _ _ _ (cChg.of hh3 hf3 ho4 (fun _ _ => rfl) (fun i hi => sc4 i (by simp only [List.mem_cons, List.not_mem_nil, or_false]; omega)) rr4 j14 j24)
  · -- case
    exact hp1 (by omega)
end C65
