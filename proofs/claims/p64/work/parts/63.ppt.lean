/-! ===== the class: a pattern is put ===== -/
/-- a pattern lies at an address -/
abbrev PT2 (PT : Nat → Option c_P) (r : Nat) (q : c_P) : Prop := PT r = some q
section C63a
variable {V V' : Nat → Int} {C C' : Nat → Int → Int} {J J' : c_J} {R' : Nat → Nat} {w w' : Int → Int} {p : c_P} {a : Nat} {s k x : Int}
theorem wRes_lo (h6 : 0 ≤ w 952 ∧ w 952 ≤ 6) {j : Int} (hj : j < 953 ∨ 971 ≤ j) : wRes w s j = w j := if_neg (fun z => by have := z.1; have := z.2.1; omega)
theorem wRes_0 : wRes w s (953 + 3 * k + 0) = w (953 + 3 * k + 0) := if_neg (fun z => z.2.2.2 (by omega))
theorem wRes_r {r : Int} (h6 : 0 ≤ w 952 ∧ w 952 ≤ 6) (hk : 0 ≤ k ∧ k < w 952) (hr : 1 ≤ r ∧ r < 3) : wRes w s (953 + 3 * k + r) = if w (953 + 3 * k + 0) = s then 0 else w (953 + 3 * k + r) := by
  unfold wRes
  rw [show (953 + 3 * k + r - 953) / 3 = k by omega]
  by_cases z : w (953 + 3 * k + 0) = s
  · rw [if_pos z, if_pos ⟨by omega, by omega, z, by omega⟩]
  · rw [if_neg z, if_neg (fun y => z y.2.2.1)]
theorem cNow.put (h : cNow V C J w) (hO : wOK w) (hs : s = 0 ∨ s = 1) (hpa : J.2.2 a = some p) (hr : cPt p w' s) (hP' : wP w' s) (hw : ∀ j, ¬ (476 * s + 0 ≤ j ∧ j < 476 * s + 476) → w' j = w j) (h31 : C' 31 = C 31) (hI : ∀ j, 0 ≤ j → j < 6 → C' 32 j = (if j < w 952 ∧ C 31 j = s then 0 else C 32 j) ∧ C' 33 j = (if j < w 952 ∧ C 31 j = s then 0 else C 33 j)) (hR : R' (if s = 0 then 0 else 1) = a) (hR2 : ∀ q, q ≠ (if s = 0 then 0 else 1) → R' q = J.2.1 q) : cNow V C' (J.1, R', J.2.2) (wRes w' s) := by
  have h6 := hO.2.1
  have e2 : w' 952 = w 952 := hw _ (by omega)
  have h6' : 0 ≤ w' 952 ∧ w' 952 ≤ 6 := by omega
  have lo : ∀ j, j < 953 ∨ 971 ≤ j → wRes w' s j = w' j := fun j hj => wRes_lo h6' hj
  have hw2 : ∀ j, 952 ≤ j → w' j = w j := fun j hj => hw j (by omega)
  have hs1 : ∃ q, PT2 J.2.2 (R' (if s = 0 then 0 else 1)) q ∧ cPt q (wRes w' s) s := ⟨p, by unfold PT2; rw [hR]; exact hpa, hr.cg hP' (fun j j0 j1 => lo _ (Or.inl (by omega)))⟩
  have hs2 : ∃ q, PT2 J.2.2 (R' (if 1 - s = 0 then 0 else 1)) q ∧ cPt q (wRes w' s) (1 - s) := by
    obtain ⟨q, q1, q2⟩ := h.p (s := 1 - s) (by omega)
    refine ⟨q, ?_, q2.cg (hO.1 _ (by omega)) (fun j j0 j1 => ?_)⟩
    · unfold PT2
      rw [hR2 _ (by rcases hs with rfl | rfl <;> decide)]
      exact q1
    · rw [lo _ (Or.inl (by omega)), hw _ (by omega)]
  refine ⟨⟨?_, ?_, ?_⟩, fun q q0 q1 => ?_, ⟨h.2.2.1.1, fun c c0 c1 => ?_, fun c c0 c1 => ?_⟩, ?_, ?_⟩
  · rw [lo _ (Or.inr (by decide)), hw2 _ (by decide)]; exact h.1.1
  · rw [lo _ (Or.inl (by decide)), e2]; exact h.1.2.1
  · rw [lo _ (Or.inr (by decide)), hw2 _ (by decide)]; exact h.1.2.2
  · rw [lo _ (Or.inl (by decide)), e2] at q1
    have hq := h.k q0 q1
    have hi := hI q q0 (by omega)
    rw [wRes_0, wRes_r h6' ⟨q0, by omega⟩ (by decide), wRes_r h6' ⟨q0, by omega⟩ (by decide), hw2 _ (by omega), hw2 _ (by omega), hw2 _ (by omega), h31, hi.1, hi.2, hq.1, hq.2.1, hq.2.2]
    refine ⟨rfl, if_cg ⟨fun z => z.2, fun z => ⟨q1, z⟩⟩, if_cg ⟨fun z => z.2, fun z => ⟨q1, z⟩⟩⟩
  · rw [lo _ (Or.inr (by omega)), hw2 _ (by omega)]; exact h.2.2.1.2.1 c c0 c1
  · rw [lo _ (Or.inr (by omega)), hw2 _ (by omega)]; exact h.2.2.1.2.2 c c0 c1
  · rcases hs with rfl | rfl
    · exact hs1
    · exact hs2
  · rcases hs with rfl | rfl
    · exact hs2
    · exact hs1
end C63a
section C63
variable {G : p_G} {Y : Nat → Nat} {h0 : p_H} {P : (Option Value) ⊕ String → c_X → Prop} {d : Nat} {V : Nat → Int} {C : Nat → Int → Int} {J : c_J}
variable {w w' : Int → Int} {a : Nat} {p : c_P}
theorem q_slotRaw {k x : Int} (hk : 0 ≤ k ∧ k < 6) (hx : C 31 k = x) (hp0 : P (.inl (some (.int (iI x)))) (V, C, J)) : RM G mX9_slotOf (c_I Y h0) [.ref (Y 30), .int (iI k)] (d + 1) 0 0 P (V, C, J) := by
  refine RM.of (L := [some (.ref (Y 30)), some (.int (iI k))]) cfX9_slotOf rfl (Nat.le_of_ble_eq_true rfl) ?_
  refine i_iload_n dX9_slotOf_0 rfl ?_
  refine i_aload_n dX9_slotOf_1 rfl ?_
  refine u_get (i := 30) (vv := .ref (Y (31))) dX9_slotOf_2 fX9_18.o (by decide) rfl rfl ?_
  refine u_alen (N := 6) dX9_slotOf_5 (by decide) rfl (by decide) rfl ?_
  refine i_callSN (mc := 0) (ms := 0) (As := [_, _]) dX9_slotOf_6 cfX10_isIndex stX10_isIndex lX9_57 rfl rfl (Nat.le_of_ble_eq_true rfl) (Nat.zero_add _).symm (Nat.zero_add _).symm ?_
  refine q_isIndex (by omega) (by omega) (RKN.v ?_)
  refine i_ifeq_b (tgt := 21) dX9_slotOf_9 (by decide) (fun c9 => ?_) (fun c9 => ?_)
  · -- jumps
    refine i_const dX9_slotOf_21 ?_
    refine i_ireturn dX9_slotOf_22 rfl rfl ?_
    exfalso; omega
  · -- on
    refine i_aload_n dX9_slotOf_12 rfl ?_
    refine u_get (i := 30) (vv := .ref (Y (31))) dX9_slotOf_13 fX9_18.o (by decide) rfl rfl ?_
    refine i_iload_n dX9_slotOf_16 rfl ?_
    refine u_iald (i := 31) (N := 6) (v := C 31 k) dX9_slotOf_17 (by decide) rfl (by decide) (by omega) rfl ?_
    refine i_goto (tgt := 22) dX9_slotOf_18 (by decide) ?_
    refine i_ireturn dX9_slotOf_22 rfl rfl ?_
    rw [hx]; exact hp0
theorem q_pp_l {s : Int} (h6 : 0 ≤ V 21 ∧ V 21 ≤ 6) (hs : s = 0 ∨ s = 1) (hk : ∀ k, 0 ≤ k → k < V 21 → C 31 k = 0 ∨ C 31 k = 1) (hp : ∀ C', sC [32, 33] C C' → (∀ j, 0 ≤ j → j < 6 → C' 32 j = (if j < V 21 ∧ C 31 j = s then 0 else C 32 j) ∧ C' 33 j = (if j < V 21 ∧ C 31 j = s then 0 else C 33 j)) → P (.inl none) (V, C', J)) : ∀ (zz : Nat) (k : Int) (C' : Nat → Int → Int), zz = (V 21 - k).toNat → (0 ≤ k ∧ k ≤ V 21) → (sC [32, 33] C C') → (∀ j, 0 ≤ j → j < 6 → C' 32 j = (if j < k ∧ C 31 j = s then 0 else C 32 j) ∧ C' 33 j = (if j < k ∧ C 31 j = s then 0 else C 33 j)) → RW G mX9_putPattern (c_I Y h0) P (d + 2) 0 0 19 [some (.ref (Y 30)), some (.int (iI s)), none, some (.int (iI k))] [] (V, C', J) := by
  intro zz
  induction zz using Nat.strongRecOn with
  | _ zz ih =>
    intro k C' hzz h1 hC hI
    refine i_iload_n dX9_putPattern_19 rfl ?_
    refine i_aload_n dX9_putPattern_20 rfl ?_
    refine u_get (i := 30) (vv := .int (iI (V 21))) dX9_putPattern_21 fX9_39 (by decide) rfl rfl ?_
    refine i_icmp_ge (tgt := 47) dX9_putPattern_24 (by decide) (by omega) (by omega) (fun c24 => ?_) (fun c24 => ?_)
    · -- jumps
      refine i_return dX9_putPattern_47 rfl ?_
      obtain rfl : k = V 21 := by omega
      exact hp _ hC hI
    · -- on
      refine i_aload_n dX9_putPattern_27 rfl ?_
      refine i_iload_n dX9_putPattern_28 rfl ?_
      refine u_callV (i := 30) (mc := 0) (ms := 0) (As := [_]) dX9_putPattern_29 cfX9_slotOf imX9_slotOf seX9_slotOf lX9_45 (by decide) rfl rfl rfl rfl rfl (Nat.le_of_ble_eq_true rfl) (Nat.zero_add _).symm (Nat.zero_add _).symm ?_
      refine q_slotRaw (x := C 31 k) (by omega) (congrFun (hC 31 (by decide)) _) (RK.v ?_)
      have y9 := hk k (by omega) (by omega)
      refine i_iload_n dX9_putPattern_32 rfl ?_
      refine i_icmp_ne (tgt := 41) dX9_putPattern_33 (by decide) (by omega) (by omega) (fun c33 => ?_) (fun c33 => ?_)
      · -- jumps
        refine i_iinc dX9_putPattern_41 rfl (L' := [some _, some _, none, some _]) (by decide) rfl ?_
        refine i_goto (tgt := 19) dX9_putPattern_44 (by decide) ?_
        refine ih _ ?_ (k + 1) _ rfl (by omega) hC (fun j j0 j1 => ?_)
        · omega
        have hj := hI j j0 j1
        rw [hj.1, hj.2]
        by_cases z : j = k
        · subst z; exact ⟨if_cg (by omega), if_cg (by omega)⟩
        · exact ⟨if_cg (by omega), if_cg (by omega)⟩
      · -- on
        refine i_aload_n dX9_putPattern_36 rfl ?_
        refine i_iload_n dX9_putPattern_37 rfl ?_
        refine u_callV (i := 30) (mc := 0) (ms := 0) (As := [_]) dX9_putPattern_38 cfX9_beginAnew imX9_beginAnew seX9_beginAnew lX9_53 (by decide) rfl rfl rfl rfl rfl (Nat.le_of_ble_eq_true rfl) (Nat.zero_add _).symm (Nat.zero_add _).symm ?_
        refine q_beginAnew (by omega) (RK.n0 ?_)
        refine i_iinc dX9_putPattern_41 rfl (L' := [some _, some _, none, some _]) (by decide) rfl ?_
        refine i_goto (tgt := 19) dX9_putPattern_44 (by decide) ?_
        refine ih _ ?_ (k + 1) _ rfl (by omega) ((hC.cu (by decide)).cu (by decide)) (fun j j0 j1 => ?_)
        · omega
        have hj := hI j j0 j1
        show zu (C' 32) k 0 j = _ ∧ zu (C' 33) k 0 j = _
        by_cases z : j = k
        · subst z; rw [zu_at, zu_at, if_pos ⟨by omega, by omega⟩, if_pos ⟨by omega, by omega⟩]; exact ⟨rfl, rfl⟩
        · rw [zu_ne z, zu_ne z, hj.1, hj.2]; exact ⟨if_cg (by omega), if_cg (by omega)⟩
theorem q_putPattern {s : Int} (hN : cNow V C J w) (hO : wOK w) (hs : s = 0 ∨ s = 1) (hpa : J.2.2 a = some p) (hr : cPt p w' s) (hP' : wP w' s) (hw : ∀ j, ¬ (476 * s + 0 ≤ j ∧ j < 476 * s + 476) → w' j = w j) (hp : ∀ C' J', cNow V C' J' (wRes w' s) → sC [32, 33] C C' → (∀ q, 2 ≤ q → J'.2.1 q = J.2.1 q) → J'.1 = J.1 → J'.2.2 = J.2.2 → P (.inl none) (V, C', J')) : RM G mX9_putPattern (c_I Y h0) [.ref (Y 30), .int (iI s), .ref a] (d + 2) 0 0 P (V, C, J) := by
  refine RM.of (L := [some (.ref (Y 30)), some (.int (iI s)), some (.ref a), none]) cfX9_putPattern rfl (Nat.le_of_ble_eq_true rfl) ?_
  have n1 := hN.n
  have h6 := hO.2.1
  refine i_iload_n dX9_putPattern_0 rfl ?_
  refine i_if_ne (tgt := 12) dX9_putPattern_1 (by decide) (by omega) (fun c1 => ?_) (fun c1 => ?_)
  · -- jumps
    refine i_aload_n dX9_putPattern_12 rfl ?_
    refine i_aload_n dX9_putPattern_13 rfl ?_
    refine u_putR (u := 0) (q := 1) dX9_putPattern_14 fX9_32 (by decide) (c_wfs_r1 (u := 0)) (by decide) (by decide) rfl rfl ?_
    refine i_const dX9_putPattern_17 ?_
    refine i_istore_n dX9_putPattern_18 (L' := [some _, some _, some _, some _]) (by decide) rfl ?_
    refine RW.wk (L' := [some _, some _, none, some _]) (p_subL.at (by repeat (first | exact subL_nil | refine subL_s ?_ | refine subL_n ?_))) ?_
    obtain rfl : s = 1 := by omega
    refine q_pp_l (by omega) (by omega) (fun k k0 k1 => ?_) (fun C' hC hI => hp _ _ (hN.put (R' := ru J.2.1 1 a) hO (by omega) hpa hr hP' hw (hC 31 (by decide)) (fun j j0 j1 => ?_) ru_at (fun q hq => ru_ne hq)) hC (fun q hq => ru_ne (show q ≠ 1 by omega)) rfl rfl) _ 0 C rfl (by omega) sC.rfl (fun j j0 j1 => ?_)
    · rw [(hN.k k0 (by omega)).1]; exact (hO.wk k0 (by omega)).1
    · rw [← n1.2.1]; exact hI j j0 j1
    · rw [if_neg (by omega), if_neg (by omega)]; exact ⟨rfl, rfl⟩
  · -- on
    refine i_aload_n dX9_putPattern_4 rfl ?_
    refine i_aload_n dX9_putPattern_5 rfl ?_
    refine u_putR (u := 0) (q := 0) dX9_putPattern_6 fX9_28 (by decide) (c_wfs_r0 (u := 0)) (by decide) (by decide) rfl rfl ?_
    refine i_goto (tgt := 17) dX9_putPattern_9 (by decide) ?_
    refine i_const dX9_putPattern_17 ?_
    refine i_istore_n dX9_putPattern_18 (L' := [some _, some _, some _, some _]) (by decide) rfl ?_
    refine RW.wk (L' := [some _, some _, none, some _]) (p_subL.at (by repeat (first | exact subL_nil | refine subL_s ?_ | refine subL_n ?_))) ?_
    obtain rfl : s = 0 := by omega
    refine q_pp_l (by omega) (by omega) (fun k k0 k1 => ?_) (fun C' hC hI => hp _ _ (hN.put (R' := ru J.2.1 0 a) hO (by omega) hpa hr hP' hw (hC 31 (by decide)) (fun j j0 j1 => ?_) ru_at (fun q hq => ru_ne hq)) hC (fun q hq => ru_ne (show q ≠ 0 by omega)) rfl rfl) _ 0 C rfl (by omega) sC.rfl (fun j j0 j1 => ?_)
    · rw [(hN.k k0 (by omega)).1]; exact (hO.wk k0 (by omega)).1
    · rw [← n1.2.1]; exact hI j j0 j1
    · rw [if_neg (by omega), if_neg (by omega)]; exact ⟨rfl, rfl⟩
end C63
