/-! ===== the class: walks, undo, the snapshot, copies ===== -/
section C65a
theorem wCan_c {w v b : Int → Int} {k c : Int} (hc : (0 ≤ b k - 97 ∧ b k - 97 ≤ 5 ∧ c = b k - 97) ∨ (¬ (0 ≤ b k - 97 ∧ b k - 97 ≤ 5) ∧ c = -1)) (e : 0 ≤ c → c < 6 → v (971 + 2 * c + v 983) = w (971 + 2 * c + w 983)) : (0 ≤ c ∧ c < 6 ∧ v (971 + 2 * c + v 983) = 1) ↔ wCan w b k := by
  rcases hc with ⟨h1, h2, rfl⟩ | ⟨h1, rfl⟩
  · constructor
    · rintro ⟨a, b, c⟩
      exact ⟨h1, h2, (e a b) ▸ c⟩
    · rintro ⟨a, b, c⟩
      exact ⟨a, by omega, (e a (by omega)).trans c⟩
  · constructor
    · rintro ⟨a, b, c⟩
      omega
    · rintro ⟨a, b, c⟩
      exact absurd ⟨a, b⟩ h1
theorem zite {c x : Int} {p : Prop} [Decidable p] (h : c = (if p then x else -1)) : (p ∧ c = x) ∨ (¬ p ∧ c = -1) := by
  by_cases z : p
  · rw [if_pos z] at h; exact Or.inl ⟨z, h⟩
  · rw [if_neg z] at h; exact Or.inr ⟨z, h⟩
end C65a
section C65
variable {G : p_G} {Y : Nat → Nat} {h0 : p_H} {P : (Option Value) ⊕ String → c_X → Prop} {d : Nat} {V : Nat → Int} {C : Nat → Int → Int} {J : c_J}
variable {w b : Int → Int} {n : Int} {H : Int → Int → Int}
theorem q_undo  (hH : cHs V C J n H) (hOH : ∀ i, 0 ≤ i → i < n → wOK (H i)) (hp0 : n = 0 → P (.inl (some (.int (iI (-1))))) (V, C, J)) (hp : n ≠ 0 → ∀ V' C' J', cNow V' C' J' (H (n - 1)) → cHs V' C' J' (n - 1) H → cFr V V' C C' J J' → P (.inl (some (.int (iI (n - 1))))) (V', C', J')) : RM G mX10_undo (c_I Y h0) [.ref (Y 0)] (d + 2) 0 0 P (V, C, J) := by
  refine RM.of (L := [some (.ref (Y 0))]) cfX10_undo rfl (Nat.le_of_ble_eq_true rfl) ?_
  refine i_aload_n dX10_undo_0 rfl ?_
  refine u_get (i := 0) (vv := .ref (Y (9))) dX10_undo_1 fX10_56.o (by decide) rfl rfl ?_
  refine i_aload_n dX10_undo_4 rfl ?_
  refine u_get (i := 0) (vv := .ref (Y (30))) dX10_undo_5 fX10_49.o (by decide) rfl rfl ?_
  refine u_callV (i := 9) (mc := 0) (ms := 0) (As := [_]) dX10_undo_8 cfX0_takeBack imX0_takeBack seX0_takeBack lX10_193 (by decide) rfl rfl rfl rfl rfl (Nat.le_of_ble_eq_true rfl) (Nat.zero_add _).symm (Nat.zero_add _).symm ?_
  refine q_takeBack hH hOH (fun g1 => RK.v ?_) (fun g1 V1 C1 J1 hn1 hh1 hf1 => RK.v ?_)
  · -- case
    refine i_if_eq (tgt := 24) dX10_undo_11 (by decide) (by decide) (fun c11 => ?_) (fun c11 => by omega)
    refine i_const dX10_undo_24 ?_
    refine i_ireturn dX10_undo_25 rfl rfl ?_
    exact hp0 (by assumption)
  · -- case
    refine i_if_eq (tgt := 24) dX10_undo_11 (by decide) (by decide) (fun c11 => by omega) (fun c11 => ?_)
    refine i_aload_n dX10_undo_14 rfl ?_
    refine u_get (i := 0) (vv := .ref (Y (9))) dX10_undo_15 fX10_56.o (by decide) rfl rfl ?_
    refine u_callV (i := 9) (mc := 0) (ms := 0) (As := []) dX10_undo_18 cfX0_size imX0_size seX0_size lX10_197 (by decide) rfl rfl rfl rfl rfl (Nat.le_of_ble_eq_true rfl) (Nat.zero_add _).symm (Nat.zero_add _).symm ?_
    refine q_size0 (RK.v ?_)
    refine i_goto (tgt := 25) dX10_undo_21 (by decide) ?_
    refine i_ireturn dX10_undo_25 rfl rfl ?_
    rw [hh1.2.1.1]
    exact hp g1 _ _ _ hn1 hh1 hf1
/-- a copied pattern -/
theorem cPt.copy {p : c_P} {s : Int} (h : cPt p w s) (hO : wOK w) (hs : s = 0 ∨ s = 1) : cPt p (wCopy w s) (1 - s) ∧ wP (wCopy w s) (1 - s) := by
  have e : ∀ j, 0 ≤ j → j < 476 → wCopy w s (476 * (1 - s) + j) = w (476 * s + j) := fun j j0 j1 => by
    unfold wCopy
    rw [if_pos (by omega)]
    exact congrArg w (by omega)
  have o := hO.1 s hs
  have o5 := o.2.2.2.1
  have o0 := o.1
  obtain ⟨h1, h2, h3, h4, h5⟩ := h
  refine ⟨⟨?_, fun q q0 q1 => ?_, fun c c0 c1 => ⟨(h3 c c0 c1).1, fun q q0 => ?_⟩, fun t t0 t1 => ?_, fun t c t0 t1 c0 c1 => ?_⟩, ?_, ?_, fun k k0 k1 => ?_, ?_, fun q q0 q1 => ?_, fun t c t0 t1 c0 c1 => ?_⟩
  · rw [e 0 (by decide) (by decide), e 4 (by decide) (by decide), e 1 (by decide) (by decide), e 2 (by decide) (by decide), e 3 (by decide) (by decide), e 5 (by decide) (by decide)]
    exact h1
  · rw [e 0 (by decide) (by decide)] at q1
    rw [e _ (by omega) (by omega), e _ (by omega) (by omega)]
    exact h2 q q0 (by omega)
  · rw [(h3 c c0 c1).2 q q0, e 0 (by decide) (by decide)]
    constructor
    · rintro ⟨k1, k2⟩
      exact ⟨k1, by rw [e _ (by omega) (by omega)]; exact k2⟩
    · rintro ⟨k1, k2⟩
      rw [e _ (by omega) (by omega)] at k2
      exact ⟨k1, k2⟩
  · rw [e 5 (by decide) (by decide)] at t1
    rw [e _ (by omega) (by omega)]
    exact h4 t t0 (by omega)
  · rw [e 5 (by decide) (by decide)] at t1
    rw [e _ (by omega) (by omega)]
    exact h5 t c t0 (by omega) c0 c1
  · rw [e 0 (by decide) (by decide)]; exact o0
  · rw [e 1 (by decide) (by decide)]; exact o.2.1
  · rw [e _ (by omega) (by omega)]; exact o.2.2.1 k k0 k1
  · rw [e 5 (by decide) (by decide)]; exact o5
  · rw [e _ (by omega) (by omega)]; exact o.2.2.2.2.1 q q0 q1
  · rw [e 5 (by decide) (by decide)] at t1 ⊢
    rw [e _ (by omega) (by omega)]; exact o.2.2.2.2.2 t c t0 t1 c0 c1
end C65
