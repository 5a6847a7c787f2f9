/-! ===== the class: its small constructors; levels made one in another ===== -/
def N2 : Nat → Value := fun i => if i < 5 then .null else .int 0
def ePt : p_E := .inr (4, [.int 0, .int 0, .int 0])
theorem gl_cg {n : Nat} {F F' : Nat → Value} (h : ∀ j, j < n → F j = F' j) : gl n F = gl n F' := by
  unfold gl
  exact List.map_congr_left (fun j hj => h j (List.mem_range.mp hj))
section C91a
variable {G : p_G} {P : p_P} {d k n : Nat} {h hb : p_H} {Y : Nat → Nat} {A : Nat → Option p_E} {a o i : Nat} {F : Nat → Value}
theorem q_ini4 (hp : P (.inl none) h) : SM G mX4_init h [.ref a] (d + 1) 0 0 P := by
  refine SM.of2 cfX4_init (L := [some (.ref a)]) rfl (Nat.le_of_ble_eq_true rfl) ?_
  refine r_aload_n dX4_init_0 rfl ?_
  refine r_objInit dX4_init_1 lX4_1 (Nat.le_of_ble_eq_true rfl) ?_
  exact r_return dX4_init_4 rfl hp
/-- a part made and put into a field -/
theorem o_part {idx kf pc : Nat} {L : p_LL} (H : hA hb h Y (eu A o (.inr (2, gl 6 F)))) (hY : Y o = a) (hA' : A i = none) (hio : i ≠ o) (d0 : decode mX2_init.2.1 pc = .ok (.new 7, 3)) (d1 : decode mX2_init.2.1 (pc + 3) = .ok (.dup, 1)) (d2 : decode mX2_init.2.1 (pc + 3 + 1) = .ok (.invokespecial 9, 3)) (d3 : decode mX2_init.2.1 (pc + 3 + 1 + 3) = .ok (.putfield idx, 3)) (hf : p_F RX2 idx 2 kf (.object "StreetAutomata$Part") true) (hl : kf < 6) (kk : ∀ q h', (yu Y i q) o = a → hA hb h' (yu Y i q) (eu (eu A i ePt) o (.inr (2, gl 6 (fu F kf (.ref q))))) → SW G mX2_init P (d + 2) k n h' (pc + 3 + 1 + 3 + 3) L []) : SW G mX2_init P (d + 2) (k + 1) (n + 3) h pc L [.ref a] :=
  a_new (i := i) H d0 nX2_7 (by rw [eu_ne hio]; exact hA') (fun q h' H' => r_dup d1 rfl (r_callIN (As := []) (mc := 0) (ms := 0) d2 cfX4_init rfl rfl imX4_init lX2_9 rfl rfl (Nat.le_of_ble_eq_true rfl) (Nat.zero_add _).symm (Nat.zero_add _).symm (q_ini4 (by
    show SW G mX2_init P (d + 2) k n h' (pc + 3 + 1 + 3) L [.ref q, .ref a]
    rw [eu_cm hio.symm] at H'
    have y := (yu_ne (q := q) hio.symm).trans hY
    exact o_putF H' y d3 hf rfl rfl rfl hl (fun h2 H2 => kk q h2 y H2)))))
/-- a level's constructor -/
theorem q_ini2 {v : Nat} {ov : Value} (H : hA hb h Y (eu A (100 + 4 * v) (.inr (2, gl 6 N2)))) (hY : Y (100 + 4 * v) = a) (hf : ∀ j, 1 ≤ j → j ≤ 3 → A (100 + 4 * v + j) = none) (hov : ov = .null ∨ ∃ b, ov = .ref b) (hp : ∀ q1 q2 q3 h', hA hb h' (yu (yu (yu Y (100 + 4 * v + 1) q1) (100 + 4 * v + 2) q2) (100 + 4 * v + 3) q3) (eu (eu (eu (eu A (100 + 4 * v + 1) ePt) (100 + 4 * v + 2) ePt) (100 + 4 * v + 3) ePt) (100 + 4 * v) (.inr (2, gl 6 (fu (fu (fu (fu N2 2 (.ref q1)) 3 (.ref q2)) 4 (.ref q3)) 0 ov)))) → P (.inl none) h') : SM G mX2_init h [.ref a, ov] (d + 2) 3 9 P := by
  have main : ∀ L : p_LL, L = [some (.ref a), some ov] → SW G mX2_init P (d + 2) 3 9 h 0 L [] := fun L hL => by
    subst hL
    refine r_aload_n dX2_init_0 rfl ?_
    refine r_objInit dX2_init_1 lX2_1 (Nat.le_of_ble_eq_true rfl) ?_
    refine r_aload_n dX2_init_4 rfl ?_
    refine o_part (i := 100 + 4 * v + 1) (k := 2) (n := 6) H hY (hf 1 (by decide) (by decide)) (by omega) dX2_init_5 dX2_init_8 dX2_init_9 dX2_init_12 fX2_10 (by decide) (fun q1 h1 hY H => ?_)
    refine r_aload_n dX2_init_15 rfl ?_
    refine o_part (i := 100 + 4 * v + 2) (k := 1) (n := 3) H hY (by rw [eu_ne (by omega)]; exact hf 2 (by decide) (by decide)) (by omega) dX2_init_16 dX2_init_19 dX2_init_20 dX2_init_23 fX2_16 (by decide) (fun q2 h2 hY H => ?_)
    refine r_aload_n dX2_init_26 rfl ?_
    refine o_part (i := 100 + 4 * v + 3) (k := 0) (n := 0) H hY (by rw [eu_ne (by omega), eu_ne (by omega)]; exact hf 3 (by decide) (by decide)) (by omega) dX2_init_27 dX2_init_30 dX2_init_31 dX2_init_34 fX2_19 (by decide) (fun q3 h3 hY H => ?_)
    refine r_aload_n dX2_init_37 rfl ?_
    rcases hov with rfl | ⟨b, rfl⟩
    · refine r_aload_nN dX2_init_38 rfl ?_
      refine o_putF H hY dX2_init_39 fX2_22 rfl rfl rfl (by decide) (fun h4 H => ?_)
      exact r_return dX2_init_42 rfl (hp q1 q2 q3 h4 H)
    · refine r_aload_n dX2_init_38 rfl ?_
      refine o_putF H hY dX2_init_39 fX2_22 rfl rfl rfl (by decide) (fun h4 H => ?_)
      exact r_return dX2_init_42 rfl (hp q1 q2 q3 h4 H)
  rcases hov with rfl | ⟨b, rfl⟩
  · exact SM.of2 cfX2_init rfl (Nat.le_of_ble_eq_true rfl) (main _ rfl)
  · exact SM.of2 cfX2_init rfl (Nat.le_of_ble_eq_true rfl) (main _ rfl)
/-- the fields of the level u of m -/
def lvF (Y : Nat → Nat) (u m : Nat) : Nat → Value := fun j => if j = 0 then (if u = 0 then .null else .ref (Y (100 + 4 * (u - 1)))) else if j = 1 then (if u = m then .null else .ref (Y (100 + 4 * (u + 1)))) else if j < 5 then .ref (Y (100 + 4 * u + (j - 1))) else .int 0
/-- the levels up to m are made -/
def lvOK (Y : Nat → Nat) (A A0 : Nat → Option p_E) (Y0 : Nat → Nat) (m : Nat) : Prop := (∀ u, u ≤ m → A (100 + 4 * u) = some (.inr (2, gl 6 (lvF Y u m))) ∧ ∀ k, 1 ≤ k → k ≤ 3 → A (100 + 4 * u + k) = some ePt) ∧ (∀ j, 100 + 4 * (m + 1) ≤ j → A j = none) ∧ ∀ j, j < 100 → A j = A0 j ∧ Y j = Y0 j
/-- one level more -/
theorem lvOK.step {A0 : Nat → Option p_E} {Y0 : Nat → Nat} {m q q1 q2 q3 : Nat} (hv : lvOK Y A A0 Y0 m) : lvOK (yu (yu (yu (yu Y (100 + 4 * (m + 1)) q) (100 + 4 * (m + 1) + 1) q1) (100 + 4 * (m + 1) + 2) q2) (100 + 4 * (m + 1) + 3) q3) (eu (eu (eu (eu (eu A (100 + 4 * (m + 1) + 1) ePt) (100 + 4 * (m + 1) + 2) ePt) (100 + 4 * (m + 1) + 3) ePt) (100 + 4 * (m + 1)) (.inr (2, gl 6 (fu (fu (fu (fu N2 2 (.ref q1)) 3 (.ref q2)) 4 (.ref q3)) 0 (.ref (Y (100 + 4 * m))))))) (100 + 4 * m) (.inr (2, gl 6 (fu (lvF Y m m) 1 (.ref q))))) A0 Y0 (m + 1) := by
  obtain ⟨h1, h2, h3⟩ := hv
  have ylo : ∀ j, j < 100 + 4 * (m + 1) → yu (yu (yu (yu Y (100 + 4 * (m + 1)) q) (100 + 4 * (m + 1) + 1) q1) (100 + 4 * (m + 1) + 2) q2) (100 + 4 * (m + 1) + 3) q3 j = Y j := fun j hj => by rw [yu_ne (by omega), yu_ne (by omega), yu_ne (by omega), yu_ne (by omega)]
  refine ⟨fun u hu => ⟨?_, fun k k0 k1 => ?_⟩, fun j hj => ?_, fun j hj => ⟨?_, ?_⟩⟩
  · by_cases z : u = m
    · subst z
      rw [eu_at]
      refine congrArg (fun l => some (Sum.inr (2, l))) (gl_cg (fun j hj => ?_))
      rcases (by omega : j = 0 ∨ j = 1 ∨ j = 2 ∨ j = 3 ∨ j = 4 ∨ j = 5) with rfl | rfl | rfl | rfl | rfl | rfl
      · show (if u = 0 then Value.null else .ref (Y (100 + 4 * (u - 1)))) = (if u = 0 then Value.null else .ref _)
        rw [ylo _ (by omega)]
      · show Value.ref q = (if u = u + 1 then Value.null else .ref _)
        rw [if_neg (by omega), yu_ne (by omega), yu_ne (by omega), yu_ne (by omega), yu_at]
      · show Value.ref (Y (100 + 4 * u + (2 - 1))) = Value.ref _
        rw [ylo _ (by omega)]
      · show Value.ref (Y (100 + 4 * u + (3 - 1))) = Value.ref _
        rw [ylo _ (by omega)]
      · show Value.ref (Y (100 + 4 * u + (4 - 1))) = Value.ref _
        rw [ylo _ (by omega)]
      · rfl
    rw [eu_ne (by omega)]
    by_cases y : u = m + 1
    · subst y
      rw [eu_at]
      refine congrArg (fun l => some (Sum.inr (2, l))) (gl_cg (fun j hj => ?_))
      rcases (by omega : j = 0 ∨ j = 1 ∨ j = 2 ∨ j = 3 ∨ j = 4 ∨ j = 5) with rfl | rfl | rfl | rfl | rfl | rfl
      · show Value.ref (Y (100 + 4 * m)) = (if m + 1 = 0 then Value.null else .ref _)
        rw [if_neg (by omega), ylo _ (by omega), show m + 1 - 1 = m by omega]
      · show Value.null = (if m + 1 = m + 1 then Value.null else .ref _)
        rw [if_pos rfl]
      · show Value.ref q1 = Value.ref _
        rw [yu_ne (by omega), yu_ne (by omega), show 100 + 4 * (m + 1) + (2 - 1) = 100 + 4 * (m + 1) + 1 by omega, yu_at]
      · show Value.ref q2 = Value.ref _
        rw [yu_ne (by omega), show 100 + 4 * (m + 1) + (3 - 1) = 100 + 4 * (m + 1) + 2 by omega, yu_at]
      · show Value.ref q3 = Value.ref _
        rw [show 100 + 4 * (m + 1) + (4 - 1) = 100 + 4 * (m + 1) + 3 by omega, yu_at]
      · rfl
    rw [eu_ne (by omega), eu_ne (by omega), eu_ne (by omega), eu_ne (by omega), (h1 u (by omega)).1]
    refine congrArg (fun l => some (Sum.inr (2, l))) (gl_cg (fun j hj => ?_))
    unfold lvF
    rw [ylo _ (by omega), ylo _ (by omega)]
    by_cases j4 : j < 5
    · rw [if_neg z, if_neg y, ylo _ (by omega)]
    · rw [if_neg z, if_neg y, if_neg j4, if_neg j4]
  · by_cases y : u = m + 1
    · subst y
      rcases (by omega : k = 1 ∨ k = 2 ∨ k = 3) with rfl | rfl | rfl
      · rw [eu_ne (by omega), eu_ne (by omega), eu_ne (by omega), eu_ne (by omega), eu_at]
      · rw [eu_ne (by omega), eu_ne (by omega), eu_ne (by omega), eu_at]
      · rw [eu_ne (by omega), eu_ne (by omega), eu_at]
    · rw [eu_ne (by omega), eu_ne (by omega), eu_ne (by omega), eu_ne (by omega), eu_ne (by omega)]
      exact (h1 u (by omega)).2 k k0 k1
  · rw [eu_ne (by omega), eu_ne (by omega), eu_ne (by omega), eu_ne (by omega), eu_ne (by omega)]
    exact h2 j (by omega)
  · rw [eu_ne (by omega), eu_ne (by omega), eu_ne (by omega), eu_ne (by omega), eu_ne (by omega)]
    exact (h3 j hj).1
  · rw [ylo j (by omega)]
    exact (h3 j hj).2
theorem n2l : p_N RX2 11 2 (gl 6 N2) 6 := nX2_11
/-- makeInner -/
theorem q_mki {A0 : Nat → Option p_E} {Y0 : Nat → Nat} {m : Nat} (H : hA hb h Y A) (hv : lvOK Y A A0 Y0 m) (hY : Y (100 + 4 * m) = a) (hp : ∀ h' Y' A', (∀ j, j < 100 + 4 * (m + 1) → Y' j = Y j) → hA hb h' Y' A' → lvOK Y' A' A0 Y0 (m + 1) → P (.inl (some (.ref (Y' (100 + 4 * (m + 1)))))) h') : SM G mX2_makeInner h [.ref a] (d + 3) 4 15 P := by
  refine SM.of2 cfX2_makeInner (L := [some (.ref a), none]) rfl (Nat.le_of_ble_eq_true rfl) ?_
  have hfr : ∀ j, 100 + 4 * (m + 1) ≤ j → A j = none := hv.2.1
  refine a_new (M := mX2_makeInner) (i := 100 + 4 * (m + 1)) (k := 3) (n := 9) H dX2_makeInner_0 n2l (hfr _ (by omega)) (fun q h1 H1 => ?_)
  refine r_dup dX2_makeInner_3 rfl ?_
  refine r_aload_n dX2_makeInner_4 rfl ?_
  refine r_callI (As := [.ref a]) (mc := 3) (ms := 9) (k' := 0) (n' := 0) dX2_makeInner_5 cfX2_init rfl rfl imX2_init lX2_26 rfl rfl (Nat.le_of_ble_eq_true rfl) rfl rfl ?_
  refine q_ini2 (v := m + 1) (A := A) H1 yu_at (fun j j0 j1 => hfr _ (by omega)) (Or.inr ⟨a, rfl⟩) (fun q1 q2 q3 h2 H2 => ?_)
  refine (show SW G mX2_makeInner P (d + 3) 0 0 h2 8 [some (.ref a), none] [.ref q] from ?_)
  refine r_astore_n dX2_makeInner_8 (L' := [some _, some _]) (by decide) rfl ?_
  refine r_aload_n dX2_makeInner_9 rfl ?_
  refine r_aload_n dX2_makeInner_10 rfl ?_
  refine a_put (i := 100 + 4 * m) H2 dX2_makeInner_11 fX2_29 (by rw [eu_ne (by omega), eu_ne (by omega), eu_ne (by omega), eu_ne (by omega)]; exact (hv.1 m (Nat.le_refl m)).1) (by rw [yu_ne (by omega), yu_ne (by omega), yu_ne (by omega), yu_ne (by omega)]; exact hY) rfl rfl (by rw [gl_len]; decide) (fun h3 H3 => ?_)
  refine r_aload_n dX2_makeInner_14 rfl ?_
  refine r_areturn dX2_makeInner_15 rfl (Or.inl ⟨_, rfl⟩) (Or.inr ⟨_, rfl⟩) ?_
  rw [gl_set] at H3
  subst hY
  have h9 := hp h3 _ _ (fun j hj => by rw [yu_ne (by omega), yu_ne (by omega), yu_ne (by omega), yu_ne (by omega)]) H3 hv.step
  rw [yu_ne (by omega), yu_ne (by omega), yu_ne (by omega), yu_at] at h9
  exact h9
end C91a
