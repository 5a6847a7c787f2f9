/-! ===== the class: the history is made ===== -/
abbrev eW (f : Nat → Option Nat) : p_E := .inl (5, (8, .inr (.inr (.inr (.inr f)))))
/-- m worlds of the history are made -/
def hsOK (Y : Nat → Nat) (A A0 : Nat → Option p_E) (Y0 : Nat → Nat) (p3 p4 m : Nat) : Prop := A 10 = some (eW (fun t => if t < m then some (Y (38 + 4 * t)) else none)) ∧ (∀ t, t < m → A (38 + 4 * t) = some (.inr (9, gl 10 (wdF p3 p4 (Y (38 + 4 * t + 1)) (Y (38 + 4 * t + 2)) (Y (38 + 4 * t + 3))))) ∧ ∀ k, 1 ≤ k → k ≤ 3 → A (38 + 4 * t + k) = some (eI 6)) ∧ (∀ j, 38 + 4 * m ≤ j → j < 70 → A j = none) ∧ (∀ j, (j < 38 ∧ j ≠ 10) ∨ 70 ≤ j → A j = A0 j) ∧ ∀ j, j < 38 ∨ 70 ≤ j → Y j = Y0 j
section C94
variable {G : p_G} {P : p_P} {d k n : Nat} {h hb : p_H} {Y : Nat → Nat} {A A0 : Nat → Option p_E} {Y0 : Nat → Nat} {a p3 p4 m q q1 q2 q3 : Nat} {F : Nat → Value}
theorem hsOK.step (hv : hsOK Y A A0 Y0 p3 p4 m) (hm : m < 8) : hsOK (yu (yu (yu (yu Y (38 + 4 * m) q) (38 + 4 * m + 1) q1) (38 + 4 * m + 2) q2) (38 + 4 * m + 3) q3) (eu (eu (eu (eu (eu A (38 + 4 * m + 1) (eI 6)) (38 + 4 * m + 2) (eI 6)) (38 + 4 * m + 3) (eI 6)) (38 + 4 * m) (.inr (9, gl 10 (wdF p3 p4 q1 q2 q3)))) 10 (eW (va_up (fun t => if t < m then some (Y (38 + 4 * t)) else none) m (some q)))) A0 Y0 p3 p4 (m + 1) := by
  obtain ⟨h1, h2, h3, h4, h5⟩ := hv
  have ylo : ∀ j, j < 38 + 4 * m ∨ 38 + 4 * (m + 1) ≤ j → yu (yu (yu (yu Y (38 + 4 * m) q) (38 + 4 * m + 1) q1) (38 + 4 * m + 2) q2) (38 + 4 * m + 3) q3 j = Y j := fun j hj => by rw [yu_ne (by omega), yu_ne (by omega), yu_ne (by omega), yu_ne (by omega)]
  refine ⟨?_, fun t ht => ⟨?_, fun k k0 k1 => ?_⟩, fun j j0 j1 => ?_, fun j hj => ?_, fun j hj => ?_⟩
  · rw [eu_at]
    refine congrArg (fun f => some (eW f)) (funext (fun t => ?_))
    show (if t = m then some q else if t < m then some (Y (38 + 4 * t)) else none) = _
    by_cases z : t = m
    · rw [if_pos z, z, if_pos (by omega), yu_ne (by omega), yu_ne (by omega), yu_ne (by omega), yu_at]
    · rw [if_neg z]
      by_cases y : t < m
      · rw [if_pos y, if_pos (by omega), ylo _ (by omega)]
      · rw [if_neg y, if_neg (by omega)]
  · rw [eu_ne (by omega)]
    by_cases z : t = m
    · subst z
      rw [eu_at, yu_ne (by omega), yu_ne (by omega), yu_at, yu_ne (by omega), yu_at, yu_at]
    · rw [eu_ne (by omega), eu_ne (by omega), eu_ne (by omega), eu_ne (by omega), ylo _ (by omega), ylo _ (by omega), ylo _ (by omega)]
      exact (h2 t (by omega)).1
  · rw [eu_ne (by omega)]
    by_cases z : t = m
    · subst z
      rw [eu_ne (by omega)]
      rcases (by omega : k = 1 ∨ k = 2 ∨ k = 3) with rfl | rfl | rfl
      · rw [eu_ne (by omega), eu_ne (by omega), eu_at]
      · rw [eu_ne (by omega), eu_at]
      · rw [eu_at]
    · rw [eu_ne (by omega), eu_ne (by omega), eu_ne (by omega), eu_ne (by omega)]
      exact (h2 t (by omega)).2 k k0 k1
  · rw [eu_ne (by omega), eu_ne (by omega), eu_ne (by omega), eu_ne (by omega), eu_ne (by omega)]
    exact h3 j (by omega) j1
  · rw [eu_ne (by omega), eu_ne (by omega), eu_ne (by omega), eu_ne (by omega), eu_ne (by omega)]
    exact h4 j hj
  · rw [ylo j (by omega)]
    exact h5 j hj
theorem n9l : p_N RX0 9 9 (gl 10 N9) 10 := nX0_9
theorem q_ini0_l (hY : Y0 9 = a) (hE : A0 9 = some (.inr (0, gl 3 F))) (hF : F 0 = .ref (Y0 10)) (hp : ∀ h' Y' A', hA hb h' Y' A' → hsOK Y' A' A0 Y0 p3 p4 8 → P (.inl none) h') : ∀ (zz i : Nat) (h' : p_H) (Y' : Nat → Nat) (A' : Nat → Option p_E), zz = 8 - i → i ≤ 8 → hA hb h' Y' A' → hsOK Y' A' A0 Y0 p3 p4 i → SW G mX0_init P (d + 2) (4 * zz) (28 * zz) h' 15 [some (.ref a), some (.ref p3), some (.ref p4), some (.int (iI (i : Int)))] [] := by
  intro zz
  induction zz with
  | zero =>
    intro i h' Y' A' hz hi H hv
    obtain rfl : i = 8 := by omega
    refine r_iload_n dX0_init_15 rfl ?_
    refine r_bipush (v := 8) dX0_init_16 (by decide) ?_
    refine r_icmp_ge (tgt := 42) dX0_init_18 (by decide) (fun _ => ?_) (fun c => absurd (show (8 : Int32) ≤ iI ((8 : Nat) : Int) by decide) c)
    exact r_return dX0_init_42 rfl (hp h' Y' A' H hv)
  | succ zz ih =>
    intro i h' Y' A' hz hi H hv
    refine r_iload_n dX0_init_15 rfl ?_
    refine r_bipush (v := 8) dX0_init_16 (by decide) ?_
    refine r_icmp_ge (tgt := 42) dX0_init_18 (by decide) (fun c => ?_) (fun _ => ?_)
    · have c' := (iI_le (a := 8) (b := (i : Int)) (by decide) (by omega)).mp c
      exfalso; omega
    have e9 := (hv.2.2.2.1 9 (by decide)).trans hE
    have y9 := (hv.2.2.2.2 9 (by decide)).trans hY
    have y10 := hv.2.2.2.2 10 (by decide)
    refine r_aload_n dX0_init_21 rfl ?_
    refine a_get (i := 9) H dX0_init_22 fX0_11.o e9 y9 (v := .ref (Y0 10)) ?_ ?_
    · rw [← hF]; rfl
    refine r_iload_n dX0_init_25 rfl ?_
    refine a_new (M := mX0_init) (i := 38 + 4 * i) (k := 4 * zz + 3) (n := 28 * zz + 18) H dX0_init_26 n9l (hv.2.2.1 _ (by omega) (by omega)) (fun q h1 H1 => ?_)
    refine r_dup dX0_init_29 rfl ?_
    refine r_aload_n dX0_init_30 rfl ?_
    refine r_aload_n dX0_init_31 rfl ?_
    refine r_callI (As := [.ref p3, .ref p4]) (mc := 3) (ms := 18) (k' := 4 * zz) (n' := 28 * zz) dX0_init_32 cfX9_init rfl rfl imX9_init lX0_17 rfl rfl (Nat.le_of_ble_eq_true rfl) (by omega) (by omega) ?_
    refine q_ini9 (d := d) (o := 38 + 4 * i) H1 yu_at (fun j j0 j1 => hv.2.2.1 _ (by omega) (by omega)) (fun q1 q2 q3 h2 H2 => ?_)
    refine (show SW G mX0_init P (d + 2) (4 * zz) (28 * zz) h2 35 [some (.ref a), some (.ref p3), some (.ref p4), some (.int (iI (i : Int)))] [.ref q, .int (iI (i : Int)), .ref (Y0 10)] from ?_)
    have g10 := H2.get (i := 10) (by rw [eu_ne (by omega), eu_ne (by omega), eu_ne (by omega), eu_ne (by omega)]; exact hv.1)
    have gq := H2.get (i := 38 + 4 * i) eu_at
    rw [yu_ne (by omega), yu_ne (by omega), yu_ne (by omega), yu_at] at gq
    rw [yu_ne (by omega), yu_ne (by omega), yu_ne (by omega), yu_ne (by omega), y10] at g10
    have H3 := H2.set (i := 10) (e := eW (va_up (fun t => if t < i then some (Y' (38 + 4 * t)) else none) i (some q))) (by rw [eu_ne (by omega), eu_ne (by omega), eu_ne (by omega), eu_ne (by omega)]; exact hv.1)
    rw [yu_ne (by omega), yu_ne (by omega), yu_ne (by omega), yu_ne (by omega), y10] at H3
    refine r_aastW dX0_init_35 g10 gq (iI_in (by omega) (by omega) (by decide)) ?_
    rw [show (iI (i : Int)).toNatClampNeg = i by rw [iI_clamp (by omega) (by omega)]; exact Int.toNat_natCast i]
    refine r_iinc (x := iI (i : Int)) (v := iI ((i + 1 : Nat) : Int)) dX0_init_36 rfl (by rw [show ((i + 1 : Nat) : Int) = (i : Int) + 1 by omega]; exact (Int32.ofInt_add _ _).symm) (L' := [some _, some _, some _, some _]) (by decide) rfl ?_
    refine r_goto (tgt := 15) dX0_init_39 (by decide) ?_
    exact ih (i + 1) _ _ _ (by omega) (by omega) H3 (hv.step (by omega))
theorem q_ini0 (H : hA hb h Y (eu A 9 (.inr (0, gl 3 N0)))) (hY : Y 9 = a) (hf : ∀ j, j = 10 ∨ (38 ≤ j ∧ j < 70) → A j = none) (hp : ∀ q h' Y' A', hA hb h' Y' A' → hsOK Y' A' (eu (eu A 10 (eW (fun _ => none))) 9 (.inr (0, gl 3 (fu N0 0 (.ref q))))) (yu Y 10 q) p3 p4 8 → P (.inl none) h') : SM G mX0_init h [.ref a, .ref p3, .ref p4] (d + 2) 33 232 P := by
  refine SM.of2 cfX0_init (L := [some (.ref a), some (.ref p3), some (.ref p4), none]) rfl (Nat.le_of_ble_eq_true rfl) ?_
  refine r_aload_n dX0_init_0 rfl ?_
  refine r_objInit dX0_init_1 lX0_3 (Nat.le_of_ble_eq_true rfl) ?_
  refine r_aload_n dX0_init_4 rfl ?_
  refine r_bipush (v := 8) dX0_init_5 (by decide) ?_
  refine r_newaW (k := 32) (n := 224) (N := 8) dX0_init_7 lX0_9c (by decide) (by decide) (by decide) (fun q hq => ?_)
  have H1 := H.new (i := 10) (e := eW (fun _ => none)) hq (by rw [eu_ne (by decide)]; exact hf 10 (Or.inl rfl))
  rw [eu_cm (by decide)] at H1
  have hY1 : yu Y 10 q 9 = a := (yu_ne (by decide)).trans hY
  refine o_putF H1 hY1 dX0_init_10 fX0_11 rfl rfl rfl (by decide) (fun h2 H2 => ?_)
  refine r_iconst (v := iI ((0 : Nat) : Int)) dX0_init_13 rfl ?_
  refine r_istore_n dX0_init_14 (L' := [some _, some _, some _, some _]) (by decide) rfl ?_
  refine q_ini0_l (F := fu N0 0 (.ref q)) hY1 eu_at (by show Value.ref q = .ref (yu Y 10 q 10); rw [yu_at]) (fun h' Y' A' H' hv => hp q h' Y' A' H' hv) 8 0 h2 _ _ rfl (by decide) H2 ⟨?_, fun t ht => absurd ht (Nat.not_lt_zero t), fun j j0 j1 => ?_, fun j hj => rfl, fun j hj => rfl⟩
  · rw [eu_ne (by decide), eu_at]
    exact congrArg (fun f => some (eW f)) (funext (fun t => (if_neg (Nat.not_lt_zero t)).symm))
  · rw [eu_ne (by omega), eu_ne (by omega)]
    exact hf j (by omega)
end C94
