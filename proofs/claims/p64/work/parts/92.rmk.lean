/-! ===== the class: the reader and the input are made ===== -/
def N1 : Nat → Value := fun i => if i < 1 then .null else .int 0
def N6 : Nat → Value := fun i => if i < 5 ∨ 9 ≤ i then .null else .int 0
def eI (N : Nat) : p_E := .inl (0, (N, .inl (fun _ => 0)))
section C92
variable {G : p_G} {P : p_P} {d k n : Nat} {h hb : p_H} {Y : Nat → Nat} {A : Nat → Option p_E} {a : Nat} {F : Nat → Value}
theorem q_ini1 (H : hA hb h Y (eu A 1 (.inr (1, gl 2 N1)))) (hY : Y 1 = a) (hf : A 2 = none) (hp : ∀ q h', yu Y 2 q 1 = a → hA hb h' (yu Y 2 q) (eu (eu A 2 (eI 200)) 1 (.inr (1, gl 2 (fu N1 0 (.ref q))))) → P (.inl none) h') : SM G mX1_init h [.ref a] (d + 1) 1 200 P := by
  refine SM.of2 cfX1_init (L := [some (.ref a)]) rfl (Nat.le_of_ble_eq_true rfl) ?_
  refine r_aload_n dX1_init_0 rfl ?_
  refine r_objInit dX1_init_1 lX1_3 (Nat.le_of_ble_eq_true rfl) ?_
  refine r_aload_n dX1_init_4 rfl ?_
  refine r_sipush (v := 200) dX1_init_5 (by decide) ?_
  refine o_arrI (i := 2) (k := 0) (n := 0) (N := 200) H hY hf (by decide) dX1_init_8 (by decide) (by decide) (by decide) dX1_init_10 fX1_9 rfl (by decide) (fun q h2 y H => ?_)
  exact r_return dX1_init_13 rfl (hp q h2 y H)
/-- the levels below the outermost -/
theorem q_ini6_l {A0 : Nat → Option p_E} {Y0 : Nat → Nat} (hY : Y0 3 = a) (hE : A0 3 = some (.inr (6, gl 11 F))) (hF : F 9 = .ref (Y0 100)) (hp : ∀ h' Y' A', Y' 100 = Y0 100 → hA hb h' Y' (eu A' 3 (.inr (6, gl 11 (fu F 10 (.ref (Y0 100)))))) → lvOK Y' A' A0 Y0 20 → P (.inl none) h') : ∀ (zz i : Nat) (h' : p_H) (Y' : Nat → Nat) (A' : Nat → Option p_E), zz = 20 - i → i ≤ 20 → hA hb h' Y' A' → lvOK Y' A' A0 Y0 i → Y' 100 = Y0 100 → SW G mX6_init P (d + 4) (4 * zz) (15 * zz) h' 64 [some (.ref a), some (.ref (Y' (100 + 4 * i))), some (.int (iI (i : Int)))] [] := by
  intro zz
  induction zz with
  | zero =>
    intro i h' Y' A' hz hi H hv h100
    obtain rfl : i = 20 := by omega
    refine r_iload_n dX6_init_64 rfl ?_
    refine r_bipush (v := 20) dX6_init_65 (by decide) ?_
    refine r_icmp_ge (tgt := 81) dX6_init_67 (by decide) (fun _ => ?_) (fun c => absurd (show (20 : Int32) ≤ iI ((20 : Nat) : Int) by decide) c)
    refine r_aload_n dX6_init_81 rfl ?_
    refine r_aload_n dX6_init_82 rfl ?_
    have e3 := (hv.2.2 3 (by decide)).1.trans hE
    have y3 := (hv.2.2 3 (by decide)).2.trans hY
    refine a_get (i := 3) H dX6_init_83 fX6_32.o e3 y3 (v := .ref (Y0 100)) ?_ ?_
    · rw [← hF]; rfl
    refine a_put (i := 3) H dX6_init_86 fX6_40 e3 y3 rfl rfl (by rw [gl_len]; decide) (fun h2 H2 => ?_)
    rw [gl_set] at H2
    exact r_return dX6_init_89 rfl (hp h2 Y' A' h100 H2 hv)
  | succ zz ih =>
    intro i h' Y' A' hz hi H hv h100
    refine r_iload_n dX6_init_64 rfl ?_
    refine r_bipush (v := 20) dX6_init_65 (by decide) ?_
    refine r_icmp_ge (tgt := 81) dX6_init_67 (by decide) (fun c => ?_) (fun _ => ?_)
    · have c' := (iI_le (a := 20) (b := (i : Int)) (by decide) (by omega)).mp c
      exfalso; omega
    refine r_aload_n dX6_init_70 rfl ?_
    refine r_callV (As := []) (mc := 4) (ms := 15) (k' := 4 * zz) (n' := 15 * zz) (ci := 2) dX6_init_71 cfX2_makeInner imX2_makeInner seX2_makeInner lX6_36 (H.get (hv.1 i (Nat.le_refl i)).1) rfl rfl rfl rfl (Nat.le_of_ble_eq_true rfl) (by omega) (by omega) ?_
    refine q_mki (d := d) H hv rfl (fun h2 Y2 A2 y2 H2 hv2 => ?_)
    refine (show SW G mX6_init P (d + 4) (4 * zz) (15 * zz) h2 74 [some (.ref a), some (.ref (Y' (100 + 4 * i))), some (.int (iI (i : Int)))] [.ref (Y2 (100 + 4 * (i + 1)))] from ?_)
    refine r_astore_n dX6_init_74 (L' := [some _, some (.ref (Y2 (100 + 4 * (i + 1)))), some _]) (by decide) rfl ?_
    refine r_iinc (x := iI (i : Int)) (v := iI ((i + 1 : Nat) : Int)) dX6_init_75 rfl (by rw [show ((i + 1 : Nat) : Int) = (i : Int) + 1 by omega]; exact (Int32.ofInt_add _ _).symm) (L' := [some _, some _, some _]) (by decide) rfl ?_
    refine r_goto (tgt := 64) dX6_init_78 (by decide) ?_
    exact ih (i + 1) h2 Y2 A2 (by omega) (by omega) H2 hv2 ((y2 100 (by omega)).trans h100)
theorem n6l : p_N RX6 27 2 (gl 6 N2) 6 := nX6_27
theorem q_ini6 (H : hA hb h Y (eu A 3 (.inr (6, gl 11 N6)))) (hY : Y 3 = a) (hf : ∀ j, (4 ≤ j ∧ j ≤ 8) ∨ 100 ≤ j → A j = none) (hp : ∀ q4 q5 q6 q7 q8 h' Y' A', hA hb h' Y' A' → (∀ j, j < 100 → (A' j = eu (eu (eu (eu (eu (eu A 4 (eI 25)) 5 (eI 25)) 6 (eI 6)) 7 (eI 60)) 8 (eI 360)) 3 (.inr (6, gl 11 (fu (fu (fu (fu (fu (fu (fu N6 0 (.ref q4)) 1 (.ref q5)) 2 (.ref q6)) 3 (.ref q7)) 4 (.ref q8)) 9 (.ref (Y' 100))) 10 (.ref (Y' 100))))) j ∧ Y' j = yu (yu (yu (yu (yu Y 4 q4) 5 q5) 6 q6) 7 q7) 8 q8 j)) → (∀ u, u ≤ 20 → A' (100 + 4 * u) = some (.inr (2, gl 6 (lvF Y' u 20))) ∧ ∀ k, 1 ≤ k → k ≤ 3 → A' (100 + 4 * u + k) = some ePt) → (∀ j, 184 ≤ j → A' j = none) → P (.inl none) h') : SM G mX6_init h [.ref a] (d + 4) 89 791 P := by
  refine SM.of2 cfX6_init (L := [some (.ref a), none, none]) rfl (Nat.le_of_ble_eq_true rfl) ?_
  refine r_aload_n dX6_init_0 rfl ?_
  refine r_objInit dX6_init_1 lX6_3 (Nat.le_of_ble_eq_true rfl) ?_
  refine r_aload_n dX6_init_4 rfl ?_
  refine r_bipush (v := 25) dX6_init_5 (by decide) ?_
  refine o_arrI (i := 4) (k := 88) (n := 766) (N := 25) H hY (hf 4 (by decide)) (by decide) dX6_init_7 (by decide) (by decide) (by decide) dX6_init_9 fX6_9 rfl (by decide) (fun q4 h4 hY H => ?_)
  refine r_aload_n dX6_init_12 rfl ?_
  refine r_bipush (v := 25) dX6_init_13 (by decide) ?_
  refine o_arrI (i := 5) (k := 87) (n := 741) (N := 25) H hY (by rw [eu_ne (by decide)]; exact hf 5 (by decide)) (by decide) dX6_init_15 (by decide) (by decide) (by decide) dX6_init_17 fX6_15 rfl (by decide) (fun q5 h5 hY H => ?_)
  refine r_aload_n dX6_init_20 rfl ?_
  refine r_bipush (v := 6) dX6_init_21 (by decide) ?_
  refine o_arrI (i := 6) (k := 86) (n := 735) (N := 6) H hY (by rw [eu_ne (by decide), eu_ne (by decide)]; exact hf 6 (by decide)) (by decide) dX6_init_23 (by decide) (by decide) (by decide) dX6_init_25 fX6_18 rfl (by decide) (fun q6 h6 hY H => ?_)
  refine r_aload_n dX6_init_28 rfl ?_
  refine r_bipush (v := 60) dX6_init_29 (by decide) ?_
  refine o_arrI (i := 7) (k := 85) (n := 675) (N := 60) H hY (by rw [eu_ne (by decide), eu_ne (by decide), eu_ne (by decide)]; exact hf 7 (by decide)) (by decide) dX6_init_31 (by decide) (by decide) (by decide) dX6_init_33 fX6_21 rfl (by decide) (fun q7 h7 hY H => ?_)
  refine r_aload_n dX6_init_36 rfl ?_
  refine r_sipush (v := 360) dX6_init_37 (by decide) ?_
  refine o_arrI (i := 8) (k := 84) (n := 315) (N := 360) H hY (by rw [eu_ne (by decide), eu_ne (by decide), eu_ne (by decide), eu_ne (by decide)]; exact hf 8 (by decide)) (by decide) dX6_init_40 (by decide) (by decide) (by decide) dX6_init_42 fX6_24 rfl (by decide) (fun q8 h8 hY H => ?_)
  have h100 : ∀ j, 100 ≤ j → eu (eu (eu (eu (eu A 4 (eI 25)) 5 (eI 25)) 6 (eI 6)) 7 (eI 60)) 8 (eI 360) j = none := fun j hj => by
    rw [eu_ne (by omega), eu_ne (by omega), eu_ne (by omega), eu_ne (by omega), eu_ne (by omega)]
    exact hf j (Or.inr hj)
  refine r_aload_n dX6_init_45 rfl ?_
  refine a_new (M := mX6_init) (i := 100) (k := 83) (n := 309) H dX6_init_46 n6l (by rw [eu_ne (by decide)]; exact h100 100 (by decide)) (fun q9 h9 H => ?_)
  refine r_dup dX6_init_49 rfl ?_
  refine r_null dX6_init_50 ?_
  refine r_callI (As := [.null]) (mc := 3) (ms := 9) (k' := 80) (n' := 300) dX6_init_51 cfX2_init rfl rfl imX2_init lX6_29 rfl rfl (Nat.le_of_ble_eq_true rfl) rfl rfl ?_
  refine q_ini2 (v := 0) (d := d + 1) (a := q9) H yu_at (fun j j0 j1 => by rw [eu_ne (by omega)]; exact h100 _ (by omega)) (Or.inl rfl) (fun r1 r2 r3 h10 H => ?_)
  refine (show SW G mX6_init P (d + 4) 80 300 h10 54 [some (.ref a), none, none] [.ref q9, .ref a] from ?_)
  refine a_putF (i := 3) H dX6_init_54 fX6_32 rfl (by rw [eu_ne (by decide), eu_ne (by decide), eu_ne (by decide), eu_ne (by decide)]; exact eu_at) (by rw [yu_ne (by decide), yu_ne (by decide), yu_ne (by decide), yu_ne (by decide)]; exact hY) rfl rfl (by rw [gl_len]; decide) (fun h11 H => ?_)
  rw [gl_set] at H
  refine r_aload_n dX6_init_57 rfl ?_
  refine a_get (i := 3) H dX6_init_58 fX6_32.o eu_at (by rw [yu_ne (by decide), yu_ne (by decide), yu_ne (by decide), yu_ne (by decide)]; exact hY) (v := .ref q9) rfl ?_
  refine r_astore_n dX6_init_61 (L' := [some _, some _, none]) (by decide) rfl ?_
  refine r_iconst (v := iI ((0 : Nat) : Int)) dX6_init_62 rfl ?_
  refine r_istore_n dX6_init_63 (L' := [some _, some _, some _]) (by decide) rfl ?_
  have y100 : ∀ {Z : Nat → Nat} {a1 a2 a3 : Nat}, yu (yu (yu (yu Z 100 q9) (100 + 4 * 0 + 1) a1) (100 + 4 * 0 + 2) a2) (100 + 4 * 0 + 3) a3 100 = q9 := fun {Z a1 a2 a3} => by rw [yu_ne (by decide), yu_ne (by decide), yu_ne (by decide), yu_at]
  refine (show SW G mX6_init P (d + 4) (4 * 20) (15 * 20) h11 64 [some (.ref a), some (.ref (yu (yu (yu (yu (yu (yu (yu (yu (yu Y 4 q4) 5 q5) 6 q6) 7 q7) 8 q8) 100 q9) (100 + 4 * 0 + 1) r1) (100 + 4 * 0 + 2) r2) (100 + 4 * 0 + 3) r3 (100 + 4 * 0))), some (.int (iI ((0 : Nat) : Int)))] [] from ?_)
  refine q_ini6_l (by rw [yu_ne (by decide), yu_ne (by decide), yu_ne (by decide), yu_ne (by decide)]; exact hY) eu_at (by rw [y100]; rfl) (fun h' Y' A' e1 H' hv => ?_) 20 0 h11 _ _ rfl (by decide) H ⟨fun u hu => ?_, fun j hj => ?_, fun j hj => ⟨rfl, rfl⟩⟩ rfl
  · refine hp q4 q5 q6 q7 q8 h' Y' _ H' (fun j hj => ⟨?_, ?_⟩) (fun u hu => ⟨?_, fun k k0 k1 => ?_⟩) (fun j hj => ?_)
    · by_cases z : j = 3
      · subst z
        rw [eu_at, eu_at, e1, y100]
      · rw [eu_ne z, eu_ne z, (hv.2.2 j hj).1, eu_ne z, eu_ne (by omega), eu_ne (by omega), eu_ne (by omega), eu_ne (by omega), eu_ne z]
        rfl
    · rw [(hv.2.2 j hj).2, yu_ne (by omega), yu_ne (by omega), yu_ne (by omega), yu_ne (by omega)]
    · rw [eu_ne (by omega)]; exact (hv.1 u hu).1
    · rw [eu_ne (by omega)]; exact (hv.1 u hu).2 k k0 k1
    · rw [eu_ne (by omega)]; exact hv.2.1 j (by omega)
  · obtain rfl : u = 0 := by omega
    refine ⟨?_, fun k k0 k1 => ?_⟩
    · rw [eu_ne (by decide), eu_at]
      refine congrArg (fun l => some (Sum.inr (2, l))) (gl_cg (fun j hj => ?_))
      rcases (by omega : j = 0 ∨ j = 1 ∨ j = 2 ∨ j = 3 ∨ j = 4 ∨ j = 5) with rfl | rfl | rfl | rfl | rfl | rfl
      · rfl
      · rfl
      · rfl
      · rfl
      · rfl
      · rfl
    · rcases (by omega : k = 1 ∨ k = 2 ∨ k = 3) with rfl | rfl | rfl
      · rfl
      · rfl
      · rfl
  · rw [eu_ne (by omega), eu_ne (by omega), eu_ne (by omega), eu_ne (by omega), eu_ne (by omega), eu_ne (by omega)]
    exact h100 j (by omega)
end C92
