/-! ===== the class: its constructor, behind the two patterns ===== -/
def N10 : Nat → Value := fun i => if i = 5 ∨ i = 6 ∨ i = 7 ∨ i = 12 then .int 0 else .null
/-- the numbers of the beginning -/
def c_V0 : Nat → Int := fun i => if i = 2 then -1 else if 20 ≤ i ∧ i < 100 ∧ ((i - 20) % 8 = 3 ∨ (i - 20) % 8 = 4) then 63 else 0
theorem n10a : p_N RX10 9 1 (gl 2 N1) 2 := nX10_9
theorem n10b : p_N RX10 12 6 (gl 11 N6) 11 := nX10_12
theorem n10c : p_N RX10 44 9 (gl 10 N9) 10 := nX10_44
theorem n10d : p_N RX10 53 0 (gl 3 N0) 3 := nX10_53
theorem n10e : p_N RX10 70 3 (gl 5 N3) 5 := nX10_70
theorem n10f : p_N RX10 77 8 (gl 1 N8) 1 := nX10_77
theorem n10g : p_N RX10 84 7 (gl 4 N7) 4 := nX10_84
theorem eu_self {A : Nat → Option p_E} {o : Nat} {e : p_E} (h : A o = some e) : A = eu A o e := funext (fun j => by
  unfold eu
  split
  · rename_i z; rw [z, h]
  · rfl)
/-- the fields of the object when all is made -/
def tbF (y1 y3 y30 y9 y34 y11 y16 y18 y22 : Nat) : Nat → Value := fun j => if j = 0 then .ref y1 else if j = 1 then .ref y3 else if j = 2 then .ref y30 else if j = 3 then .ref y9 else if j = 4 then .ref y34 else if j = 7 then .int (-1) else if j = 8 then .ref y11 else if j = 9 then .ref y16 else if j = 10 then .ref y18 else if j = 11 then .ref y22 else .int 0
section C95
variable {G : p_G} {P : p_P} {d : Nat} {h hb : p_H} {Y : Nat → Nat} {a y1 y3 p3 p4 : Nat}
/-- all that the constructor makes behind the patterns -/
def cEnd (Y Y' : Nat → Nat) (A : Nat → Option p_E) (a y1 y3 p3 p4 : Nat) : Prop := (Y' 0 = a ∧ ∀ j, j < 9 ∧ j ≠ 0 ∨ 100 ≤ j → Y' j = Y j) ∧ A 0 = some (.inr (10, gl 13 (tbF y1 y3 (Y' 30) (Y' 9) (Y' 34) (Y' 11) (Y' 16) (Y' 18) (Y' 22)))) ∧ (∀ u, u < 10 → A (30 + 4 * u) = some (.inr (9, gl 10 (wdF p3 p4 (Y' (30 + 4 * u + 1)) (Y' (30 + 4 * u + 2)) (Y' (30 + 4 * u + 3))))) ∧ ∀ k, 1 ≤ k → k ≤ 3 → A (30 + 4 * u + k) = some (eI 6)) ∧ (A 9 = some (.inr (0, gl 3 (fu N0 0 (.ref (Y' 10))))) ∧ A 10 = some (eW (fun t => if t < 8 then some (Y' (38 + 4 * t)) else none))) ∧ (A 11 = some (.inr (3, gl 5 (fu (fu (fu (fu N3 0 (.ref (Y' 12))) 1 (.ref (Y' 13))) 2 (.ref (Y' 14))) 3 (.ref (Y' 15))))) ∧ A 12 = some (.inl (2, (3600, .inl (fun _ => 0)))) ∧ A 13 = some (eI 3600) ∧ A 14 = some (eI 3600) ∧ A 15 = some (eI 3600)) ∧ (A 16 = some (.inr (8, gl 1 (fu N8 0 (.ref (Y' 17))))) ∧ A 17 = some (.inl (1, (1260, .inr (.inl (fun _ => 0)))))) ∧ (A 18 = some (.inr (7, gl 4 (fu (fu (fu N7 0 (.ref (Y' 19))) 1 (.ref (Y' 20))) 2 (.ref (Y' 21))))) ∧ A 19 = some (eI 60) ∧ A 20 = some (eI 60) ∧ A 21 = some (eI 60)) ∧ A 22 = some (eI 3600) ∧ ∀ j, A j ≠ none → (j = 0 ∨ 9 ≤ j ∧ j < 23) ∨ 30 ≤ j ∧ j < 70
theorem q_end (ha : h a = some (.inr (10, gl 13 N10))) (hp : ∀ h' Y' A', hA (fun c => if c = a then none else h c) h' Y' A' → cEnd Y Y' A' a y1 y3 p3 p4 → P (.inl none) h') : SW G mX10_init P (d + 3) 54 19741 h 68 [some (.ref a), some (.ref y1), some (.ref y3), some (.ref p3), some (.ref p4)] [] := by
  have H := hA.one (Y := yu Y 0 a) (i := 0) ha (by exact yu_at)
  have hY : yu Y 0 a 0 = a := yu_at
  clear ha
  refine r_aload_n dX10_init_68 rfl ?_
  refine r_aload_n dX10_init_69 rfl ?_
  refine o_putF H hY dX10_init_70 fX10_36 rfl rfl rfl (by decide) (fun h1 H => ?_)
  refine r_aload_n dX10_init_73 rfl ?_
  refine r_aload_n dX10_init_74 rfl ?_
  refine o_putF H hY dX10_init_75 fX10_40 rfl rfl rfl (by decide) (fun h2 H => ?_)
  refine r_aload_n dX10_init_78 rfl ?_
  refine a_new (M := mX10_init) (i := 30) (k := 53) (n := 19731) H dX10_init_79 n10c rfl (fun z30 hz30 H => ?_)
  refine r_dup dX10_init_82 rfl ?_
  refine r_aload_n dX10_init_83 rfl ?_
  refine r_aload dX10_init_84 rfl ?_
  refine r_callI (As := [.ref p3, .ref p4]) (mc := 3) (ms := 18) (k' := 50) (n' := 19713) dX10_init_86 cfX9_init rfl rfl imX9_init lX10_46 rfl rfl (Nat.le_of_ble_eq_true rfl) rfl rfl ?_
  refine q_ini9 (o := 30) H yu_at (fun j j0 j1 => by rw [eu_ne (by omega)]) (fun a1 a2 a3 h86 H => ?_)
  refine (show SW G mX10_init P (d + 3) 50 19713 h86 89 [some (.ref a), some (.ref y1), some (.ref y3), some (.ref p3), some (.ref p4)] [.ref z30, .ref a] from ?_)
  rw [eu_cm (show (0 : Nat) ≠ 30 + 1 by decide), eu_cm (show (0 : Nat) ≠ 30 + 2 by decide), eu_cm (show (0 : Nat) ≠ 30 + 3 by decide), eu_cm (show (0 : Nat) ≠ 30 by decide)] at H
  replace hY : (yu (yu (yu (yu (yu Y 0 a) 30 z30) (30 + 1) a1) (30 + 2) a2) (30 + 3) a3) 0 = a := hY
  refine o_putF H hY dX10_init_89 fX10_49 rfl rfl rfl (by decide) (fun h89 H => ?_)
  refine r_aload_n dX10_init_92 rfl ?_
  refine a_new (M := mX10_init) (i := 9) (k := 49) (n := 19710) H dX10_init_93 n10d rfl (fun z9 hz9 H => ?_)
  refine r_dup dX10_init_96 rfl ?_
  refine r_aload_n dX10_init_97 rfl ?_
  refine r_aload dX10_init_98 rfl ?_
  refine r_callI (As := [.ref p3, .ref p4]) (mc := 33) (ms := 232) (k' := 16) (n' := 19478) dX10_init_100 cfX0_init rfl rfl imX0_init lX10_55 rfl rfl (Nat.le_of_ble_eq_true rfl) rfl rfl ?_
  refine q_ini0 H yu_at (fun j hj => by rw [eu_ne (by omega), eu_ne (by omega), eu_ne (by omega), eu_ne (by omega), eu_ne (by omega)]) (fun z10 h100 Y1 A1 H hv => ?_)
  refine (show SW G mX10_init P (d + 3) 16 19478 h100 103 [some (.ref a), some (.ref y1), some (.ref y3), some (.ref p3), some (.ref p4)] [.ref z9, .ref a] from ?_)
  obtain ⟨v1, v2, v3, v4, v5⟩ := hv
  have hY1 : Y1 0 = a := (v5 0 (by decide)).trans hY
  rw [eu_self (v4 0 (by decide))] at H
  have vn : ∀ j, (11 ≤ j ∧ j < 30) ∨ (34 ≤ j ∧ j < 38) ∨ 70 ≤ j → A1 j = none := fun j hj => by rw [v4 j (by omega), eu_ne (by omega), eu_ne (by omega), eu_ne (by omega), eu_ne (by omega), eu_ne (by omega), eu_ne (by omega), eu_ne (by omega)]
  refine o_putF (F := _) H hY1 dX10_init_103 fX10_56 rfl rfl rfl (by decide) (fun h103 H => ?_)
  replace hY := hY1
  refine r_aload_n dX10_init_106 rfl ?_
  refine a_new (M := mX10_init) (i := 34) (k := 15) (n := 19468) H dX10_init_107 n10c (vn 34 (by decide)) (fun z34 hz34 H => ?_)
  refine r_dup dX10_init_110 rfl ?_
  refine r_aload_n dX10_init_111 rfl ?_
  refine r_aload dX10_init_112 rfl ?_
  refine r_callI (As := [.ref p3, .ref p4]) (mc := 3) (ms := 18) (k' := 12) (n' := 19450) dX10_init_114 cfX9_init rfl rfl imX9_init lX10_46 rfl rfl (Nat.le_of_ble_eq_true rfl) rfl rfl ?_
  refine q_ini9 (o := 34) H yu_at (fun j j0 j1 => by rw [eu_ne (by omega)]; exact vn _ (by omega)) (fun b1 b2 b3 h114 H => ?_)
  refine (show SW G mX10_init P (d + 3) 12 19450 h114 117 [some (.ref a), some (.ref y1), some (.ref y3), some (.ref p3), some (.ref p4)] [.ref z34, .ref a] from ?_)
  rw [eu_cm (show (0 : Nat) ≠ 34 + 1 by decide), eu_cm (show (0 : Nat) ≠ 34 + 2 by decide), eu_cm (show (0 : Nat) ≠ 34 + 3 by decide), eu_cm (show (0 : Nat) ≠ 34 by decide)] at H
  replace hY : (yu (yu (yu (yu Y1 34 z34) (34 + 1) b1) (34 + 2) b2) (34 + 3) b3) 0 = a := hY
  refine o_putF H hY dX10_init_117 fX10_60 rfl rfl rfl (by decide) (fun h117 H => ?_)
  refine r_aload_n dX10_init_120 rfl ?_
  refine r_iconst (v := 0) dX10_init_121 rfl ?_
  refine o_put H hY dX10_init_122 fX10_63 rfl rfl (by decide) (fun h122 H => ?_)
  refine r_aload_n dX10_init_125 rfl ?_
  refine r_iconst (v := -1) dX10_init_126 rfl ?_
  refine o_put H hY dX10_init_127 fX10_67 rfl rfl (by decide) (fun h127 H => ?_)
  refine r_aload_n dX10_init_130 rfl ?_
  refine a_new (M := mX10_init) (i := 11) (k := 11) (n := 19445) H dX10_init_131 n10e (by rw [eu_ne (by omega), eu_ne (by omega), eu_ne (by omega), eu_ne (by omega), eu_ne (by omega)]; exact vn _ (by omega)) (fun z11 hz11 H => ?_)
  refine r_dup dX10_init_134 rfl ?_
  refine r_callIN (As := []) (mc := 4) (ms := 14400) (k' := 7) (n' := 5045) dX10_init_135 cfX3_init rfl rfl imX3_init lX10_72 rfl rfl (Nat.le_of_ble_eq_true rfl) rfl rfl ?_
  refine q_ini3 H yu_at (fun j j0 j1 => by rw [eu_ne (by omega), eu_ne (by omega), eu_ne (by omega), eu_ne (by omega), eu_ne (by omega)]; exact vn _ (by omega)) (fun c1 c2 c3 c4 h135 H => ?_)
  refine (show SW G mX10_init P (d + 3) 7 5045 h135 138 [some (.ref a), some (.ref y1), some (.ref y3), some (.ref p3), some (.ref p4)] [.ref z11, .ref a] from ?_)
  rw [eu_cm (show (0 : Nat) ≠ 12 by decide), eu_cm (show (0 : Nat) ≠ 13 by decide), eu_cm (show (0 : Nat) ≠ 14 by decide), eu_cm (show (0 : Nat) ≠ 15 by decide), eu_cm (show (0 : Nat) ≠ 11 by decide)] at H
  replace hY : (yu (yu (yu (yu (yu (yu (yu (yu (yu Y1 34 z34) (34 + 1) b1) (34 + 2) b2) (34 + 3) b3) 11 z11) 12 c1) 13 c2) 14 c3) 15 c4) 0 = a := hY
  refine o_putF H hY dX10_init_138 fX10_73 rfl rfl rfl (by decide) (fun h138 H => ?_)
  refine r_aload_n dX10_init_141 rfl ?_
  refine a_new (M := mX10_init) (i := 16) (k := 6) (n := 5044) H dX10_init_142 n10f (by rw [eu_ne (by omega), eu_ne (by omega), eu_ne (by omega), eu_ne (by omega), eu_ne (by omega), eu_ne (by omega), eu_ne (by omega), eu_ne (by omega), eu_ne (by omega), eu_ne (by omega)]; exact vn _ (by omega)) (fun z16 hz16 H => ?_)
  refine r_dup dX10_init_145 rfl ?_
  refine r_callIN (As := []) (mc := 1) (ms := 1260) (k' := 5) (n' := 3784) dX10_init_146 cfX8_init rfl rfl imX8_init lX10_79 rfl rfl (Nat.le_of_ble_eq_true rfl) rfl rfl ?_
  refine q_ini8 H yu_at (by rw [eu_ne (by omega), eu_ne (by omega), eu_ne (by omega), eu_ne (by omega), eu_ne (by omega), eu_ne (by omega), eu_ne (by omega), eu_ne (by omega), eu_ne (by omega), eu_ne (by omega)]; exact vn _ (by omega)) (fun e1 h146 H => ?_)
  refine (show SW G mX10_init P (d + 3) 5 3784 h146 149 [some (.ref a), some (.ref y1), some (.ref y3), some (.ref p3), some (.ref p4)] [.ref z16, .ref a] from ?_)
  rw [eu_cm (show (0 : Nat) ≠ 17 by decide), eu_cm (show (0 : Nat) ≠ 16 by decide)] at H
  replace hY : (yu (yu (yu (yu (yu (yu (yu (yu (yu (yu (yu Y1 34 z34) (34 + 1) b1) (34 + 2) b2) (34 + 3) b3) 11 z11) 12 c1) 13 c2) 14 c3) 15 c4) 16 z16) 17 e1) 0 = a := hY
  refine o_putF H hY dX10_init_149 fX10_80 rfl rfl rfl (by decide) (fun h149 H => ?_)
  refine r_aload_n dX10_init_152 rfl ?_
  refine a_new (M := mX10_init) (i := 18) (k := 4) (n := 3780) H dX10_init_153 n10g (by rw [eu_ne (by omega), eu_ne (by omega), eu_ne (by omega), eu_ne (by omega), eu_ne (by omega), eu_ne (by omega), eu_ne (by omega), eu_ne (by omega), eu_ne (by omega), eu_ne (by omega), eu_ne (by omega), eu_ne (by omega)]; exact vn _ (by omega)) (fun z18 hz18 H => ?_)
  refine r_dup dX10_init_156 rfl ?_
  refine r_callIN (As := []) (mc := 3) (ms := 180) (k' := 1) (n' := 3600) dX10_init_157 cfX7_init rfl rfl imX7_init lX10_86 rfl rfl (Nat.le_of_ble_eq_true rfl) rfl rfl ?_
  refine q_ini7 H yu_at (fun j j0 j1 => by rw [eu_ne (by omega), eu_ne (by omega), eu_ne (by omega), eu_ne (by omega), eu_ne (by omega), eu_ne (by omega), eu_ne (by omega), eu_ne (by omega), eu_ne (by omega), eu_ne (by omega), eu_ne (by omega), eu_ne (by omega)]; exact vn _ (by omega)) (fun f1 f2 f3 h157 H => ?_)
  refine (show SW G mX10_init P (d + 3) 1 3600 h157 160 [some (.ref a), some (.ref y1), some (.ref y3), some (.ref p3), some (.ref p4)] [.ref z18, .ref a] from ?_)
  rw [eu_cm (show (0 : Nat) ≠ 19 by decide), eu_cm (show (0 : Nat) ≠ 20 by decide), eu_cm (show (0 : Nat) ≠ 21 by decide), eu_cm (show (0 : Nat) ≠ 18 by decide)] at H
  replace hY : (yu (yu (yu (yu (yu (yu (yu (yu (yu (yu (yu (yu (yu (yu (yu Y1 34 z34) (34 + 1) b1) (34 + 2) b2) (34 + 3) b3) 11 z11) 12 c1) 13 c2) 14 c3) 15 c4) 16 z16) 17 e1) 18 z18) 19 f1) 20 f2) 21 f3) 0 = a := hY
  refine o_putF H hY dX10_init_160 fX10_87 rfl rfl rfl (by decide) (fun h160 H => ?_)
  refine r_aload_n dX10_init_163 rfl ?_
  refine r_sipush (v := 3600) dX10_init_164 (by decide) ?_
  refine o_arrI (i := 22) (k := 0) (n := 0) (N := 3600) H hY (by rw [eu_ne (by omega), eu_ne (by omega), eu_ne (by omega), eu_ne (by omega), eu_ne (by omega), eu_ne (by omega), eu_ne (by omega), eu_ne (by omega), eu_ne (by omega), eu_ne (by omega), eu_ne (by omega), eu_ne (by omega), eu_ne (by omega), eu_ne (by omega), eu_ne (by omega)]; exact vn _ (by omega)) (by decide) dX10_init_167 (by decide) (by decide) (by decide) dX10_init_169 fX10_91 rfl (by decide) (fun z22 h169 hY H => ?_)
  have y30 : Y1 30 = z30 := (v5 30 (by decide)).trans rfl
  have y9 : Y1 9 = z9 := (v5 9 (by decide)).trans rfl
  have y10 : Y1 10 = z10 := (v5 10 (by decide)).trans rfl
  have y31 : Y1 31 = a1 := (v5 31 (by decide)).trans rfl
  have y32 : Y1 32 = a2 := (v5 32 (by decide)).trans rfl
  have y33 : Y1 33 = a3 := (v5 33 (by decide)).trans rfl
  refine r_return dX10_init_172 rfl (hp h169 _ _ H ⟨⟨hY, fun j hj => ?_⟩, ?_, fun u hu => ?_, ⟨?_, ?_⟩, ⟨?_, ?_, ?_, ?_, ?_⟩, ⟨?_, ?_⟩, ⟨?_, ?_, ?_, ?_⟩, ?_, fun j hj => ?_⟩)
  · rw [yu_ne (by omega), yu_ne (by omega), yu_ne (by omega), yu_ne (by omega), yu_ne (by omega), yu_ne (by omega), yu_ne (by omega), yu_ne (by omega), yu_ne (by omega), yu_ne (by omega), yu_ne (by omega), yu_ne (by omega), yu_ne (by omega), yu_ne (by omega), yu_ne (by omega), yu_ne (by omega), v5 j (by omega), yu_ne (by omega), yu_ne (by omega), yu_ne (by omega), yu_ne (by omega), yu_ne (by omega), yu_ne (by omega), yu_ne (by omega)]
  · rw [eu_at]
    refine congrArg (fun l => some (Sum.inr (10, l))) (gl_cg (fun j hj => ?_))
    rcases (by omega : j = 0 ∨ j = 1 ∨ j = 2 ∨ j = 3 ∨ j = 4 ∨ j = 5 ∨ j = 6 ∨ j = 7 ∨ j = 8 ∨ j = 9 ∨ j = 10 ∨ j = 11 ∨ j = 12) with rfl | rfl | rfl | rfl | rfl | rfl | rfl | rfl | rfl | rfl | rfl | rfl | rfl <;> first | rfl | exact congrArg Value.ref y30.symm | exact congrArg Value.ref y9.symm
  · rcases (by omega : u = 0 ∨ u = 1 ∨ 2 ≤ u) with rfl | rfl | hu2
    · refine ⟨(v4 30 (by decide)).trans ?_, fun k k0 k1 => ?_⟩
      · show some (Sum.inr (9, gl 10 (wdF p3 p4 a1 a2 a3))) = some (Sum.inr (9, gl 10 (wdF p3 p4 (Y1 31) (Y1 32) (Y1 33))))
        rw [y31, y32, y33]
      · rcases (by omega : k = 1 ∨ k = 2 ∨ k = 3) with rfl | rfl | rfl
        · exact (v4 31 (by decide)).trans rfl
        · exact (v4 32 (by decide)).trans rfl
        · exact (v4 33 (by decide)).trans rfl
    · refine ⟨rfl, fun k k0 k1 => ?_⟩
      rcases (by omega : k = 1 ∨ k = 2 ∨ k = 3) with rfl | rfl | rfl <;> rfl
    · obtain ⟨t, rfl⟩ : ∃ t, u = t + 2 := ⟨u - 2, by omega⟩
      rw [show 30 + 4 * (t + 2) = 38 + 4 * t by omega]
      refine ⟨?_, fun k k0 k1 => ?_⟩
      · rw [eu_ne (by omega), eu_ne (by omega), eu_ne (by omega), eu_ne (by omega), eu_ne (by omega), eu_ne (by omega), eu_ne (by omega), eu_ne (by omega), eu_ne (by omega), eu_ne (by omega), eu_ne (by omega), eu_ne (by omega), eu_ne (by omega), eu_ne (by omega), eu_ne (by omega), eu_ne (by omega), eu_ne (by omega), yu_ne (by omega), yu_ne (by omega), yu_ne (by omega), yu_ne (by omega), yu_ne (by omega), yu_ne (by omega), yu_ne (by omega), yu_ne (by omega), yu_ne (by omega), yu_ne (by omega), yu_ne (by omega), yu_ne (by omega), yu_ne (by omega), yu_ne (by omega), yu_ne (by omega), yu_ne (by omega), yu_ne (by omega), yu_ne (by omega), yu_ne (by omega), yu_ne (by omega), yu_ne (by omega), yu_ne (by omega), yu_ne (by omega), yu_ne (by omega), yu_ne (by omega), yu_ne (by omega), yu_ne (by omega), yu_ne (by omega), yu_ne (by omega), yu_ne (by omega), yu_ne (by omega), yu_ne (by omega), yu_ne (by omega), yu_ne (by omega), yu_ne (by omega), yu_ne (by omega), yu_ne (by omega), yu_ne (by omega), yu_ne (by omega), yu_ne (by omega), yu_ne (by omega), yu_ne (by omega), yu_ne (by omega), yu_ne (by omega), yu_ne (by omega), yu_ne (by omega), yu_ne (by omega), yu_ne (by omega)]
        exact (v2 t (by omega)).1
      · rw [eu_ne (by omega), eu_ne (by omega), eu_ne (by omega), eu_ne (by omega), eu_ne (by omega), eu_ne (by omega), eu_ne (by omega), eu_ne (by omega), eu_ne (by omega), eu_ne (by omega), eu_ne (by omega), eu_ne (by omega), eu_ne (by omega), eu_ne (by omega), eu_ne (by omega), eu_ne (by omega), eu_ne (by omega)]
        exact (v2 t (by omega)).2 k k0 k1
  · refine (v4 9 (by decide)).trans ?_
    show some (Sum.inr (0, gl 3 (fu N0 0 (.ref z10)))) = some (Sum.inr (0, gl 3 (fu N0 0 (.ref (Y1 10)))))
    rw [y10]
  · refine v1.trans (congrArg (fun f => some (eW f)) (funext (fun t => ?_)))
    by_cases ht : t < 8
    · rw [if_pos ht, if_pos ht, yu_ne (by omega), yu_ne (by omega), yu_ne (by omega), yu_ne (by omega), yu_ne (by omega), yu_ne (by omega), yu_ne (by omega), yu_ne (by omega), yu_ne (by omega), yu_ne (by omega), yu_ne (by omega), yu_ne (by omega), yu_ne (by omega), yu_ne (by omega), yu_ne (by omega), yu_ne (by omega)]
    · rw [if_neg ht, if_neg ht]
  · rfl
  · rfl
  · rfl
  · rfl
  · rfl
  · rfl
  · rfl
  · rfl
  · rfl
  · rfl
  · rfl
  · rfl
  · refine Decidable.byContradiction (fun hn => hj ?_)
    rw [eu_ne (by omega), eu_ne (by omega), eu_ne (by omega), eu_ne (by omega), eu_ne (by omega), eu_ne (by omega), eu_ne (by omega), eu_ne (by omega), eu_ne (by omega), eu_ne (by omega), eu_ne (by omega), eu_ne (by omega), eu_ne (by omega), eu_ne (by omega), eu_ne (by omega), eu_ne (by omega), eu_ne (by omega), v4 j (by omega), eu_ne (by omega), eu_ne (by omega), eu_ne (by omega), eu_ne (by omega), eu_ne (by omega), eu_ne (by omega), eu_ne (by omega)]
end C95
