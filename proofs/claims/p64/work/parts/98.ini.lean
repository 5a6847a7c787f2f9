/-! ===== the class: its constructor from the start ===== -/
theorem hA.nil {h : p_H} {Y : Nat → Nat} : hA h h Y (fun _ => none) := ⟨(fun _ _ hi => nomatch hi), (fun _ _ hi => absurd rfl hi), fun _ _ => rfl⟩
section C98
variable {G : p_G} {P : p_P} {d : Nat} {h : p_H} {a a1 v1 a2 v2 : Nat}
theorem q_ctor (hK : p_Zk G) (hT1 : p_Str G a1 v1 8 tx1) (hT2 : p_Str G a2 v2 10 tx2) (hR1 : ∀ s, p_S G s → vk_R RX10 15 "a(b|c)*d" a1 s) (hR2 : ∀ s, p_S G s → vk_R RX10 30 "(ab|ac)*d?" a2 s) (ha : h a = some (.inr (10, gl 13 N10))) (hp : ∀ Y V C J, Y 0 = a → cBeg V C J → ∀ h', c_I Y h (V, C, J) h' → P (.inl none) h') : SM G mX10_init h [.ref a] (d + 6) 158 21719 P := by
  refine SM.of2 cfX10_init (L := [some (.ref a), none, none, none, none]) rfl (Nat.le_of_ble_eq_true rfl) ?_
  refine r_aload_n dX10_init_0 rfl ?_
  refine r_objInit dX10_init_1 lX10_3 (Nat.le_of_ble_eq_true rfl) ?_
  have H := hA.nil (h := h) (Y := fun _ => 0)
  refine a_new (M := mX10_init) (i := 1) (k := 157) (n := 21717) H dX10_init_4 n10a rfl (fun y1 h1 H => ?_)
  refine r_dup dX10_init_7 rfl ?_
  refine r_callIN (As := []) (mc := 1) (ms := 200) (k' := 156) (n' := 21517) dX10_init_8 cfX1_init rfl rfl imX1_init lX10_11 rfl rfl (Nat.le_of_ble_eq_true rfl) rfl rfl ?_
  refine q_ini1 (d := d + 4) H yu_at rfl (fun q2 h2 hy1 H => ?_)
  refine (show SW G mX10_init P (d + 6) 156 21517 h2 11 [some (.ref a), none, none, none, none] [.ref y1] from ?_)
  refine r_astore_n dX10_init_11 (L' := [some _, some _, none, none, none]) (by decide) rfl ?_
  refine a_new (M := mX10_init) (i := 3) (k := 155) (n := 21506) H dX10_init_12 n10b (by rw [eu_ne (by decide), eu_ne (by decide)]) (fun y3 h3 H => ?_)
  refine r_dup dX10_init_15 rfl ?_
  refine r_callI (As := []) (mc := 89) (ms := 791) (k' := 66) (n' := 20715) dX10_init_16 cfX6_init rfl rfl imX6_init lX10_14 rfl rfl (Nat.le_of_ble_eq_true rfl) rfl rfl ?_
  refine q_ini6 (d := d + 1) H yu_at (fun j hj => by rw [eu_ne (by omega), eu_ne (by omega)]) (fun q4 q5 q6 q7 q8 h4 Y A H e1 e2 e3 => ?_)
  refine (show SW G mX10_init P (d + 6) 66 20715 h4 19 [some (.ref a), some (.ref y1), none, none, none] [.ref y3] from ?_)
  refine r_astore_n dX10_init_19 (L' := [some _, some _, some _, none, none]) (by decide) rfl ?_
  have z1 : Y 1 = y1 := (e1 1 (by decide)).2.trans rfl
  have z2 : Y 2 = q2 := (e1 2 (by decide)).2.trans rfl
  have z3 : Y 3 = y3 := (e1 3 (by decide)).2.trans rfl
  have z4 : Y 4 = q4 := (e1 4 (by decide)).2.trans rfl
  have z5 : Y 5 = q5 := (e1 5 (by decide)).2.trans rfl
  have z6 : Y 6 = q6 := (e1 6 (by decide)).2.trans rfl
  have z7 : Y 7 = q7 := (e1 7 (by decide)).2.trans rfl
  have z8 : Y 8 = q8 := (e1 8 (by decide)).2.trans rfl
  have c0 : ∀ i, 100 ≤ i → c_V0 i = 0 := fun i hi => by
    unfold c_V0
    rw [if_neg (by omega), if_neg (by omega)]
  have hE : ∀ i, b_ok i → A i = some (c_cell Y (c_V0, (fun _ _ => 0), (fun _ => 0), (fun _ => 0), fun _ => none) i) := fun i hi => by
    rcases hi with hi | hi
    · rcases (by omega : i = 1 ∨ i = 2 ∨ i = 3 ∨ i = 4 ∨ i = 5 ∨ i = 6 ∨ i = 7 ∨ i = 8) with rfl | rfl | rfl | rfl | rfl | rfl | rfl | rfl
      · refine (e1 1 (by decide)).1.trans ?_
        show some (Sum.inr (1, gl 2 (fu N1 0 (.ref q2)))) = some (Sum.inr (1, [.ref (Y 2), .int (iI (c_V0 4))]))
        rw [z2]
        rfl
      · exact (e1 2 (by decide)).1.trans rfl
      · refine (e1 3 (by decide)).1.trans ?_
        show some (Sum.inr (6, gl 11 (fu (fu (fu (fu (fu (fu (fu N6 0 (.ref q4)) 1 (.ref q5)) 2 (.ref q6)) 3 (.ref q7)) 4 (.ref q8)) 9 (.ref (Y 100))) 10 (.ref (Y 100))))) = some (Sum.inr (6, [.ref (Y 4), .ref (Y 5), .ref (Y 6), .ref (Y 7), .ref (Y 8), .int (iI (c_V0 5)), .int (iI (c_V0 6)), .int (iI (c_V0 7)), .int (iI (c_V0 8)), .ref (Y 100), .ref (Y (100 + 4 * (c_V0 9).toNat))]))
        rw [z4, z5, z6, z7, z8]
        rfl
      · exact (e1 4 (by decide)).1.trans rfl
      · exact (e1 5 (by decide)).1.trans rfl
      · exact (e1 6 (by decide)).1.trans rfl
      · exact (e1 7 (by decide)).1.trans rfl
      · exact (e1 8 (by decide)).1.trans rfl
    · obtain ⟨v, k, hv, hk, rfl⟩ : ∃ v k, v < 21 ∧ k < 4 ∧ i = 100 + 4 * v + k := ⟨(i - 100) / 4, (i - 100) % 4, by omega, by omega, by omega⟩
      by_cases z : k = 0
      · subst z
        refine (e2 v (by omega)).1.trans ?_
        show _ = some (c_cell Y _ (100 + 4 * v))
        rw [c_cellL hv]
        unfold c_lfs
        show some (Sum.inr (2, gl 6 (lvF Y v 20))) = some (Sum.inr (2, [if v = 0 then .null else .ref (Y (100 + 4 * (v - 1))), if v = 20 then .null else .ref (Y (100 + 4 * (v + 1))), .ref (Y (101 + 4 * v)), .ref (Y (102 + 4 * v)), .ref (Y (103 + 4 * v)), .int (iI (c_V0 (200 + 16 * v)))]))
        rw [c0 (200 + 16 * v) (by omega), show 101 + 4 * v = 100 + 4 * v + (2 - 1) by omega, show 102 + 4 * v = 100 + 4 * v + (3 - 1) by omega, show 103 + 4 * v = 100 + 4 * v + (4 - 1) by omega]
        rfl
      · refine ((e2 v (by omega)).2 k (by omega) (by omega)).trans ?_
        rw [c_cellQ hv (by omega)]
        show some ePt = some (Sum.inr (4, [.int (iI (c_V0 (198 + 16 * v + 3 * k))), .int (iI (c_V0 (199 + 16 * v + 3 * k))), .int (iI (c_V0 (200 + 16 * v + 3 * k)))]))
        rw [c0 _ (by omega), c0 _ (by omega), c0 _ (by omega)]
        rfl
  have hE2 : ∀ i, A i ≠ none → b_ok i := fun i hi => Decidable.byContradiction (fun hn => hi (by
    by_cases z : i < 100
    · rw [(e1 i z).1, eu_ne (by omega), eu_ne (by omega), eu_ne (by omega), eu_ne (by omega), eu_ne (by omega), eu_ne (by omega), eu_ne (by omega), eu_ne (by omega)]
    · exact e3 i (by omega)))
  have hI : b_I Y h (c_V0, (fun _ _ => 0), (fun _ => 0), (fun _ => 0), fun _ => none) h4 := ⟨⟨fun i hi => H.get (hE i hi), fun i hi j hj e => H.2.1 i j (by rw [hE i hi]; exact fun z => nomatch z) (by rw [hE j hj]; exact fun z => nomatch z) e⟩, (fun b p hb => nomatch hb), fun q _ q1 => ⟨H.2.2 q (fun i hi => q1 i (hE2 i hi)), fun b p hb => nomatch hb⟩⟩
  have hna : ∀ i, b_ok i → Y i ≠ a := fun i hi z => by
    have := (H.1 i _ (hE i hi)).2
    rw [z, ha] at this
    cases this
  have main := q_mid (d := d) hK hT1 hT2 hR1 hR2 hI hna ha hp
  rw [z1, z3] at main
  exact main
end C98
