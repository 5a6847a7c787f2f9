/-! ===== the class: its constructor ===== -/
/-- the class at its beginning -/
def cBeg (V : Nat → Int) (C : Nat → Int → Int) (J : c_J) : Prop := (V 0 = 0 ∧ V 1 = 0 ∧ V 2 = -1 ∧ V 3 = 0 ∧ V 4 = 0) ∧ (V 10 = 0 ∧ V 11 = 0 ∧ V 12 = 0 ∧ V 13 = 0) ∧ (∀ i, 9 ≤ i → C i = fun _ => 0) ∧ ∀ w, wBeg w → cNow V C J w
section C97
variable {G : p_G} {P : p_P} {d k n : Nat} {Y : Nat → Nat} {h h0 : p_H} {V : Nat → Int} {C : Nat → Int → Int} {J : c_J} {a a1 v1 a2 v2 : Nat}
theorem b_newPat {pc : Nat} {L : p_LL} (hI : b_I Y h0 (V, C, J) h) (hL : L[2]? = some (some (.ref (Y 3)))) (hb : V 201 = 0 ∨ V 201 = 1) (d0 : decode mX10_init.2.1 pc = .ok (.new 25, 3)) (d1 : decode mX10_init.2.1 (pc + 3) = .ok (.dup, 1)) (d2 : decode mX10_init.2.1 (pc + 3 + 1) = .ok (.aload_n 2, 1)) (d3 : decode mX10_init.2.1 (pc + 3 + 1 + 1) = .ok (.invokespecial 27, 3)) (kk : ∀ q qs h', J.2.2 q = none → b_I Y h0 (V, C, (J.1, J.2.1, c_add J.2.2 q (c_new V C qs))) h' → SW G mX10_init P (d + 2) k n h' (pc + 3 + 1 + 1 + 3) L [.ref q]) : SW G mX10_init P (d + 2) (k + 6) (n + 487) h pc L [] := by
  refine r_new (k := k + 5) (n := n + 476) (N := 11) d0 nX10_25 (fun q hq => ?_)
  have ok : ∀ i, b_ok i → p_up h q (.inr (5, [.int 0, .int 0, .int 0, .int 0, .int 0, .int 0, .null, .null, .null, .null, .null])) (Y i) = some (c_cell Y (V, C, J) i) := fun i hi => by
    rw [p_up_ne (fun z => by have := hI.1.1 i hi; rw [z, hq] at this; cases this)]
    exact hI.1.1 i hi
  refine r_dup d1 rfl ?_
  refine r_aload_n d2 hL ?_
  refine r_callI (As := [.ref (Y 3)]) (mc := 5) (ms := 476) (k' := k) (n' := n) d3 cfX5_init rfl rfl imX5_init lX10_27 rfl rfl (Nat.le_of_ble_eq_true rfl) (Nat.add_comm _ _) (Nat.add_comm _ _) ?_
  refine p_patInit (Ya := fun k => Y (4 + k)) (F := fun k j => iI (C (4 + k) (j : Int))) (v5 := iI (V 5)) (v6 := iI (V 6)) (v7 := iI (V 7)) (v8 := iI (V 8)) (o := Y 100) (l := Y (100 + 4 * (V 9).toNat)) (c := Y (100 + 4 * 0 + 1)) (e := iI (V 201)) (f := iI (V 202)) (la := iI (V 203)) p_up_eq (ok 3 (by decide)) (ok 100 (by decide)) c_lf1 (ok (100 + 4 * 0 + 1) (by decide)) (fun k hk => ?_) (zb_nar hb) (zb_fit hb) (fun h' qs hl hp => ?_)
  · rcases (by omega : k = 0 ∨ k = 1 ∨ k = 2 ∨ k = 3 ∨ k = 4) with rfl | rfl | rfl | rfl | rfl
    · exact ok 4 (by decide)
    · exact ok 5 (by decide)
    · exact ok 6 (by decide)
    · exact ok 7 (by decide)
    · exact ok 8 (by decide)
  · exact kk q qs h' (g_I.no (ok := fun i => b_ok i) hI hq) (g_I.new (ok := fun i => b_ok i) (p := c_new V C qs) hI hq hp hl (fun k hk => ⟨rfl, rfl⟩))
/-- from the reader and the input on -/
theorem q_mid (hK : p_Zk G) (hT1 : p_Str G a1 v1 8 tx1) (hT2 : p_Str G a2 v2 10 tx2) (hR1 : ∀ s, p_S G s → vk_R RX10 15 "a(b|c)*d" a1 s) (hR2 : ∀ s, p_S G s → vk_R RX10 30 "(ab|ac)*d?" a2 s) (hI : b_I Y h0 (c_V0, (fun _ _ => 0), (fun _ => 0), (fun _ => 0), fun _ => none) h) (hna : ∀ i, b_ok i → Y i ≠ a) (ha : h0 a = some (.inr (10, gl 13 N10))) (hp : ∀ Y' V C J, Y' 0 = a → cBeg V C J → ∀ h', c_I Y' h0 (V, C, J) h' → P (.inl none) h') : SW G mX10_init P (d + 6) 66 20715 h 20 [some (.ref a), some (.ref (Y 1)), some (.ref (Y 3)), none, none] [] := by
  refine r_aload_n dX10_init_20 rfl ?_
  refine r_ldcS dX10_init_21 hR1 ?_
  refine r_callV (As := [.ref a1]) (mc := 0) (ms := 0) (ci := 1) dX10_init_23 cfX1_put imX1_put seX1_put lX10_17 (hI.1.1 1 (by decide)) rfl rfl rfl rfl (Nat.le_of_ble_eq_true rfl) (Nat.zero_add _).symm (Nat.zero_add _).symm ?_
  refine RM.sm hI (q_put_b (d := d + 1) hK hT1 (by decide) (fun j _ _ => tx1_rg j) (fun V1 C1 l1 sv1 sc1 b1 h1 hI1 => ?_))
  refine (show SW G mX10_init P (d + 6) 66 20715 h1 26 [some (.ref a), some (.ref (Y 1)), some (.ref (Y 3)), none, none] [] from ?_)
  have bb1 : ∀ j, 0 ≤ j → j < 8 → C1 2 j = tx1 j := fun j j0 j1 => (b1 j).trans (if_pos ⟨j0, j1⟩)
  have l1' : V1 4 = 8 := l1
  refine r_aload_n dX10_init_26 rfl ?_
  refine r_aload_n dX10_init_27 rfl ?_
  refine r_callV (As := [.ref (Y 1)]) (mc := 0) (ms := 0) (ci := 6) dX10_init_28 cfX6_read imX6_read seX6_read lX10_21 (hI1.1.1 3 (by decide)) rfl rfl rfl rfl (Nat.le_of_ble_eq_true rfl) (Nat.zero_add _).symm (Nat.zero_add _).symm ?_
  have hz1 : zRn (C1 2) (V1 4) 0 zX0 = .inr zT1 := by rw [l1']; exact zT1_got bb1
  refine RM.sm hI1 (q_read_b (d := d) (V := V1) (C := C1) (by omega) (fun j j0 j1 => by rw [bb1 j j0 (by omega)]; have := tx1_rg j; omega) (fun V' C' kd hE _ _ => absurd hE (zCE.no hz1 zT1_dn)) (fun V2 C2 x N z1 z2 z3 z4 h2 hI2 => ?_))
  obtain rfl : x = zT1 := by rw [hz1] at z1; exact (Sum.inr.inj z1).symm
  obtain rfl : N = 36 := z2.uq zT1_dn
  refine (show SW G mX10_init P (d + 6) 66 20715 h2 31 [some (.ref a), some (.ref (Y 1)), some (.ref (Y 3)), none, none] [.int (iI 0)] from ?_)
  refine r_pop dX10_init_31 rfl ?_
  refine b_newPat (d := d + 4) (k := 60) (n := 20228) hI2 rfl (by rw [show V2 201 = bI (zEb zT1.1.2.2 zT1.2.1).2.1 from z3.2.1.1.1]; exact bI_or _) dX10_init_32 dX10_init_35 dX10_init_36 dX10_init_37 (fun p3 qs3 h3 n3 hI3 => ?_)
  refine r_astore_n dX10_init_40 (L' := [some _, some _, some _, some _, none]) (by decide) rfl ?_
  refine r_aload_n dX10_init_41 rfl ?_
  refine r_ldcS dX10_init_42 hR2 ?_
  refine r_callV (As := [.ref a2]) (mc := 0) (ms := 0) (ci := 1) dX10_init_44 cfX1_put imX1_put seX1_put lX10_17 (hI3.1.1 1 (by decide)) rfl rfl rfl rfl (Nat.le_of_ble_eq_true rfl) (Nat.zero_add _).symm (Nat.zero_add _).symm ?_
  refine RM.sm hI3 (q_put_b (d := d + 1) hK hT2 (by decide) (fun j _ _ => tx2_rg j) (fun V3 C3 l3 sv3 sc3 b3 h4 hI4 => ?_))
  refine (show SW G mX10_init P (d + 6) 60 20228 h4 47 [some (.ref a), some (.ref (Y 1)), some (.ref (Y 3)), some (.ref p3), none] [] from ?_)
  have bb3 : ∀ j, 0 ≤ j → j < 10 → C3 2 j = tx2 j := fun j j0 j1 => (b3 j).trans (if_pos ⟨j0, j1⟩)
  have l3' : V3 4 = 10 := l3
  refine r_aload_n dX10_init_47 rfl ?_
  refine r_aload_n dX10_init_48 rfl ?_
  refine r_callV (As := [.ref (Y 1)]) (mc := 0) (ms := 0) (ci := 6) dX10_init_49 cfX6_read imX6_read seX6_read lX10_21 (hI4.1.1 3 (by decide)) rfl rfl rfl rfl (Nat.le_of_ble_eq_true rfl) (Nat.zero_add _).symm (Nat.zero_add _).symm ?_
  have hz3 : zRn (C3 2) (V3 4) 0 zX0 = .inr zT2 := by rw [l3']; exact zT2_got bb3
  refine RM.sm hI4 (q_read_b (d := d) (V := V3) (C := C3) (by omega) (fun j j0 j1 => by rw [bb3 j j0 (by omega)]; have := tx2_rg j; omega) (fun V' C' kd hE _ _ => absurd hE (zCE.no hz3 zT2_dn)) (fun V4 C4 x N y1 y2 y3 y4 h5 hI5 => ?_))
  obtain rfl : x = zT2 := by rw [hz3] at y1; exact (Sum.inr.inj y1).symm
  obtain rfl : N = 36 := y2.uq zT2_dn
  refine (show SW G mX10_init P (d + 6) 60 20228 h5 52 [some (.ref a), some (.ref (Y 1)), some (.ref (Y 3)), some (.ref p3), none] [.int (iI 0)] from ?_)
  refine r_pop dX10_init_52 rfl ?_
  refine b_newPat (d := d + 4) (k := 54) (n := 19741) hI5 rfl (by rw [show V4 201 = bI (zEb zT2.1.2.2 zT2.2.1).2.1 from y3.2.1.1.1]; exact bI_or _) dX10_init_53 dX10_init_56 dX10_init_57 dX10_init_58 (fun p4 qs4 h6 n4 hI6 => ?_)
  refine r_astore dX10_init_61 (L' := [some _, some _, some _, some _, some _]) (by decide) rfl ?_
  refine r_aload_n dX10_init_63 rfl ?_
  refine r_iconst (v := iI 0) dX10_init_64 rfl ?_
  refine r_callV (As := [.int (iI 0)]) (mc := 0) (ms := 0) (ci := 1) dX10_init_65 cfX1_shorten imX1_shorten seX1_shorten lX10_32 (hI6.1.1 1 (by decide)) rfl rfl rfl rfl (Nat.le_of_ble_eq_true rfl) (Nat.zero_add _).symm (Nat.zero_add _).symm ?_
  refine RM.sm hI6 (q_shorten_b (n := 0) (fun h7 hI7 => ?_))
  refine (show SW G mX10_init P (d + 3 + 3) 54 19741 h7 68 [some (.ref a), some (.ref (Y 1)), some (.ref (Y 3)), some (.ref p3), some (.ref p4)] [] from ?_)
  have ha7 : h7 a = some (.inr (10, gl 13 N10)) := by
    rw [(hI7.2.2 a (by rw [ha]; exact fun z => nomatch z) (fun i hi z => hna i hi z.symm)).1]
    exact ha
  have hV : ∀ i, (i < 4 ∨ 10 ≤ i ∧ i < 200) → vu V4 4 0 i = c_V0 i := fun i hi => by
    rw [vu_ne (by omega), y4.1 i (by omega), sv3 i (by simp only [List.mem_cons, List.not_mem_nil, or_false]; omega), z4.1 i (by omega), sv1 i (by simp only [List.mem_cons, List.not_mem_nil, or_false]; omega)]
  have hC : ∀ i, 9 ≤ i → C4 i = fun _ => 0 := fun i hi => by
    rw [y4.2 i (by omega), sc3 i (by simp only [List.mem_cons, List.not_mem_nil, or_false]; omega), z4.2 i (by omega), sc1 i (by simp only [List.mem_cons, List.not_mem_nil, or_false]; omega)]
  have p34 : p3 ≠ p4 := fun z => by
    have n4' : c_add (fun _ => none) p3 (c_new V2 C2 qs3) p4 = none := n4
    unfold c_add at n4'
    rw [if_pos z.symm] at n4'
    cases n4'
  refine q_end (Y := Y) ha7 (fun h8 Y' A' H8 hE => ?_)
  refine hp Y' (vu V4 4 0) C4 _ hE.1.1 ?_ h8 (c_all (R := fun q => if q % 2 = 0 then p3 else p4) hI7 hna ha7 H8 hE hV hC rfl (fun u => ⟨if_pos (by omega), if_neg (by omega)⟩))
  refine ⟨⟨hV 0 (by decide), hV 1 (by decide), hV 2 (by decide), hV 3 (by decide), vu_at⟩, ⟨hV 10 (by decide), hV 11 (by decide), hV 12 (by decide), hV 13 (by decide)⟩, hC, fun w hw => ?_⟩
  obtain ⟨⟨w1, w2⟩, w952, wg, w983, w984⟩ := hw
  have e23 : vu V4 4 0 23 = 63 := hV 23 (by decide)
  have e24 : vu V4 4 0 24 = 63 := hV 24 (by decide)
  refine ⟨⟨(hV 20 (by decide)).trans w983.symm, (hV 21 (by decide)).trans w952.symm, (hV 22 (by decide)).trans w984.symm⟩, fun k k0 k1 => by omega, ⟨⟨by rw [e23]; decide, by rw [e24]; decide⟩, fun c c0 c1 => ?_, fun c c0 c1 => ?_⟩, ⟨c_new V2 C2 qs3, ?_, z3.pt w1 zT1_dn.1⟩, ⟨c_new V4 C4 qs4, ?_, y3.pt w2 zT2_dn.1⟩⟩
  · rw [e23]
    exact iff_of_true (zt_63 ⟨c0, c1⟩) (wg _ (by omega) (by omega))
  · rw [e24]
    exact iff_of_true (zt_63 ⟨c0, c1⟩) (wg _ (by omega) (by omega))
  · show c_add (c_add (fun _ => none) p3 (c_new V2 C2 qs3)) p4 (c_new V4 C4 qs4) p3 = _
    unfold c_add
    rw [if_neg p34, if_pos rfl]
  · show c_add (c_add (fun _ => none) p3 (c_new V2 C2 qs3)) p4 (c_new V4 C4 qs4) p4 = _
    unfold c_add
    rw [if_pos rfl]
end C97
