/-! ===== the class: isSubset ===== -/
theorem zrun_2 {w : Int → Int} {t1 t2 l r : Int} (hO1 : wP w t1) (hO2 : wP w t2) (hl : 0 ≤ l ∧ l < w (476 * t1 + 5)) (hr : 0 ≤ r ∧ r < w (476 * t2 + 5)) (n : Nat) : ((0 ≤ zrun (wGo w t1) l n ∧ zrun (wGo w t1) l n < w (476 * t1 + 5)) ∧ 0 ≤ zrun (wGo w t2) r n ∧ zrun (wGo w t2) r n < w (476 * t2 + 5)) ∧ zrun (wNx2 w t1 t2) (60 * l + r) n = 60 * zrun (wGo w t1) l n + zrun (wGo w t2) r n := by
  have o5 := hO2.2.2.2.1
  refine zind (Q := fun n => ((0 ≤ zrun (wGo w t1) l n ∧ zrun (wGo w t1) l n < w (476 * t1 + 5)) ∧ 0 ≤ zrun (wGo w t2) r n ∧ zrun (wGo w t2) r n < w (476 * t2 + 5)) ∧ zrun (wNx2 w t1 t2) (60 * l + r) n = 60 * zrun (wGo w t1) l n + zrun (wGo w t2) r n) ?_ (fun m c hc ih => ?_) n
  · rw [zrun_0, zrun_0, zrun_0]; exact ⟨⟨hl, hr⟩, rfl⟩
  · rw [zrun_s hc, zrun_s hc, zrun_s hc, ih.2]
    obtain ⟨x, hx⟩ : ∃ x, x = zrun (wGo w t1) l m := ⟨_, rfl⟩
    obtain ⟨y, hy⟩ : ∃ y, y = zrun (wGo w t2) r m := ⟨_, rfl⟩
    rw [← hx, ← hy] at ih ⊢
    have q1 := hO1.2.2.2.2.2 x (c : Int) ih.1.1.1 ih.1.1.2 (by omega) (by omega)
    have q2 := hO2.2.2.2.2.2 y (c : Int) ih.1.2.1 ih.1.2.2 (by omega) (by omega)
    refine ⟨⟨q1, q2⟩, ?_⟩
    show 60 * w (476 * t1 + (116 + 6 * ((60 * x + y) / 60) + (c : Int))) + w (476 * t2 + (116 + 6 * ((60 * x + y) % 60) + (c : Int))) = _
    rw [show (60 * x + y) / 60 = x by omega, show (60 * x + y) % 60 = y by omega]
/-- a word of the one that isn't of the other, the pairs either way round -/
theorem zG_sub {w : Int → Int} {s : Int} (hO : wOK w) (hs : s = 0 ∨ s = 1) (n : Nat) : zGl 2 (wAcc w s (zrun (wNx2 w s (1 - s)) 0 n / 60)) (wAcc w (1 - s) (zrun (wNx2 w s (1 - s)) 0 n % 60)) ↔ wG2 w s (zrun (wNx2 w 0 1) 0 n) := by
  have a0 := hO.sts (s := 0) (Or.inl rfl)
  have a1 := hO.sts (s := 1) (Or.inr rfl)
  have e2 : ∀ {A B : Prop}, zGl 2 A B ↔ A ∧ ¬ B := fun {A B} => ⟨fun z => z.elim (fun z => absurd z.1 (by decide)) (fun z => z.elim (fun z => absurd z.1 (by decide)) (fun z => z.2)), fun z => Or.inr (Or.inr ⟨rfl, z⟩)⟩
  rw [e2]
  rcases hs with rfl | rfl
  · show _ ↔ if (0 : Int) = 0 then _ else _
    rw [if_pos rfl]
    exact Iff.rfl
  · obtain ⟨h1, h2⟩ := zrun_2 (l := 0) (r := 0) (hO.1 0 (Or.inl rfl)) (hO.1 1 (Or.inr rfl)) (by omega) (by omega) n
    obtain ⟨h3, h4⟩ := zrun_2 (l := 0) (r := 0) (hO.1 1 (Or.inr rfl)) (hO.1 0 (Or.inl rfl)) (by omega) (by omega) n
    have e0 : (60 * 0 + 0 : Int) = 0 := by decide
    rw [e0] at h2 h4
    show wAcc w 1 (zrun (wNx2 w 1 0) 0 n / 60) ∧ ¬ wAcc w 0 (zrun (wNx2 w 1 0) 0 n % 60) ↔ if (1 : Int) = 0 then _ else wAcc w 1 (zrun (wNx2 w 0 1) 0 n % 60) ∧ ¬ wAcc w 0 (zrun (wNx2 w 0 1) 0 n / 60)
    rw [if_neg (by decide), h2, h4, show (60 * zrun (wGo w 1) 0 n + zrun (wGo w 0) 0 n) / 60 = zrun (wGo w 1) 0 n by omega, show (60 * zrun (wGo w 1) 0 n + zrun (wGo w 0) 0 n) % 60 = zrun (wGo w 0) 0 n by omega, show (60 * zrun (wGo w 0) 0 n + zrun (wGo w 1) 0 n) / 60 = zrun (wGo w 0) 0 n by omega, show (60 * zrun (wGo w 0) 0 n + zrun (wGo w 1) 0 n) % 60 = zrun (wGo w 1) 0 n by omega]
section C57
variable {G : p_G} {Y : Nat → Nat} {h0 : p_H} {P : (Option Value) ⊕ String → c_X → Prop} {d : Nat} {V : Nat → Int} {C : Nat → Int → Int} {J : c_J}
theorem q_otherSlot {s : Int} (hp : P (.inl (some (.int (iI (1 - s))))) (V, C, J)) : RM G mX10_otherSlot (c_I Y h0) [.int (iI s)] (d) 0 0 P (V, C, J) := by
  refine RM.of (L := [some (.int (iI s))]) cfX10_otherSlot rfl (Nat.le_of_ble_eq_true rfl) ?_
  refine i_const dX10_otherSlot_0 ?_
  refine i_iload_n dX10_otherSlot_1 rfl ?_
  refine i_sub dX10_otherSlot_2 ?_
  refine i_ireturn dX10_otherSlot_3 rfl rfl ?_
  exact hp
variable {w : Int → Int}
theorem q_isSubset {s : Int} (hZ : p_Zs G) (hN : cNow V C J w) (hO : wOK w) (hX : ∀ s, s = 0 ∨ s = 1 → wX w s) (hSI : cSI V C) (h_s : -2147483648 ≤ s ∧ s < 2147483648) (hp1 : ¬ (s = 0 ∨ s = 1) → P (.inr "java/lang/IndexOutOfBoundsException") (V, C, J)) (hp : s = 0 ∨ s = 1 → ∀ V' C', cSI V' C' → sV [12] V V' → sC [12, 13, 14, 15] C C' → P (.inl (some (.int (iI (zc (zNo (wNx2 w 0 1) zTr 0 (wG2 w s))))))) (V', C', J)) : RM G mX10_isSubset (c_I Y h0) [.ref (Y 0), .int (iI s)] (d + 8) 1 6 P (V, C, J) := by
  refine RM.of (L := [some (.ref (Y 0)), some (.int (iI s)), none, none]) cfX10_isSubset rfl (Nat.le_of_ble_eq_true rfl) ?_
  refine i_aload_n dX10_isSubset_0 rfl ?_
  refine i_iload_n dX10_isSubset_1 rfl ?_
  refine u_callV (i := 0) (mc := 1) (ms := 6) (k' := 0) (n' := 0) (As := [_]) dX10_isSubset_2 cfX10_checkedPattern imX10_checkedPattern seX10_checkedPattern lX10_212 (by decide) rfl rfl rfl rfl rfl (Nat.le_of_ble_eq_true rfl) rfl rfl ?_
  refine q_checkedPattern hZ hN hO (by omega) (fun g1 a1 p1 hy1 hr1 => RK.v ?_) (fun g1 => RK.x ?_)
  · -- case
    have hs2 : 1 - s = 0 ∨ 1 - s = 1 := by omega
    have o1 := hO.sts g1
    have o2 := hO.sts hs2
    refine i_astore_n dX10_isSubset_5 (L' := [some _, some _, some _, none]) (by decide) rfl ?_
    refine i_aload_n dX10_isSubset_6 rfl ?_
    refine u_get (i := 0) (vv := .ref (Y (30))) dX10_isSubset_7 fX10_49.o (by decide) rfl rfl ?_
    refine i_iload_n dX10_isSubset_10 rfl ?_
    refine i_callS (mc := 0) (ms := 0) (As := [_]) dX10_isSubset_11 cfX10_otherSlot stX10_otherSlot lX10_128 rfl rfl (Nat.le_of_ble_eq_true rfl) (Nat.zero_add _).symm (Nat.zero_add _).symm ?_
    refine q_otherSlot (RK.v ?_)
    refine u_callV (i := 30) (mc := 0) (ms := 0) (As := [_]) dX10_isSubset_14 cfX9_pattern imX9_pattern seX9_pattern lX10_124 (by decide) rfl rfl rfl rfl rfl (Nat.le_of_ble_eq_true rfl) (Nat.zero_add _).symm (Nat.zero_add _).symm ?_
    refine q_pattern (w := w) hN (by omega) (fun a2 p2 ha2 hp2 hr2 => RK.v ?_)
    refine i_astore_n dX10_isSubset_17 (L' := [some _, some _, some _, some _]) (by decide) rfl ?_
    refine i_aload_n dX10_isSubset_18 rfl ?_
    refine u_get (i := 0) (vv := .ref (Y (11))) dX10_isSubset_19 fX10_73.o (by decide) rfl rfl ?_
    refine i_aload_n dX10_isSubset_22 rfl ?_
    refine i_aload_n dX10_isSubset_23 rfl ?_
    refine i_const dX10_isSubset_24 ?_
    refine i_bipush dX10_isSubset_25 (by decide) ?_
    refine i_const dX10_isSubset_27 ?_
    refine u_callV (i := 11) (mc := 0) (ms := 0) (As := [_, _, _, _, _]) dX10_isSubset_28 cfX3_find imX3_find seX3_find lX10_288 (by decide) rfl rfl rfl rfl rfl (Nat.le_of_ble_eq_true rfl) (Nat.zero_add _).symm (Nat.zero_add _).symm ?_
    refine q_find hy1 hr1 hp2 hr2 (hO.1 _ g1) (hO.1 _ hs2) (hX _ g1) (hX _ hs2) (by decide) (by decide) hSI (by decide) (by show (0 : Int) < _; omega) (by show (0 : Int) < _; omega) (fun V3 C3 k3 cd3 hS3 hk3 hm3 hv3 hc3 => RK.v ?_) (fun V3 C3 cd3 hS3 hm3 hv3 hc3 => RK.v ?_)
    · -- case
      have l9 := hS3.le
      refine i_const dX10_isSubset_31 ?_
      refine i_icmp_ne (tgt := 39) dX10_isSubset_32 (by decide) (by omega) (by omega) (fun c32 => ?_) (fun c32 => ?_)
      · -- jumps
        refine i_const dX10_isSubset_39 ?_
        refine i_ireturn dX10_isSubset_40 rfl rfl ?_
        have hq := hp (by omega) _ _ hS3.SI hv3 hc3
        have hz : ¬ zNo (wNx2 w 0 1) zTr 0 (wG2 w s) := fun z => z (cd3 k3) ((zal_cg (fun c c0 c1 => iff_of_true (z63 c0 c1) trivial) _).mp hm3.1) ((zG_sub hO g1 _).mp hm3.2.1)
        rw [zc_f hz] at hq
        exact hq
      · -- on
        refine i_const dX10_isSubset_35 ?_
        refine i_goto (tgt := 40) dX10_isSubset_36 (by decide) ?_
        refine i_ireturn dX10_isSubset_40 rfl rfl ?_
        exfalso; omega
    · -- case
      have l9 := hS3.le
      refine i_const dX10_isSubset_31 ?_
      refine i_icmp_ne (tgt := 39) dX10_isSubset_32 (by decide) (by decide) (by decide) (fun c32 => by omega) (fun c32 => ?_)
      refine i_const dX10_isSubset_35 ?_
      refine i_goto (tgt := 40) dX10_isSubset_36 (by decide) ?_
      refine i_ireturn dX10_isSubset_40 rfl rfl ?_
      have hq := hp (by omega) _ _ hS3.SI hv3 hc3
      have hz : zNo (wNx2 w 0 1) zTr 0 (wG2 w s) := fun m q1 q2 => hm3 m ((zal_cg (fun c c0 c1 => iff_of_true (z63 c0 c1) trivial) _).mpr q1) ((zG_sub hO g1 _).mpr q2)
      rw [zc_t hz] at hq
      exact hq
  · -- case
    exact hp1 (by omega)
end C57
