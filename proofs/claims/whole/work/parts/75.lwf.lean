/-! ===== the class: longestWord, isFinite, longestLength ===== -/
section C75
variable {G : p_G} {Y : Nat → Nat} {h0 : p_H} {P : (Option Value) ⊕ String → c_X → Prop} {d : Nat} {V : Nat → Int} {C : Nat → Int → Int} {J : c_J}
variable {a : Nat} {p : c_P} {w : Int → Int} {s : Int}
theorem q_lw_l  (hp : J.2.2 a = some p) (hr : cPt p w s) (hO : wP w s) (hX : wX w s) (hq : ∀ x, cLong w s x → -1 ≤ x → x < 60 → P (.inl (some (.int (iI x)))) (V, C, J))  : ∀ (zz : Nat) (i : Int) (M : Int) (x : Int), zz = (w (476 * s + 5) - i).toNat → (0 ≤ i ∧ i ≤ w (476 * s + 5)) → ((0 ≤ M ∧ M < 1152921504606846976)) → (∀ q, 0 ≤ q → (zt M q ↔ wAv w s i.toNat q)) → (0 ≤ x ∧ x < w (476 * s + 5)) → (x = 0 ∨ ∃ t, wAv w s x.toNat t ∧ wAcc w s t) → (∀ k : Nat, (k : Int) < i → (∃ t, wAv w s k t ∧ wAcc w s t) → (k : Int) ≤ x) → RW G mX5_longestWord (c_I Y h0) P (d + 4) 0 0 7 [some (.ref a), some (.long (lI M)), none, some (.int (iI x)), some (.int (iI i))] [] (V, C, J) := by
  intro zz
  induction zz using Nat.strongRecOn with
  | _ zz ih =>
    intro i M x hzz h1 hM hI hx1 hx2 hx3
    have o5 := hO.2.2.2.1
    have r5 := hr.1.2.2.2.2.2
    refine i_iload dX5_longestWord_7 rfl ?_
    refine i_aload_n dX5_longestWord_9 rfl ?_
    refine u_getP (vv := .int (iI (p.1 5))) hp dX5_longestWord_10 fX5_44.o rfl ?_
    refine i_icmp_ge (tgt := 39) dX5_longestWord_13 (by decide) (by omega) (by omega) (fun c13 => ?_) (fun c13 => ?_)
    · -- jumps
      refine i_lload_n dX5_longestWord_39 rfl ?_
      refine i_lconst dX5_longestWord_40 (z := 0) (by decide) ?_
      refine i_lcmp dX5_longestWord_41 (lI_cmp (by omega) (by omega)) ?_
      refine i_if_ne (tgt := 49) dX5_longestWord_42 (by decide) lc_rg (fun c42 => ?_) (fun c42 => ?_)
      · -- jumps
        have c42 := lc_ne c42
        refine i_const dX5_longestWord_49 ?_
        refine i_ireturn dX5_longestWord_50 rfl rfl ?_
        obtain rfl : i = w (476 * s + 5) := by omega
        exact hq (-1) (Or.inl ⟨rfl, by obtain ⟨q, q0, h⟩ := zt_som hM.1 (by assumption); exact ⟨q, (hI q q0).mp h⟩⟩) (by decide) (by decide)
      · -- on
        have c42 := lc_eq c42
        refine i_iload_n dX5_longestWord_45 rfl ?_
        refine i_goto (tgt := 50) dX5_longestWord_46 (by decide) ?_
        refine i_ireturn dX5_longestWord_50 rfl rfl ?_
        obtain rfl : i = w (476 * s + 5) := by omega
        exact hq x (Or.inr ⟨fun q h => by have hrg := wAv_rg hO _ q h; have h9 := (hI q hrg.1).mpr h; rw [(by assumption : M = 0)] at h9; exact zt_0 h9, by omega, hx2, fun k k1 hk => hx3 k k1 hk⟩) (by omega) (by omega)
    · -- on
      refine i_aload_n dX5_longestWord_16 rfl ?_
      refine i_lload_n dX5_longestWord_17 rfl ?_
      refine u_callP (mc := 0) (ms := 0) (As := [_]) hp dX5_longestWord_18 cfX5_anyAccepts imX5_anyAccepts seX5_anyAccepts lX5_79 rfl rfl rfl rfl (Nat.le_of_ble_eq_true rfl) (Nat.zero_add _).symm (Nat.zero_add _).symm ?_
      refine q_anyAccepts hp hr hO hX hM (RK.v ?_)
      refine i_ifeq_c (tgt := 27) dX5_longestWord_21 (by decide) (fun c21 => ?_) (fun c21 => ?_)
      · -- jumps
        refine i_aload_n dX5_longestWord_27 rfl ?_
        refine i_lload_n dX5_longestWord_28 rfl ?_
        refine u_callP (mc := 0) (ms := 0) (As := [_]) hp dX5_longestWord_29 cfX5_aliveAfter imX5_aliveAfter seX5_aliveAfter lX5_83 rfl rfl rfl rfl (Nat.le_of_ble_eq_true rfl) (Nat.zero_add _).symm (Nat.zero_add _).symm ?_
        refine q_aliveAfter hp hr hO hX hM (fun m1 hm1 hz1 => RK.v ?_)
        refine i_lstore_n dX5_longestWord_32 (L' := [some _, some _, none, some _, some _]) (by decide) rfl ?_
        refine i_iinc dX5_longestWord_33 rfl (L' := [some _, some _, none, some _, some _]) (by decide) rfl ?_
        refine i_goto (tgt := 7) dX5_longestWord_36 (by decide) ?_
        refine ih _ ?_ (i + 1) m1 x rfl (by omega) hm1 (fun q q0 => ?_) (by omega) hx2 (fun k k1 hk => ?_)
        · clear hx2 hx3 c21; omega
        · rw [hz1 q q0, show (i + 1).toNat = i.toNat + 1 by omega]
          constructor
          · rintro ⟨t, t0, h, h2⟩; exact ⟨t, t0, (hI t t0.1).mp h, h2⟩
          · rintro ⟨t, t0, h, h2⟩; exact ⟨t, t0, (hI t t0.1).mpr h, h2⟩
        · by_cases z : (k : Int) = i
          · obtain ⟨t, h1, h2⟩ := hk; have hrg := wAv_rg hO k t h1; exact absurd (show ∃ t, (0 ≤ t ∧ t < w (476 * s + 5)) ∧ zt M t ∧ wAcc w s t from ⟨t, hrg, (hI t hrg.1).mpr (by rw [show i.toNat = k by clear hx2 hx3 c21; omega]; exact h1), h2⟩) c21
          · exact hx3 k (by omega) hk
      · -- on
        refine i_iload dX5_longestWord_24 rfl ?_
        refine i_istore_n dX5_longestWord_26 (L' := [some _, some _, none, some _, some _]) (by decide) rfl ?_
        refine i_aload_n dX5_longestWord_27 rfl ?_
        refine i_lload_n dX5_longestWord_28 rfl ?_
        refine u_callP (mc := 0) (ms := 0) (As := [_]) hp dX5_longestWord_29 cfX5_aliveAfter imX5_aliveAfter seX5_aliveAfter lX5_83 rfl rfl rfl rfl (Nat.le_of_ble_eq_true rfl) (Nat.zero_add _).symm (Nat.zero_add _).symm ?_
        refine q_aliveAfter hp hr hO hX hM (fun m2 hm2 hz2 => RK.v ?_)
        refine i_lstore_n dX5_longestWord_32 (L' := [some _, some _, none, some _, some _]) (by decide) rfl ?_
        refine i_iinc dX5_longestWord_33 rfl (L' := [some _, some _, none, some _, some _]) (by decide) rfl ?_
        refine i_goto (tgt := 7) dX5_longestWord_36 (by decide) ?_
        refine ih _ ?_ (i + 1) m2 i rfl (by omega) hm2 (fun q q0 => ?_) (by omega) (Or.inr ?_) (fun k k1 hk => by omega)
        · clear hx2 hx3 c21; omega
        · rw [hz2 q q0, show (i + 1).toNat = i.toNat + 1 by omega]
          constructor
          · rintro ⟨t, t0, h, h2⟩; exact ⟨t, t0, (hI t t0.1).mp h, h2⟩
          · rintro ⟨t, t0, h, h2⟩; exact ⟨t, t0, (hI t t0.1).mpr h, h2⟩
        · obtain ⟨t, h1, h2, h3⟩ := (by assumption : ∃ t, (0 ≤ t ∧ t < w (476 * s + 5)) ∧ zt M t ∧ wAcc w s t)
          exact ⟨t, (hI t h1.1).mp h2, h3⟩
theorem q_longestWord  (hp : J.2.2 a = some p) (hr : cPt p w s) (hO : wP w s) (hX : wX w s) (hq : ∀ x, cLong w s x → -1 ≤ x → x < 60 → P (.inl (some (.int (iI x)))) (V, C, J)) : RM G mX5_longestWord (c_I Y h0) [.ref a] (d + 4) 0 0 P (V, C, J) := by
  refine RM.of (L := [some (.ref a), none, none, none, none]) cfX5_longestWord rfl (Nat.le_of_ble_eq_true rfl) ?_
  refine i_lconst dX5_longestWord_0 (z := 1) (by decide) ?_
  refine i_lstore_n dX5_longestWord_1 (L' := [some _, some _, none, none, none]) (by decide) rfl ?_
  refine i_const dX5_longestWord_2 ?_
  refine i_istore_n dX5_longestWord_3 (L' := [some _, some _, none, some _, none]) (by decide) rfl ?_
  refine i_const dX5_longestWord_4 ?_
  refine i_istore dX5_longestWord_5 (L' := [some _, some _, none, some _, some _]) (by decide) rfl ?_
  refine q_lw_l hp hr hO hX hq _ 0 1 0 rfl (by have := hO.2.2.2.1; omega) (by decide) (fun q q0 => ?_) (by have := hO.2.2.2.1; omega) (Or.inl rfl) (fun k k1 hk => by omega)
  have e1 : (1 : Int) = zp 0 := rfl
  rw [e1, zt_zp (Int.le_refl 0) q0]
  exact Iff.rfl
theorem q_longestLength {s : Int} (hZ : p_Zs G) (hN : cNow V C J w) (hO : wOK w) (hX : ∀ s, s = 0 ∨ s = 1 → wX w s) (h_s : -2147483648 ≤ s ∧ s < 2147483648) (hp1 : ¬ (s = 0 ∨ s = 1) → P (.inr "java/lang/IndexOutOfBoundsException") (V, C, J)) (hq : s = 0 ∨ s = 1 → ∀ x, cLong w s x → P (.inl (some (.int (iI x)))) (V, C, J)) : RM G mX10_longestLength (c_I Y h0) [.ref (Y 0), .int (iI s)] (d + 8) 1 6 P (V, C, J) := by
  refine RM.of (L := [some (.ref (Y 0)), some (.int (iI s))]) cfX10_longestLength rfl (Nat.le_of_ble_eq_true rfl) ?_
  refine i_aload_n dX10_longestLength_0 rfl ?_
  refine i_iload_n dX10_longestLength_1 rfl ?_
  refine u_callV (i := 0) (mc := 1) (ms := 6) (k' := 0) (n' := 0) (As := [_]) dX10_longestLength_2 cfX10_checkedPattern imX10_checkedPattern seX10_checkedPattern lX10_212 (by decide) rfl rfl rfl rfl rfl (Nat.le_of_ble_eq_true rfl) rfl rfl ?_
  refine q_checkedPattern hZ hN hO (by omega) (fun g1 a1 p1 hy1 hr1 => RK.v ?_) (fun g1 => RK.x ?_)
  · -- case
    refine u_callP (mc := 0) (ms := 0) (As := []) hy1 dX10_longestLength_5 cfX5_longestWord imX5_longestWord seX5_longestWord lX10_285 rfl rfl rfl rfl (Nat.le_of_ble_eq_true rfl) (Nat.zero_add _).symm (Nat.zero_add _).symm ?_
    refine q_longestWord hy1 hr1 (hO.1 _ g1) (hX _ g1) (fun x2 hl2 xa2 xb2 => RK.v ?_)
    refine i_ireturn dX10_longestLength_8 rfl rfl ?_
    exact hq (by omega) _ hl2
  · -- case
    exact hp1 (by omega)
theorem q_isFinite {s : Int} (hZ : p_Zs G) (hN : cNow V C J w) (hO : wOK w) (hX : ∀ s, s = 0 ∨ s = 1 → wX w s) (h_s : -2147483648 ≤ s ∧ s < 2147483648) (hp1 : ¬ (s = 0 ∨ s = 1) → P (.inr "java/lang/IndexOutOfBoundsException") (V, C, J)) (hq : s = 0 ∨ s = 1 → ∀ x, cLong w s x → P (.inl (some (.int (iI (zb (x ≠ -1)))))) (V, C, J)) : RM G mX10_isFinite (c_I Y h0) [.ref (Y 0), .int (iI s)] (d + 8) 1 6 P (V, C, J) := by
  refine RM.of (L := [some (.ref (Y 0)), some (.int (iI s))]) cfX10_isFinite rfl (Nat.le_of_ble_eq_true rfl) ?_
  refine i_aload_n dX10_isFinite_0 rfl ?_
  refine i_iload_n dX10_isFinite_1 rfl ?_
  refine u_callV (i := 0) (mc := 1) (ms := 6) (k' := 0) (n' := 0) (As := [_]) dX10_isFinite_2 cfX10_checkedPattern imX10_checkedPattern seX10_checkedPattern lX10_212 (by decide) rfl rfl rfl rfl rfl (Nat.le_of_ble_eq_true rfl) rfl rfl ?_
  refine q_checkedPattern hZ hN hO (by omega) (fun g1 a1 p1 hy1 hr1 => RK.v ?_) (fun g1 => RK.x ?_)
  · -- case
    refine u_callP (mc := 0) (ms := 0) (As := []) hy1 dX10_isFinite_5 cfX5_longestWord imX5_longestWord seX5_longestWord lX10_285 rfl rfl rfl rfl (Nat.le_of_ble_eq_true rfl) (Nat.zero_add _).symm (Nat.zero_add _).symm ?_
    refine q_longestWord hy1 hr1 (hO.1 _ g1) (hX _ g1) (fun x2 hl2 xa2 xb2 => RK.v ?_)
    refine i_const dX10_isFinite_8 ?_
    refine i_icmp_eq (tgt := 16) dX10_isFinite_9 (by decide) (by omega) (by omega) (fun c9 => ?_) (fun c9 => ?_)
    · -- jumps
      refine i_const dX10_isFinite_16 ?_
      refine i_ireturn dX10_isFinite_17 rfl rfl ?_
      have h9 := hq (by omega) x2 hl2
      rw [zb_f (by omega)] at h9; exact h9
    · -- on
      refine i_const dX10_isFinite_12 ?_
      refine i_goto (tgt := 17) dX10_isFinite_13 (by decide) ?_
      refine i_ireturn dX10_isFinite_17 rfl rfl ?_
      have h9 := hq (by omega) x2 hl2
      rw [zb_t (by omega)] at h9; exact h9
  · -- case
    exact hp1 (by omega)
end C75
