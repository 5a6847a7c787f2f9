/-! ===== the class: setNight, meanSetSize, isDeterministicAt ===== -/
theorem zsum_sh {f : Int → Int} : ∀ n : Nat, zsum f (n + 1) = f 0 + zsum (fun j => f (j + 1)) n
  | 0 => by
    show 0 + f 0 = f 0 + 0
    omega
  | n + 1 => by
    have h := zsum_sh (f := f) n
    have e : ((n + 1 : Nat) : Int) = (n : Int) + 1 := by omega
    show zsum f (n + 1) + f ((n + 1 : Nat) : Int) = f 0 + (zsum (fun j => f (j + 1)) n + f ((n : Int) + 1))
    rw [h, e]
    omega
theorem zsum_cut {f : Int → Int} {n : Nat} : ∀ k : Nat, (∀ j : Int, n ≤ j → j < n + k → f j = 0) → zsum f (n + k) = zsum f n
  | 0, _ => rfl
  | k + 1, h => by
    show zsum f (n + k) + f ((n + k : Nat) : Int) = zsum f n
    rw [zsum_cut k (fun j j0 j1 => h j j0 (by omega)), h _ (by omega) (by omega)]
    omega
theorem zpc_sum : ∀ (k m : Nat), zpc k m = zsum (fun j => zb (m.testBit j.toNat = true)) k
  | 0, _ => rfl
  | k + 1, m => by
    rw [zsum_sh]
    show ((m % 2 : Nat) : Int) + zpc k (m / 2) = zb (m.testBit (0 : Int).toNat = true) + zsum (fun j => zb (m.testBit (j + 1).toNat = true)) k
    rw [zpc_sum k (m / 2)]
    have e1 : zb (m.testBit (0 : Int).toNat = true) = ((m % 2 : Nat) : Int) := by
      show zb (m.testBit 0 = true) = _
      rw [Nat.testBit_zero]
      by_cases z : m % 2 = 1
      · rw [zb_t (by simp [z]), z]; rfl
      · rw [zb_f (by simp [z])]; omega
    have e2 : zsum (fun j => zb ((m / 2).testBit j.toNat = true)) k = zsum (fun j => zb (m.testBit (j + 1).toNat = true)) k := zsum_cg k (fun j j0 j1 => by
      rw [show (j + 1).toNat = j.toNat + 1 by omega, Nat.testBit_succ])
    rw [e1, e2]
/-- the bits of a mask up to n -/
theorem zpc_31 {m : Int} {n : Nat} (hn : n ≤ 31) (h : ∀ j : Int, n ≤ j → j < 31 → ¬ zt m j) : zpc 31 m.toNat = zsum (fun j => zb (zt m j)) n := by
  rw [zpc_sum]
  obtain ⟨k, hk⟩ : ∃ k, 31 = n + k := ⟨31 - n, by omega⟩
  rw [hk]
  exact zsum_cut (f := fun j => zb (zt m j)) k (fun j j0 j1 => zb_f (h j j0 (by omega)))
theorem zt_hi {m j : Int} {n : Nat} (h : m < 2 ^ n) (hj : (n : Int) ≤ j) : ¬ zt m j := by
  unfold zt
  rw [Nat.testBit_lt_two_pow (Nat.lt_of_lt_of_le (show m.toNat < 2 ^ n from by
    have e : ((2 ^ n : Nat) : Int) = (2 : Int) ^ n := by norm_cast
    have : 0 < 2 ^ n := Nat.pow_pos (by decide)
    omega) (Nat.pow_le_pow_right (by decide) (by omega)))]
  decide
theorem zt_za {a b j : Int} : zt (za a b) j ↔ zt a j ∧ zt b j := by
  unfold zt za
  rw [Int.toNat_natCast, Nat.testBit_and, Bool.and_eq_true]
section C69a
variable {V V' : Nat → Int} {C C' : Nat → Int → Int} {J J' : c_J} {w w' : Int → Int} {p : c_P} {s q c x : Int}
/-- the positions that follow and a street leads to -/
theorem zFol (hr : cPt p w s) (hO : wP w s) (hc : 0 ≤ c ∧ c < 6) : zpc 31 (za (w (476 * s + (6 + q))) (p.2.1 2 c)).toNat = wFol w s q c := by
  have o0 := hO.1
  have h3 := (hr.2.2.1 c hc.1 hc.2)
  rw [zpc_31 (n := 31) (Nat.le_refl _) (fun j j0 j1 => by omega)]
  show zsum _ (30 + 1) = _
  rw [zsum_sh, zb_f (fun z => by have := ((h3.2 0 (by decide)).mp (zt_za.mp z).2).1; omega)]
  unfold wFol
  obtain ⟨k, hk⟩ : ∃ k, 30 = (w (476 * s + 0)).toNat + k := ⟨30 - (w (476 * s + 0)).toNat, by omega⟩
  rw [hk, zsum_cut k (fun j j0 j1 => zb_f (fun z => by have := ((h3.2 (j + 1) (by omega)).mp (zt_za.mp z).2).1; omega)), Int.zero_add]
  refine zsum_cg _ (fun j j0 j1 => zb_c ?_)
  rw [zt_za, h3.2 (j + 1) (by omega)]
  exact ⟨fun z => ⟨z.1, z.2.2⟩, fun z => ⟨z.1, ⟨by omega, by omega⟩, z.2⟩⟩
theorem zOpen (hm : 0 ≤ x ∧ x < 64) (h : ∀ c, 0 ≤ c → c < 6 → (zt x c ↔ w (971 + 2 * c + w 983) = 1)) : zpc 31 x.toNat = wOpen w := by
  rw [zpc_31 (n := 6) (by decide) (fun j j0 j1 => zt_hi (n := 6) hm.2 j0)]
  exact zsum_cg _ (fun j j0 j1 => zb_c (h j j0 j1))
theorem cNow.night (h : cNow V C J w) (hO : wOK w) : cNow (vu V 20 x) C J (zu w 983 x) := by
  have h6 := hO.2.1
  have lo : ∀ j, j ≠ 983 → zu w 983 x j = w j := fun j hj => zu_ne hj
  refine ⟨⟨?_, ?_, ?_⟩, fun q q0 q1 => ?_, ⟨h.2.2.1.1, fun c c0 c1 => ?_, fun c c0 c1 => ?_⟩, h.pp hO (fun j a b => lo j (by omega))⟩
  · rw [zu_at]; rfl
  · rw [lo _ (by decide)]; exact h.1.2.1
  · rw [lo _ (by decide)]; exact h.1.2.2
  · rw [lo _ (by decide)] at q1
    rw [lo _ (by omega), lo _ (by omega), lo _ (by omega)]
    exact h.k q0 q1
  · rw [lo _ (by omega)]; exact h.2.2.1.2.1 c c0 c1
  · rw [lo _ (by omega)]; exact h.2.2.1.2.2 c c0 c1
end C69a
section C69
variable {G : p_G} {Y : Nat → Nat} {h0 : p_H} {P : (Option Value) ⊕ String → c_X → Prop} {d : Nat} {V : Nat → Int} {C : Nat → Int → Int} {J : c_J}
variable {w : Int → Int} {n : Int} {H : Int → Int → Int} {a : Nat} {p : c_P}
theorem q_setNight {a0 : Int} (hN : cNow V C J w) (hO : wOK w) (hH : cHs V C J n H) (ha : a0 = 0 ∨ a0 = 1) (hp0 : True → ∀ V' C' J', cChg V V' C C' J J' w (zu w 983 a0) n H → P (.inl (some (.int (iI (wOpen (zu w 983 a0)))))) (V', C', J')) : RM G mX10_setNight (c_I Y h0) [.ref (Y 0), .int (iI a0)] (d + 2) 0 0 P (V, C, J) := by
  refine RM.of (L := [some (.ref (Y 0)), some (.int (iI a0))]) cfX10_setNight rfl (Nat.le_of_ble_eq_true rfl) ?_
  refine i_aload_n dX10_setNight_0 rfl ?_
  refine u_get (i := 0) (vv := .ref (Y (9))) dX10_setNight_1 fX10_56.o (by decide) rfl rfl ?_
  refine i_aload_n dX10_setNight_4 rfl ?_
  refine u_get (i := 0) (vv := .ref (Y (30))) dX10_setNight_5 fX10_49.o (by decide) rfl rfl ?_
  refine u_callV (i := 9) (mc := 0) (ms := 0) (As := [_]) dX10_setNight_8 cfX0_remember imX0_remember seX0_remember lX10_113 (by decide) rfl rfl rfl rfl rfl (Nat.le_of_ble_eq_true rfl) (Nat.zero_add _).symm (Nat.zero_add _).symm ?_
  refine q_remember hN hO hH (fun V1 C1 J1 hn1 hh1 hf1 hj1 => RK.n0 ?_)
  refine i_aload_n dX10_setNight_11 rfl ?_
  refine u_get (i := 0) (vv := .ref (Y (30))) dX10_setNight_12 fX10_49.o (by decide) rfl rfl ?_
  refine i_iload_n dX10_setNight_15 rfl ?_
  refine u_putW (u := 0) (kV := 20) dX10_setNight_16 fX10_181 (by decide) (c_wfs_0 (u := 0)) (by decide) (by decide) (zb_nar ha) (zb_fit ha) ?_
  have hn9 := hn1.night (x := a0) hO
  have hO9 := hO.zn ha
  refine i_aload_n dX10_setNight_19 rfl ?_
  refine u_get (i := 0) (vv := .ref (Y (30))) dX10_setNight_20 fX10_49.o (by decide) rfl rfl ?_
  refine u_callV (i := 30) (mc := 0) (ms := 0) (As := []) dX10_setNight_23 cfX9_openStreets imX9_openStreets seX9_openStreets lX10_185 (by decide) rfl rfl rfl rfl rfl (Nat.le_of_ble_eq_true rfl) (Nat.zero_add _).symm (Nat.zero_add _).symm ?_
  refine q_openStreets hn9 hO9 (fun m hm hz => RK.v ?_)
  refine i_callS (mc := 0) (ms := 0) (As := [_]) dX10_setNight_26 cfJ6_bitCount_0f7a4 stJ6_bitCount_0f7a4 lX10_188 rfl rfl (Nat.le_of_ble_eq_true rfl) (Nat.zero_add _).symm (Nat.zero_add _).symm ?_
  refine q_bitCount (by omega) (RK.v ?_)
  refine i_ireturn dX10_setNight_29 rfl rfl ?_
  rw [zOpen hm hz]
  exact hp0 trivial _ _ _ (cChg.of hh1 hf1 hn9 (fun i hi => vu_ne (by omega)) (fun _ _ => rfl) (fun _ _ => rfl) rfl rfl)
theorem q_mss_l {s : Int} (hp : J.2.2 a = some p) (hr : cPt p w s) (hO : wOK w) (hs : s = 0 ∨ s = 1) (hq : P (.inl (some (.double (FP.ddiv (FP.i2d (iI (wSz w s (w (476 * s + 5))))) (FP.i2d (iI (w (476 * s + 5)))))))) (V, C, J))  : ∀ (zz : Nat) (t : Int) (x : Int), zz = (w (476 * s + 5) - t).toNat → (0 ≤ t ∧ t ≤ w (476 * s + 5)) → (x = wSz w s t) → RW G mX10_meanSetSize (c_I Y h0) P (d + 1) 0 0 11 [some (.ref (Y 0)), some (.int (iI s)), some (.ref a), some (.int (iI x)), some (.int (iI t))] [] (V, C, J) := by
  intro zz
  induction zz using Nat.strongRecOn with
  | _ zz ih =>
    intro t x hzz h1 hx
    have o5 := hO.sts hs
    have r5 := hr.1.2.2.2.2.2
    refine i_iload dX10_meanSetSize_11 rfl ?_
    refine i_aload_n dX10_meanSetSize_13 rfl ?_
    refine u_getP (vv := .int (iI (p.1 5))) hp dX10_meanSetSize_14 fX10_132 rfl ?_
    refine i_icmp_ge (tgt := 38) dX10_meanSetSize_17 (by decide) (by omega) (by omega) (fun c17 => ?_) (fun c17 => ?_)
    · -- jumps
      refine i_aload_n dX10_meanSetSize_38 rfl ?_
      refine u_getP (vv := .int (iI (p.1 5))) hp dX10_meanSetSize_39 fX10_132 rfl ?_
      refine i_if_ne (tgt := 49) dX10_meanSetSize_42 (by decide) (by omega) (fun c42 => ?_) (fun c42 => ?_)
      · -- jumps
        refine i_iload_n dX10_meanSetSize_49 rfl ?_
        refine i_i2d dX10_meanSetSize_50 ?_
        refine i_aload_n dX10_meanSetSize_51 rfl ?_
        refine u_getP (vv := .int (iI (p.1 5))) hp dX10_meanSetSize_52 fX10_132 rfl ?_
        refine i_i2d dX10_meanSetSize_55 ?_
        refine i_ddiv dX10_meanSetSize_56 (by rw [r5]; exact fq_mean (by omega)) ?_
        refine i_dreturn dX10_meanSetSize_57 rfl ?_
        obtain rfl : t = w (476 * s + 5) := by omega
        rw [← hx, ← r5] at hq
        exact hq
      · -- on
        refine i_dconst0 dX10_meanSetSize_45 ?_
        refine i_goto (tgt := 57) dX10_meanSetSize_46 (by decide) ?_
        refine i_dreturn dX10_meanSetSize_57 rfl ?_
        exfalso; omega
    · -- on
      refine i_iload_n dX10_meanSetSize_20 rfl ?_
      refine i_aload_n dX10_meanSetSize_21 rfl ?_
      refine i_iload dX10_meanSetSize_22 rfl ?_
      refine u_callP (mc := 0) (ms := 0) (As := [_]) hp dX10_meanSetSize_24 cfX5_positionsIn imX5_positionsIn seX5_positionsIn lX10_250 rfl rfl rfl rfl (Nat.le_of_ble_eq_true rfl) (Nat.zero_add _).symm (Nat.zero_add _).symm ?_
      refine q_positionsIn hp hr (hO.1 s hs) (by omega) (fun _ => RK.v ?_) (fun q9 => absurd ⟨by omega, by omega⟩ q9)
      refine i_callS (mc := 0) (ms := 0) (As := [_]) dX10_meanSetSize_27 cfJ6_bitCount_0f7a4 stJ6_bitCount_0f7a4 lX10_188 rfl rfl (Nat.le_of_ble_eq_true rfl) (Nat.zero_add _).symm (Nat.zero_add _).symm ?_
      have m3 := hO.msk hs (56 + t) (by omega) (by omega)
      refine q_bitCount (by omega) (RK.v ?_)
      refine i_add dX10_meanSetSize_30 ?_
      refine i_istore_n dX10_meanSetSize_31 (L' := [some _, some _, some _, some _, some _]) (by decide) rfl ?_
      refine i_iinc dX10_meanSetSize_32 rfl (L' := [some _, some _, some _, some _, some _]) (by decide) rfl ?_
      refine i_goto (tgt := 11) dX10_meanSetSize_35 (by decide) ?_
      refine ih _ ?_ (t + 1) _ rfl (by omega) ?_
      · omega
      unfold wSz at hx ⊢
      rw [zsum_s h1.1, hx]
theorem q_meanSetSize {s : Int} (hZ : p_Zs G) (hN : cNow V C J w) (hO : wOK w) (h_s : -2147483648 ≤ s ∧ s < 2147483648) (hp1 : ¬ (s = 0 ∨ s = 1) → P (.inr "java/lang/IndexOutOfBoundsException") (V, C, J)) (hq : s = 0 ∨ s = 1 → P (.inl (some (.double (FP.ddiv (FP.i2d (iI (wSz w s (w (476 * s + 5))))) (FP.i2d (iI (w (476 * s + 5)))))))) (V, C, J)) : RM G mX10_meanSetSize (c_I Y h0) [.ref (Y 0), .int (iI s)] (d + 8) 1 6 P (V, C, J) := by
  refine RM.of (L := [some (.ref (Y 0)), some (.int (iI s)), none, none, none]) cfX10_meanSetSize rfl (Nat.le_of_ble_eq_true rfl) ?_
  refine i_aload_n dX10_meanSetSize_0 rfl ?_
  refine i_iload_n dX10_meanSetSize_1 rfl ?_
  refine u_callV (i := 0) (mc := 1) (ms := 6) (k' := 0) (n' := 0) (As := [_]) dX10_meanSetSize_2 cfX10_checkedPattern imX10_checkedPattern seX10_checkedPattern lX10_212 (by decide) rfl rfl rfl rfl rfl (Nat.le_of_ble_eq_true rfl) rfl rfl ?_
  refine q_checkedPattern hZ hN hO (by omega) (fun g1 a1 p1 hy1 hr1 => RK.v ?_) (fun g1 => RK.x ?_)
  · -- case
    refine i_astore_n dX10_meanSetSize_5 (L' := [some _, some _, some _, none, none]) (by decide) rfl ?_
    refine i_const dX10_meanSetSize_6 ?_
    refine i_istore_n dX10_meanSetSize_7 (L' := [some _, some _, some _, some _, none]) (by decide) rfl ?_
    refine i_const dX10_meanSetSize_8 ?_
    refine i_istore dX10_meanSetSize_9 (L' := [some _, some _, some _, some _, some _]) (by decide) rfl ?_
    exact q_mss_l hy1 hr1 hO g1 (hq g1) _ 0 0 rfl (by have := hO.sts g1; omega) rfl
  · -- case
    exact hp1 (by omega)
theorem q_det_l {s q : Int} (hp : J.2.2 a = some p) (hr : cPt p w s) (hO : wOK w) (hs : s = 0 ∨ s = 1) (hq1 : 1 ≤ q ∧ q ≤ w (476 * s + 0)) (hq : P (.inl (some (.int (iI (zc (wDet w s q)))))) (V, C, J))  : ∀ (zz : Nat) (c : Int), zz = (6 - c).toNat → (0 ≤ c ∧ c ≤ 6) → (∀ c2, 0 ≤ c2 → c2 < c → wFol w s q c2 ≤ 1) → RW G mX10_isDeterministicAt (c_I Y h0) P (d + 2) 0 0 21 [some (.ref (Y 0)), some (.int (iI s)), some (.int (iI q)), some (.ref a), some (.int (iI (w (476 * s + (6 + q))))), some (.int (iI c))] [] (V, C, J) := by
  intro zz
  induction zz using Nat.strongRecOn with
  | _ zz ih =>
    intro c hzz h1 hI
    have o0 := hO.pos hs
    have m6 := hO.msk hs (6 + q) (by omega) (by omega)
    refine i_iload dX10_isDeterministicAt_21 rfl ?_
    refine i_bipush dX10_isDeterministicAt_23 (by decide) ?_
    refine i_icmp_ge (tgt := 52) dX10_isDeterministicAt_25 (by decide) (by omega) (by omega) (fun c25 => ?_) (fun c25 => ?_)
    · -- jumps
      refine i_const dX10_isDeterministicAt_52 ?_
      refine i_ireturn dX10_isDeterministicAt_53 rfl rfl ?_
      rw [zc_t (fun c2 q0 q1 => hI c2 q0 (by omega))] at hq; exact hq
    · -- on
      refine i_iload dX10_isDeterministicAt_28 rfl ?_
      refine i_aload_n dX10_isDeterministicAt_30 rfl ?_
      refine i_iload dX10_isDeterministicAt_31 rfl ?_
      refine u_callP (mc := 0) (ms := 0) (As := [_]) hp dX10_isDeterministicAt_33 cfX5_positionsAlong imX5_positionsAlong seX5_positionsAlong lX10_237 rfl rfl rfl rfl (Nat.le_of_ble_eq_true rfl) (Nat.zero_add _).symm (Nat.zero_add _).symm ?_
      have p3 := (hr.2.2.1 c (by omega) (by omega)).1
      refine q_positionsAlong hp hr (hO.1 _ hs) (by omega) (RK.v ?_)
      refine i_and dX10_isDeterministicAt_36 (by omega) (by omega) ?_
      refine i_callS (mc := 0) (ms := 0) (As := [_]) dX10_isDeterministicAt_37 cfJ6_bitCount_0f7a4 stJ6_bitCount_0f7a4 lX10_188 rfl rfl (Nat.le_of_ble_eq_true rfl) (Nat.zero_add _).symm (Nat.zero_add _).symm ?_
      have b1 := @za_nn (w (476 * s + (6 + q))) (p.2.1 2 c)
      have b2 := @za_le (w (476 * s + (6 + q))) (p.2.1 2 c) (by omega)
      refine q_bitCount (by omega) (RK.v ?_)
      have b3 := @zFol w p s q c hr (hO.1 _ hs) (by omega)
      have b4 := wFol_rg (q := q) (c := c) hO hs
      refine RW.ti b3 ?_
      refine i_const dX10_isDeterministicAt_40 ?_
      refine i_icmp_le (tgt := 46) dX10_isDeterministicAt_41 (by decide) (by omega) (by omega) (fun c41 => ?_) (fun c41 => ?_)
      · -- jumps
        refine i_iinc dX10_isDeterministicAt_46 rfl (L' := [some _, some _, some _, some _, some _, some _]) (by decide) rfl ?_
        refine i_goto (tgt := 21) dX10_isDeterministicAt_49 (by decide) ?_
        refine ih _ ?_ (c + 1) rfl (by omega) (fun c2 q0 q1 => ?_)
        · omega
        by_cases zz9 : c2 = c
        · rw [zz9]; omega
        · exact hI c2 q0 (by omega)
      · -- on
        refine i_const dX10_isDeterministicAt_44 ?_
        refine i_ireturn dX10_isDeterministicAt_45 rfl rfl ?_
        rw [zc_f (fun z9 => absurd (z9 c (by omega) (by omega)) (by omega))] at hq; exact hq
theorem q_isDeterministicAt {s q : Int} (hZ : p_Zs G) (hN : cNow V C J w) (hO : wOK w) (h_s : -2147483648 ≤ s ∧ s < 2147483648) (h_q : -2147483648 ≤ q ∧ q < 2147483648) (hp1 : ¬ ((s = 0 ∨ s = 1) ∧ 1 ≤ q ∧ q ≤ w (476 * s + 0)) → P (.inr "java/lang/IndexOutOfBoundsException") (V, C, J)) (hq : (s = 0 ∨ s = 1) ∧ 1 ≤ q ∧ q ≤ w (476 * s + 0) → P (.inl (some (.int (iI (zc (wDet w s q)))))) (V, C, J)) : RM G mX10_isDeterministicAt (c_I Y h0) [.ref (Y 0), .int (iI s), .int (iI q)] (d + 8) 2 12 P (V, C, J) := by
  refine RM.of (L := [some (.ref (Y 0)), some (.int (iI s)), some (.int (iI q)), none, none, none]) cfX10_isDeterministicAt rfl (Nat.le_of_ble_eq_true rfl) ?_
  refine i_aload_n dX10_isDeterministicAt_0 rfl ?_
  refine i_iload_n dX10_isDeterministicAt_1 rfl ?_
  refine u_callV (i := 0) (mc := 1) (ms := 6) (k' := 1) (n' := 6) (As := [_]) dX10_isDeterministicAt_2 cfX10_checkedPattern imX10_checkedPattern seX10_checkedPattern lX10_212 (by decide) rfl rfl rfl rfl rfl (Nat.le_of_ble_eq_true rfl) rfl rfl ?_
  refine q_checkedPattern hZ hN hO (by omega) (fun g1 a1 p1 hy1 hr1 => RK.v ?_) (fun g1 => RK.x ?_)
  · -- case
    refine i_astore_n dX10_isDeterministicAt_5 (L' := [some _, some _, some _, some _, none, none]) (by decide) rfl ?_
    refine i_aload_n dX10_isDeterministicAt_6 rfl ?_
    refine i_iload_n dX10_isDeterministicAt_7 rfl ?_
    refine i_callS (mc := 1) (ms := 6) (k' := 0) (n' := 0) (As := [_, _]) dX10_isDeterministicAt_8 cfX10_checkPosition stX10_checkPosition lX10_215 rfl rfl (Nat.le_of_ble_eq_true rfl) rfl rfl ?_
    refine q_checkPosition hZ hy1 hr1 (hO.1 _ g1) (by omega) (fun g2 => RK.n0 ?_) (fun g2 => RK.x ?_)
    · -- case
      refine i_aload_n dX10_isDeterministicAt_11 rfl ?_
      refine i_iload_n dX10_isDeterministicAt_12 rfl ?_
      refine u_callP (mc := 0) (ms := 0) (As := [_]) hy1 dX10_isDeterministicAt_13 cfX5_followOf imX5_followOf seX5_followOf lX10_231 rfl rfl rfl rfl (Nat.le_of_ble_eq_true rfl) (Nat.zero_add _).symm (Nat.zero_add _).symm ?_
      refine q_followOf hy1 hr1 (hO.1 _ g1) (by omega) (RK.v ?_)
      refine i_istore dX10_isDeterministicAt_16 (L' := [some _, some _, some _, some _, some _, none]) (by decide) rfl ?_
      refine i_const dX10_isDeterministicAt_18 ?_
      refine i_istore dX10_isDeterministicAt_19 (L' := [some _, some _, some _, some _, some _, some _]) (by decide) rfl ?_
      exact q_det_l hy1 hr1 hO g1 (by omega) (hq (by omega)) _ 0 rfl (by decide) (fun c2 q0 q1 => by omega)
    · -- case
      exact hp1 (by omega)
  · -- case
    exact hp1 (by omega)
end C69
