/-! ===== the class: a word written ===== -/
section C55
variable {G : p_G} {Y : Nat → Nat} {h0 : p_H} {P : (Option Value) ⊕ String → c_X → Prop} {d : Nat} {V : Nat → Int} {C : Nat → Int → Int} {J : c_J}
variable {w : Int → Int} {a : Nat} {p : c_P} {s : Int}
theorem q_ww_l {n m : Int} (hp : J.2.2 a = some p) (hr : cPt p w s) (hO : wP w s) (hn : 0 ≤ n ∧ n ≤ 20) (hct : ∀ l, 0 ≤ l → l ≤ n → cCt J.1 w s l) (hq : ∀ V' C', sV [3] V V' → sC [22] C C' → V' 3 = n → wWord w s (C' 22) n.toNat 0 m 0 → P (.inl (some (.int (iI n)))) (V', C', J)) : ∀ (zz : Nat) (i : Int) (x : Int) (t : Int) (C' : Nat → Int → Int), zz = (n - i).toNat → (0 ≤ i ∧ i ≤ n) → (sC [22] C C') → (0 ≤ t ∧ t < w (476 * s + 5)) → (0 ≤ x ∧ x < wCW w s (n - i).toNat t) → (∀ r : Int → Int, (∀ j, 0 ≤ j → j < i → r j = C' 22 j) → wWord w s r (n - i).toNat t x i → wWord w s r n.toNat 0 m 0) → RW G mX10_writeWord (c_I Y h0) P (d + 4) 0 0 52 [some (.ref (Y 0)), none, some (.int (iI n)), none, none, some (.ref a), some (.long (lI x)), none, some (.int (iI t)), some (.int (iI i)), none, none] [] (V, C', J) := by
  intro zz
  induction zz using Nat.strongRecOn with
  | _ zz ih =>
    intro i x t C' hzz h1 hC ht hx hI
    have o5 := hO.2.2.2.1
    refine i_iload dX10_writeWord_52 rfl ?_
    refine i_iload_n dX10_writeWord_54 rfl ?_
    refine i_icmp_ge (tgt := 128) dX10_writeWord_55 (by decide) (by omega) (by omega) (fun c55 => ?_) (fun c55 => ?_)
    · -- jumps
      refine i_aload_n dX10_writeWord_128 rfl ?_
      refine i_iload_n dX10_writeWord_129 rfl ?_
      refine u_put (i := 0) (kV := 3) dX10_writeWord_130 fX10_325 (by decide) rfl rfl rfl (Nat.le_of_ble_eq_true rfl) rfl rfl ?_
      refine i_iload_n dX10_writeWord_133 rfl ?_
      refine i_ireturn dX10_writeWord_134 rfl rfl ?_
      obtain rfl : i = n := by omega
      refine hq _ _ (sV.rfl.vu (by decide)) hC rfl (hI (C' 22) (fun j _ _ => rfl) ?_)
      rw [show (i - i).toNat = 0 by omega]; trivial
    · -- on
      have hcw : wCW w s (n - i).toNat t = zsum (wNx w s (n - i - 1) t) 6 := wCW_s (by omega)
      have h20 := @wCW_20 w s (n - i) t (by omega)
      refine i_iload_n dX10_writeWord_58 rfl ?_
      refine i_iload dX10_writeWord_59 rfl ?_
      refine i_sub dX10_writeWord_61 ?_
      refine i_const dX10_writeWord_62 ?_
      refine i_sub dX10_writeWord_63 ?_
      refine i_istore dX10_writeWord_64 (L' := [some _, none, some _, none, none, some _, some _, none, some _, some _, some _, none]) (by decide) rfl ?_
      refine i_aload_n dX10_writeWord_66 rfl ?_
      refine u_get (i := 0) (vv := .ref (Y (16))) dX10_writeWord_67 fX10_80.o (by decide) rfl rfl ?_
      refine i_aload dX10_writeWord_70 rfl ?_
      refine i_iload dX10_writeWord_72 rfl ?_
      refine i_iload dX10_writeWord_74 rfl ?_
      refine i_lload dX10_writeWord_76 rfl ?_
      refine u_callV (i := 16) (mc := 0) (ms := 0) (As := [_, _, _, _]) dX10_writeWord_78 cfX8_streetToWord imX8_streetToWord seX8_streetToWord lX10_314 (by decide) rfl rfl rfl rfl rfl (Nat.le_of_ble_eq_true rfl) (Nat.zero_add _).symm (Nat.zero_add _).symm ?_
      refine q_streetToWord hp hr hO (by omega) (by omega) (hct _ (by omega) (by omega)) (by omega) (by rw [← hcw]; omega) (fun c c0 c1 h8 h9 => RK.v ?_)
      refine i_istore dX10_writeWord_81 (L' := [some _, none, some _, none, none, some _, some _, none, some _, some _, some _, some _]) (by decide) rfl ?_
      refine i_lload dX10_writeWord_83 rfl ?_
      refine i_aload_n dX10_writeWord_85 rfl ?_
      refine u_get (i := 0) (vv := .ref (Y (16))) dX10_writeWord_86 fX10_80.o (by decide) rfl rfl ?_
      refine i_aload dX10_writeWord_89 rfl ?_
      refine i_iload dX10_writeWord_91 rfl ?_
      refine i_iload dX10_writeWord_93 rfl ?_
      refine i_iload dX10_writeWord_95 rfl ?_
      refine u_callV (i := 16) (mc := 0) (ms := 0) (As := [_, _, _, _]) dX10_writeWord_97 cfX8_wordsBefore imX8_wordsBefore seX8_wordsBefore lX10_318 (by decide) rfl rfl rfl rfl rfl (Nat.le_of_ble_eq_true rfl) (Nat.zero_add _).symm (Nat.zero_add _).symm ?_
      refine q_wordsBefore hp hr hO (by omega) (by omega) (by omega) (hct _ (by omega) (by omega)) (RK.v ?_)
      refine i_lsub dX10_writeWord_100 ?_
      refine i_lstore dX10_writeWord_101 (L' := [some _, none, some _, none, none, some _, some _, none, some _, some _, some _, some _]) (by decide) rfl ?_
      refine i_aload_n dX10_writeWord_103 rfl ?_
      refine i_iload dX10_writeWord_104 rfl ?_
      refine i_iload dX10_writeWord_106 rfl ?_
      refine u_callV (i := 0) (mc := 0) (ms := 0) (As := [_, _]) dX10_writeWord_108 cfX10_putReportByte imX10_putReportByte seX10_putReportByte lX10_322 (by decide) rfl rfl rfl rfl rfl (Nat.le_of_ble_eq_true rfl) (Nat.zero_add _).symm (Nat.zero_add _).symm ?_
      refine q_putReportByte (by omega) (RK.n0 ?_)
      refine i_aload dX10_writeWord_111 rfl ?_
      refine i_iload dX10_writeWord_113 rfl ?_
      refine i_iload dX10_writeWord_115 rfl ?_
      refine u_callP (mc := 0) (ms := 0) (As := [_, _]) hp dX10_writeWord_117 cfX5_after imX5_after seX5_after lX10_243 rfl rfl rfl rfl (Nat.le_of_ble_eq_true rfl) (Nat.zero_add _).symm (Nat.zero_add _).symm ?_
      refine q_after hp hr hO (by omega) (by omega) (fun _ => RK.v ?_) (fun q9 => absurd ⟨⟨by omega, by omega⟩, by omega, by omega⟩ q9)
      refine i_istore dX10_writeWord_120 (L' := [some _, none, some _, none, none, some _, some _, none, some _, some _, some _, some _]) (by decide) rfl ?_
      refine i_iinc dX10_writeWord_122 rfl (L' := [some _, none, some _, none, none, some _, some _, none, some _, some _, some _, some _]) (by decide) rfl ?_
      refine i_goto (tgt := 52) dX10_writeWord_125 (by decide) ?_
      refine RW.wk (L' := [some _, none, some _, none, none, some _, some _, none, some _, some _, none, none]) (p_subL.at (by repeat (first | exact subL_nil | refine subL_s ?_ | refine subL_n ?_))) ?_
      have n9 := hO.2.2.2.2.2 t c (by omega) (by omega) (by omega) (by omega)
      refine ih _ ?_ (i + 1) (x - zsum (wNx w s (n - i - 1) t) c.toNat) (w (476 * s + (116 + 6 * t + c))) _ rfl (by omega) (hC.cu (by decide)) (by omega) ?_ (fun r hr0 hW => ?_)
      · omega
      · have e9 : zsum (wNx w s (n - i - 1) t) (c + 1).toNat = zsum (wNx w s (n - i - 1) t) c.toNat + wCW w s (n - i - 1).toNat (w (476 * s + (116 + 6 * t + c))) := zsum_s c0
        rw [show n - (i + 1) = n - i - 1 by omega]; omega
      · refine hI r (fun j j0 j1 => ?_) ?_
        · rw [hr0 j j0 (by omega)]; exact zu_ne (by omega)
        · rw [show (n - i).toNat = (n - (i + 1)).toNat + 1 by omega]
          have en : wNx w s ((n - (i + 1)).toNat : Int) t = wNx w s (n - i - 1) t := by rw [show ((n - (i + 1)).toNat : Int) = n - i - 1 by omega]
          refine ⟨c, ⟨c0, c1⟩, by rw [en]; exact h8, by rw [en]; exact h9, ?_, ?_⟩
          · rw [hr0 i (by omega) (by omega)]; exact zu_at
          · rw [en]; exact hW
theorem q_writeWord {s n m : Int} (hZ : p_Zs G) (hN : cNow V C J w) (hO : wOK w) (hX : ∀ s, s = 0 ∨ s = 1 → wX w s) (h_s : -2147483648 ≤ s ∧ s < 2147483648) (h_n : -2147483648 ≤ n ∧ n < 2147483648) (h_m : -9223372036854775808 ≤ m ∧ m < 9223372036854775808) (hp1 : ¬ (s = 0 ∨ s = 1) → P (.inr "java/lang/IndexOutOfBoundsException") (V, C, J)) (hp2 : (s = 0 ∨ s = 1) ∧ ¬ (0 ≤ n ∧ n ≤ 20) → P (.inr "java/lang/IllegalArgumentException") (V, C, J)) (hp3 : ((s = 0 ∨ s = 1) ∧ (0 ≤ n ∧ n ≤ 20)) ∧ ¬ (0 ≤ m ∧ m < wCW w s n.toNat 0) → ∀ J', J'.2 = J.2 → P (.inl (some (.int (iI (-1))))) (V, C, J')) (hp : ((s = 0 ∨ s = 1) ∧ (0 ≤ n ∧ n ≤ 20)) ∧ (0 ≤ m ∧ m < wCW w s n.toNat 0) → ∀ V' C' J', J'.2 = J.2 → sV [3] V V' → sC [22] C C' → V' 3 = n → wWord w s (C' 22) n.toNat 0 m 0 → P (.inl (some (.int (iI n)))) (V', C', J')) : RM G mX10_writeWord (c_I Y h0) [.ref (Y 0), .int (iI s), .int (iI n), .long (lI m)] (d + 8) 2 12 P (V, C, J) := by
  refine RM.of (L := [some (.ref (Y 0)), some (.int (iI s)), some (.int (iI n)), some (.long (lI m)), none, none, none, none, none, none, none, none]) cfX10_writeWord rfl (Nat.le_of_ble_eq_true rfl) ?_
  refine i_aload_n dX10_writeWord_0 rfl ?_
  refine i_iload_n dX10_writeWord_1 rfl ?_
  refine u_callV (i := 0) (mc := 1) (ms := 6) (k' := 1) (n' := 6) (As := [_]) dX10_writeWord_2 cfX10_checkedPattern imX10_checkedPattern seX10_checkedPattern lX10_212 (by decide) rfl rfl rfl rfl rfl (Nat.le_of_ble_eq_true rfl) rfl rfl ?_
  refine q_checkedPattern hZ hN hO (by omega) (fun g1 a1 p1 hy1 hr1 => RK.v ?_) (fun g1 => RK.x ?_)
  · -- case
    refine i_astore dX10_writeWord_5 (L' := [some _, some _, some _, some _, none, some _, none, none, none, none, none, none]) (by decide) rfl ?_
    refine i_iload_n dX10_writeWord_7 rfl ?_
    refine i_callS (mc := 1) (ms := 6) (k' := 0) (n' := 0) (As := [_]) dX10_writeWord_8 cfX10_checkWordLength stX10_checkWordLength lX10_275 rfl rfl (Nat.le_of_ble_eq_true rfl) rfl rfl ?_
    refine q_checkWordLength hZ  (by omega) (fun g2 => RK.n0 ?_) (fun g2 => RK.x ?_)
    · -- case
      have o5 := hO.sts g1
      have h20 := @wCW_20 w s n 0 (by omega)
      refine i_aload_n dX10_writeWord_11 rfl ?_
      refine u_get (i := 0) (vv := .ref (Y (16))) dX10_writeWord_12 fX10_80.o (by decide) rfl rfl ?_
      refine i_aload dX10_writeWord_15 rfl ?_
      refine i_iload_n dX10_writeWord_17 rfl ?_
      refine u_callV (i := 16) (mc := 0) (ms := 0) (As := [_, _]) dX10_writeWord_18 cfX8_fill imX8_fill seX8_fill lX10_278 (by decide) rfl rfl rfl rfl rfl (Nat.le_of_ble_eq_true rfl) (Nat.zero_add _).symm (Nat.zero_add _).symm ?_
      refine q_fill hy1 hr1 (hO.1 _ g1) (hX _ g1) (by omega) (fun J3 hJ3 hct3 => RK.n0 ?_)
      refine i_lload_n dX10_writeWord_21 rfl ?_
      refine i_lconst dX10_writeWord_22 (z := 0) (by decide) ?_
      refine i_lcmp dX10_writeWord_23 (lI_cmp (by omega) (by omega)) ?_
      refine i_if_lt (tgt := 41) dX10_writeWord_24 (by decide) lc_rg (fun c24 => ?_) (fun c24 => ?_)
      · -- jumps
        have c24 := lc_lt c24
        refine i_const dX10_writeWord_41 ?_
        refine i_ireturn dX10_writeWord_42 rfl rfl ?_
        exact hp3 (by omega) _ hJ3
      · -- on
        have c24 := lc_ge c24
        refine i_lload_n dX10_writeWord_27 rfl ?_
        refine i_aload_n dX10_writeWord_28 rfl ?_
        refine u_get (i := 0) (vv := .ref (Y (16))) dX10_writeWord_29 fX10_80.o (by decide) rfl rfl ?_
        refine i_const dX10_writeWord_32 ?_
        refine i_iload_n dX10_writeWord_33 rfl ?_
        refine u_callV (i := 16) (mc := 0) (ms := 0) (As := [_, _]) dX10_writeWord_34 cfX8_from imX8_from seX8_from lX10_281 (by decide) rfl rfl rfl rfl rfl (Nat.le_of_ble_eq_true rfl) (Nat.zero_add _).symm (Nat.zero_add _).symm ?_
        refine q_from (x := wCW w s (n).toNat (0)) (by omega) (by omega) (hct3 _ (by omega) (by omega) _ (by omega) (by omega)) (RK.v ?_)
        refine i_lcmp dX10_writeWord_37 (lI_cmp (by omega) (by omega)) ?_
        refine i_if_lt (tgt := 43) dX10_writeWord_38 (by decide) lc_rg (fun c38 => ?_) (fun c38 => ?_)
        · -- jumps
          have c38 := lc_lt c38
          refine i_lload_n dX10_writeWord_43 rfl ?_
          refine i_lstore dX10_writeWord_44 (L' := [some _, some _, some _, some _, none, some _, some _, none, none, none, none, none]) (by decide) rfl ?_
          refine i_const dX10_writeWord_46 ?_
          refine i_istore dX10_writeWord_47 (L' := [some _, some _, some _, some _, none, some _, some _, none, some _, none, none, none]) (by decide) rfl ?_
          refine i_const dX10_writeWord_49 ?_
          refine i_istore dX10_writeWord_50 (L' := [some _, some _, some _, some _, none, some _, some _, none, some _, some _, none, none]) (by decide) rfl ?_
          refine RW.wk (L' := [some _, none, some _, none, none, some _, some _, none, some _, some _, none, none]) (p_subL.at (by repeat (first | exact subL_nil | refine subL_s ?_ | refine subL_n ?_))) ?_
          exact q_ww_l (J := J3) (by rw [hJ3]; exact hy1) hr1 (hO.1 _ g1) (by omega) hct3 (fun V' C' q1 q2 q3 q4 => hp (by omega) V' C' _ hJ3 q1 q2 q3 q4) _ 0 m 0 C rfl (by omega) sC.rfl (by omega) (by rw [show n - 0 = n by omega]; omega) (fun r _ q => by rw [show n - 0 = n by omega] at q; exact q)
        · -- on
          have c38 := lc_ge c38
          refine i_const dX10_writeWord_41 ?_
          refine i_ireturn dX10_writeWord_42 rfl rfl ?_
          exact hp3 (by omega) _ hJ3
    · -- case
      exact hp2 (by omega)
  · -- case
    exact hp1 (by omega)
end C55
