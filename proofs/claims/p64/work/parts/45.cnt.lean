/-! ===== the class: words counted ===== -/
/-- the counts of one length -/
def cCt (f : Int → Int) (w : Int → Int) (s l : Int) : Prop := ∀ t, 0 ≤ t → t < w (476 * s + 5) → f (l * 60 + t) = wCW w s l.toNat t
section C45
variable {G : p_G} {Y : Nat → Nat} {h0 : p_H} {P : (Option Value) ⊕ String → c_X → Prop} {d : Nat} {V : Nat → Int} {C : Nat → Int → Int} {J : c_J}
variable {a : Nat} {p : c_P} {w : Int → Int} {s : Int}
theorem q_put {t l x : Int} (ht : 0 ≤ t ∧ t < 60) (hl : 0 ≤ l ∧ l ≤ 20) (hp : P (.inl none) (V, C, (zu J.1 (l * 60 + t) x, J.2))) : RM G mX8_put (c_I Y h0) [.ref (Y 16), .int (iI t), .int (iI l), .long (lI x)] (d + 1) 0 0 P (V, C, J) := by
  refine RM.of (L := [some (.ref (Y 16)), some (.int (iI t)), some (.int (iI l)), some (.long (lI x)), none, none]) cfX8_put rfl (Nat.le_of_ble_eq_true rfl) ?_
  refine i_iload_n dX8_put_0 rfl ?_
  refine i_bipush dX8_put_1 (by decide) ?_
  refine i_mul dX8_put_3 ?_
  refine i_iload_n dX8_put_4 rfl ?_
  refine i_add dX8_put_5 ?_
  refine i_istore dX8_put_6 (L' := [some _, some _, some _, some _, none, some _]) (by decide) rfl ?_
  refine i_iload dX8_put_8 rfl ?_
  refine i_aload_n dX8_put_10 rfl ?_
  refine u_get (i := 16) (vv := .ref (Y (17))) dX8_put_11 fX8_9.o (by decide) rfl rfl ?_
  refine u_alen (N := 1260) dX8_put_14 (by decide) rfl (by decide) rfl ?_
  refine i_callSN (mc := 0) (ms := 0) (As := [_, _]) dX8_put_15 cfX10_isIndex stX10_isIndex lX8_33 rfl rfl (Nat.le_of_ble_eq_true rfl) (Nat.zero_add _).symm (Nat.zero_add _).symm ?_
  refine q_isIndex (by omega) (by omega) (RKN.v ?_)
  refine i_ifeq_b (tgt := 29) dX8_put_18 (by decide) (fun c18 => ?_) (fun c18 => ?_)
  · -- jumps
    refine i_return dX8_put_29 rfl ?_
    first | exact hp | (exfalso; omega)
  · -- on
    refine i_aload_n dX8_put_21 rfl ?_
    refine u_get (i := 16) (vv := .ref (Y (17))) dX8_put_22 fX8_9.o (by decide) rfl rfl ?_
    refine i_iload dX8_put_25 rfl ?_
    refine i_lload_n dX8_put_27 rfl ?_
    refine u_last dX8_put_28 (by omega) ?_
    refine i_return dX8_put_29 rfl ?_
    first | exact hp | (exfalso; omega)
theorem q_from {t l x : Int} (ht : 0 ≤ t ∧ t < 60) (hl : 0 ≤ l ∧ l ≤ 20) (hx : J.1 (l * 60 + t) = x) (hp : P (.inl (some (.long (lI x)))) (V, C, J)) : RM G mX8_from (c_I Y h0) [.ref (Y 16), .int (iI t), .int (iI l)] (d + 1) 0 0 P (V, C, J) := by
  refine RM.of (L := [some (.ref (Y 16)), some (.int (iI t)), some (.int (iI l)), none]) cfX8_from rfl (Nat.le_of_ble_eq_true rfl) ?_
  refine i_iload_n dX8_from_0 rfl ?_
  refine i_bipush dX8_from_1 (by decide) ?_
  refine i_mul dX8_from_3 ?_
  refine i_iload_n dX8_from_4 rfl ?_
  refine i_add dX8_from_5 ?_
  refine i_istore_n dX8_from_6 (L' := [some _, some _, some _, some _]) (by decide) rfl ?_
  refine i_iload_n dX8_from_7 rfl ?_
  refine i_aload_n dX8_from_8 rfl ?_
  refine u_get (i := 16) (vv := .ref (Y (17))) dX8_from_9 fX8_9.o (by decide) rfl rfl ?_
  refine u_alen (N := 1260) dX8_from_12 (by decide) rfl (by decide) rfl ?_
  refine i_callSN (mc := 0) (ms := 0) (As := [_, _]) dX8_from_13 cfX10_isIndex stX10_isIndex lX8_33 rfl rfl (Nat.le_of_ble_eq_true rfl) (Nat.zero_add _).symm (Nat.zero_add _).symm ?_
  refine q_isIndex (by omega) (by omega) (RKN.v ?_)
  refine i_ifeq_b (tgt := 28) dX8_from_16 (by decide) (fun c16 => ?_) (fun c16 => ?_)
  · -- jumps
    refine i_lconst dX8_from_28 (z := 0) (by decide) ?_
    refine i_lreturn dX8_from_29 rfl ?_
    first | exact hp | (exfalso; omega)
  · -- on
    refine i_aload_n dX8_from_19 rfl ?_
    refine u_get (i := 16) (vv := .ref (Y (17))) dX8_from_20 fX8_9.o (by decide) rfl rfl ?_
    refine i_iload_n dX8_from_23 rfl ?_
    refine u_lald (v := x) dX8_from_24 (by omega) hx ?_
    refine i_goto (tgt := 29) dX8_from_25 (by decide) ?_
    refine i_lreturn dX8_from_29 rfl ?_
    first | exact hp | (exfalso; omega)
theorem q_wb_l {t l m : Int} (hp : J.2.2 a = some p) (hr : cPt p w s) (hO : wP w s) (ht : 0 ≤ t ∧ t < w (476 * s + 5)) (hl : 0 ≤ l ∧ l ≤ 20) (hm : 0 ≤ m ∧ m ≤ 6) (hct : cCt J.1 w s l) (hq : P (.inl (some (.long (lI (zsum (wNx w s l t) m.toNat))))) (V, C, J))  : ∀ (zz : Nat) (c : Int) (x : Int), zz = (m - c).toNat → (0 ≤ c ∧ c ≤ m) → (x = zsum (wNx w s l t) c.toNat) → RW G mX8_wordsBefore (c_I Y h0) P (d + 2) 0 0 6 [some (.ref (Y 16)), some (.ref a), some (.int (iI t)), some (.int (iI l)), some (.int (iI m)), some (.long (lI x)), none, some (.int (iI c))] [] (V, C, J) := by
  intro zz
  induction zz using Nat.strongRecOn with
  | _ zz ih =>
    intro c x hzz h1 hx
    have o5 := hO.2.2.2.1
    refine i_iload dX8_wordsBefore_6 rfl ?_
    refine i_bipush dX8_wordsBefore_8 (by decide) ?_
    refine i_icmp_ge (tgt := 43) dX8_wordsBefore_10 (by decide) (by omega) (by omega) (fun c10 => ?_) (fun c10 => ?_)
    · -- jumps
      refine i_lload dX8_wordsBefore_43 rfl ?_
      refine i_lreturn dX8_wordsBefore_45 rfl ?_
      obtain rfl : c = m := by omega
      rw [hx]; exact hq
    · -- on
      refine i_iload dX8_wordsBefore_13 rfl ?_
      refine i_iload dX8_wordsBefore_15 rfl ?_
      refine i_icmp_ge (tgt := 43) dX8_wordsBefore_17 (by decide) (by omega) (by omega) (fun c17 => ?_) (fun c17 => ?_)
      · -- jumps
        refine i_lload dX8_wordsBefore_43 rfl ?_
        refine i_lreturn dX8_wordsBefore_45 rfl ?_
        obtain rfl : c = m := by omega
        rw [hx]; exact hq
      · -- on
        refine i_lload dX8_wordsBefore_20 rfl ?_
        refine i_aload_n dX8_wordsBefore_22 rfl ?_
        refine i_aload_n dX8_wordsBefore_23 rfl ?_
        refine i_iload_n dX8_wordsBefore_24 rfl ?_
        refine i_iload dX8_wordsBefore_25 rfl ?_
        refine u_callP (mc := 0) (ms := 0) (As := [_, _]) hp dX8_wordsBefore_27 cfX5_after imX5_after seX5_after lX8_37 rfl rfl rfl rfl (Nat.le_of_ble_eq_true rfl) (Nat.zero_add _).symm (Nat.zero_add _).symm ?_
        have n9 := hO.2.2.2.2.2 (t) (c) (by omega) (by omega) (by omega) (by omega)
        refine q_after hp hr hO (by omega) (by omega) (fun _ => RK.v ?_) (fun q9 => absurd ⟨⟨by omega, by omega⟩, by omega, by omega⟩ q9)
        refine i_iload_n dX8_wordsBefore_30 rfl ?_
        refine u_callV (i := 16) (mc := 0) (ms := 0) (As := [_, _]) dX8_wordsBefore_31 cfX8_from imX8_from seX8_from lX8_41 (by decide) rfl rfl rfl rfl rfl (Nat.le_of_ble_eq_true rfl) (Nat.zero_add _).symm (Nat.zero_add _).symm ?_
        refine q_from (x := wCW w s (l).toNat (w (476 * s + (116 + 6 * t + c)))) (by omega) (by omega) (hct _ (by omega) (by omega)) (RK.v ?_)
        refine i_ladd dX8_wordsBefore_34 ?_
        refine i_lstore dX8_wordsBefore_35 (L' := [some _, some _, some _, some _, some _, some _, none, some _]) (by decide) rfl ?_
        refine i_iinc dX8_wordsBefore_37 rfl (L' := [some _, some _, some _, some _, some _, some _, none, some _]) (by decide) rfl ?_
        refine i_goto (tgt := 6) dX8_wordsBefore_40 (by decide) ?_
        refine ih _ ?_ (c + 1) _ rfl (by omega) ?_
        · omega
        rw [hx]; exact (zsum_s h1.1).symm
theorem q_wordsBefore {t l m : Int} (hp : J.2.2 a = some p) (hr : cPt p w s) (hO : wP w s) (ht : 0 ≤ t ∧ t < w (476 * s + 5)) (hl : 0 ≤ l ∧ l ≤ 20) (hm : 0 ≤ m ∧ m ≤ 6) (hct : cCt J.1 w s l) (hq : P (.inl (some (.long (lI (zsum (wNx w s l t) m.toNat))))) (V, C, J)) : RM G mX8_wordsBefore (c_I Y h0) [.ref (Y 16), .ref a, .int (iI t), .int (iI l), .int (iI m)] (d + 2) 0 0 P (V, C, J) := by
  refine RM.of (L := [some (.ref (Y 16)), some (.ref a), some (.int (iI t)), some (.int (iI l)), some (.int (iI m)), none, none, none]) cfX8_wordsBefore rfl (Nat.le_of_ble_eq_true rfl) ?_
  refine i_lconst dX8_wordsBefore_0 (z := 0) (by decide) ?_
  refine i_lstore dX8_wordsBefore_1 (L' := [some _, some _, some _, some _, some _, some _, none, none]) (by decide) rfl ?_
  refine i_const dX8_wordsBefore_3 ?_
  refine i_istore dX8_wordsBefore_4 (L' := [some _, some _, some _, some _, some _, some _, none, some _]) (by decide) rfl ?_
  exact q_wb_l hp hr hO ht hl hm hct hq _ 0 0 rfl ⟨by decide, hm.1⟩ rfl
theorem q_fill_l1 {n : Int} (hp : J.2.2 a = some p) (hr : cPt p w s) (hO : wP w s) (hX : wX w s) (hn : 0 ≤ n ∧ n ≤ 20) (kk : ∀ J', J'.2 = J.2 → (∀ l, 0 ≤ l → ∀ q, 0 ≤ q → q < w (476 * s + 5) → (l < 1 ∨ l = 1 ∧ q < 0) → J'.1 (l * 60 + q) = wCW w s l.toNat q) → RW G mX8_fill (c_I Y h0) P (d + 2) 0 0 35 [some (.ref (Y 16)), some (.ref a), some (.int (iI n)), none, none] [] (V, C, J')) : ∀ (zz : Nat) (t : Int) (J' : c_J), zz = (w (476 * s + 5) - t).toNat → (0 ≤ t ∧ t ≤ w (476 * s + 5)) → (J'.2 = J.2) → (∀ l, 0 ≤ l → ∀ q, 0 ≤ q → q < w (476 * s + 5) → (l < 0 ∨ l = 0 ∧ q < t) → J'.1 (l * 60 + q) = wCW w s l.toNat q) → RW G mX8_fill (c_I Y h0) P (d + 2) 0 0 2 [some (.ref (Y 16)), some (.ref a), some (.int (iI n)), some (.int (iI t)), none] [] (V, C, J') := by
  intro zz
  induction zz using Nat.strongRecOn with
  | _ zz ih =>
    intro t J' hzz h1 hJ hI
    have o5 := hO.2.2.2.1
    have hp2 : J'.2.2 a = some p := by rw [hJ]; exact hp
    have r5 := hr.1.2.2.2.2.2
    refine i_iload_n dX8_fill_2 rfl ?_
    refine i_aload_n dX8_fill_3 rfl ?_
    refine u_getP (vv := .int (iI (p.1 5))) hp2 dX8_fill_4 fX8_15 rfl ?_
    refine i_icmp_ge (tgt := 35) dX8_fill_7 (by decide) (by omega) (by omega) (fun c7 => ?_) (fun c7 => ?_)
    · -- jumps
      refine RW.wk (L' := [some _, some _, some _, none, none]) (p_subL.at (by repeat (first | exact subL_nil | refine subL_s ?_ | refine subL_n ?_))) ?_
      exact kk _ hJ (fun l l0 q q0 q1 hq => hI l l0 q q0 q1 (by omega))
    · -- on
      refine i_aload_n dX8_fill_10 rfl ?_
      refine i_iload_n dX8_fill_11 rfl ?_
      refine i_const dX8_fill_12 ?_
      refine i_aload_n dX8_fill_13 rfl ?_
      refine i_iload_n dX8_fill_14 rfl ?_
      refine u_callP (mc := 0) (ms := 0) (As := [_]) hp2 dX8_fill_15 cfX5_accepts imX5_accepts seX5_accepts lX8_21 rfl rfl rfl rfl (Nat.le_of_ble_eq_true rfl) (Nat.zero_add _).symm (Nat.zero_add _).symm ?_
      refine q_accepts hp2 hr hO hX (by omega) (fun _ => RK.v ?_) (fun q9 => absurd ⟨by omega, by omega⟩ q9)
      refine i_ifeq_b (tgt := 25) dX8_fill_18 (by decide) (fun c18 => ?_) (fun c18 => ?_)
      · -- jumps
        refine i_lconst dX8_fill_25 (z := 0) (by decide) ?_
        refine u_callV (i := 16) (mc := 0) (ms := 0) (As := [_, _, _]) dX8_fill_26 cfX8_put imX8_put seX8_put lX8_25 (by decide) rfl rfl rfl rfl rfl (Nat.le_of_ble_eq_true rfl) (Nat.zero_add _).symm (Nat.zero_add _).symm ?_
        refine q_put (by omega) (by omega) (RK.n0 ?_)
        refine i_iinc dX8_fill_29 rfl (L' := [some _, some _, some _, some _, none]) (by decide) rfl ?_
        refine i_goto (tgt := 2) dX8_fill_32 (by decide) ?_
        refine ih _ ?_ (t + 1) (zu J'.1 (0 * 60 + t) _, J'.2) rfl (by omega) hJ (fun l l0 q q0 q1 hq => ?_)
        · omega
        show zu J'.1 (0 * 60 + t) _ (l * 60 + q) = _
        obtain rfl : l = 0 := by omega
        by_cases zz : q = t
        · rw [zz, zu_at]; first | exact (zb_t (by assumption)).symm | exact (zb_f (by assumption)).symm
        · rw [zu_ne (by omega)]; exact hI 0 l0 q q0 q1 (by omega)
      · -- on
        refine i_lconst dX8_fill_21 (z := 1) (by decide) ?_
        refine i_goto (tgt := 26) dX8_fill_22 (by decide) ?_
        refine u_callV (i := 16) (mc := 0) (ms := 0) (As := [_, _, _]) dX8_fill_26 cfX8_put imX8_put seX8_put lX8_25 (by decide) rfl rfl rfl rfl rfl (Nat.le_of_ble_eq_true rfl) (Nat.zero_add _).symm (Nat.zero_add _).symm ?_
        refine q_put (by omega) (by omega) (RK.n0 ?_)
        refine i_iinc dX8_fill_29 rfl (L' := [some _, some _, some _, some _, none]) (by decide) rfl ?_
        refine i_goto (tgt := 2) dX8_fill_32 (by decide) ?_
        refine ih _ ?_ (t + 1) (zu J'.1 (0 * 60 + t) _, J'.2) rfl (by omega) hJ (fun l l0 q q0 q1 hq => ?_)
        · omega
        show zu J'.1 (0 * 60 + t) _ (l * 60 + q) = _
        obtain rfl : l = 0 := by omega
        by_cases zz : q = t
        · rw [zz, zu_at]; first | exact (zb_t (by assumption)).symm | exact (zb_f (by assumption)).symm
        · rw [zu_ne (by omega)]; exact hI 0 l0 q q0 q1 (by omega)
theorem q_fill_l2 {n r : Int} (hp : J.2.2 a = some p) (hr : cPt p w s) (hO : wP w s) (hX : wX w s) (hn : 0 ≤ n ∧ n ≤ 20) (hr1 : 1 ≤ r ∧ r ≤ n) (kk : ∀ J', J'.2 = J.2 → (∀ l, 0 ≤ l → ∀ q, 0 ≤ q → q < w (476 * s + 5) → (l < r + 1 ∨ l = r + 1 ∧ q < 0) → J'.1 (l * 60 + q) = wCW w s l.toNat q) → RW G mX8_fill (c_I Y h0) P (d + 3) 0 0 79 [some (.ref (Y 16)), some (.ref a), some (.int (iI n)), some (.int (iI r)), none] [] (V, C, J')) : ∀ (zz : Nat) (t : Int) (J' : c_J), zz = (w (476 * s + 5) - t).toNat → (0 ≤ t ∧ t ≤ w (476 * s + 5)) → (J'.2 = J.2) → (∀ l, 0 ≤ l → ∀ q, 0 ≤ q → q < w (476 * s + 5) → (l < r ∨ l = r ∧ q < t) → J'.1 (l * 60 + q) = wCW w s l.toNat q) → RW G mX8_fill (c_I Y h0) P (d + 3) 0 0 45 [some (.ref (Y 16)), some (.ref a), some (.int (iI n)), some (.int (iI r)), some (.int (iI t))] [] (V, C, J') := by
  intro zz
  induction zz using Nat.strongRecOn with
  | _ zz ih =>
    intro t J' hzz h1 hJ hI
    have o5 := hO.2.2.2.1
    have hp2 : J'.2.2 a = some p := by rw [hJ]; exact hp
    have r5 := hr.1.2.2.2.2.2
    refine i_iload dX8_fill_45 rfl ?_
    refine i_aload_n dX8_fill_47 rfl ?_
    refine u_getP (vv := .int (iI (p.1 5))) hp2 dX8_fill_48 fX8_15 rfl ?_
    refine i_icmp_ge (tgt := 79) dX8_fill_51 (by decide) (by omega) (by omega) (fun c51 => ?_) (fun c51 => ?_)
    · -- jumps
      refine RW.wk (L' := [some _, some _, some _, some _, none]) (p_subL.at (by repeat (first | exact subL_nil | refine subL_s ?_ | refine subL_n ?_))) ?_
      exact kk _ hJ (fun l l0 q q0 q1 hq => hI l l0 q q0 q1 (by omega))
    · -- on
      refine i_aload_n dX8_fill_54 rfl ?_
      refine i_iload dX8_fill_55 rfl ?_
      refine i_iload_n dX8_fill_57 rfl ?_
      refine i_aload_n dX8_fill_58 rfl ?_
      refine i_aload_n dX8_fill_59 rfl ?_
      refine i_iload dX8_fill_60 rfl ?_
      refine i_iload_n dX8_fill_62 rfl ?_
      refine i_const dX8_fill_63 ?_
      refine i_sub dX8_fill_64 ?_
      refine i_bipush dX8_fill_65 (by decide) ?_
      refine u_callV (i := 16) (mc := 0) (ms := 0) (As := [_, _, _, _]) dX8_fill_67 cfX8_wordsBefore imX8_wordsBefore seX8_wordsBefore lX8_29 (by decide) rfl rfl rfl rfl rfl (Nat.le_of_ble_eq_true rfl) (Nat.zero_add _).symm (Nat.zero_add _).symm ?_
      refine q_wordsBefore hp2 hr hO (by omega) (by omega) (by omega) (fun q q0 q1 => hI (r - 1) (by omega) q q0 q1 (Or.inl (by omega))) (RK.v ?_)
      refine u_callV (i := 16) (mc := 0) (ms := 0) (As := [_, _, _]) dX8_fill_70 cfX8_put imX8_put seX8_put lX8_25 (by decide) rfl rfl rfl rfl rfl (Nat.le_of_ble_eq_true rfl) (Nat.zero_add _).symm (Nat.zero_add _).symm ?_
      refine q_put (by omega) (by omega) (RK.n0 ?_)
      refine i_iinc dX8_fill_73 rfl (L' := [some _, some _, some _, some _, some _]) (by decide) rfl ?_
      refine i_goto (tgt := 45) dX8_fill_76 (by decide) ?_
      refine ih _ ?_ (t + 1) (zu J'.1 (r * 60 + t) _, J'.2) rfl (by omega) hJ (fun l l0 q q0 q1 hq => ?_)
      · omega
      show zu J'.1 (r * 60 + t) _ (l * 60 + q) = _
      by_cases zz : l * 60 + q = r * 60 + t
      · obtain rfl : l = r := by omega
        obtain rfl : q = t := by omega
        rw [zu_at]; exact (wCW_s (by omega)).symm
      · rw [zu_ne zz]; exact hI l l0 q q0 q1 (by omega)
theorem q_fill_l3 {n : Int} (hp : J.2.2 a = some p) (hr : cPt p w s) (hO : wP w s) (hX : wX w s) (hn : 0 ≤ n ∧ n ≤ 20) (hq : ∀ J', J'.2 = J.2 → (∀ l, 0 ≤ l → l ≤ n → cCt J'.1 w s l) → P (.inl none) (V, C, J')) : ∀ (zz : Nat) (r : Int) (J' : c_J), zz = (n + 1 - r).toNat → (1 ≤ r ∧ r ≤ n + 1) → (J'.2 = J.2) → (∀ l, 0 ≤ l → ∀ q, 0 ≤ q → q < w (476 * s + 5) → (l < r ∨ l = r ∧ q < 0) → J'.1 (l * 60 + q) = wCW w s l.toNat q) → RW G mX8_fill (c_I Y h0) P (d + 3) 0 0 37 [some (.ref (Y 16)), some (.ref a), some (.int (iI n)), some (.int (iI r)), none] [] (V, C, J') := by
  intro zz
  induction zz using Nat.strongRecOn with
  | _ zz ih =>
    intro r J' hzz h1 hJ hI
    have o5 := hO.2.2.2.1
    refine i_iload_n dX8_fill_37 rfl ?_
    refine i_iload_n dX8_fill_38 rfl ?_
    refine i_icmp_gt (tgt := 85) dX8_fill_39 (by decide) (by omega) (by omega) (fun c39 => ?_) (fun c39 => ?_)
    · -- jumps
      refine i_return dX8_fill_85 rfl ?_
      exact hq _ hJ (fun l l0 l1 t t0 t1 => hI l l0 t t0 t1 (by omega))
    · -- on
      refine i_const dX8_fill_42 ?_
      refine i_istore dX8_fill_43 (L' := [some _, some _, some _, some _, some _]) (by decide) rfl ?_
      refine q_fill_l2 hp hr hO hX hn (r := r) (by omega) (fun J2 hJ2 hI2 => ?_) _ 0 J' rfl (by omega) hJ hI
      refine i_iinc dX8_fill_79 rfl (L' := [some _, some _, some _, some _, none]) (by decide) rfl ?_
      refine i_goto (tgt := 37) dX8_fill_82 (by decide) ?_
      refine ih _ ?_ (r + 1) J2 rfl (by omega) hJ2 hI2
      omega
theorem q_fill {n : Int} (hp : J.2.2 a = some p) (hr : cPt p w s) (hO : wP w s) (hX : wX w s) (hn : 0 ≤ n ∧ n ≤ 20) (hq : ∀ J', J'.2 = J.2 → (∀ l, 0 ≤ l → l ≤ n → cCt J'.1 w s l) → P (.inl none) (V, C, J')) : RM G mX8_fill (c_I Y h0) [.ref (Y 16), .ref a, .int (iI n)] (d + 3) 0 0 P (V, C, J) := by
  refine RM.of (L := [some (.ref (Y 16)), some (.ref a), some (.int (iI n)), none, none]) cfX8_fill rfl (Nat.le_of_ble_eq_true rfl) ?_
  refine i_const dX8_fill_0 ?_
  refine i_istore_n dX8_fill_1 (L' := [some _, some _, some _, some _, none]) (by decide) rfl ?_
  refine q_fill_l1 hp hr hO hX hn (fun J1 hJ1 hI1 => ?_) _ 0 J rfl (by have := hO.2.2.2.1; omega) rfl (fun l l0 q q0 q1 hq => by omega)
  refine i_const dX8_fill_35 ?_
  refine i_istore_n dX8_fill_36 (L' := [some _, some _, some _, some _, none]) (by decide) rfl ?_
  exact q_fill_l3 (J := J) hp hr hO hX hn hq _ 1 J1 rfl (by omega) hJ1 hI1
end C45
