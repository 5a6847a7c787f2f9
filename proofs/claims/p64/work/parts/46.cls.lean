/-! ===== the class: states sorted; the street to a word ===== -/
/-- two states seem equal to the classes F -/
def zSm (w : Int → Int) (s : Int) (F : Int → Int) (a b : Int) : Prop := F a = F b ∧ (wAcc w s a ↔ wAcc w s b) ∧ ∀ c, 0 ≤ c → c < 6 → F (w (476 * s + (116 + 6 * a + c))) = F (w (476 * s + (116 + 6 * b + c)))
section C46
variable {G : p_G} {Y : Nat → Nat} {h0 : p_H} {P : (Option Value) ⊕ String → c_X → Prop} {d : Nat} {V : Nat → Int} {C : Nat → Int → Int} {J : c_J}
variable {a : Nat} {p : c_P} {w : Int → Int} {s : Int}
theorem q_stw_l {t l x : Int} (hp : J.2.2 a = some p) (hr : cPt p w s) (hO : wP w s) (ht : 0 ≤ t ∧ t < w (476 * s + 5)) (hl : 0 ≤ l ∧ l ≤ 19) (hct : cCt J.1 w s l) (hx : 0 ≤ x ∧ x < 9223372036854775808) (hx2 : x < zsum (wNx w s l t) 6) (hq : ∀ c, 0 ≤ c → c < 6 → zsum (wNx w s l t) c.toNat ≤ x → x < zsum (wNx w s l t) (c + 1).toNat → P (.inl (some (.int (iI c)))) (V, C, J))  : ∀ (zz : Nat) (c : Int), zz = (6 - c).toNat → (0 ≤ c ∧ c ≤ 6) → (zsum (wNx w s l t) c.toNat ≤ x) → RW G mX8_streetToWord (c_I Y h0) P (d + 3) 0 0 3 [some (.ref (Y 16)), some (.ref a), some (.int (iI t)), some (.int (iI l)), some (.long (lI x)), none, some (.int (iI c))] [] (V, C, J) := by
  intro zz
  induction zz using Nat.strongRecOn with
  | _ zz ih =>
    intro c hzz h1 hI
    have o5 := hO.2.2.2.1
    refine i_iload dX8_streetToWord_3 rfl ?_
    refine i_bipush dX8_streetToWord_5 (by decide) ?_
    refine i_icmp_ge (tgt := 36) dX8_streetToWord_7 (by decide) (by omega) (by omega) (fun c7 => ?_) (fun c7 => ?_)
    · -- jumps
      refine i_const dX8_streetToWord_36 ?_
      refine i_ireturn dX8_streetToWord_37 rfl rfl ?_
      exfalso; obtain rfl : c = 6 := by omega
      have e6 : zsum (wNx w s l t) (6 : Int).toNat = zsum (wNx w s l t) 6 := rfl
      omega
    · -- on
      refine i_lload dX8_streetToWord_10 rfl ?_
      refine i_aload_n dX8_streetToWord_12 rfl ?_
      refine i_aload_n dX8_streetToWord_13 rfl ?_
      refine i_iload_n dX8_streetToWord_14 rfl ?_
      refine i_iload_n dX8_streetToWord_15 rfl ?_
      refine i_iload dX8_streetToWord_16 rfl ?_
      refine i_const dX8_streetToWord_18 ?_
      refine i_add dX8_streetToWord_19 ?_
      have z6 := @zsum_le (wNx w s l t) 3656158440062976 (c + 1).toNat (fun j _ _ => wCW_20 (by omega))
      refine u_callV (i := 16) (mc := 0) (ms := 0) (As := [_, _, _, _]) dX8_streetToWord_20 cfX8_wordsBefore imX8_wordsBefore seX8_wordsBefore lX8_29 (by decide) rfl rfl rfl rfl rfl (Nat.le_of_ble_eq_true rfl) (Nat.zero_add _).symm (Nat.zero_add _).symm ?_
      refine q_wordsBefore hp hr hO (by omega) (by omega) (by omega) hct (RK.v ?_)
      refine i_lcmp dX8_streetToWord_23 (lI_cmp (by omega) (by omega)) ?_
      refine i_if_ge (tgt := 30) dX8_streetToWord_24 (by decide) lc_rg (fun c24 => ?_) (fun c24 => ?_)
      · -- jumps
        have c24 := lc_ge c24
        refine i_iinc dX8_streetToWord_30 rfl (L' := [some _, some _, some _, some _, some _, none, some _]) (by decide) rfl ?_
        refine i_goto (tgt := 3) dX8_streetToWord_33 (by decide) ?_
        refine ih _ ?_ (c + 1) rfl (by omega) (by omega)
        omega
      · -- on
        have c24 := lc_lt c24
        refine i_iload dX8_streetToWord_27 rfl ?_
        refine i_ireturn dX8_streetToWord_29 rfl rfl ?_
        exact hq c (by omega) (by omega) hI (by omega)
theorem q_streetToWord {t l x : Int} (hp : J.2.2 a = some p) (hr : cPt p w s) (hO : wP w s) (ht : 0 ≤ t ∧ t < w (476 * s + 5)) (hl : 0 ≤ l ∧ l ≤ 19) (hct : cCt J.1 w s l) (hx : 0 ≤ x ∧ x < 9223372036854775808) (hx2 : x < zsum (wNx w s l t) 6) (hq : ∀ c, 0 ≤ c → c < 6 → zsum (wNx w s l t) c.toNat ≤ x → x < zsum (wNx w s l t) (c + 1).toNat → P (.inl (some (.int (iI c)))) (V, C, J)) : RM G mX8_streetToWord (c_I Y h0) [.ref (Y 16), .ref a, .int (iI t), .int (iI l), .long (lI x)] (d + 3) 0 0 P (V, C, J) := by
  refine RM.of (L := [some (.ref (Y 16)), some (.ref a), some (.int (iI t)), some (.int (iI l)), some (.long (lI x)), none, none]) cfX8_streetToWord rfl (Nat.le_of_ble_eq_true rfl) ?_
  refine i_const dX8_streetToWord_0 ?_
  refine i_istore dX8_streetToWord_1 (L' := [some _, some _, some _, some _, some _, none, some _]) (by decide) rfl ?_
  exact q_stw_l hp hr hO ht hl hct hx hx2 hq _ 0 rfl (by omega) hx.1
end C46
