/-! ===== the reference: words counted and written ===== -/
/-- the number of words of a length that are accepted from a state -/
def wCW (w : Int → Int) (s : Int) : Nat → Int → Int
  | 0, t => zb (wAcc w s t)
  | k + 1, t => zsum (fun c => wCW w s k (w (476 * s + (116 + 6 * t + c)))) 6
abbrev wNx (w : Int → Int) (s : Int) (k : Int) (t : Int) : Int → Int := fun c => wCW w s k.toNat (w (476 * s + (116 + 6 * t + c)))
theorem wCW_s {w : Int → Int} {s k t : Int} (h : 0 < k) : wCW w s k.toNat t = zsum (wNx w s (k - 1) t) 6 := by
  rw [show k.toNat = (k - 1).toNat + 1 by omega]
  rfl
theorem zsum_le {f : Int → Int} {b : Int} : ∀ n : Nat, (∀ j : Int, 0 ≤ j → j < n → 0 ≤ f j ∧ f j ≤ b) → 0 ≤ zsum f n ∧ zsum f n ≤ n * b
  | 0, _ => ⟨Int.le_refl _, by show (0 : Int) ≤ ((0 : Nat) : Int) * b; omega⟩
  | n + 1, h => by
    have h1 := zsum_le n (fun j a b => h j a (by omega))
    have h2 := h n (by omega) (by omega)
    show 0 ≤ zsum f n + f n ∧ zsum f n + f n ≤ ((n + 1 : Nat) : Int) * b
    have e : ((n + 1 : Nat) : Int) * b = (n : Int) * b + b := by
      rw [show ((n + 1 : Nat) : Int) = (n : Int) + 1 by omega, Int.add_mul, Int.one_mul]
    omega
theorem wCW_rg {w : Int → Int} {s : Int} : ∀ (k : Nat) (t : Int), 0 ≤ wCW w s k t ∧ wCW w s k t ≤ 6 ^ k
  | 0, t => by
    have := @zb_01 (wAcc w s t) _
    show 0 ≤ zb (wAcc w s t) ∧ zb (wAcc w s t) ≤ 6 ^ 0
    omega
  | k + 1, t => by
    have h := zsum_le (f := fun c => wCW w s k (w (476 * s + (116 + 6 * t + c)))) (b := 6 ^ k) 6 (fun j _ _ => wCW_rg k _)
    show 0 ≤ zsum (fun c => wCW w s k (w (476 * s + (116 + 6 * t + c)))) 6 ∧ zsum (fun c => wCW w s k (w (476 * s + (116 + 6 * t + c)))) 6 ≤ 6 ^ (k + 1)
    rw [Int.pow_succ]
    omega
theorem wCW_20 {w : Int → Int} {s k t : Int} (hk : k ≤ 20) : 0 ≤ wCW w s k.toNat t ∧ wCW w s k.toNat t ≤ 3656158440062976 := by
  have h := @wCW_rg w s k.toNat t
  have h2 : (6 : Int) ^ k.toNat ≤ 6 ^ 20 := by
    have : (6 : Nat) ^ k.toNat ≤ 6 ^ 20 := Nat.pow_le_pow_right (by decide) (by omega)
    exact_mod_cast this
  have h3 : (6 : Int) ^ 20 = 3656158440062976 := by decide
  omega
/-- the word with a number: its letters behind place o -/
def wWord (w : Int → Int) (s : Int) (r : Int → Int) : Nat → Int → Int → Int → Prop
  | 0, _, _, _ => True
  | k + 1, t, x, o => ∃ c, (0 ≤ c ∧ c < 6) ∧ zsum (wNx w s k t) c.toNat ≤ x ∧ x < zsum (wNx w s k t) (c + 1).toNat ∧ r o = 97 + c ∧ wWord w s r k (w (476 * s + (116 + 6 * t + c))) (x - zsum (wNx w s k t) c.toNat) (o + 1)
section M17
variable {G : p_G} {Y : Nat → Nat} {h0 : p_H} {P : (Option Value) ⊕ String → m_X → Prop} {d : Nat} {V : Nat → Int} {C : Nat → Int → Int} {J : Int → Int}
theorem k_cw_l1 {s n k t : Int} {J' : Int → Int} (hO : wOK (C 0)) (hs : s = 0 ∨ s = 1) (hk : 1 ≤ k ∧ k ≤ 20) (ht : 0 ≤ t ∧ t < C 0 (476 * s + 5)) (hJ : ∀ k' t', 0 ≤ k' → k' < k → 0 ≤ t' → t' < C 0 (476 * s + 5) → J' (60 * k' + t') = wCW (C 0) s k'.toNat t') (kk : RW G mX11_countsWords (m_I Y h0) P (d + 2) 0 0 95 [some (.ref (Y 38)), some (.int (iI s)), some (.int (iI n)), some (.int (iI (C 0 (476 * s + 5)))), some (.int (iI k)), some (.int (iI t)), some (.long (lI (wCW (C 0) s k.toNat t))), none, none] [] (V, C, J')) : ∀ (zz : Nat) (c x : Int), zz = (6 - c).toNat → (0 ≤ c) → (c ≤ 6) → (x = zsum (wNx (C 0) s (k - 1) t) c.toNat) → RW G mX11_countsWords (m_I Y h0) P (d + 2) 0 0 50 [some (.ref (Y 38)), some (.int (iI s)), some (.int (iI n)), some (.int (iI (C 0 (476 * s + 5)))), some (.int (iI k)), some (.int (iI t)), some (.long (lI x)), none, some (.int (iI c))] [] (V, C, J') := by
  intro zz
  induction zz using Nat.strongRecOn with
  | _ zz ih =>
    intro c x hzz h1 h2 hx
    have b1 := hO.sts hs
    have b2 : c < 6 → _ := fun h => hO.nxt hs ht.1 ht.2 h1 h
    refine i_iload dX11_countsWords_50 rfl ?_
    refine i_bipush dX11_countsWords_52 (by decide) ?_
    refine i_icmp_ge (tgt := 95) dX11_countsWords_54 (by decide) (by omega) (by omega) (fun c54 => ?_) (fun c54 => ?_)
    · -- jumps
      refine RW.wk (L' := [some _, some _, some _, some _, some _, some _, some _, none, none]) (p_subL.at (by repeat (first | exact subL_nil | refine subL_s ?_ | refine subL_n ?_))) ?_
      first | (exfalso; omega) | (obtain rfl : c = 6 := (by omega); rw [hx, show zsum (wNx (C 0) s (k - 1) t) (6 : Int).toNat = wCW (C 0) s k.toNat t from (wCW_s (by omega)).symm]; exact kk)
    · -- on
      have b2 := b2 (by omega)
      refine i_iload dX11_countsWords_57 rfl ?_
      refine i_if_le (tgt := 95) dX11_countsWords_59 (by decide) (by omega) (fun c59 => ?_) (fun c59 => ?_)
      · -- jumps
        refine RW.wk (L' := [some _, some _, some _, some _, some _, some _, some _, none, none]) (p_subL.at (by repeat (first | exact subL_nil | refine subL_s ?_ | refine subL_n ?_))) ?_
        first | (exfalso; omega) | (obtain rfl : c = 6 := (by omega); rw [hx, show zsum (wNx (C 0) s (k - 1) t) (6 : Int).toNat = wCW (C 0) s k.toNat t from (wCW_s (by omega)).symm]; exact kk)
      · -- on
        refine i_lload dX11_countsWords_62 rfl ?_
        refine i_aload_n dX11_countsWords_64 rfl ?_
        refine t_getA dX11_countsWords_65 fX11_66.o rfl ?_
        refine i_bipush dX11_countsWords_68 (by decide) ?_
        refine i_iload dX11_countsWords_70 rfl ?_
        refine i_const dX11_countsWords_72 ?_
        refine i_sub dX11_countsWords_73 ?_
        refine i_mul dX11_countsWords_74 ?_
        refine i_aload_n dX11_countsWords_75 rfl ?_
        refine i_iload_n dX11_countsWords_76 rfl ?_
        refine i_iload dX11_countsWords_77 rfl ?_
        refine i_iload dX11_countsWords_79 rfl ?_
        refine t_callV (As := [_, _, _]) dX11_countsWords_81 cfX11_goes imX11_goes seX11_goes lX11_231 rfl rfl rfl (Nat.le_of_ble_eq_true rfl) ?_
        refine k_goes (w := C 0) rfl (by omega) (by omega) (by omega) (RK.v ?_)
        refine i_add dX11_countsWords_84 ?_
        refine t_lald (v := (J') (60 * (k - 1) + (C 0 (476 * s + (116 + 6 * t + c))))) dX11_countsWords_85 (by omega) rfl ?_
        refine i_ladd dX11_countsWords_86 ?_
        refine i_lstore dX11_countsWords_87 (L' := [some _, some _, some _, some _, some _, some _, some _, none, some _]) (by decide) rfl ?_
        refine i_iinc dX11_countsWords_89 rfl (L' := [some _, some _, some _, some _, some _, some _, some _, none, some _]) (by decide) rfl ?_
        refine i_goto (tgt := 50) dX11_countsWords_92 (by decide) ?_
        refine ih _ ?_ (c + 1) _ rfl (by omega) (by omega) ?_
        · omega
        rw [zsum_s h1, hx, hJ _ _ (by omega) (by omega) b2.1 b2.2]
theorem k_cw_l2 {s n k : Int} (hO : wOK (C 0)) (hs : s = 0 ∨ s = 1) (hk : 0 ≤ k ∧ k ≤ 20) (kk : ∀ J', (∀ k' t', 0 ≤ k' → k' < k → 0 ≤ t' → t' < C 0 (476 * s + 5) → J' (60 * k' + t') = wCW (C 0) s k'.toNat t') → (∀ t', 0 ≤ t' → t' < C 0 (476 * s + 5) → J' (60 * k + t') = wCW (C 0) s k.toNat t') → RW G mX11_countsWords (m_I Y h0) P (d + 2) 0 0 116 [some (.ref (Y 38)), some (.int (iI s)), some (.int (iI n)), some (.int (iI (C 0 (476 * s + 5)))), some (.int (iI k)), none, none, none, none] [] (V, C, J')) : ∀ (zz : Nat) (t : Int) (J' : Int → Int), zz = (C 0 (476 * s + 5) - t).toNat → (0 ≤ t) → (t ≤ C 0 (476 * s + 5)) → (∀ k' t', 0 ≤ k' → k' < k → 0 ≤ t' → t' < C 0 (476 * s + 5) → J' (60 * k' + t') = wCW (C 0) s k'.toNat t') → (∀ t', 0 ≤ t' → t' < t → J' (60 * k + t') = wCW (C 0) s k.toNat t') → RW G mX11_countsWords (m_I Y h0) P (d + 2) 0 0 19 [some (.ref (Y 38)), some (.int (iI s)), some (.int (iI n)), some (.int (iI (C 0 (476 * s + 5)))), some (.int (iI k)), some (.int (iI t)), none, none, none] [] (V, C, J') := by
  intro zz
  induction zz using Nat.strongRecOn with
  | _ zz ih =>
    intro t J' hzz h1 h2 hJ hJ2
    have b1 := hO.sts hs
    refine i_iload dX11_countsWords_19 rfl ?_
    refine i_iload_n dX11_countsWords_21 rfl ?_
    refine i_icmp_ge (tgt := 116) dX11_countsWords_22 (by decide) (by omega) (by omega) (fun c22 => ?_) (fun c22 => ?_)
    · -- jumps
      refine RW.wk (L' := [some _, some _, some _, some _, some _, none, none, none, none]) (p_subL.at (by repeat (first | exact subL_nil | refine subL_s ?_ | refine subL_n ?_))) ?_
      exact kk _ hJ (fun t' t0 t1 => hJ2 t' t0 (by omega))
    · -- on
      refine i_iload dX11_countsWords_25 rfl ?_
      refine i_if_ne (tgt := 44) dX11_countsWords_27 (by decide) (by omega) (fun c27 => ?_) (fun c27 => ?_)
      · -- jumps
        refine i_lconst dX11_countsWords_44 (z := 0) (by decide) ?_
        refine i_lstore dX11_countsWords_45 (L' := [some _, some _, some _, some _, some _, some _, some _, none, none]) (by decide) rfl ?_
        refine i_const dX11_countsWords_47 ?_
        refine i_istore dX11_countsWords_48 (L' := [some _, some _, some _, some _, some _, some _, some _, none, some _]) (by decide) rfl ?_
        by_cases k0 : k = 0
        · subst k0
          have ha : wCW (C 0) s (0 : Int).toNat t = 0 := zb_f (by first | assumption | omega)
          refine i_iload dX11_countsWords_50 rfl ?_
          refine i_bipush dX11_countsWords_52 (by decide) ?_
          refine i_icmp_ge (tgt := 95) dX11_countsWords_54 (by decide) (by decide) (by decide) (fun c54 => by omega) (fun c54 => ?_)
          refine i_iload dX11_countsWords_57 rfl ?_
          refine i_if_le (tgt := 95) dX11_countsWords_59 (by decide) (by decide) (fun c59 => ?_) (fun c59 => by omega)
          refine RW.wk (L' := [some _, some _, some _, some _, some _, some _, some _, none, none]) (p_subL.at (by repeat (first | exact subL_nil | refine subL_s ?_ | refine subL_n ?_))) ?_
          refine RW.lk (L' := [some _, some _, some _, some _, some _, some _, some (.long (lI (wCW (C 0) s (0 : Int).toNat t))), none, none]) (by rw [ha]) ?_
          refine i_aload_n dX11_countsWords_95 rfl ?_
          refine t_getA dX11_countsWords_96 fX11_66.o rfl ?_
          refine i_bipush dX11_countsWords_99 (by decide) ?_
          refine i_iload dX11_countsWords_101 rfl ?_
          refine i_mul dX11_countsWords_103 ?_
          refine i_iload dX11_countsWords_104 rfl ?_
          refine i_add dX11_countsWords_106 ?_
          refine i_lload dX11_countsWords_107 rfl ?_
          refine t_last dX11_countsWords_109 (by omega) ?_
          refine i_iinc dX11_countsWords_110 rfl (L' := [some _, some _, some _, some _, some _, some _, some _, none, none]) (by decide) rfl ?_
          refine i_goto (tgt := 19) dX11_countsWords_113 (by decide) ?_
          refine RW.wk (L' := [some _, some _, some _, some _, some _, some _, none, none, none]) (p_subL.at (by repeat (first | exact subL_nil | refine subL_s ?_ | refine subL_n ?_))) ?_
          refine ih _ ?_ (t + 1) _ rfl (by omega) (by omega) (fun k' t' k0 k1 t0 t1 => ?_) (fun t' t0 t1 => ?_)
          · omega
          · rw [zu_ne (by omega)]; exact hJ k' t' k0 k1 t0 t1
          · by_cases e : t' = t
            · subst e; rw [zu_at]
            · rw [zu_ne (by omega)]; exact hJ2 t' t0 (by omega)
        · refine k_cw_l1 hO hs (by omega) (by omega) hJ ?_ _ 0 _ rfl (by omega) (by omega) rfl
          refine i_aload_n dX11_countsWords_95 rfl ?_
          refine t_getA dX11_countsWords_96 fX11_66.o rfl ?_
          refine i_bipush dX11_countsWords_99 (by decide) ?_
          refine i_iload dX11_countsWords_101 rfl ?_
          refine i_mul dX11_countsWords_103 ?_
          refine i_iload dX11_countsWords_104 rfl ?_
          refine i_add dX11_countsWords_106 ?_
          refine i_lload dX11_countsWords_107 rfl ?_
          refine t_last dX11_countsWords_109 (by omega) ?_
          refine i_iinc dX11_countsWords_110 rfl (L' := [some _, some _, some _, some _, some _, some _, some _, none, none]) (by decide) rfl ?_
          refine i_goto (tgt := 19) dX11_countsWords_113 (by decide) ?_
          refine RW.wk (L' := [some _, some _, some _, some _, some _, some _, none, none, none]) (p_subL.at (by repeat (first | exact subL_nil | refine subL_s ?_ | refine subL_n ?_))) ?_
          refine ih _ ?_ (t + 1) _ rfl (by omega) (by omega) (fun k' t' k0 k1 t0 t1 => ?_) (fun t' t0 t1 => ?_)
          · omega
          · rw [zu_ne (by omega)]; exact hJ k' t' k0 k1 t0 t1
          · by_cases e : t' = t
            · subst e; rw [zu_at]
            · rw [zu_ne (by omega)]; exact hJ2 t' t0 (by omega)
      · -- on
        refine i_aload_n dX11_countsWords_30 rfl ?_
        refine i_iload_n dX11_countsWords_31 rfl ?_
        refine i_iload dX11_countsWords_32 rfl ?_
        refine t_callV (As := [_, _]) dX11_countsWords_34 cfX11_accepts imX11_accepts seX11_accepts lX11_257 rfl rfl rfl (Nat.le_of_ble_eq_true rfl) ?_
        refine k_accepts (w := C 0) rfl (by omega) (by omega) (hO.1 _ (by omega)) (RK.v ?_)
        refine i_ifeq_b (tgt := 44) dX11_countsWords_37 (by decide) (fun c37 => ?_) (fun c37 => ?_)
        · -- jumps
          refine i_lconst dX11_countsWords_44 (z := 0) (by decide) ?_
          refine i_lstore dX11_countsWords_45 (L' := [some _, some _, some _, some _, some _, some _, some _, none, none]) (by decide) rfl ?_
          refine i_const dX11_countsWords_47 ?_
          refine i_istore dX11_countsWords_48 (L' := [some _, some _, some _, some _, some _, some _, some _, none, some _]) (by decide) rfl ?_
          by_cases k0 : k = 0
          · subst k0
            have ha : wCW (C 0) s (0 : Int).toNat t = 0 := zb_f (by first | assumption | omega)
            refine i_iload dX11_countsWords_50 rfl ?_
            refine i_bipush dX11_countsWords_52 (by decide) ?_
            refine i_icmp_ge (tgt := 95) dX11_countsWords_54 (by decide) (by decide) (by decide) (fun c54 => by omega) (fun c54 => ?_)
            refine i_iload dX11_countsWords_57 rfl ?_
            refine i_if_le (tgt := 95) dX11_countsWords_59 (by decide) (by decide) (fun c59 => ?_) (fun c59 => by omega)
            refine RW.wk (L' := [some _, some _, some _, some _, some _, some _, some _, none, none]) (p_subL.at (by repeat (first | exact subL_nil | refine subL_s ?_ | refine subL_n ?_))) ?_
            refine RW.lk (L' := [some _, some _, some _, some _, some _, some _, some (.long (lI (wCW (C 0) s (0 : Int).toNat t))), none, none]) (by rw [ha]) ?_
            refine i_aload_n dX11_countsWords_95 rfl ?_
            refine t_getA dX11_countsWords_96 fX11_66.o rfl ?_
            refine i_bipush dX11_countsWords_99 (by decide) ?_
            refine i_iload dX11_countsWords_101 rfl ?_
            refine i_mul dX11_countsWords_103 ?_
            refine i_iload dX11_countsWords_104 rfl ?_
            refine i_add dX11_countsWords_106 ?_
            refine i_lload dX11_countsWords_107 rfl ?_
            refine t_last dX11_countsWords_109 (by omega) ?_
            refine i_iinc dX11_countsWords_110 rfl (L' := [some _, some _, some _, some _, some _, some _, some _, none, none]) (by decide) rfl ?_
            refine i_goto (tgt := 19) dX11_countsWords_113 (by decide) ?_
            refine RW.wk (L' := [some _, some _, some _, some _, some _, some _, none, none, none]) (p_subL.at (by repeat (first | exact subL_nil | refine subL_s ?_ | refine subL_n ?_))) ?_
            refine ih _ ?_ (t + 1) _ rfl (by omega) (by omega) (fun k' t' k0 k1 t0 t1 => ?_) (fun t' t0 t1 => ?_)
            · omega
            · rw [zu_ne (by omega)]; exact hJ k' t' k0 k1 t0 t1
            · by_cases e : t' = t
              · subst e; rw [zu_at]
              · rw [zu_ne (by omega)]; exact hJ2 t' t0 (by omega)
          · refine k_cw_l1 hO hs (by omega) (by omega) hJ ?_ _ 0 _ rfl (by omega) (by omega) rfl
            refine i_aload_n dX11_countsWords_95 rfl ?_
            refine t_getA dX11_countsWords_96 fX11_66.o rfl ?_
            refine i_bipush dX11_countsWords_99 (by decide) ?_
            refine i_iload dX11_countsWords_101 rfl ?_
            refine i_mul dX11_countsWords_103 ?_
            refine i_iload dX11_countsWords_104 rfl ?_
            refine i_add dX11_countsWords_106 ?_
            refine i_lload dX11_countsWords_107 rfl ?_
            refine t_last dX11_countsWords_109 (by omega) ?_
            refine i_iinc dX11_countsWords_110 rfl (L' := [some _, some _, some _, some _, some _, some _, some _, none, none]) (by decide) rfl ?_
            refine i_goto (tgt := 19) dX11_countsWords_113 (by decide) ?_
            refine RW.wk (L' := [some _, some _, some _, some _, some _, some _, none, none, none]) (p_subL.at (by repeat (first | exact subL_nil | refine subL_s ?_ | refine subL_n ?_))) ?_
            refine ih _ ?_ (t + 1) _ rfl (by omega) (by omega) (fun k' t' k0 k1 t0 t1 => ?_) (fun t' t0 t1 => ?_)
            · omega
            · rw [zu_ne (by omega)]; exact hJ k' t' k0 k1 t0 t1
            · by_cases e : t' = t
              · subst e; rw [zu_at]
              · rw [zu_ne (by omega)]; exact hJ2 t' t0 (by omega)
        · -- on
          refine i_lconst dX11_countsWords_40 (z := 1) (by decide) ?_
          refine i_goto (tgt := 45) dX11_countsWords_41 (by decide) ?_
          refine i_lstore dX11_countsWords_45 (L' := [some _, some _, some _, some _, some _, some _, some _, none, none]) (by decide) rfl ?_
          refine i_const dX11_countsWords_47 ?_
          refine i_istore dX11_countsWords_48 (L' := [some _, some _, some _, some _, some _, some _, some _, none, some _]) (by decide) rfl ?_
          by_cases k0 : k = 0
          · subst k0
            have ha : wCW (C 0) s (0 : Int).toNat t = 1 := zb_t (by assumption)
            refine i_iload dX11_countsWords_50 rfl ?_
            refine i_bipush dX11_countsWords_52 (by decide) ?_
            refine i_icmp_ge (tgt := 95) dX11_countsWords_54 (by decide) (by decide) (by decide) (fun c54 => by omega) (fun c54 => ?_)
            refine i_iload dX11_countsWords_57 rfl ?_
            refine i_if_le (tgt := 95) dX11_countsWords_59 (by decide) (by decide) (fun c59 => ?_) (fun c59 => by omega)
            refine RW.wk (L' := [some _, some _, some _, some _, some _, some _, some _, none, none]) (p_subL.at (by repeat (first | exact subL_nil | refine subL_s ?_ | refine subL_n ?_))) ?_
            refine RW.lk (L' := [some _, some _, some _, some _, some _, some _, some (.long (lI (wCW (C 0) s (0 : Int).toNat t))), none, none]) (by rw [ha]) ?_
            refine i_aload_n dX11_countsWords_95 rfl ?_
            refine t_getA dX11_countsWords_96 fX11_66.o rfl ?_
            refine i_bipush dX11_countsWords_99 (by decide) ?_
            refine i_iload dX11_countsWords_101 rfl ?_
            refine i_mul dX11_countsWords_103 ?_
            refine i_iload dX11_countsWords_104 rfl ?_
            refine i_add dX11_countsWords_106 ?_
            refine i_lload dX11_countsWords_107 rfl ?_
            refine t_last dX11_countsWords_109 (by omega) ?_
            refine i_iinc dX11_countsWords_110 rfl (L' := [some _, some _, some _, some _, some _, some _, some _, none, none]) (by decide) rfl ?_
            refine i_goto (tgt := 19) dX11_countsWords_113 (by decide) ?_
            refine RW.wk (L' := [some _, some _, some _, some _, some _, some _, none, none, none]) (p_subL.at (by repeat (first | exact subL_nil | refine subL_s ?_ | refine subL_n ?_))) ?_
            refine ih _ ?_ (t + 1) _ rfl (by omega) (by omega) (fun k' t' k0 k1 t0 t1 => ?_) (fun t' t0 t1 => ?_)
            · omega
            · rw [zu_ne (by omega)]; exact hJ k' t' k0 k1 t0 t1
            · by_cases e : t' = t
              · subst e; rw [zu_at]
              · rw [zu_ne (by omega)]; exact hJ2 t' t0 (by omega)
          · exfalso; omega
theorem k_cw_l3 {s n : Int} (hO : wOK (C 0)) (hs : s = 0 ∨ s = 1) (hn : 0 ≤ n ∧ n ≤ 20) (hp : ∀ J', (∀ k t, 0 ≤ k → k ≤ n → 0 ≤ t → t < C 0 (476 * s + 5) → J' (60 * k + t) = wCW (C 0) s k.toNat t) → P (.inl none) (V, C, J')) : ∀ (zz : Nat) (k : Int) (J' : Int → Int), zz = (n + 1 - k).toNat → (0 ≤ k) → (k ≤ n + 1) → (∀ k' t', 0 ≤ k' → k' < k → 0 ≤ t' → t' < C 0 (476 * s + 5) → J' (60 * k' + t') = wCW (C 0) s k'.toNat t') → RW G mX11_countsWords (m_I Y h0) P (d + 2) 0 0 10 [some (.ref (Y 38)), some (.int (iI s)), some (.int (iI n)), some (.int (iI (C 0 (476 * s + 5)))), some (.int (iI k)), none, none, none, none] [] (V, C, J') := by
  intro zz
  induction zz using Nat.strongRecOn with
  | _ zz ih =>
    intro k J' hzz h1 h2 hJ
    have b1 := hO.sts hs
    refine i_iload dX11_countsWords_10 rfl ?_
    refine i_iload_n dX11_countsWords_12 rfl ?_
    refine i_icmp_gt (tgt := 122) dX11_countsWords_13 (by decide) (by omega) (by omega) (fun c13 => ?_) (fun c13 => ?_)
    · -- jumps
      refine i_return dX11_countsWords_122 rfl ?_
      exact hp _ (fun k2 t2 k0 k1 t0 t1 => hJ k2 t2 k0 (by omega) t0 t1)
    · -- on
      refine i_const dX11_countsWords_16 ?_
      refine i_istore dX11_countsWords_17 (L' := [some _, some _, some _, some _, some _, some _, none, none, none]) (by decide) rfl ?_
      refine k_cw_l2 hO hs (by omega) (fun J1 hJ1 hJ2 => ?_) _ 0 _ rfl (by omega) (by omega) hJ (fun t' t0 t1 => by omega)
      refine i_iinc dX11_countsWords_116 rfl (L' := [some _, some _, some _, some _, some _, none, none, none, none]) (by decide) rfl ?_
      refine i_goto (tgt := 10) dX11_countsWords_119 (by decide) ?_
      refine ih _ ?_ (k + 1) _ rfl (by omega) (by omega) (fun k' t' k0 k1 t0 t1 => ?_)
      · omega
      by_cases e : k' = k
      · subst e; exact hJ2 t' t0 t1
      · exact hJ1 k' t' k0 (by omega) t0 t1
theorem k_countsWords {s n : Int} (hO : wOK (C 0)) (hs : s = 0 ∨ s = 1) (hn : 0 ≤ n ∧ n ≤ 20) (hp : ∀ J', (∀ k t, 0 ≤ k → k ≤ n → 0 ≤ t → t < C 0 (476 * s + 5) → J' (60 * k + t) = wCW (C 0) s k.toNat t) → P (.inl none) (V, C, J')) : RM G mX11_countsWords (m_I Y h0) [.ref (Y 38), .int (iI s), .int (iI n)] (d + 2) 0 0 P (V, C, J) := by
  refine RM.of (L := [some (.ref (Y 38)), some (.int (iI s)), some (.int (iI n)), none, none, none, none, none, none]) cfX11_countsWords rfl (Nat.le_of_ble_eq_true rfl) ?_
  refine i_aload_n dX11_countsWords_0 rfl ?_
  refine i_iload_n dX11_countsWords_1 rfl ?_
  refine i_const dX11_countsWords_2 ?_
  refine t_callV (As := [_, _]) dX11_countsWords_3 cfX11_of imX11_of seX11_of lX11_115 rfl rfl rfl (Nat.le_of_ble_eq_true rfl) ?_
  refine k_of (w := C 0) rfl (by omega) (RK.v ?_)
  refine i_istore_n dX11_countsWords_6 (L' := [some _, some _, some _, some _, none, none, none, none, none]) (by decide) rfl ?_
  refine i_const dX11_countsWords_7 ?_
  refine i_istore dX11_countsWords_8 (L' := [some _, some _, some _, some _, some _, none, none, none, none]) (by decide) rfl ?_
  exact k_cw_l3 hO hs hn hp _ 0 _ rfl (by omega) (by omega) (fun k2 t2 k0 k1 t0 t1 => by omega)
end M17
