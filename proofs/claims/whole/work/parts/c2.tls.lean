/-! ===== the ends of the law's cases ===== -/
theorem c00 : (0 : Int32).toNatClampNeg = 0 := by decide
/-- the law's locals at the head of its loop -/
abbrev lL (b x m o1 o2 : Nat) (z : Int) : p_LL := [some (.ref b), some (.ref x), some (.ref m), some (.ref o1), some (.ref o2), some (.int (iI z)), none, none, none, none]
abbrev lL6 (b x m o1 o2 : Nat) (z : Int) (k : Int32) : p_LL := [some (.ref b), some (.ref x), some (.ref m), some (.ref o1), some (.ref o2), some (.int (iI z)), some (.int k), none, none, none]
def tHd (pc : Nat) : Prop := decode mL_law.2.1 pc = .ok (.aload_n 2, 1) ∧ decode mL_law.2.1 (pc + 1) = .ok (.invokevirtual 172, 3) ∧ decode mL_law.2.1 (pc + 4) = .ok (.iload 6, 2) ∧ decode mL_law.2.1 (pc + 6) = .ok (.if_icmp .eq 5, 3) ∧ decode mL_law.2.1 (pc + 11) = .ok (.iload 6, 2)
def tI (pc : Nat) : Prop := decode mL_law.2.1 pc = .ok (.istore 7, 2) ∧ tHd (pc + 2) ∧ decode mL_law.2.1 (pc + 15) = .ok (.ifCond .ne 15, 3) ∧ decode mL_law.2.1 (pc + 18) = .ok (.aload_n 3, 1) ∧ decode mL_law.2.1 (pc + 19) = .ok (.iconst 0, 1) ∧ decode mL_law.2.1 (pc + 20) = .ok (.laload, 1) ∧ decode mL_law.2.1 (pc + 21) = .ok (.iload 7, 2) ∧ decode mL_law.2.1 (pc + 23) = .ok (.i2l, 1) ∧ decode mL_law.2.1 (pc + 24) = .ok (.lcmp, 1) ∧ decode mL_law.2.1 (pc + 25) = .ok (.ifCond .eq 5, 3) ∧ ∃ off, decode mL_law.2.1 (pc + 30) = .ok (.goto off, 3) ∧ ((pc + 30 : Nat) : Int) + off = ((3438 : Nat) : Int)
def tZ (pc : Nat) : Prop := decode mL_law.2.1 pc = .ok (.istore 7, 2) ∧ tHd (pc + 2) ∧ decode mL_law.2.1 (pc + 15) = .ok (.ifCond .ne 22, 3) ∧ decode mL_law.2.1 (pc + 18) = .ok (.aload_n 3, 1) ∧ decode mL_law.2.1 (pc + 19) = .ok (.iconst 0, 1) ∧ decode mL_law.2.1 (pc + 20) = .ok (.laload, 1) ∧ decode mL_law.2.1 (pc + 21) = .ok (.iload 7, 2) ∧ decode mL_law.2.1 (pc + 23) = .ok (.ifCond .eq 7, 3) ∧ decode mL_law.2.1 (pc + 26) = .ok (.lconst 1, 1) ∧ decode mL_law.2.1 (pc + 27) = .ok (.goto 4, 3) ∧ decode mL_law.2.1 (pc + 30) = .ok (.lconst 0, 1) ∧ decode mL_law.2.1 (pc + 31) = .ok (.lcmp, 1) ∧ decode mL_law.2.1 (pc + 32) = .ok (.ifCond .eq 5, 3) ∧ ∃ off, decode mL_law.2.1 (pc + 37) = .ok (.goto off, 3) ∧ ((pc + 37 : Nat) : Int) + off = ((3438 : Nat) : Int)
def tJ (pc : Nat) : Prop := decode mL_law.2.1 pc = .ok (.lstore 7, 2) ∧ tHd (pc + 2) ∧ decode mL_law.2.1 (pc + 15) = .ok (.ifCond .ne 14, 3) ∧ decode mL_law.2.1 (pc + 18) = .ok (.aload_n 3, 1) ∧ decode mL_law.2.1 (pc + 19) = .ok (.iconst 0, 1) ∧ decode mL_law.2.1 (pc + 20) = .ok (.laload, 1) ∧ decode mL_law.2.1 (pc + 21) = .ok (.lload 7, 2) ∧ decode mL_law.2.1 (pc + 23) = .ok (.lcmp, 1) ∧ decode mL_law.2.1 (pc + 24) = .ok (.ifCond .eq 5, 3) ∧ ∃ off, decode mL_law.2.1 (pc + 29) = .ok (.goto off, 3) ∧ ((pc + 29 : Nat) : Int) + off = ((3438 : Nat) : Int)
section C2
variable {G : p_G} {P : p_Zt} {k n : Nat} {h : p_H} {pc : Nat} {L : p_LL} {st : List Value} {Yc Ym : Nat → Nat} {o1 o2 b : Nat} {z : Int} {X : c_X} {Xm : m_X} {k0 : Int32} {v : Value}
theorem y_thr (hd : tHd pc) (hL : lHp Yc Ym o1 o2 X Xm h) (h2 : L[2]? = some (some (.ref (Ym 38)))) (h6 : L[6]? = some (some (.int k0))) (ht : iI (Xm.1 12) = k0) (kk : ∀ h', lHp Yc Ym o1 o2 X Xm h' → h' o1 = h o1 → h' o2 = h o2 → SL G mL_law P 100 k n h' (pc + 13) L [.int k0]) : SL G mL_law P 100 k n h pc L [] := by
  obtain ⟨d0, d1, d2, d3, d4⟩ := hd
  refine y_aload_n d0 h2 ?_
  refine y_mcl (As := []) (rest := []) (Q := fun o Xm' => o = .inl (some (.int (iI (Xm.1 12)))) ∧ Xm' = Xm) hL (fun Ym' h0 => k_thrown (V := Xm.1) (C := Xm.2.1) (J := Xm.2.2) ⟨rfl, rfl⟩) d1 cfX11_thrown imX11_thrown seX11_thrown lL_172 rfl rfl rfl (Nat.zero_le _) (fun o Xm' h' hQ hL' e1 e2 => ?_)
  obtain ⟨rfl, rfl⟩ := hQ
  refine (show SL G mL_law P 100 k n h' (pc + 4) L [.int (iI (Xm'.1 12))] from ?_)
  refine y_iload d2 h6 ?_
  refine y_icmp_eq (tgt := pc + 11) d3 (by omega) (fun _ => ?_) (fun y => absurd ht y)
  exact y_iload d4 h6 (kk h' hL' e1 e2)
theorem y_tlI (hd : tI pc) (hL : lHp Yc Ym o1 o2 X Xm h) (hS : lS X Xm) (hv : kI v) (ht : iI (Xm.1 12) = k0) (hg : k0 = 0 → gL cvI (h o1) v) (kk : ∀ h', lHp Yc Ym o1 o2 X Xm h' → SL G mL_law P 100 k n h' 3438 (lL b (Yc 0) (Ym 38) o1 o2 z) []) : SL G mL_law P 100 k n h pc (lL6 b (Yc 0) (Ym 38) o1 o2 z k0) [v] := by
  obtain ⟨d0, hd, d5, d6, d7, d8, d9, d10, d11, d12, off, d13, d14⟩ := hd
  obtain ⟨x, rfl⟩ := hv
  refine y_istore (L' := [some (.ref b), some (.ref (Yc 0)), some (.ref (Ym 38)), some (.ref o1), some (.ref o2), some (.int (iI z)), some (.int k0), some (.int x), none, none]) d0 (by decide) rfl ?_
  refine y_thr hd hL rfl rfl ht (fun h' hL' e1 e2 => ?_)
  refine y_if_ne (tgt := pc + 30) d5 (by omega) (fun _ => ?_) (fun y => ?_)
  · refine y_goto d13 d14 ?_
    exact SL.wk (p_subL.at (by repeat (first | exact subL_nil | refine subL_s ?_ | refine subL_n ?_))) (kk h' hL')
  · obtain ⟨x', f, q1, q2, q3⟩ := hg y
    refine y_aload_n d6 rfl ?_
    refine y_iconst (v := 0) d7 rfl ?_
    refine y_laload (N := 1) (f := f) d8 (e1.trans q2) v01 ?_
    refine y_iload d9 rfl ?_
    refine y_i2l d10 ?_
    refine y_lcmp d11 ?_
    refine y_if_eq (tgt := pc + 30) d12 (by omega) (fun _ => ?_) (fun w => absurd ((lg_cmp_eq _ _).mpr (by rw [c00, q3]; exact (Option.some.inj q1).symm)) w)
    refine y_goto d13 d14 ?_
    exact SL.wk (p_subL.at (by repeat (first | exact subL_nil | refine subL_s ?_ | refine subL_n ?_))) (kk h' hL')
theorem y_tlZ (hd : tZ pc) (hL : lHp Yc Ym o1 o2 X Xm h) (hS : lS X Xm) (hv : kI v) (ht : iI (Xm.1 12) = k0) (hg : k0 = 0 → gL cvZ (h o1) v) (kk : ∀ h', lHp Yc Ym o1 o2 X Xm h' → SL G mL_law P 100 k n h' 3438 (lL b (Yc 0) (Ym 38) o1 o2 z) []) : SL G mL_law P 100 k n h pc (lL6 b (Yc 0) (Ym 38) o1 o2 z k0) [v] := by
  obtain ⟨d0, hd, d5, d6, d7, d8, d9, d10, d11, d12, d13, d14, d15, off, d16, d17⟩ := hd
  obtain ⟨x, rfl⟩ := hv
  refine y_istore (L' := [some (.ref b), some (.ref (Yc 0)), some (.ref (Ym 38)), some (.ref o1), some (.ref o2), some (.int (iI z)), some (.int k0), some (.int x), none, none]) d0 (by decide) rfl ?_
  refine y_thr hd hL rfl rfl ht (fun h' hL' e1 e2 => ?_)
  have fin : SL G mL_law P 100 k n h' (pc + 37) [some (.ref b), some (.ref (Yc 0)), some (.ref (Ym 38)), some (.ref o1), some (.ref o2), some (.int (iI z)), some (.int k0), some (.int x), none, none] [] := by
    refine y_goto d16 d17 ?_
    exact SL.wk (p_subL.at (by repeat (first | exact subL_nil | refine subL_s ?_ | refine subL_n ?_))) (kk h' hL')
  refine y_if_ne (tgt := pc + 37) d5 (by omega) (fun _ => fin) (fun y => ?_)
  obtain ⟨x', f, q1, q2, q3⟩ := hg y
  have q1 := Option.some.inj q1
  refine y_aload_n d6 rfl ?_
  refine y_iconst (v := 0) d7 rfl ?_
  refine y_laload (N := 1) (f := f) d8 (e1.trans q2) v01 ?_
  refine y_iload d9 rfl ?_
  refine y_if_eq (tgt := pc + 30) d10 (by omega) (fun x0 => ?_) (fun x0 => ?_)
  · refine y_lconst (v := 0) d13 rfl ?_
    refine y_lcmp d14 ?_
    refine y_if_eq (tgt := pc + 37) d15 (by omega) (fun _ => fin) (fun w => absurd ((lg_cmp_eq _ _).mpr (by rw [c00, q3, ← q1, if_pos x0])) w)
  · refine y_lconst (v := 1) d11 rfl ?_
    refine y_goto (tgt := pc + 31) d12 (by omega) ?_
    refine y_lcmp d14 ?_
    refine y_if_eq (tgt := pc + 37) d15 (by omega) (fun _ => fin) (fun w => absurd ((lg_cmp_eq _ _).mpr (by rw [c00, q3, ← q1, if_neg x0])) w)
theorem y_tlJ (hd : tJ pc) (hL : lHp Yc Ym o1 o2 X Xm h) (hS : lS X Xm) (hv : kJ v) (ht : iI (Xm.1 12) = k0) (hg : k0 = 0 → gL cvJ (h o1) v) (kk : ∀ h', lHp Yc Ym o1 o2 X Xm h' → SL G mL_law P 100 k n h' 3438 (lL b (Yc 0) (Ym 38) o1 o2 z) []) : SL G mL_law P 100 k n h pc (lL6 b (Yc 0) (Ym 38) o1 o2 z k0) [v] := by
  obtain ⟨d0, hd, d5, d6, d7, d8, d9, d10, d11, off, d12, d13⟩ := hd
  obtain ⟨x, rfl⟩ := hv
  refine y_lstore (L' := [some (.ref b), some (.ref (Yc 0)), some (.ref (Ym 38)), some (.ref o1), some (.ref o2), some (.int (iI z)), some (.int k0), some (.long x), none, none]) d0 (by decide) rfl ?_
  refine y_thr hd hL rfl rfl ht (fun h' hL' e1 e2 => ?_)
  have fin : SL G mL_law P 100 k n h' (pc + 29) [some (.ref b), some (.ref (Yc 0)), some (.ref (Ym 38)), some (.ref o1), some (.ref o2), some (.int (iI z)), some (.int k0), some (.long x), none, none] [] := by
    refine y_goto d12 d13 ?_
    exact SL.wk (p_subL.at (by repeat (first | exact subL_nil | refine subL_s ?_ | refine subL_n ?_))) (kk h' hL')
  refine y_if_ne (tgt := pc + 29) d5 (by omega) (fun _ => fin) (fun y => ?_)
  obtain ⟨x', f, q1, q2, q3⟩ := hg y
  have q1 := Option.some.inj q1
  refine y_aload_n d6 rfl ?_
  refine y_iconst (v := 0) d7 rfl ?_
  refine y_laload (N := 1) (f := f) d8 (e1.trans q2) v01 ?_
  refine y_lload d9 rfl ?_
  refine y_lcmp d10 ?_
  refine y_if_eq (tgt := pc + 29) d11 (by omega) (fun _ => fin) (fun w => absurd ((lg_cmp_eq _ _).mpr (by rw [c00, q3, ← q1])) w)
/-- two ints that are the same -/
theorem y_same {x : Int32} {off : Int} (hd : decode mL_law.2.1 pc = .ok (.if_icmp .eq off, 3)) (ht : (pc : Int) + off = ((3438 : Nat) : Int)) (kk : SL G mL_law P 100 k n h 3438 L []) : SL G mL_law P 100 k n h pc L [.int x, .int x] :=
  y_icmp_eq hd ht (fun _ => kk) (fun y => absurd rfl y)
theorem y_bool {x : Int} (hx : -2147483648 ≤ x ∧ x < 2147483648) (d0 : decode mL_law.2.1 pc = .ok (.ifCond .eq 7, 3)) (d1 : decode mL_law.2.1 (pc + 3) = .ok (.iconst 1, 1)) (d2 : decode mL_law.2.1 (pc + 4) = .ok (.goto 4, 3)) (d3 : decode mL_law.2.1 (pc + 7) = .ok (.iconst 0, 1)) (kk : SL G mL_law P 100 k n h (pc + 8) L (.int (iI (zb (x ≠ 0))) :: st)) : SL G mL_law P 100 k n h pc L (.int (iI x) :: st) := by
  have e0 : iI x = iI 0 ↔ x = 0 := iI_eq hx (by decide)
  refine y_if_eq (tgt := pc + 7) d0 (by omega) (fun y => ?_) (fun y => ?_)
  · refine y_iconst (v := iI (zb (x ≠ 0))) d3 (by rw [zb_f (p := x ≠ 0) (fun q => q (e0.mp y))]) kk
  · refine y_iconst (v := iI (zb (x ≠ 0))) d1 (by rw [zb_t (p := x ≠ 0) (fun q => y (e0.mpr q))]) ?_
    exact y_goto (tgt := pc + 8) d2 (by omega) kk
end C2
