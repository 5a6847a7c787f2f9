/-! ===== the reference: states told apart ===== -/
/-- two states accept the same words of at most a length -/
def wEq (w : Int → Int) (s : Int) : Nat → Int → Int → Prop
  | 0, a, b => (wAcc w s a ↔ wAcc w s b)
  | n + 1, a, b => (wAcc w s a ↔ wAcc w s b) ∧ ∀ c, 0 ≤ c → c < 6 → wEq w s n (w (476 * s + (116 + 6 * a + c))) (w (476 * s + (116 + 6 * b + c)))
abbrev wEqv (w : Int → Int) (s a b : Int) : Prop := ∀ n, wEq w s n a b
theorem wEqv.acc {w : Int → Int} {s a b : Int} (h : wEqv w s a b) : wAcc w s a ↔ wAcc w s b := h 0
theorem wEqv.nx {w : Int → Int} {s a b c : Int} (h : wEqv w s a b) (c0 : 0 ≤ c) (c1 : c < 6) : wEqv w s (w (476 * s + (116 + 6 * a + c))) (w (476 * s + (116 + 6 * b + c))) := fun n => (h (n + 1)).2 c c0 c1
theorem wEqv.of {w : Int → Int} {s : Int} {R : Int → Int → Prop} (ha : ∀ a b, R a b → (wAcc w s a ↔ wAcc w s b)) (hn : ∀ a b c, R a b → 0 ≤ c → c < 6 → R (w (476 * s + (116 + 6 * a + c))) (w (476 * s + (116 + 6 * b + c)))) : ∀ (n : Nat) (a b : Int), R a b → wEq w s n a b
  | 0, a, b, h => ha a b h
  | n + 1, a, b, h => ⟨ha a b h, fun c c0 c1 => wEqv.of ha hn n _ _ (hn a b c h c0 c1)⟩
/-- what is marked differs, what differs at once is marked -/
def wSnd (w : Int → Int) (s : Int) (A : Int → Int) : Prop := ∀ a b, 0 ≤ a → a < w (476 * s + 5) → 0 ≤ b → b < w (476 * s + 5) → (A (60 * a + b) = 0 ∨ A (60 * a + b) = 1) ∧ (A (60 * a + b) = 1 → ¬ wEqv w s a b) ∧ (A (60 * a + b) = 0 → (wAcc w s a ↔ wAcc w s b))
def wApt (A : Int → Int) : Int := zsum (fun i => zb (A i = 0)) 3600
theorem zsum_cg {f g : Int → Int} : ∀ n : Nat, (∀ j : Int, 0 ≤ j → j < n → f j = g j) → zsum f n = zsum g n
  | 0, _ => rfl
  | n + 1, h => by
    show zsum f n + f n = zsum g n + g n
    rw [zsum_cg n (fun j a b => h j a (by omega)), h n (by omega) (by omega)]
theorem zsum_up {f g : Int → Int} {k : Int} (h0 : 0 ≤ k) : ∀ n : Nat, k < n → (∀ j : Int, j ≠ k → f j = g j) → zsum f n = zsum g n + (f k - g k)
  | 0, h, _ => by omega
  | n + 1, h, hf => by
    show zsum f n + f n = zsum g n + g n + _
    by_cases e : k = n
    · rw [zsum_cg n (fun j a b => hf j (by omega)), e]; omega
    · rw [zsum_up h0 n (by omega) hf, hf n (by omega)]; omega
theorem wApt_up {A : Int → Int} {k : Int} (h0 : 0 ≤ k) (h1 : k < 3600) (h : A k = 0) : wApt (zu A k 1) = wApt A - 1 := by
  unfold wApt
  rw [zsum_up (f := fun i => zb (zu A k 1 i = 0)) (g := fun i => zb (A i = 0)) h0 3600 (by omega) (fun j hj => by simp only [zu_ne hj])]
  simp only [zu_at]
  rw [zb_f (by omega), zb_t h]
  omega
theorem wApt_nn {A : Int → Int} : 0 ≤ wApt A := (zsum_rg 3600 (fun j _ _ => zb_01)).1
section M19
variable {G : p_G} {Y : Nat → Nat} {h0 : p_H} {P : (Option Value) ⊕ String → m_X → Prop} {d : Nat} {V : Nat → Int} {C : Nat → Int → Int} {J : Int → Int}
theorem k_la_l {s a b : Int} {w : Int → Int} (hw : C 0 = w) (hO : wOK w) (hs : s = 0 ∨ s = 1) (ha : 0 ≤ a ∧ a < w (476 * s + 5)) (hb : 0 ≤ b ∧ b < w (476 * s + 5)) (hS : wSnd w s (C 30)) (hp : P (.inl (some (.int (iI (zc (∃ c, 0 ≤ c ∧ c < 6 ∧ C 30 (60 * w (476 * s + (116 + 6 * a + c)) + w (476 * s + (116 + 6 * b + c))) = 1)))))) (V, C, J)) : ∀ (zz : Nat) (c : Int), zz = (6 - c).toNat → (0 ≤ c) → (c ≤ 6) → (∀ c2, 0 ≤ c2 → c2 < c → C 30 (60 * w (476 * s + (116 + 6 * a + c2)) + w (476 * s + (116 + 6 * b + c2))) = 0) → RW G mX11_leadsApart (m_I Y h0) P (d + 2) 0 0 3 [some (.ref (Y 38)), some (.int (iI s)), some (.int (iI a)), some (.int (iI b)), some (.int (iI c))] [] (V, C, J) := by
  intro zz
  induction zz using Nat.strongRecOn with
  | _ zz ih =>
    intro c hzz h1 h2 hI
    have b1 := hO.sts hs
    refine i_iload dX11_leadsApart_3 rfl ?_
    refine i_bipush dX11_leadsApart_5 (by decide) ?_
    refine i_icmp_ge (tgt := 46) dX11_leadsApart_7 (by decide) (by omega) (by omega) (fun c7 => ?_) (fun c7 => ?_)
    · -- jumps
      refine i_const dX11_leadsApart_46 ?_
      refine i_ireturn dX11_leadsApart_47 rfl rfl ?_
      rw [zc_f (fun z => by obtain ⟨c2, c0, c1, y⟩ := z; have := hI c2 c0 (by omega); omega)] at hp; exact hp
    · -- on
      refine i_aload_n dX11_leadsApart_10 rfl ?_
      refine t_getA dX11_leadsApart_11 fX11_70.o rfl ?_
      have b2 := hO.nxt hs ha.1 ha.2 h1 (by omega)
      have b3 := hO.nxt hs hb.1 hb.2 h1 (by omega)
      have b4 := (hS _ _ b2.1 b2.2 b3.1 b3.2).1
      refine i_bipush dX11_leadsApart_14 (by decide) ?_
      refine i_aload_n dX11_leadsApart_16 rfl ?_
      refine i_iload_n dX11_leadsApart_17 rfl ?_
      refine i_iload_n dX11_leadsApart_18 rfl ?_
      refine i_iload dX11_leadsApart_19 rfl ?_
      refine t_callV (As := [_, _, _]) dX11_leadsApart_21 cfX11_goes imX11_goes seX11_goes lX11_231 rfl rfl rfl (Nat.le_of_ble_eq_true rfl) ?_
      refine k_goes (w := w) hw (by omega) (by omega) (by omega) (RK.v ?_)
      refine i_mul dX11_leadsApart_24 ?_
      refine i_aload_n dX11_leadsApart_25 rfl ?_
      refine i_iload_n dX11_leadsApart_26 rfl ?_
      refine i_iload_n dX11_leadsApart_27 rfl ?_
      refine i_iload dX11_leadsApart_28 rfl ?_
      refine t_callV (As := [_, _, _]) dX11_leadsApart_30 cfX11_goes imX11_goes seX11_goes lX11_231 rfl rfl rfl (Nat.le_of_ble_eq_true rfl) ?_
      refine k_goes (w := w) hw (by omega) (by omega) (by omega) (RK.v ?_)
      refine i_add dX11_leadsApart_33 ?_
      refine t_zald dX11_leadsApart_34 (by omega) rfl ?_
      refine i_if_eq (tgt := 40) dX11_leadsApart_35 (by decide) (by omega) (fun c35 => ?_) (fun c35 => ?_)
      · -- jumps
        refine i_iinc dX11_leadsApart_40 rfl (L' := [some _, some _, some _, some _, some _]) (by decide) rfl ?_
        refine i_goto (tgt := 3) dX11_leadsApart_43 (by decide) ?_
        refine ih _ ?_ (c + 1) rfl (by omega) (by omega) (fun c2 c0 c1 => ?_)
        · omega
        by_cases e : c2 = c
        · rw [e]; omega
        · exact hI c2 c0 (by omega)
      · -- on
        refine i_const dX11_leadsApart_38 ?_
        refine i_ireturn dX11_leadsApart_39 rfl rfl ?_
        rw [zc_t ⟨c, h1, by omega, by omega⟩] at hp; exact hp
theorem k_leadsApart {s a b : Int} {w : Int → Int} (hw : C 0 = w) (hO : wOK w) (hs : s = 0 ∨ s = 1) (ha : 0 ≤ a ∧ a < w (476 * s + 5)) (hb : 0 ≤ b ∧ b < w (476 * s + 5)) (hS : wSnd w s (C 30)) (hp : P (.inl (some (.int (iI (zc (∃ c, 0 ≤ c ∧ c < 6 ∧ C 30 (60 * w (476 * s + (116 + 6 * a + c)) + w (476 * s + (116 + 6 * b + c))) = 1)))))) (V, C, J)) : RM G mX11_leadsApart (m_I Y h0) [.ref (Y 38), .int (iI s), .int (iI a), .int (iI b)] (d + 2) 0 0 P (V, C, J) := by
  refine RM.of (L := [some (.ref (Y 38)), some (.int (iI s)), some (.int (iI a)), some (.int (iI b)), none]) cfX11_leadsApart rfl (Nat.le_of_ble_eq_true rfl) ?_
  refine i_const dX11_leadsApart_0 ?_
  refine i_istore dX11_leadsApart_1 (L' := [some _, some _, some _, some _, some _]) (by decide) rfl ?_
  exact k_la_l hw hO hs ha hb hS hp _ 0 rfl (by omega) (by omega) (fun c2 c0 c1 => by omega)
theorem k_ta_l1 {s a : Int} (hO : wOK (C 0)) (hs : s = 0 ∨ s = 1) (ha : 0 ≤ a ∧ a < C 0 (476 * s + 5)) (kk : ∀ b C', sC [30] C C' → (∀ a' b', 0 ≤ a' → a' < C 0 (476 * s + 5) → 0 ≤ b' → b' < C 0 (476 * s + 5) → (a' ≤ a) → (C' 30 (60 * a' + b') = 0 ∨ C' 30 (60 * a' + b') = 1) ∧ (C' 30 (60 * a' + b') = 1 → ¬ (wAcc (C 0) s a' ↔ wAcc (C 0) s b')) ∧ (C' 30 (60 * a' + b') = 0 → (wAcc (C 0) s a' ↔ wAcc (C 0) s b'))) → RW G mX11_tellsApart (m_I Y h0) P (d + 2) 0 0 62 [some (.ref (Y 38)), some (.int (iI s)), some (.int (iI (C 0 (476 * s + 5)))), some (.int (iI a)), some (.int (iI b)), none] [] (V, C', J)) : ∀ (zz : Nat) (b : Int) (C' : Nat → Int → Int), zz = (C 0 (476 * s + 5) - b).toNat → (0 ≤ b) → (b ≤ C 0 (476 * s + 5)) → (sC [30] C C') → (∀ a' b', 0 ≤ a' → a' < C 0 (476 * s + 5) → 0 ≤ b' → b' < C 0 (476 * s + 5) → (a' < a ∨ a' = a ∧ b' < b) → (C' 30 (60 * a' + b') = 0 ∨ C' 30 (60 * a' + b') = 1) ∧ (C' 30 (60 * a' + b') = 1 → ¬ (wAcc (C 0) s a' ↔ wAcc (C 0) s b')) ∧ (C' 30 (60 * a' + b') = 0 → (wAcc (C 0) s a' ↔ wAcc (C 0) s b'))) → RW G mX11_tellsApart (m_I Y h0) P (d + 2) 0 0 17 [some (.ref (Y 38)), some (.int (iI s)), some (.int (iI (C 0 (476 * s + 5)))), some (.int (iI a)), some (.int (iI b)), none] [] (V, C', J) := by
  intro zz
  induction zz using Nat.strongRecOn with
  | _ zz ih =>
    intro b C' hzz h1 h2 hC hI
    have hw : C' 0 = C 0 := hC 0 (by decide)
    have b1 := hO.sts hs
    refine i_iload dX11_tellsApart_17 rfl ?_
    refine i_iload_n dX11_tellsApart_19 rfl ?_
    refine i_icmp_ge (tgt := 62) dX11_tellsApart_20 (by decide) (by omega) (by omega) (fun c20 => ?_) (fun c20 => ?_)
    · -- jumps
      exact kk b _ hC (fun a' b' x0 x1 y0 y1 z => hI a' b' x0 x1 y0 y1 (by omega))
    · -- on
      refine i_aload_n dX11_tellsApart_23 rfl ?_
      refine t_getA dX11_tellsApart_24 fX11_70.o rfl ?_
      refine i_bipush dX11_tellsApart_27 (by decide) ?_
      refine i_iload_n dX11_tellsApart_29 rfl ?_
      refine i_mul dX11_tellsApart_30 ?_
      refine i_iload dX11_tellsApart_31 rfl ?_
      refine i_add dX11_tellsApart_33 ?_
      refine i_aload_n dX11_tellsApart_34 rfl ?_
      refine i_iload_n dX11_tellsApart_35 rfl ?_
      refine i_iload_n dX11_tellsApart_36 rfl ?_
      refine t_callV (As := [_, _]) dX11_tellsApart_37 cfX11_accepts imX11_accepts seX11_accepts lX11_257 rfl rfl rfl (Nat.le_of_ble_eq_true rfl) ?_
      refine k_accepts (w := C 0) hw (by omega) (by omega) (hO.1 _ (by omega)) (RK.v ?_)
      refine i_aload_n dX11_tellsApart_40 rfl ?_
      refine i_iload_n dX11_tellsApart_41 rfl ?_
      refine i_iload dX11_tellsApart_42 rfl ?_
      refine t_callV (As := [_, _]) dX11_tellsApart_44 cfX11_accepts imX11_accepts seX11_accepts lX11_257 rfl rfl rfl (Nat.le_of_ble_eq_true rfl) ?_
      refine k_accepts (w := C 0) hw (by omega) (by omega) (hO.1 _ (by omega)) (RK.v ?_)
      refine i_icmp_eq_bb (tgt := 54) dX11_tellsApart_47 (by decide) (fun c47 => ?_) (fun c47 => ?_)
      · -- jumps
        refine i_const dX11_tellsApart_54 ?_
        refine t_zast dX11_tellsApart_55 (by first | exact zb_or | omega) (by omega) ?_
        refine i_iinc dX11_tellsApart_56 rfl (L' := [some _, some _, some _, some _, some _, none]) (by decide) rfl ?_
        refine i_goto (tgt := 17) dX11_tellsApart_59 (by decide) ?_
        refine ih _ ?_ (b + 1) _ rfl (by omega) (by omega) (hC.cu (by decide)) (fun a' b' x0 x1 y0 y1 z => ?_)
        · omega
        show (zu (C' 30) _ _ _ = 0 ∨ zu (C' 30) _ _ _ = 1) ∧ (zu (C' 30) _ _ _ = 1 → _) ∧ (zu (C' 30) _ _ _ = 0 → _)
        by_cases e : a' = a ∧ b' = b
        · obtain ⟨e1, e2⟩ := e; subst e1; subst e2; rw [zu_at]
          exact ⟨by decide, fun q => by first | assumption | omega, fun q => by first | assumption | omega⟩
        · rw [zu_ne (by omega)]; exact hI a' b' x0 x1 y0 y1 (by omega)
      · -- on
        refine i_const dX11_tellsApart_50 ?_
        refine i_goto (tgt := 55) dX11_tellsApart_51 (by decide) ?_
        refine t_zast dX11_tellsApart_55 (by first | exact zb_or | omega) (by omega) ?_
        refine i_iinc dX11_tellsApart_56 rfl (L' := [some _, some _, some _, some _, some _, none]) (by decide) rfl ?_
        refine i_goto (tgt := 17) dX11_tellsApart_59 (by decide) ?_
        refine ih _ ?_ (b + 1) _ rfl (by omega) (by omega) (hC.cu (by decide)) (fun a' b' x0 x1 y0 y1 z => ?_)
        · omega
        show (zu (C' 30) _ _ _ = 0 ∨ zu (C' 30) _ _ _ = 1) ∧ (zu (C' 30) _ _ _ = 1 → _) ∧ (zu (C' 30) _ _ _ = 0 → _)
        by_cases e : a' = a ∧ b' = b
        · obtain ⟨e1, e2⟩ := e; subst e1; subst e2; rw [zu_at]
          exact ⟨by decide, fun q => by first | assumption | omega, fun q => by first | assumption | omega⟩
        · rw [zu_ne (by omega)]; exact hI a' b' x0 x1 y0 y1 (by omega)
theorem k_ta_l2 {s : Int} (hO : wOK (C 0)) (hs : s = 0 ∨ s = 1) (kk : ∀ a C', sC [30] C C' → wSnd (C 0) s (C' 30) → RW G mX11_tellsApart (m_I Y h0) P (d + 2) 0 0 68 [some (.ref (Y 38)), some (.int (iI s)), some (.int (iI (C 0 (476 * s + 5)))), some (.int (iI a)), none, none] [] (V, C', J)) : ∀ (zz : Nat) (a : Int) (C' : Nat → Int → Int), zz = (C 0 (476 * s + 5) - a).toNat → (0 ≤ a) → (a ≤ C 0 (476 * s + 5)) → (sC [30] C C') → (∀ a' b', 0 ≤ a' → a' < C 0 (476 * s + 5) → 0 ≤ b' → b' < C 0 (476 * s + 5) → (a' < a) → (C' 30 (60 * a' + b') = 0 ∨ C' 30 (60 * a' + b') = 1) ∧ (C' 30 (60 * a' + b') = 1 → ¬ (wAcc (C 0) s a' ↔ wAcc (C 0) s b')) ∧ (C' 30 (60 * a' + b') = 0 → (wAcc (C 0) s a' ↔ wAcc (C 0) s b'))) → RW G mX11_tellsApart (m_I Y h0) P (d + 2) 0 0 9 [some (.ref (Y 38)), some (.int (iI s)), some (.int (iI (C 0 (476 * s + 5)))), some (.int (iI a)), none, none] [] (V, C', J) := by
  intro zz
  induction zz using Nat.strongRecOn with
  | _ zz ih =>
    intro a C' hzz h1 h2 hC hI
    have hw : C' 0 = C 0 := hC 0 (by decide)
    have b1 := hO.sts hs
    refine i_iload_n dX11_tellsApart_9 rfl ?_
    refine i_iload_n dX11_tellsApart_10 rfl ?_
    refine i_icmp_ge (tgt := 68) dX11_tellsApart_11 (by decide) (by omega) (by omega) (fun c11 => ?_) (fun c11 => ?_)
    · -- jumps
      exact kk a _ hC (fun a' b' x0 x1 y0 y1 => by have q := hI a' b' x0 x1 y0 y1 (by omega); exact ⟨q.1, fun y1 y2 => q.2.1 y1 y2.acc, q.2.2⟩)
    · -- on
      refine i_const dX11_tellsApart_14 ?_
      refine i_istore dX11_tellsApart_15 (L' := [some _, some _, some _, some _, some _, none]) (by decide) rfl ?_
      refine k_ta_l1 hO hs (by omega) (fun b2 C2 hC2 hI2 => ?_) _ 0 _ rfl (by omega) (by omega) hC (fun a' b' x0 x1 y0 y1 z => hI a' b' x0 x1 y0 y1 (by omega))
      refine i_iinc dX11_tellsApart_62 rfl (L' := [some _, some _, some _, some _, some _, none]) (by decide) rfl ?_
      refine i_goto (tgt := 9) dX11_tellsApart_65 (by decide) ?_
      refine RW.wk (L' := [some _, some _, some _, some _, none, none]) (p_subL.at (by repeat (first | exact subL_nil | refine subL_s ?_ | refine subL_n ?_))) ?_
      refine ih _ ?_ (a + 1) _ rfl (by omega) (by omega) hC2 (fun a' b' x0 x1 y0 y1 z => hI2 a' b' x0 x1 y0 y1 (by omega))
      omega
theorem k_ta_l3 {s a m0 : Int} (hO : wOK (C 0)) (hs : s = 0 ∨ s = 1) (ha : 0 ≤ a ∧ a < C 0 (476 * s + 5)) (kk : ∀ b m C', sC [30] C C' → wSnd (C 0) s (C' 30) → ((m = 0 ∧ wApt (C' 30) = m0 ∧ (∀ a' b' c, 0 ≤ a' → a' < C 0 (476 * s + 5) → 0 ≤ b' → b' < C 0 (476 * s + 5) → (a' ≤ a) → C' 30 (60 * a' + b') = 0 → 0 ≤ c → c < 6 → C' 30 (60 * C 0 (476 * s + (116 + 6 * a' + c)) + C 0 (476 * s + (116 + 6 * b' + c))) = 0)) ∨ (m = 1 ∧ wApt (C' 30) < m0)) → RW G mX11_tellsApart (m_I Y h0) P (d + 3) 0 0 144 [some (.ref (Y 38)), some (.int (iI s)), some (.int (iI (C 0 (476 * s + 5)))), some (.int (iI m)), some (.int (iI a)), some (.int (iI b))] [] (V, C', J)) : ∀ (zz : Nat) (b m : Int) (C' : Nat → Int → Int), zz = (C 0 (476 * s + 5) - b).toNat → (0 ≤ b) → (b ≤ C 0 (476 * s + 5)) → (sC [30] C C') → (wSnd (C 0) s (C' 30)) → ((m = 0 ∧ wApt (C' 30) = m0 ∧ (∀ a' b' c, 0 ≤ a' → a' < C 0 (476 * s + 5) → 0 ≤ b' → b' < C 0 (476 * s + 5) → (a' < a ∨ a' = a ∧ b' < b) → C' 30 (60 * a' + b') = 0 → 0 ≤ c → c < 6 → C' 30 (60 * C 0 (476 * s + (116 + 6 * a' + c)) + C 0 (476 * s + (116 + 6 * b' + c))) = 0)) ∨ (m = 1 ∧ wApt (C' 30) < m0)) → RW G mX11_tellsApart (m_I Y h0) P (d + 3) 0 0 88 [some (.ref (Y 38)), some (.int (iI s)), some (.int (iI (C 0 (476 * s + 5)))), some (.int (iI m)), some (.int (iI a)), some (.int (iI b))] [] (V, C', J) := by
  intro zz
  induction zz using Nat.strongRecOn with
  | _ zz ih =>
    intro b m C' hzz h1 h2 hC hS hF
    have hw : C' 0 = C 0 := hC 0 (by decide)
    have b1 := hO.sts hs
    have b4 : b < C 0 (476 * s + 5) → _ := fun h => (hS a b ha.1 ha.2 h1 h).1
    refine i_iload dX11_tellsApart_88 rfl ?_
    refine i_iload_n dX11_tellsApart_90 rfl ?_
    refine i_icmp_ge (tgt := 144) dX11_tellsApart_91 (by decide) (by omega) (by omega) (fun c91 => ?_) (fun c91 => ?_)
    · -- jumps
      exact kk b m _ hC hS (hF.imp (fun f => ⟨f.1, f.2.1, fun a' b' c x0 x1 y0 y1 z => f.2.2 a' b' c x0 x1 y0 y1 (by omega)⟩) id)
    · -- on
      have b4 := b4 (by omega)
      refine i_aload_n dX11_tellsApart_94 rfl ?_
      refine t_getA dX11_tellsApart_95 fX11_70.o rfl ?_
      refine i_bipush dX11_tellsApart_98 (by decide) ?_
      refine i_iload dX11_tellsApart_100 rfl ?_
      refine i_mul dX11_tellsApart_102 ?_
      refine i_iload dX11_tellsApart_103 rfl ?_
      refine i_add dX11_tellsApart_105 ?_
      refine t_zald dX11_tellsApart_106 (by omega) rfl ?_
      refine i_if_ne (tgt := 138) dX11_tellsApart_107 (by decide) (by omega) (fun c107 => ?_) (fun c107 => ?_)
      · -- jumps
        refine i_iinc dX11_tellsApart_138 rfl (L' := [some _, some _, some _, some _, some _, some _]) (by decide) rfl ?_
        refine i_goto (tgt := 88) dX11_tellsApart_141 (by decide) ?_
        refine ih _ ?_ (b + 1) m _ rfl (by omega) (by omega) hC hS ?_
        · omega
        rcases hF with ⟨f1, f2, f3⟩ | hF
        · refine Or.inl ⟨f1, f2, fun a' b' c x0 x1 y0 y1 z q c0 c1 => ?_⟩
          by_cases e : a' = a ∧ b' = b
          · obtain ⟨e1, e2⟩ := e; subst e1; subst e2
            have b2 := hO.nxt hs x0 x1 c0 c1
            have b3 := hO.nxt hs y0 y1 c0 c1
            have b5 := (hS _ _ b2.1 b2.2 b3.1 b3.2).1
            first | (exfalso; omega) | exact b5.resolve_right (fun y => c119 ⟨c, c0, c1, y⟩)
          · exact f3 a' b' c x0 x1 y0 y1 (by omega) q c0 c1
        · exact Or.inr hF
      · -- on
        refine i_aload_n dX11_tellsApart_110 rfl ?_
        refine i_iload_n dX11_tellsApart_111 rfl ?_
        refine i_iload dX11_tellsApart_112 rfl ?_
        refine i_iload dX11_tellsApart_114 rfl ?_
        refine t_callV (As := [_, _, _]) dX11_tellsApart_116 cfX11_leadsApart imX11_leadsApart seX11_leadsApart lX11_264 rfl rfl rfl (Nat.le_of_ble_eq_true rfl) ?_
        refine k_leadsApart (w := C 0) hw hO hs (by omega) (by omega) hS (RK.v ?_)
        refine i_ifeq_c (tgt := 138) dX11_tellsApart_119 (by decide) (fun c119 => ?_) (fun c119 => ?_)
        · -- jumps
          refine i_iinc dX11_tellsApart_138 rfl (L' := [some _, some _, some _, some _, some _, some _]) (by decide) rfl ?_
          refine i_goto (tgt := 88) dX11_tellsApart_141 (by decide) ?_
          refine ih _ ?_ (b + 1) m _ rfl (by omega) (by omega) hC hS ?_
          · omega
          rcases hF with ⟨f1, f2, f3⟩ | hF
          · refine Or.inl ⟨f1, f2, fun a' b' c x0 x1 y0 y1 z q c0 c1 => ?_⟩
            by_cases e : a' = a ∧ b' = b
            · obtain ⟨e1, e2⟩ := e; subst e1; subst e2
              have b2 := hO.nxt hs x0 x1 c0 c1
              have b3 := hO.nxt hs y0 y1 c0 c1
              have b5 := (hS _ _ b2.1 b2.2 b3.1 b3.2).1
              first | (exfalso; omega) | exact b5.resolve_right (fun y => c119 ⟨c, c0, c1, y⟩)
            · exact f3 a' b' c x0 x1 y0 y1 (by omega) q c0 c1
          · exact Or.inr hF
        · -- on
          refine i_aload_n dX11_tellsApart_122 rfl ?_
          refine t_getA dX11_tellsApart_123 fX11_70.o rfl ?_
          refine i_bipush dX11_tellsApart_126 (by decide) ?_
          refine i_iload dX11_tellsApart_128 rfl ?_
          refine i_mul dX11_tellsApart_130 ?_
          refine i_iload dX11_tellsApart_131 rfl ?_
          refine i_add dX11_tellsApart_133 ?_
          refine i_const dX11_tellsApart_134 ?_
          refine t_zast dX11_tellsApart_135 (by first | exact zb_or | omega) (by omega) ?_
          refine i_const dX11_tellsApart_136 ?_
          refine i_istore_n dX11_tellsApart_137 (L' := [some _, some _, some _, some _, some _, some _]) (by decide) rfl ?_
          refine i_iinc dX11_tellsApart_138 rfl (L' := [some _, some _, some _, some _, some _, some _]) (by decide) rfl ?_
          refine i_goto (tgt := 88) dX11_tellsApart_141 (by decide) ?_
          refine ih _ ?_ (b + 1) 1 _ rfl (by omega) (by omega) (hC.cu (by decide)) (fun a' b' x0 x1 y0 y1 => ?_) (Or.inr ⟨rfl, ?_⟩)
          · omega
          · show (zu (C' 30) _ _ _ = 0 ∨ zu (C' 30) _ _ _ = 1) ∧ (zu (C' 30) _ _ _ = 1 → _) ∧ (zu (C' 30) _ _ _ = 0 → _)
            by_cases e : a' = a ∧ b' = b
            · obtain ⟨e1, e2⟩ := e; subst e1; subst e2; rw [zu_at]
              refine ⟨Or.inr rfl, fun _ y => ?_, fun q => by omega⟩
              obtain ⟨c, c0, c1, q⟩ := c119
              have b2 := hO.nxt hs x0 x1 c0 c1
              have b3 := hO.nxt hs y0 y1 c0 c1
              exact (hS _ _ b2.1 b2.2 b3.1 b3.2).2.1 q (y.nx c0 c1)
            · rw [zu_ne (by omega)]; exact hS a' b' x0 x1 y0 y1
          · show wApt (zu (C' 30) _ 1) < m0
            rw [wApt_up (by omega) (by omega) (by omega)]; rcases hF with hF | hF <;> omega
theorem k_ta_l4 {s m0 : Int} (hO : wOK (C 0)) (hs : s = 0 ∨ s = 1) (kk : ∀ a m C', sC [30] C C' → wSnd (C 0) s (C' 30) → ((m = 0 ∧ wApt (C' 30) = m0 ∧ (∀ a' b' c, 0 ≤ a' → a' < C 0 (476 * s + 5) → 0 ≤ b' → b' < C 0 (476 * s + 5) → (True) → C' 30 (60 * a' + b') = 0 → 0 ≤ c → c < 6 → C' 30 (60 * C 0 (476 * s + (116 + 6 * a' + c)) + C 0 (476 * s + (116 + 6 * b' + c))) = 0)) ∨ (m = 1 ∧ wApt (C' 30) < m0)) → RW G mX11_tellsApart (m_I Y h0) P (d + 3) 0 0 150 [some (.ref (Y 38)), some (.int (iI s)), some (.int (iI (C 0 (476 * s + 5)))), some (.int (iI m)), some (.int (iI a)), none] [] (V, C', J)) : ∀ (zz : Nat) (a m : Int) (C' : Nat → Int → Int), zz = (C 0 (476 * s + 5) - a).toNat → (0 ≤ a) → (a ≤ C 0 (476 * s + 5)) → (sC [30] C C') → (wSnd (C 0) s (C' 30)) → ((m = 0 ∧ wApt (C' 30) = m0 ∧ (∀ a' b' c, 0 ≤ a' → a' < C 0 (476 * s + 5) → 0 ≤ b' → b' < C 0 (476 * s + 5) → (a' < a) → C' 30 (60 * a' + b') = 0 → 0 ≤ c → c < 6 → C' 30 (60 * C 0 (476 * s + (116 + 6 * a' + c)) + C 0 (476 * s + (116 + 6 * b' + c))) = 0)) ∨ (m = 1 ∧ wApt (C' 30) < m0)) → RW G mX11_tellsApart (m_I Y h0) P (d + 3) 0 0 79 [some (.ref (Y 38)), some (.int (iI s)), some (.int (iI (C 0 (476 * s + 5)))), some (.int (iI m)), some (.int (iI a)), none] [] (V, C', J) := by
  intro zz
  induction zz using Nat.strongRecOn with
  | _ zz ih =>
    intro a m C' hzz h1 h2 hC hS hF
    have hw : C' 0 = C 0 := hC 0 (by decide)
    have b1 := hO.sts hs
    refine i_iload dX11_tellsApart_79 rfl ?_
    refine i_iload_n dX11_tellsApart_81 rfl ?_
    refine i_icmp_ge (tgt := 150) dX11_tellsApart_82 (by decide) (by omega) (by omega) (fun c82 => ?_) (fun c82 => ?_)
    · -- jumps
      exact kk a m _ hC hS (hF.imp (fun f => ⟨f.1, f.2.1, fun a' b' c x0 x1 y0 y1 z => f.2.2 a' b' c x0 x1 y0 y1 (by omega)⟩) id)
    · -- on
      refine i_const dX11_tellsApart_85 ?_
      refine i_istore dX11_tellsApart_86 (L' := [some _, some _, some _, some _, some _, some _]) (by decide) rfl ?_
      refine k_ta_l3 hO hs (by omega) (fun b2 m2 C2 hC2 hS2 hF2 => ?_) _ 0 m _ rfl (by omega) (by omega) hC hS (hF.imp (fun f => ⟨f.1, f.2.1, fun a' b' c x0 x1 y0 y1 z => f.2.2 a' b' c x0 x1 y0 y1 (by omega)⟩) id)
      refine i_iinc dX11_tellsApart_144 rfl (L' := [some _, some _, some _, some _, some _, some _]) (by decide) rfl ?_
      refine i_goto (tgt := 79) dX11_tellsApart_147 (by decide) ?_
      refine RW.wk (L' := [some _, some _, some _, some _, some _, none]) (p_subL.at (by repeat (first | exact subL_nil | refine subL_s ?_ | refine subL_n ?_))) ?_
      refine ih _ ?_ (a + 1) m2 _ rfl (by omega) (by omega) hC2 hS2 (hF2.imp (fun f => ⟨f.1, f.2.1, fun a' b' c x0 x1 y0 y1 z => f.2.2 a' b' c x0 x1 y0 y1 (by omega)⟩) id)
      omega
theorem k_ta_l5 {s : Int} (hO : wOK (C 0)) (hs : s = 0 ∨ s = 1) (hp : ∀ C', sC [30] C C' → (∀ a b, 0 ≤ a → a < C 0 (476 * s + 5) → 0 ≤ b → b < C 0 (476 * s + 5) → (C' 30 (60 * a + b) = 1 ∧ ¬ wEqv (C 0) s a b) ∨ (C' 30 (60 * a + b) = 0 ∧ wEqv (C 0) s a b)) → P (.inl none) (V, C', J)) : ∀ (zz : Nat) (m : Int) (C' : Nat → Int → Int), zz = (2 * wApt (C' 30) + m).toNat → (0 ≤ m ∧ m ≤ 1) → (sC [30] C C') → (wSnd (C 0) s (C' 30)) → (m = 0 → m = 0 ∧ ∀ a' b' c, 0 ≤ a' → a' < C 0 (476 * s + 5) → 0 ≤ b' → b' < C 0 (476 * s + 5) → C' 30 (60 * a' + b') = 0 → 0 ≤ c → c < 6 → C' 30 (60 * C 0 (476 * s + (116 + 6 * a' + c)) + C 0 (476 * s + (116 + 6 * b' + c))) = 0) → RW G mX11_tellsApart (m_I Y h0) P (d + 3) 0 0 70 [some (.ref (Y 38)), some (.int (iI s)), some (.int (iI (C 0 (476 * s + 5)))), some (.int (iI m)), none, none] [] (V, C', J) := by
  intro zz
  induction zz using Nat.strongRecOn with
  | _ zz ih =>
    intro m C' hzz h1 hC hS hm
    have hw : C' 0 = C 0 := hC 0 (by decide)
    have b1 := hO.sts hs
    have n0 := @wApt_nn (C' 30)
    refine i_iload_n dX11_tellsApart_70 rfl ?_
    refine i_if_eq (tgt := 153) dX11_tellsApart_71 (by decide) (by omega) (fun c71 => ?_) (fun c71 => ?_)
    · -- jumps
      refine i_return dX11_tellsApart_153 rfl ?_
      refine hp _ hC (fun a b x0 x1 y0 y1 => ?_)
      rcases (hS a b x0 x1 y0 y1).1 with q | q
      · refine Or.inr ⟨q, fun n => wEqv.of (R := fun a b => (0 ≤ a ∧ a < C 0 (476 * s + 5)) ∧ (0 ≤ b ∧ b < C 0 (476 * s + 5)) ∧ C' 30 (60 * a + b) = 0) (fun a b r => (hS a b r.1.1 r.1.2 r.2.1.1 r.2.1.2).2.2 r.2.2) (fun a b c r c0 c1 => ?_) n a b ⟨⟨x0, x1⟩, ⟨y0, y1⟩, q⟩⟩
        exact ⟨hO.nxt hs r.1.1 r.1.2 c0 c1, hO.nxt hs r.2.1.1 r.2.1.2 c0 c1, (hm (by omega)).2 a b c r.1.1 r.1.2 r.2.1.1 r.2.1.2 r.2.2 c0 c1⟩
      · exact Or.inl ⟨q, (hS a b x0 x1 y0 y1).2.1 q⟩
    · -- on
      refine i_const dX11_tellsApart_74 ?_
      refine i_istore_n dX11_tellsApart_75 (L' := [some _, some _, some _, some _, none, none]) (by decide) rfl ?_
      refine i_const dX11_tellsApart_76 ?_
      refine i_istore dX11_tellsApart_77 (L' := [some _, some _, some _, some _, some _, none]) (by decide) rfl ?_
      refine k_ta_l4 (m0 := wApt (C' 30)) hO hs (fun a2 m2 C2 hC2 hS2 hF2 => ?_) _ 0 0 _ rfl (by omega) (by omega) hC hS (Or.inl ⟨rfl, rfl, fun a' b' c x0 x1 y0 y1 z => by omega⟩)
      refine i_goto (tgt := 70) dX11_tellsApart_150 (by decide) ?_
      refine RW.wk (L' := [some _, some _, some _, some _, none, none]) (p_subL.at (by repeat (first | exact subL_nil | refine subL_s ?_ | refine subL_n ?_))) ?_
      have n1 := @wApt_nn (C2 30)
      rcases hF2 with ⟨f1, f2, f3⟩ | ⟨f1, f2⟩
      · refine ih _ ?_ m2 _ rfl (by omega) hC2 hS2 (fun _ => ⟨f1, fun a' b' c x0 x1 y0 y1 => f3 a' b' c x0 x1 y0 y1 trivial⟩)
        omega
      · refine ih _ ?_ m2 _ rfl (by omega) hC2 hS2 (fun q => by omega)
        omega
theorem k_tellsApart {s : Int} (hO : wOK (C 0)) (hs : s = 0 ∨ s = 1) (hp : ∀ C', sC [30] C C' → (∀ a b, 0 ≤ a → a < C 0 (476 * s + 5) → 0 ≤ b → b < C 0 (476 * s + 5) → (C' 30 (60 * a + b) = 1 ∧ ¬ wEqv (C 0) s a b) ∨ (C' 30 (60 * a + b) = 0 ∧ wEqv (C 0) s a b)) → P (.inl none) (V, C', J)) : RM G mX11_tellsApart (m_I Y h0) [.ref (Y 38), .int (iI s)] (d + 3) 0 0 P (V, C, J) := by
  refine RM.of (L := [some (.ref (Y 38)), some (.int (iI s)), none, none, none, none]) cfX11_tellsApart rfl (Nat.le_of_ble_eq_true rfl) ?_
  refine i_aload_n dX11_tellsApart_0 rfl ?_
  refine i_iload_n dX11_tellsApart_1 rfl ?_
  refine i_const dX11_tellsApart_2 ?_
  refine t_callV (As := [_, _]) dX11_tellsApart_3 cfX11_of imX11_of seX11_of lX11_115 rfl rfl rfl (Nat.le_of_ble_eq_true rfl) ?_
  refine k_of (w := C 0) rfl (by omega) (RK.v ?_)
  refine i_istore_n dX11_tellsApart_6 (L' := [some _, some _, some _, none, none, none]) (by decide) rfl ?_
  refine i_const dX11_tellsApart_7 ?_
  refine i_istore_n dX11_tellsApart_8 (L' := [some _, some _, some _, some _, none, none]) (by decide) rfl ?_
  have b1 := hO.sts hs
  refine k_ta_l2 hO hs (fun a2 C2 hC2 hS2 => ?_) _ 0 _ rfl (by omega) (by omega) sC.rfl (fun a' b' x0 x1 y0 y1 z => by omega)
  refine i_const dX11_tellsApart_68 ?_
  refine i_istore_n dX11_tellsApart_69 (L' := [some _, some _, some _, some _, none, none]) (by decide) rfl ?_
  exact k_ta_l5 hO hs hp _ 1 _ rfl (by omega) hC2 hS2 (fun q => by omega)
end M19
