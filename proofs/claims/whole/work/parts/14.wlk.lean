/-! ===== the reference: copies, leaving walkers, the night, walks ===== -/
/-- sums -/
def zsum (f : Int → Int) : Nat → Int
  | 0 => 0
  | n + 1 => zsum f n + f (n : Int)
theorem zsum_s {f : Int → Int} {k : Int} (h : 0 ≤ k) : zsum f (k + 1).toNat = zsum f k.toNat + f k := by
  rw [show (k + 1).toNat = k.toNat + 1 by omega]
  show zsum f k.toNat + f (k.toNat : Int) = _
  rw [Int.toNat_of_nonneg h]
/-- a pattern is copied into the other slot -/
def wCopy (w : Int → Int) (s : Int) : Int → Int := fun j => if 476 * (1 - s) + 0 ≤ j ∧ j < 476 * (1 - s) + 476 then w (j - 476 * (1 - s) + 476 * s) else w j
/-- a walker leaves -/
def wDrop (w : Int → Int) (p : Int) : Int → Int := fun j => if j = 952 then w 952 - 1 else if 953 + 3 * p ≤ j ∧ j < 953 + 3 * (w 952 - 1) then w (j + 3) else if 953 + 3 * (w 952 - 1) ≤ j ∧ j < 953 + 3 * (w 952 - 1) + 3 then 0 else w j
/-- how many streets are passable -/
def wOpen (w : Int → Int) : Int := zsum (fun c => zb (w (971 + 2 * c + w 983) = 1)) 6
/-- a walk along a word -/
def wWalk (w b : Int → Int) (p : Int) : Nat → Int → Int
  | 0 => w
  | n + 1 => wStep (wWalk w b p n) p (b (n : Int) - 97)
def wCan (w b : Int → Int) (i : Int) : Prop := 0 ≤ b i - 97 ∧ b i - 97 ≤ 5 ∧ w (971 + 2 * (b i - 97) + w 983) = 1
theorem wWalk_s {w b : Int → Int} {p k : Int} (h : 0 ≤ k) : wWalk w b p (k + 1).toNat = wStep (wWalk w b p k.toNat) p (b k - 97) := by
  rw [show (k + 1).toNat = k.toNat + 1 by omega]
  show wStep (wWalk w b p k.toNat) p (b (k.toNat : Int) - 97) = _
  rw [Int.toNat_of_nonneg h]
theorem wWalk_lo {w b : Int → Int} {p : Int} (hp : 0 ≤ p ∧ p < 6) : ∀ (n : Nat) (j : Int), (j < 953 ∨ 971 ≤ j ∧ j ≤ 983) → wWalk w b p n j = w j
  | 0, _, _ => rfl
  | n + 1, j, h => (wStep_lo hp h).trans (wWalk_lo hp n j h)
theorem wWalk_ok {w b : Int → Int} {p : Int} (hO : wOK w) (hp : 0 ≤ p ∧ p < w 952) : ∀ (n : Nat), (∀ i : Int, 0 ≤ i → i < n → wCan w b i) → wOK (wWalk w b p n)
  | 0, _ => hO
  | n + 1, h => by
    have h6 := hO.2.1
    have hc := h n (by omega) (by omega)
    refine wStep_ok (wWalk_ok hO hp n (fun i a c => h i a (by omega))) ?_ ?_
    · rw [wWalk_lo (by omega) n 952 (by omega)]; exact hp
    · unfold wCan at hc; omega
theorem wOK.zn {w : Int → Int} (hO : wOK w) {a : Int} (ha : a = 0 ∨ a = 1) : wOK (zu w 983 a) := by
  have h6 := hO.2.1
  refine ⟨fun s hs => (hO.1 s hs).cg hs (fun j a b => zu_ne (by omega)), ?_, fun k k0 k1 => ?_, fun c' b c0 c1 hb => ?_, ?_⟩
  · rw [zu_ne (by omega)]; exact h6
  · rw [zu_ne (by omega)] at k1
    have q := hO.wk k0 k1
    rw [zu_ne (by omega), zu_ne (by omega), zu_ne (by omega)]
    exact q
  · rw [zu_ne (by omega)]; exact hO.gate c0 c1 hb
  · rw [zu_at]; exact ha
section M14
variable {G : p_G} {Y : Nat → Nat} {h0 : p_H} {P : (Option Value) ⊕ String → m_X → Prop} {d : Nat} {V : Nat → Int} {C : Nat → Int → Int} {J : Int → Int}
theorem k_copy_l {s : Int} (hs : s = 0 ∨ s = 1) (kk : ∀ C', sC [0] C C' → (∀ j, C' 0 j = if 476 * (1 - s) + 0 ≤ j ∧ j < 476 * (1 - s) + 476 then C 0 (j - 476 * (1 - s) + 476 * s) else C 0 j) → RW G mX11_copyPattern (m_I Y h0) P (d + 1) 0 0 54 [some (.ref (Y 38)), some (.int (iI s)), some (.int (iI 476))] [] (V, C', J)) : ∀ (zz : Nat) (k : Int) (C' : Nat → Int → Int), zz = (476 - k).toNat → 0 ≤ k → k ≤ 476 → (sC [0] C C' ∧ ∀ j, C' 0 j = if 476 * (1 - s) + 0 ≤ j ∧ j < 476 * (1 - s) + k then C 0 (j - 476 * (1 - s) + 476 * s) else C 0 j) → RW G mX11_copyPattern (m_I Y h0) P (d + 1) 0 0 27 [some (.ref (Y 38)), some (.int (iI s)), some (.int (iI k))] [] (V, C', J) := by
  intro zz
  induction zz using Nat.strongRecOn with
  | _ zz ih =>
    intro k C' hzz h1 h2 hI
    refine i_iload_n dX11_copyPattern_27 rfl ?_
    refine i_sipush dX11_copyPattern_28 (by decide) ?_
    refine i_icmp_ge (tgt := 54) dX11_copyPattern_31 (by decide) (by omega) (by omega) (fun c31 => ?_) (fun c31 => ?_)
    · -- jumps
      obtain rfl : k = 476 := by omega
      exact kk _ hI.1 hI.2
    · -- on
      refine i_aload_n dX11_copyPattern_34 rfl ?_
      refine i_const dX11_copyPattern_35 ?_
      refine i_iload_n dX11_copyPattern_36 rfl ?_
      refine i_sub dX11_copyPattern_37 ?_
      refine i_iload_n dX11_copyPattern_38 rfl ?_
      refine i_aload_n dX11_copyPattern_39 rfl ?_
      refine i_iload_n dX11_copyPattern_40 rfl ?_
      refine i_iload_n dX11_copyPattern_41 rfl ?_
      refine t_callV (As := [_, _]) dX11_copyPattern_42 cfX11_of imX11_of seX11_of lX11_115 rfl rfl rfl (Nat.le_of_ble_eq_true rfl) ?_
      refine k_of (w := C' 0) rfl (by omega) (RK.v ?_)
      refine t_callV (As := [_, _, _]) dX11_copyPattern_45 cfX11_to imX11_to seX11_to lX11_172 rfl rfl rfl (Nat.le_of_ble_eq_true rfl) ?_
      refine k_to (by omega) (RK.n0 ?_)
      refine i_iinc dX11_copyPattern_48 rfl (L' := [some _, some _, some _]) (by decide) rfl ?_
      refine i_goto (tgt := 27) dX11_copyPattern_51 (by decide) ?_
      refine ih _ ?_ (k + 1) _ rfl (by omega) (by omega) ⟨hI.1.cu (by decide), fun j => ?_⟩
      · omega
      show zu _ _ _ j = _
      unfold zu
      by_cases e : j = 476 * (1 - s) + k
      · rw [if_pos (by omega), if_pos (by omega)]
        exact ((hI.2 (476 * s + k)).trans (if_neg (by omega))).trans (congrArg (C 0) (by omega))
      · rw [if_neg (by omega), hI.2 j]
        exact if_cg (by omega)
theorem k_copyPattern {s : Int} (hO : wOK (C 0)) (h4 : 0 ≤ V 4 ∧ V 4 ≤ 8) (h_s : -2147483648 ≤ s ∧ s < 2147483648)  (hp1 : ¬ (s = 0 ∨ s = 1) → P (.inl (some (.int (iI 0)))) (vu V 12 1, C, J)) (hp0 : s = 0 ∨ s = 1 → ∀ V' C' J', mCh V V' C C' (wRes (wCopy (C 0) s) (1 - s)) (V 7) → P (.inl (some (.int (iI (C 0 (476 * s + 5)))))) (V', C', J')) : RM G mX11_copyPattern (m_I Y h0) [.ref (Y 38), .int (iI s)] (d + 2) 0 0 P (V, C, J) := by
  refine RM.of (L := [some (.ref (Y 38)), some (.int (iI s)), none]) cfX11_copyPattern rfl (Nat.le_of_ble_eq_true rfl) ?_
  refine i_aload_n dX11_copyPattern_0 rfl ?_
  refine i_iload_n dX11_copyPattern_1 rfl ?_
  refine t_callS (As := [_]) dX11_copyPattern_2 cfX11_isSlot stX11_isSlot lX11_112 rfl rfl (Nat.le_of_ble_eq_true rfl) ?_
  refine k_isSlot (by omega) (RK.v ?_)
  refine i_ifne_b (tgt := 12) dX11_copyPattern_5 (by decide) (fun c5 => ?_) (fun c5 => ?_)
  · -- jumps
    refine i_const dX11_copyPattern_12 ?_
    refine t_callV (As := [_]) dX11_copyPattern_13 cfX11_throwsOne imX11_throwsOne seX11_throwsOne lX11_209 rfl rfl rfl (Nat.le_of_ble_eq_true rfl) ?_
    refine k_throwsOne (by first | exact zb_or | omega) (RK.v ?_)
    refine i_if_eq (tgt := 21) dX11_copyPattern_16 (by decide) (by decide) (fun c16 => ?_) (fun c16 => by omega)
    refine i_aload_n dX11_copyPattern_21 rfl ?_
    refine t_callV (As := []) dX11_copyPattern_22 cfX11_begins imX11_begins seX11_begins lX11_216 rfl rfl rfl (Nat.le_of_ble_eq_true rfl) ?_
    refine k_begins (fun C1 hC1 hf1 => RK.n0 ?_)
    have hw1 : C1 0 = C 0 := hC1 0 (by decide)
    refine i_const dX11_copyPattern_25 ?_
    refine i_istore_n dX11_copyPattern_26 (L' := [some _, some _, some _]) (by decide) rfl ?_
    refine k_copy_l (by omega) (fun C2 hC2 hf2 => ?_) _ 0 _ rfl (by omega) (by omega) ⟨sC.rfl, fun j => (if_neg (by omega)).symm⟩
    have e2 : C2 0 = wCopy (C 0) s := by funext j; rw [hf2 j, hw1]; rfl
    have o2 : ∀ j, 952 ≤ j → C2 0 j = C 0 j := fun j hj => by rw [e2]; exact if_neg (by omega)
    refine i_aload_n dX11_copyPattern_54 rfl ?_
    refine i_const dX11_copyPattern_55 ?_
    refine i_iload_n dX11_copyPattern_56 rfl ?_
    refine i_sub dX11_copyPattern_57 ?_
    refine t_callV (As := [_]) dX11_copyPattern_58 cfX11_restarts imX11_restarts seX11_restarts lX11_203 rfl rfl rfl (Nat.le_of_ble_eq_true rfl) ?_
    have rs6 : 0 ≤ C2 0 952 ∧ C2 0 952 ≤ 6 := by rw [o2 952 (by omega)]; exact hO.2.1
    have rsk : ∀ k, 0 ≤ k → k < C2 0 952 → C2 0 (953 + 3 * k + 0) = 0 ∨ C2 0 (953 + 3 * k + 0) = 1 := fun k k0 k1 => by rw [o2 _ (by omega)]; exact (hO.wk k0 (by rw [o2 952 (by omega)] at k1; exact k1)).1
    refine k_restarts (by omega) rs6 rsk (fun C3 hC3 hf3 => RK.n0 ?_)
    refine i_aload_n dX11_copyPattern_61 rfl ?_
    refine t_callV (As := []) dX11_copyPattern_62 cfX11_remember imX11_remember seX11_remember lX11_222 rfl rfl rfl (Nat.le_of_ble_eq_true rfl) ?_
    refine k_remember (w0 := C 0) (fun j a b => (congrFun (hC3 1 (by decide)) j).trans ((fun j a b => (congrFun (hC2 1 (by decide)) j).trans (hf1 j a b)) j a b)) h4 (fun V4 C4 hR4 => RK.n0 ?_)
    refine i_aload_n dX11_copyPattern_65 rfl ?_
    refine i_iload_n dX11_copyPattern_66 rfl ?_
    refine i_const dX11_copyPattern_67 ?_
    refine t_callV (As := [_, _]) dX11_copyPattern_68 cfX11_of imX11_of seX11_of lX11_115 rfl rfl rfl (Nat.le_of_ble_eq_true rfl) ?_
    refine k_of (w := (C3 0)) (hR4.2.1 0 (by decide)) (by omega) (RK.v ?_)
    refine i_ireturn dX11_copyPattern_71 rfl rfl ?_
    have ew : C3 0 = wRes (wCopy (C 0) s) (1 - s) := by funext j; rw [hf3 j, e2]
    have er : C4 0 (476 * s + 5) = C 0 (476 * s + 5) := by
      rw [hR4.2.1 0 (by decide), ew]
      unfold wRes wCopy
      rw [if_neg (by omega), if_neg (by omega)]
    rw [show C3 0 (476 * s + 5) = C 0 (476 * s + 5) from (congrFun (hR4.2.1 0 (by decide)) _).symm.trans er]
    refine hp0 (by omega) _ _ _ (mCh.of hR4 hC1 (sC.t2 hC2 hC3 (by decide) (by decide)) (fun j _ _ => congrFun ew j) (by repeat' (first | exact sV.rfl | refine sV.vu ?_ (by decide))) rfl rfl)
  · -- on
    refine i_const dX11_copyPattern_8 ?_
    refine i_goto (tgt := 13) dX11_copyPattern_9 (by decide) ?_
    refine t_callV (As := [_]) dX11_copyPattern_13 cfX11_throwsOne imX11_throwsOne seX11_throwsOne lX11_209 rfl rfl rfl (Nat.le_of_ble_eq_true rfl) ?_
    refine k_throwsOne (by first | exact zb_or | omega) (RK.v ?_)
    refine i_if_eq (tgt := 21) dX11_copyPattern_16 (by decide) (by decide) (fun c16 => by omega) (fun c16 => ?_)
    refine i_const dX11_copyPattern_19 ?_
    refine i_ireturn dX11_copyPattern_20 rfl rfl ?_
    exact hp1 (by omega)
theorem k_drop_l1 {p x : Int} (hp : 0 ≤ p ∧ p ≤ C 0 952 ∧ C 0 952 ≤ 5) (kk : ∀ C', sC [0] C C' → (∀ j, C' 0 j = if 953 + 3 * p ≤ j ∧ j < 953 + 3 * C 0 952 then C 0 (j + 3) else C 0 j) → RW G mX11_removeWalker (m_I Y h0) P (d) 0 0 91 [some (.ref (Y 38)), some (.int (iI p)), some (.int (iI x)), some (.int (iI (953 + 3 * C 0 952)))] [] (V, C', J)) : ∀ (zz : Nat) (k : Int) (C' : Nat → Int → Int), zz = (953 + 3 * C 0 952 - k).toNat → (953 + 3 * p ≤ k) → (k ≤ 953 + 3 * C 0 952) → (sC [0] C C' ∧ ∀ j, C' 0 j = if 953 + 3 * p ≤ j ∧ j < k then C 0 (j + 3) else C 0 j) → RW G mX11_removeWalker (m_I Y h0) P (d) 0 0 53 [some (.ref (Y 38)), some (.int (iI p)), some (.int (iI x)), some (.int (iI k))] [] (V, C', J) := by
  intro zz
  induction zz using Nat.strongRecOn with
  | _ zz ih =>
    intro k C' hzz h1 h2 hI
    have q9 : C' 0 952 = C 0 952 := (hI.2 952).trans (if_neg (by omega))
    refine i_iload_n dX11_removeWalker_53 rfl ?_
    refine i_sipush dX11_removeWalker_54 (by decide) ?_
    refine i_const dX11_removeWalker_57 ?_
    refine i_aload_n dX11_removeWalker_58 rfl ?_
    refine t_getA dX11_removeWalker_59 fX11_7.o rfl ?_
    refine i_sipush dX11_removeWalker_62 (by decide) ?_
    refine t_iald (N := 985) (v := (C' 0) 952) dX11_removeWalker_65 (by decide) (by decide) rfl (by omega) rfl ?_
    refine i_mul dX11_removeWalker_66 ?_
    refine i_add dX11_removeWalker_67 ?_
    refine i_icmp_ge (tgt := 91) dX11_removeWalker_68 (by decide) (by omega) (by omega) (fun c68 => ?_) (fun c68 => ?_)
    · -- jumps
      obtain rfl : k = 953 + 3 * C 0 952 := by omega
      exact kk _ hI.1 hI.2
    · -- on
      refine i_aload_n dX11_removeWalker_71 rfl ?_
      refine t_getA dX11_removeWalker_72 fX11_7.o rfl ?_
      refine i_iload_n dX11_removeWalker_75 rfl ?_
      refine i_aload_n dX11_removeWalker_76 rfl ?_
      refine t_getA dX11_removeWalker_77 fX11_7.o rfl ?_
      refine i_iload_n dX11_removeWalker_80 rfl ?_
      refine i_const dX11_removeWalker_81 ?_
      refine i_add dX11_removeWalker_82 ?_
      refine t_iald (N := 985) (v := (C' 0) (k + 3)) dX11_removeWalker_83 (by decide) (by decide) rfl (by omega) rfl ?_
      refine t_iast (N := 985) dX11_removeWalker_84 (by decide) (by decide) rfl (by omega) ?_
      refine i_iinc dX11_removeWalker_85 rfl (L' := [some _, some _, some _, some _]) (by decide) rfl ?_
      refine i_goto (tgt := 53) dX11_removeWalker_88 (by decide) ?_
      refine ih _ ?_ (k + 1) _ rfl (by omega) (by omega) ⟨hI.1.cu (by decide), fun j => ?_⟩
      · omega
      show zu _ _ _ j = _
      unfold zu
      by_cases e : j = k
      · rw [if_pos e, if_pos (by omega), hI.2, if_neg (by omega), e]
      · rw [if_neg e, hI.2 j]; exact if_cg (by omega)
theorem k_drop_l2 {p x : Int} (hp : 0 ≤ C 0 952 ∧ C 0 952 ≤ 5) (kk : ∀ C', sC [0] C C' → (∀ j, C' 0 j = if 953 + 3 * C 0 952 + 0 ≤ j ∧ j < 953 + 3 * C 0 952 + 3 then 0 else C 0 j) → RW G mX11_removeWalker (m_I Y h0) P (d) 0 0 126 [some (.ref (Y 38)), some (.int (iI p)), some (.int (iI x)), some (.int (iI 3))] [] (V, C', J)) : ∀ (zz : Nat) (k : Int) (C' : Nat → Int → Int), zz = (3 - k).toNat → 0 ≤ k → k ≤ 3 → (sC [0] C C' ∧ ∀ j, C' 0 j = if 953 + 3 * C 0 952 + 0 ≤ j ∧ j < 953 + 3 * C 0 952 + k then 0 else C 0 j) → RW G mX11_removeWalker (m_I Y h0) P (d) 0 0 93 [some (.ref (Y 38)), some (.int (iI p)), some (.int (iI x)), some (.int (iI k))] [] (V, C', J) := by
  intro zz
  induction zz using Nat.strongRecOn with
  | _ zz ih =>
    intro k C' hzz h1 h2 hI
    have q9 : C' 0 952 = C 0 952 := (hI.2 952).trans (if_neg (by omega))
    refine i_iload_n dX11_removeWalker_93 rfl ?_
    refine i_const dX11_removeWalker_94 ?_
    refine i_icmp_ge (tgt := 126) dX11_removeWalker_95 (by decide) (by omega) (by omega) (fun c95 => ?_) (fun c95 => ?_)
    · -- jumps
      obtain rfl : k = 3 := by omega
      exact kk _ hI.1 hI.2
    · -- on
      refine i_aload_n dX11_removeWalker_98 rfl ?_
      refine t_getA dX11_removeWalker_99 fX11_7.o rfl ?_
      refine i_sipush dX11_removeWalker_102 (by decide) ?_
      refine i_const dX11_removeWalker_105 ?_
      refine i_aload_n dX11_removeWalker_106 rfl ?_
      refine t_getA dX11_removeWalker_107 fX11_7.o rfl ?_
      refine i_sipush dX11_removeWalker_110 (by decide) ?_
      refine t_iald (N := 985) (v := (C' 0) 952) dX11_removeWalker_113 (by decide) (by decide) rfl (by omega) rfl ?_
      refine i_mul dX11_removeWalker_114 ?_
      refine i_add dX11_removeWalker_115 ?_
      refine i_iload_n dX11_removeWalker_116 rfl ?_
      refine i_add dX11_removeWalker_117 ?_
      refine i_const dX11_removeWalker_118 ?_
      refine t_iast (N := 985) dX11_removeWalker_119 (by decide) (by decide) rfl (by omega) ?_
      refine i_iinc dX11_removeWalker_120 rfl (L' := [some _, some _, some _, some _]) (by decide) rfl ?_
      refine i_goto (tgt := 93) dX11_removeWalker_123 (by decide) ?_
      refine ih _ ?_ (k + 1) _ rfl (by omega) (by omega) ⟨hI.1.cu (by decide), fun j => ?_⟩
      · omega
      show zu _ _ _ j = _
      unfold zu
      by_cases e : j = 953 + 3 * C 0 952 + k
      · rw [if_pos (by omega), if_pos (by omega)]
      · rw [if_neg (by omega), hI.2 j]
        exact if_cg (by omega)
theorem k_removeWalker {p : Int} (hO : wOK (C 0)) (h4 : 0 ≤ V 4 ∧ V 4 ≤ 8) (h_p : -2147483648 ≤ p ∧ p < 2147483648)  (hp1 : ¬ (0 ≤ p ∧ p < C 0 952) → P (.inl (some (.int (iI 0)))) (vu V 12 1, C, J)) (hp0 : 0 ≤ p ∧ p < C 0 952 → ∀ V' C' J', mCh V V' C C' (wDrop (C 0) p) (V 7) → P (.inl (some (.int (iI (C 0 (953 + 3 * p + 2)))))) (V', C', J')) : RM G mX11_removeWalker (m_I Y h0) [.ref (Y 38), .int (iI p)] (d + 2) 0 0 P (V, C, J) := by
  refine RM.of (L := [some (.ref (Y 38)), some (.int (iI p)), none, none]) cfX11_removeWalker rfl (Nat.le_of_ble_eq_true rfl) ?_
  have b1 := hO.2.1
  refine i_aload_n dX11_removeWalker_0 rfl ?_
  refine i_aload_n dX11_removeWalker_1 rfl ?_
  refine i_iload_n dX11_removeWalker_2 rfl ?_
  refine t_callV (As := [_]) dX11_removeWalker_3 cfX11_isWalker imX11_isWalker seX11_isWalker lX11_228 rfl rfl rfl (Nat.le_of_ble_eq_true rfl) ?_
  refine k_isWalker (w := C 0) rfl (by omega) hO (RK.v ?_)
  refine i_ifne_b (tgt := 13) dX11_removeWalker_6 (by decide) (fun c6 => ?_) (fun c6 => ?_)
  · -- jumps
    refine i_const dX11_removeWalker_13 ?_
    refine t_callV (As := [_]) dX11_removeWalker_14 cfX11_throwsOne imX11_throwsOne seX11_throwsOne lX11_209 rfl rfl rfl (Nat.le_of_ble_eq_true rfl) ?_
    refine k_throwsOne (by first | exact zb_or | omega) (RK.v ?_)
    refine i_if_eq (tgt := 22) dX11_removeWalker_17 (by decide) (by decide) (fun c17 => ?_) (fun c17 => by omega)
    refine i_aload_n dX11_removeWalker_22 rfl ?_
    refine t_callV (As := []) dX11_removeWalker_23 cfX11_begins imX11_begins seX11_begins lX11_216 rfl rfl rfl (Nat.le_of_ble_eq_true rfl) ?_
    refine k_begins (fun C1 hC1 hf1 => RK.n0 ?_)
    have hw1 : C1 0 = C 0 := hC1 0 (by decide)
    refine i_aload_n dX11_removeWalker_26 rfl ?_
    refine i_iload_n dX11_removeWalker_27 rfl ?_
    refine i_const dX11_removeWalker_28 ?_
    refine t_callV (As := [_, _]) dX11_removeWalker_29 cfX11_walkerOf imX11_walkerOf seX11_walkerOf lX11_190 rfl rfl rfl (Nat.le_of_ble_eq_true rfl) ?_
    refine k_walkerOf (w := C 0) hw1 (by omega) (by omega) (RK.v ?_)
    refine i_istore_n dX11_removeWalker_32 (L' := [some _, some _, some _, none]) (by decide) rfl ?_
    refine i_aload_n dX11_removeWalker_33 rfl ?_
    refine t_getA dX11_removeWalker_34 fX11_7.o rfl ?_
    refine i_sipush dX11_removeWalker_37 (by decide) ?_
    refine i_dup2 dX11_removeWalker_40 rfl rfl ?_
    refine t_iald (N := 985) (v := C 0 952) dX11_removeWalker_41 (by decide) (by decide) rfl (by omega) (congrFun hw1 _) ?_
    refine i_const dX11_removeWalker_42 ?_
    refine i_sub dX11_removeWalker_43 ?_
    refine t_iast (N := 985) dX11_removeWalker_44 (by decide) (by decide) rfl (by omega) ?_
    refine i_sipush dX11_removeWalker_45 (by decide) ?_
    refine i_const dX11_removeWalker_48 ?_
    refine i_iload_n dX11_removeWalker_49 rfl ?_
    refine i_mul dX11_removeWalker_50 ?_
    refine i_add dX11_removeWalker_51 ?_
    refine i_istore_n dX11_removeWalker_52 (L' := [some _, some _, some _, some _]) (by decide) rfl ?_
    refine RW.gen (fun V2 hV2 C2 hC2 J2 hJ2 => ?_)
    have sv2 : sV [12] V V2 := by rw [hV2]; repeat' (first | exact sV.rfl | refine sV.vu ?_ (by decide))
    have v2_12 : V2 12 = 0 := by rw [hV2]; rfl
    have sc2 : sC [0] (C1) C2 := by rw [hC2]; repeat' (first | exact sC.rfl | refine sC.cu ?_ (by decide))
    have c2_0 : C2 0 = zu (C1 0) 952 (C 0 952 - 1) := by rw [hC2]; rfl
    subst hJ2
    clear hV2 hC2
    rw [hw1] at c2_0
    have d0 : C2 0 952 = C 0 952 - 1 := by rw [c2_0, zu_at]
    refine k_drop_l1 (by omega) (fun C3 hC3 hf3 => ?_) _ (953 + 3 * p) _ rfl (by omega) (by omega) ⟨sC.rfl, fun j => (if_neg (by omega)).symm⟩
    have d1 : C3 0 952 = C 0 952 - 1 := by rw [hf3, if_neg (by omega), d0]
    have h42 : 0 ≤ V2 4 ∧ V2 4 ≤ 8 := by rw [sv2 4 (by decide)]; exact h4
    refine i_const dX11_removeWalker_91 ?_
    refine i_istore_n dX11_removeWalker_92 (L' := [some _, some _, some _, some _]) (by decide) rfl ?_
    refine k_drop_l2 (by omega) (fun C4 hC4 hf4 => ?_) _ 0 _ rfl (by omega) (by omega) ⟨sC.rfl, fun j => (if_neg (by omega)).symm⟩
    refine i_aload_n dX11_removeWalker_126 rfl ?_
    refine t_callV (As := []) dX11_removeWalker_127 cfX11_remember imX11_remember seX11_remember lX11_222 rfl rfl rfl (Nat.le_of_ble_eq_true rfl) ?_
    refine k_remember (w0 := C 0) (fun j a b => (congrFun (hC4 1 (by decide)) j).trans ((fun j a b => (congrFun (hC3 1 (by decide)) j).trans ((congrFun (sc2 1 (by decide)) j).trans (hf1 j a b))) j a b)) h42 (fun V5 C5 hR5 => RK.n0 ?_)
    refine i_iload_n dX11_removeWalker_130 rfl ?_
    refine i_ireturn dX11_removeWalker_131 rfl rfl ?_
    have sc : sC [0] C1 C4 := (sC.t2 (U := [0]) (sC.t2 (U := [0]) sc2 hC3 (by decide) (by decide)) hC4 (by decide) (by decide))
    refine hp0 (by omega) _ _ _ (mCh.of hR5 hC1 (sC.t2 sc sC.rfl (T := []) (by decide) (by decide)) (fun j _ _ => ?_) (sV.t2 sv2 sV.rfl (T := []) (by decide) (by decide)) (sv2 7 (by decide)) v2_12)
    have e2 : ∀ j, C2 0 j = if j = 952 then C 0 952 - 1 else C 0 j := fun j => by rw [c2_0]; rfl
    rw [hf4 j, d1]
    unfold wDrop
    by_cases q1 : j = 952
    · rw [if_neg (by omega), hf3, if_neg (by omega), e2]; simp only [if_pos q1]
    rw [if_neg q1]
    by_cases q2 : 953 + 3 * p ≤ j ∧ j < 953 + 3 * (C 0 952 - 1)
    · rw [if_pos q2, if_neg (by omega), hf3, if_pos (by omega), e2, if_neg (by omega)]
    rw [if_neg q2]
    by_cases q3 : 953 + 3 * (C 0 952 - 1) ≤ j ∧ j < 953 + 3 * (C 0 952 - 1) + 3
    · rw [if_pos q3, if_pos (by omega)]
    · rw [if_neg q3, if_neg (by omega), hf3, if_neg (by omega), e2, if_neg q1]
  · -- on
    refine i_const dX11_removeWalker_9 ?_
    refine i_goto (tgt := 14) dX11_removeWalker_10 (by decide) ?_
    refine t_callV (As := [_]) dX11_removeWalker_14 cfX11_throwsOne imX11_throwsOne seX11_throwsOne lX11_209 rfl rfl rfl (Nat.le_of_ble_eq_true rfl) ?_
    refine k_throwsOne (by first | exact zb_or | omega) (RK.v ?_)
    refine i_if_eq (tgt := 22) dX11_removeWalker_17 (by decide) (by decide) (fun c17 => by omega) (fun c17 => ?_)
    refine i_const dX11_removeWalker_20 ?_
    refine i_ireturn dX11_removeWalker_21 rfl rfl ?_
    exact hp1 (by omega)
end M14
