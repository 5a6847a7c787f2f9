/-! ===== the reference: walkers ===== -/
/-- one step of a walker -/
def wStep (w : Int → Int) (p c : Int) : Int → Int := zu (zu (zu w (953 + 3 * p + 1) (w (476 * w (953 + 3 * p + 0) + (116 + 6 * w (953 + 3 * p + 1) + c)))) (953 + 3 * p + 2) (w (953 + 3 * p + 2) + 1)) 984 (w 984 + 1)
theorem wP.cg {w w' : Int → Int} {s : Int} (hs : s = 0 ∨ s = 1) (h : ∀ j, 0 ≤ j → j < 952 → w' j = w j) (hw : wP w s) : wP w' s := by
  obtain ⟨a1, a2, a3, a4, a5, a6⟩ := hw
  refine ⟨?_, ?_, fun k k0 k1 => ?_, ?_, fun p p0 p1 => ?_, fun t c t0 t1 c0 c1 => ?_⟩
  · rw [h _ (by omega) (by omega)]; exact a1
  · rw [h _ (by omega) (by omega)]; exact a2
  · rw [h _ (by omega) (by omega)]; exact a3 k k0 k1
  · rw [h _ (by omega) (by omega)]; exact a4
  · rw [h _ (by omega) (by omega)]; exact a5 p p0 p1
  · rw [h (476 * s + 5) (by omega) (by omega)] at t1 ⊢
    rw [h _ (by omega) (by omega)]; exact a6 t c t0 t1 c0 c1
theorem wStep_lo {w : Int → Int} {p c j : Int} (hp : 0 ≤ p ∧ p < 6) (h : j < 953 ∨ 971 ≤ j ∧ j ≤ 983) : wStep w p c j = w j := by
  unfold wStep
  rw [zu_ne (by omega), zu_ne (by omega), zu_ne (by omega)]
theorem wStep_ok {w : Int → Int} {p c : Int} (hO : wOK w) (hp : 0 ≤ p ∧ p < w 952) (hc : 0 ≤ c ∧ c < 6) : wOK (wStep w p c) := by
  have h6 := hO.2.1
  have lo : ∀ j, j < 953 ∨ 971 ≤ j ∧ j ≤ 983 → wStep w p c j = w j := fun j hj => wStep_lo (by omega) hj
  refine ⟨fun s hs => (hO.1 s hs).cg hs (fun j a b => lo j (Or.inl (by omega))), ?_, fun k k0 k1 => ?_, fun c' b c0 c1 hb => ?_, ?_⟩
  · rw [lo 952 (by omega)]; exact h6
  · rw [lo 952 (by omega)] at k1
    have q := hO.wk k0 k1
    have e0 : wStep w p c (953 + 3 * k + 0) = w (953 + 3 * k + 0) := by
      unfold wStep
      rw [zu_ne (by omega), zu_ne (by omega), zu_ne (by omega)]
    rw [e0]
    have hs := hO.sts q.1
    rw [lo (476 * w (953 + 3 * k + 0) + 5) (Or.inl (by omega))]
    refine ⟨q.1, ?_⟩
    by_cases e : k = p
    · subst e
      have e1 : wStep w k c (953 + 3 * k + 1) = w (476 * w (953 + 3 * k + 0) + (116 + 6 * w (953 + 3 * k + 1) + c)) := by
        unfold wStep
        rw [zu_ne (by omega), zu_ne (by omega), zu_at]
      rw [e1]
      exact hO.nxt q.1 q.2.1 q.2.2 hc.1 hc.2
    · have e1 : wStep w p c (953 + 3 * k + 1) = w (953 + 3 * k + 1) := by
        unfold wStep
        rw [zu_ne (by omega), zu_ne (by omega), zu_ne (by omega)]
      rw [e1]
      exact q.2
  · rw [lo _ (Or.inr (by omega))]
    exact hO.gate c0 c1 hb
  · rw [lo _ (Or.inr (by omega))]
    exact hO.nght
section M13
variable {G : p_G} {Y : Nat → Nat} {h0 : p_H} {P : (Option Value) ⊕ String → m_X → Prop} {d : Nat} {V : Nat → Int} {C : Nat → Int → Int} {J : Int → Int}
theorem k_steps {p c : Int} (hO : wOK (C 0)) (hp0 : 0 ≤ p ∧ p < C 0 952) (hc : 0 ≤ c ∧ c < 6) (hp : ∀ C', sC [0] C C' → C' 0 = wStep (C 0) p c → P (.inl (some (.int (iI (C 0 (476 * C 0 (953 + 3 * p + 0) + (116 + 6 * C 0 (953 + 3 * p + 1) + c))))))) (V, C', J)) : RM G mX11_steps (m_I Y h0) [.ref (Y 38), .int (iI p), .int (iI c)] (d + 2) 0 0 P (V, C, J) := by
  refine RM.of (L := [some (.ref (Y 38)), some (.int (iI p)), some (.int (iI c)), none]) cfX11_steps rfl (Nat.le_of_ble_eq_true rfl) ?_
  have b1 := hO.2.1
  have b2 := hO.wk hp0.1 hp0.2
  have b3 := hO.sts b2.1
  refine i_aload_n dX11_steps_0 rfl ?_
  refine i_aload_n dX11_steps_1 rfl ?_
  refine i_iload_n dX11_steps_2 rfl ?_
  refine i_const dX11_steps_3 ?_
  refine t_callV (As := [_, _]) dX11_steps_4 cfX11_walkerOf imX11_walkerOf seX11_walkerOf lX11_190 rfl rfl rfl (Nat.le_of_ble_eq_true rfl) ?_
  refine k_walkerOf (w := C 0) rfl (by omega) (by omega) (RK.v ?_)
  refine i_aload_n dX11_steps_7 rfl ?_
  refine i_iload_n dX11_steps_8 rfl ?_
  refine i_const dX11_steps_9 ?_
  refine t_callV (As := [_, _]) dX11_steps_10 cfX11_walkerOf imX11_walkerOf seX11_walkerOf lX11_190 rfl rfl rfl (Nat.le_of_ble_eq_true rfl) ?_
  refine k_walkerOf (w := C 0) rfl (by omega) (by omega) (RK.v ?_)
  refine i_iload_n dX11_steps_13 rfl ?_
  refine t_callV (As := [_, _, _]) dX11_steps_14 cfX11_goes imX11_goes seX11_goes lX11_231 rfl rfl rfl (Nat.le_of_ble_eq_true rfl) ?_
  refine k_goes (w := C 0) rfl (by omega) (by omega) (by omega) (RK.v ?_)
  refine i_istore_n dX11_steps_17 (L' := [some _, some _, some _, some _]) (by decide) rfl ?_
  refine i_aload_n dX11_steps_18 rfl ?_
  refine t_getA dX11_steps_19 fX11_7.o rfl ?_
  refine i_sipush dX11_steps_22 (by decide) ?_
  refine i_const dX11_steps_25 ?_
  refine i_iload_n dX11_steps_26 rfl ?_
  refine i_mul dX11_steps_27 ?_
  refine i_add dX11_steps_28 ?_
  refine i_const dX11_steps_29 ?_
  refine i_add dX11_steps_30 ?_
  refine i_iload_n dX11_steps_31 rfl ?_
  refine t_iast (N := 985) dX11_steps_32 (by decide) (by decide) rfl (by omega) ?_
  refine i_aload_n dX11_steps_33 rfl ?_
  refine t_getA dX11_steps_34 fX11_7.o rfl ?_
  refine i_sipush dX11_steps_37 (by decide) ?_
  refine i_const dX11_steps_40 ?_
  refine i_iload_n dX11_steps_41 rfl ?_
  refine i_mul dX11_steps_42 ?_
  refine i_add dX11_steps_43 ?_
  refine i_const dX11_steps_44 ?_
  refine i_add dX11_steps_45 ?_
  refine i_dup2 dX11_steps_46 rfl rfl ?_
  refine t_iald (N := 985) (v := (zu (C 0) (953 + 3 * p + 1) (C 0 (476 * (C 0 (953 + 3 * p + 0)) + (116 + 6 * (C 0 (953 + 3 * p + 1)) + c)))) (953 + 3 * p + 2)) dX11_steps_47 (by decide) (by decide) rfl (by omega) rfl ?_
  refine i_const dX11_steps_48 ?_
  refine i_add dX11_steps_49 ?_
  refine t_iast2 (N := 985) dX11_steps_50 (by decide) (by decide) rfl (by omega) ?_
  refine i_aload_n dX11_steps_51 rfl ?_
  refine t_getA dX11_steps_52 fX11_7.o rfl ?_
  refine i_sipush dX11_steps_55 (by decide) ?_
  refine i_dup2 dX11_steps_58 rfl rfl ?_
  refine t_iald (N := 985) (v := (zu (zu (C 0) (953 + 3 * p + 1) (C 0 (476 * (C 0 (953 + 3 * p + 0)) + (116 + 6 * (C 0 (953 + 3 * p + 1)) + c)))) (953 + 3 * p + 2) ((zu (C 0) (953 + 3 * p + 1) (C 0 (476 * (C 0 (953 + 3 * p + 0)) + (116 + 6 * (C 0 (953 + 3 * p + 1)) + c)))) (953 + 3 * p + 2) + 1)) 984) dX11_steps_59 (by decide) (by decide) rfl (by omega) rfl ?_
  refine i_const dX11_steps_60 ?_
  refine i_add dX11_steps_61 ?_
  refine t_iast2 (N := 985) dX11_steps_62 (by decide) (by decide) rfl (by omega) ?_
  refine i_iload_n dX11_steps_63 rfl ?_
  refine i_ireturn dX11_steps_64 rfl rfl ?_
  refine hp _ (sC.rfl.cu (by decide)) ?_
  show zu (zu (zu (C 0) (953 + 3 * p + 1) (C 0 (476 * (C 0 (953 + 3 * p + 0)) + (116 + 6 * (C 0 (953 + 3 * p + 1)) + c)))) (953 + 3 * p + 2) ((zu (C 0) (953 + 3 * p + 1) (C 0 (476 * (C 0 (953 + 3 * p + 0)) + (116 + 6 * (C 0 (953 + 3 * p + 1)) + c)))) (953 + 3 * p + 2) + 1)) 984 ((zu (zu (C 0) (953 + 3 * p + 1) (C 0 (476 * (C 0 (953 + 3 * p + 0)) + (116 + 6 * (C 0 (953 + 3 * p + 1)) + c)))) (953 + 3 * p + 2) ((zu (C 0) (953 + 3 * p + 1) (C 0 (476 * (C 0 (953 + 3 * p + 0)) + (116 + 6 * (C 0 (953 + 3 * p + 1)) + c)))) (953 + 3 * p + 2) + 1)) 984 + 1) = wStep (C 0) p c
  unfold wStep
  rw [zu_ne (show 953 + 3 * p + 2 ≠ 953 + 3 * p + 1 by omega)]
  congr 1
  rw [zu_ne (by omega), zu_ne (by omega)]
theorem k_step {p c : Int} (hO : wOK (C 0)) (h4 : 0 ≤ V 4 ∧ V 4 ≤ 8) (h_p : -2147483648 ≤ p ∧ p < 2147483648) (h_c : -2147483648 ≤ c ∧ c < 2147483648)  (hp1 : ¬ ((0 ≤ p ∧ p < C 0 952) ∧ 0 ≤ c ∧ c ≤ 5) → P (.inl (some (.int (iI 0)))) (vu V 12 1, C, J)) (hp2 : ((0 ≤ p ∧ p < C 0 952) ∧ 0 ≤ c ∧ c ≤ 5) ∧ ¬ C 0 (971 + 2 * c + C 0 983) = 1 → P (.inl (some (.int (iI 0)))) (vu V 12 2, C, J)) (hp0 : (0 ≤ p ∧ p < C 0 952) ∧ (0 ≤ c ∧ c ≤ 5) ∧ C 0 (971 + 2 * c + C 0 983) = 1 → ∀ V' C' J', mCh V V' C C' (wStep (C 0) p c) (V 7) → P (.inl (some (.int (iI (C 0 (476 * C 0 (953 + 3 * p + 0) + (116 + 6 * C 0 (953 + 3 * p + 1) + c))))))) (V', C', J')) : RM G mX11_step (m_I Y h0) [.ref (Y 38), .int (iI p), .int (iI c)] (d + 3) 0 0 P (V, C, J) := by
  refine RM.of (L := [some (.ref (Y 38)), some (.int (iI p)), some (.int (iI c)), none, none]) cfX11_step rfl (Nat.le_of_ble_eq_true rfl) ?_
  refine i_aload_n dX11_step_0 rfl ?_
  refine i_iload_n dX11_step_1 rfl ?_
  refine t_callV (As := [_]) dX11_step_2 cfX11_isWalker imX11_isWalker seX11_isWalker lX11_228 rfl rfl rfl (Nat.le_of_ble_eq_true rfl) ?_
  refine k_isWalker (w := C 0) rfl (by omega) hO (RK.v ?_)
  refine i_ifeq_b (tgt := 19) dX11_step_5 (by decide) (fun c5 => ?_) (fun c5 => ?_)
  · -- jumps
    refine i_const dX11_step_19 ?_
    refine i_istore_n dX11_step_20 (L' := [some _, some _, some _, some _, none]) (by decide) rfl ?_
    refine i_aload_n dX11_step_21 rfl ?_
    refine i_iload_n dX11_step_22 rfl ?_
    refine i_if_ne (tgt := 30) dX11_step_23 (by decide) (by decide) (fun c23 => by omega) (fun c23 => ?_)
    refine i_const dX11_step_26 ?_
    refine i_goto (tgt := 31) dX11_step_27 (by decide) ?_
    refine i_iload_n dX11_step_31 rfl ?_
    refine i_if_eq (tgt := 47) dX11_step_32 (by decide) (by decide) (fun c32 => ?_) (fun c32 => by omega)
    refine i_const dX11_step_47 ?_
    refine t_callV (As := [_, _]) dX11_step_48 cfX11_throwsOne_ imX11_throwsOne_ seX11_throwsOne_ lX11_225 rfl rfl rfl (Nat.le_of_ble_eq_true rfl) ?_
    refine k_throwsOne_ (by omega) (by omega) (fun _ => RK.v ?_) (fun z => absurd z (by decide)) (fun z => absurd z (by decide))
    refine i_if_eq (tgt := 56) dX11_step_51 (by decide) (by decide) (fun c51 => by omega) (fun c51 => ?_)
    refine i_const dX11_step_54 ?_
    refine i_ireturn dX11_step_55 rfl rfl ?_
    exact hp1 (by omega)
  · -- on
    refine i_iload_n dX11_step_8 rfl ?_
    refine t_callS (As := [_]) dX11_step_9 cfX11_isStreet stX11_isStreet lX11_234 rfl rfl (Nat.le_of_ble_eq_true rfl) ?_
    refine k_isStreet (by omega) (RK.v ?_)
    refine i_ifeq_b (tgt := 19) dX11_step_12 (by decide) (fun c12 => ?_) (fun c12 => ?_)
    · -- jumps
      refine i_const dX11_step_19 ?_
      refine i_istore_n dX11_step_20 (L' := [some _, some _, some _, some _, none]) (by decide) rfl ?_
      refine i_aload_n dX11_step_21 rfl ?_
      refine i_iload_n dX11_step_22 rfl ?_
      refine i_if_ne (tgt := 30) dX11_step_23 (by decide) (by decide) (fun c23 => by omega) (fun c23 => ?_)
      refine i_const dX11_step_26 ?_
      refine i_goto (tgt := 31) dX11_step_27 (by decide) ?_
      refine i_iload_n dX11_step_31 rfl ?_
      refine i_if_eq (tgt := 47) dX11_step_32 (by decide) (by decide) (fun c32 => ?_) (fun c32 => by omega)
      refine i_const dX11_step_47 ?_
      refine t_callV (As := [_, _]) dX11_step_48 cfX11_throwsOne_ imX11_throwsOne_ seX11_throwsOne_ lX11_225 rfl rfl rfl (Nat.le_of_ble_eq_true rfl) ?_
      refine k_throwsOne_ (by omega) (by omega) (fun _ => RK.v ?_) (fun z => absurd z (by decide)) (fun z => absurd z (by decide))
      refine i_if_eq (tgt := 56) dX11_step_51 (by decide) (by decide) (fun c51 => by omega) (fun c51 => ?_)
      refine i_const dX11_step_54 ?_
      refine i_ireturn dX11_step_55 rfl rfl ?_
      exact hp1 (by omega)
    · -- on
      refine i_const dX11_step_15 ?_
      refine i_goto (tgt := 20) dX11_step_16 (by decide) ?_
      refine i_istore_n dX11_step_20 (L' := [some _, some _, some _, some _, none]) (by decide) rfl ?_
      refine i_aload_n dX11_step_21 rfl ?_
      refine i_iload_n dX11_step_22 rfl ?_
      refine i_if_ne (tgt := 30) dX11_step_23 (by decide) (by decide) (fun c23 => ?_) (fun c23 => by omega)
      refine i_const dX11_step_30 ?_
      refine i_iload_n dX11_step_31 rfl ?_
      refine i_if_eq (tgt := 47) dX11_step_32 (by decide) (by decide) (fun c32 => by omega) (fun c32 => ?_)
      refine i_aload_n dX11_step_35 rfl ?_
      refine i_iload_n dX11_step_36 rfl ?_
      refine t_callV (As := [_]) dX11_step_37 cfX11_passes imX11_passes seX11_passes lX11_237 rfl rfl rfl (Nat.le_of_ble_eq_true rfl) ?_
      refine k_passes (w := C 0) rfl (by omega) hO (RK.v ?_)
      refine i_ifne_b (tgt := 47) dX11_step_40 (by decide) (fun c40 => ?_) (fun c40 => ?_)
      · -- jumps
        refine i_const dX11_step_47 ?_
        refine t_callV (As := [_, _]) dX11_step_48 cfX11_throwsOne_ imX11_throwsOne_ seX11_throwsOne_ lX11_225 rfl rfl rfl (Nat.le_of_ble_eq_true rfl) ?_
        refine k_throwsOne_ (by omega) (by omega) (fun z => absurd z (by decide)) (fun _ z => absurd z (by decide)) (fun _ _ => RK.v ?_)
        refine i_if_eq (tgt := 56) dX11_step_51 (by decide) (by decide) (fun c51 => ?_) (fun c51 => by omega)
        refine i_aload_n dX11_step_56 rfl ?_
        refine t_callV (As := []) dX11_step_57 cfX11_begins imX11_begins seX11_begins lX11_216 rfl rfl rfl (Nat.le_of_ble_eq_true rfl) ?_
        refine k_begins (fun C1 hC1 hf1 => RK.n0 ?_)
        have hw1 : C1 0 = C 0 := hC1 0 (by decide)
        refine i_aload_n dX11_step_60 rfl ?_
        refine i_iload_n dX11_step_61 rfl ?_
        refine i_iload_n dX11_step_62 rfl ?_
        refine t_callV (As := [_, _]) dX11_step_63 cfX11_steps imX11_steps seX11_steps lX11_240 rfl rfl rfl (Nat.le_of_ble_eq_true rfl) ?_
        refine k_steps (by rw [hw1]; exact hO) (by rw [hw1]; omega) (by omega) (fun C2 hC2 hg2 => RK.v ?_)
        rw [hw1] at hg2
        refine RW.ti (y := C 0 (476 * C 0 (953 + 3 * p + 0) + (116 + 6 * C 0 (953 + 3 * p + 1) + c))) (by rw [hw1]) ?_
        refine i_istore dX11_step_66 (L' := [some _, some _, some _, some _, some _]) (by decide) rfl ?_
        refine i_aload_n dX11_step_68 rfl ?_
        refine t_callV (As := []) dX11_step_69 cfX11_remember imX11_remember seX11_remember lX11_222 rfl rfl rfl (Nat.le_of_ble_eq_true rfl) ?_
        refine k_remember (w0 := C 0) (fun j a b => (congrFun (hC2 1 (by decide)) j).trans (hf1 j a b)) h4 (fun V3 C3 hR3 => RK.n0 ?_)
        refine i_iload dX11_step_72 rfl ?_
        refine i_ireturn dX11_step_74 rfl rfl ?_
        refine hp0 ⟨by omega, by omega, by omega⟩ _ _ _ (mCh.of hR3 hC1 (sC.t2 hC2 sC.rfl (T := []) (by decide) (by decide)) (fun j _ _ => congrFun hg2 j) (by repeat' (first | exact sV.rfl | refine sV.vu ?_ (by decide))) rfl rfl)
      · -- on
        refine i_const dX11_step_43 ?_
        refine i_goto (tgt := 48) dX11_step_44 (by decide) ?_
        refine t_callV (As := [_, _]) dX11_step_48 cfX11_throwsOne_ imX11_throwsOne_ seX11_throwsOne_ lX11_225 rfl rfl rfl (Nat.le_of_ble_eq_true rfl) ?_
        refine k_throwsOne_ (by omega) (by omega) (fun z => absurd z (by decide)) (fun _ _ => RK.v ?_) (fun _ z => absurd z (by decide))
        refine i_if_eq (tgt := 56) dX11_step_51 (by decide) (by decide) (fun c51 => by omega) (fun c51 => ?_)
        refine i_const dX11_step_54 ?_
        refine i_ireturn dX11_step_55 rfl rfl ?_
        exact hp2 (by omega)
/-- the walkers of a slot begin anew -/
def wRes (w : Int → Int) (s : Int) : Int → Int := fun j => if 953 ≤ j ∧ j < 953 + 3 * w 952 ∧ w (953 + 3 * ((j - 953) / 3) + 0) = s ∧ (j - 953) % 3 ≠ 0 then 0 else w j

theorem k_restarts_l {s : Int} (hs : s = 0 ∨ s = 1) (h6 : 0 ≤ C 0 952 ∧ C 0 952 ≤ 6) (hk : ∀ k, 0 ≤ k → k < C 0 952 → C 0 (953 + 3 * k + 0) = 0 ∨ C 0 (953 + 3 * k + 0) = 1) (hp : ∀ C', sC [0] C C' → (∀ j, C' 0 j = wRes (C 0) s j) → P (.inl none) (V, C', J)) : ∀ (zz : Nat) (k : Int) (C' : Nat → Int → Int), zz = (C 0 952 - k).toNat → (0 ≤ k) → (k ≤ C 0 952) → (sC [0] C C' ∧ ∀ j, C' 0 j = if 953 ≤ j ∧ j < 953 + 3 * k ∧ C 0 (953 + 3 * ((j - 953) / 3) + 0) = s ∧ (j - 953) % 3 ≠ 0 then 0 else C 0 j) → RW G mX11_restarts (m_I Y h0) P (d + 1) 0 0 2 [some (.ref (Y 38)), some (.int (iI s)), some (.int (iI k))] [] (V, C', J) := by
  intro zz
  induction zz using Nat.strongRecOn with
  | _ zz ih =>
    intro k C' hzz h1 h2 hI
    have q9 : C' 0 952 = C 0 952 := (hI.2 952).trans (if_neg (by omega))
    have q8 : C' 0 (953 + 3 * k + 0) = C 0 (953 + 3 * k + 0) := (hI.2 _).trans (if_neg (by omega))
    have q7 := hk k h1
    refine i_iload_n dX11_restarts_2 rfl ?_
    refine i_aload_n dX11_restarts_3 rfl ?_
    refine t_getA dX11_restarts_4 fX11_7.o rfl ?_
    refine i_sipush dX11_restarts_7 (by decide) ?_
    refine t_iald (N := 985) (v := (C' 0) 952) dX11_restarts_10 (by decide) (by decide) rfl (by omega) rfl ?_
    refine i_icmp_ge (tgt := 60) dX11_restarts_11 (by decide) (by omega) (by omega) (fun c11 => ?_) (fun c11 => ?_)
    · -- jumps
      refine i_return dX11_restarts_60 rfl ?_
      obtain rfl : k = C 0 952 := by omega
      exact hp _ hI.1 hI.2
    · -- on
      refine i_aload_n dX11_restarts_14 rfl ?_
      refine i_iload_n dX11_restarts_15 rfl ?_
      refine i_const dX11_restarts_16 ?_
      refine t_callV (As := [_, _]) dX11_restarts_17 cfX11_walkerOf imX11_walkerOf seX11_walkerOf lX11_190 rfl rfl rfl (Nat.le_of_ble_eq_true rfl) ?_
      refine k_walkerOf (w := C' 0) rfl (by omega) (by omega) (RK.v ?_)
      refine i_iload_n dX11_restarts_20 rfl ?_
      refine i_icmp_ne (tgt := 54) dX11_restarts_21 (by decide) (by omega) (by omega) (fun c21 => ?_) (fun c21 => ?_)
      · -- jumps
        refine i_iinc dX11_restarts_54 rfl (L' := [some _, some _, some _]) (by decide) rfl ?_
        refine i_goto (tgt := 2) dX11_restarts_57 (by decide) ?_
        refine ih _ ?_ (k + 1) _ rfl (by omega) (by omega) ⟨hI.1, fun j => ?_⟩
        · omega
        rw [hI.2 j]
        by_cases e : (j - 953) / 3 = k
        · rw [e]; exact if_cg (by omega)
        · exact if_cg (by omega)
      · -- on
        refine i_aload_n dX11_restarts_24 rfl ?_
        refine t_getA dX11_restarts_25 fX11_7.o rfl ?_
        refine i_sipush dX11_restarts_28 (by decide) ?_
        refine i_const dX11_restarts_31 ?_
        refine i_iload_n dX11_restarts_32 rfl ?_
        refine i_mul dX11_restarts_33 ?_
        refine i_add dX11_restarts_34 ?_
        refine i_const dX11_restarts_35 ?_
        refine i_add dX11_restarts_36 ?_
        refine i_const dX11_restarts_37 ?_
        refine t_iast (N := 985) dX11_restarts_38 (by decide) (by decide) rfl (by omega) ?_
        refine i_aload_n dX11_restarts_39 rfl ?_
        refine t_getA dX11_restarts_40 fX11_7.o rfl ?_
        refine i_sipush dX11_restarts_43 (by decide) ?_
        refine i_const dX11_restarts_46 ?_
        refine i_iload_n dX11_restarts_47 rfl ?_
        refine i_mul dX11_restarts_48 ?_
        refine i_add dX11_restarts_49 ?_
        refine i_const dX11_restarts_50 ?_
        refine i_add dX11_restarts_51 ?_
        refine i_const dX11_restarts_52 ?_
        refine t_iast2 (N := 985) dX11_restarts_53 (by decide) (by decide) rfl (by omega) ?_
        refine i_iinc dX11_restarts_54 rfl (L' := [some _, some _, some _]) (by decide) rfl ?_
        refine i_goto (tgt := 2) dX11_restarts_57 (by decide) ?_
        refine ih _ ?_ (k + 1) _ rfl (by omega) (by omega) ⟨hI.1.cu (by decide), fun j => ?_⟩
        · omega
        show zu (zu _ _ _) _ _ j = _
        unfold zu
        by_cases e : j = 953 + 3 * k + 2
        · have e5 : (j - 953) / 3 = k := by omega
          rw [if_pos e, e5, if_pos (by omega)]
        · rw [if_neg e]
          by_cases e2 : j = 953 + 3 * k + 1
          · have e5 : (j - 953) / 3 = k := by omega
            rw [if_pos e2, e5, if_pos (by omega)]
          · rw [if_neg (by omega), hI.2 j]; exact if_cg (by omega)
theorem k_restarts {s : Int} (hs : s = 0 ∨ s = 1) (h6 : 0 ≤ C 0 952 ∧ C 0 952 ≤ 6) (hk : ∀ k, 0 ≤ k → k < C 0 952 → C 0 (953 + 3 * k + 0) = 0 ∨ C 0 (953 + 3 * k + 0) = 1) (hp : ∀ C', sC [0] C C' → (∀ j, C' 0 j = wRes (C 0) s j) → P (.inl none) (V, C', J)) : RM G mX11_restarts (m_I Y h0) [.ref (Y 38), .int (iI s)] (d + 1) 0 0 P (V, C, J) := by
  refine RM.of (L := [some (.ref (Y 38)), some (.int (iI s)), none]) cfX11_restarts rfl (Nat.le_of_ble_eq_true rfl) ?_
  refine i_const dX11_restarts_0 ?_
  refine i_istore_n dX11_restarts_1 (L' := [some _, some _, some _]) (by decide) rfl ?_
  exact k_restarts_l hs h6 hk hp _ 0 _ rfl (by omega) (by omega) ⟨sC.rfl, fun j => (if_neg (by omega)).symm⟩
/-- one byte of a number -/
def zby (x k : Int) : Int := ((((iI x).toBitVec.toNat >>> k.toNat) % 256 : Nat) : Int)
theorem zby_rg {x k : Int} : 0 ≤ zby x k ∧ zby x k < 256 := by
  unfold zby
  omega
theorem iI_byte {x k : Int} (hk : k = 0 ∨ k = 8 ∨ k = 16 ∨ k = 24) : (iI x >>> (iI k &&& 31)) &&& iI 255 = iI (zby x k) := by
  unfold zby
  rw [iI_nat]
  rw [show iI 255 = (255 : Int32) from rfl, pk_and (iI x >>> (iI k &&& 31)) (m := 255) 8 (by decide)]
  congr 1
  have e : (iI x >>> (iI k &&& 31)).toBitVec = (iI x).toBitVec.sshiftRight k.toNat := by
    rw [Int32.toBitVec_shiftRight]
    rcases hk with rfl | rfl | rfl | rfl <;> rfl
  rw [e]
  have key : ∀ (b : BitVec 32) (n : Nat), n ≤ 24 → (b.sshiftRight n).toNat % 2 ^ 8 = (b.toNat >>> n) % 256 := by
    intro b n hn
    apply Nat.eq_of_testBit_eq
    intro i
    rw [Nat.testBit_mod_two_pow, show (256 : Nat) = 2 ^ 8 from rfl, Nat.testBit_mod_two_pow, Nat.testBit_shiftRight, BitVec.testBit_toNat, BitVec.getLsbD_sshiftRight, BitVec.testBit_toNat]
    by_cases hi : i < 8
    · have h1 : ¬ 32 ≤ i := by omega
      have h2 : n + i < 32 := by omega
      simp [hi, h1, h2]
    · simp [hi]
  exact key _ _ (by omega)
/-- four bytes of a number behind those of a buffer -/
def bPut (b : Int → Int) (n x : Int) : Int → Int := zu (zu (zu (zu b n (zby x 24)) (n + 1) (zby x 16)) (n + 2) (zby x 8)) (n + 3) (zby x 0)
theorem k_put_1 {x k : Int} (hk : k = 0 ∨ k = 8 ∨ k = 16 ∨ k = 24) (h7 : 0 ≤ V 7 ∧ V 7 < 200) (kk : RW G mX11_put (m_I Y h0) P d 0 0 3 [some (.ref (Y 38)), some (.int (iI x)), some (.int (iI (k + (-8))))] [] (vu V 7 (V 7 + 1), cu C 6 (zu (C 6) (V 7) (zby x k)), J)) : RW G mX11_put (m_I Y h0) P d 0 0 3 [some (.ref (Y 38)), some (.int (iI x)), some (.int (iI k))] [] (V, C, J) := by
  refine i_iload_n dX11_put_3 rfl ?_
  refine i_if_lt (tgt := 39) dX11_put_4 (by decide) (by omega) (fun c => ?_) (fun c => ?_)
  · exfalso; omega
  refine i_aload_n dX11_put_7 rfl ?_
  refine t_getA dX11_put_8 fX11_22.o rfl ?_
  refine i_aload_n dX11_put_11 rfl ?_
  refine t_getI dX11_put_12 fX11_89 (by decide) rfl ?_
  refine i_iload_n dX11_put_15 rfl ?_
  refine i_iload_n dX11_put_16 rfl ?_
  refine RW.up (fun kk => r_ishr dX11_put_17 kk) ?_
  refine i_sipush dX11_put_18 (by decide) ?_
  refine i_andE dX11_put_21 (iI_byte hk) ?_
  refine t_iast (N := 200) dX11_put_22 (by decide) (by decide) rfl (by omega) ?_
  refine i_aload_n dX11_put_23 rfl ?_
  refine i_dup dX11_put_24 rfl ?_
  refine t_getI dX11_put_25 fX11_89 (by decide) rfl ?_
  refine i_const dX11_put_28 ?_
  refine i_add dX11_put_29 ?_
  refine t_put dX11_put_30 fX11_89 (by decide) rfl rfl ?_
  refine i_iinc dX11_put_33 rfl (L' := [some _, some _, some _]) (by decide) rfl ?_
  refine i_goto (tgt := 3) dX11_put_36 (by decide) ?_
  exact kk
theorem k_put {x : Int} (h7 : 0 ≤ V 7 ∧ V 7 + 4 ≤ 200) (hp : ∀ V' C', sV [7] V V' → V' 7 = V 7 + 4 → sC [6] C C' → C' 6 = bPut (C 6) (V 7) x → P (.inl none) (V', C', J)) : RM G mX11_put (m_I Y h0) [.ref (Y 38), .int (iI x)] d 0 0 P (V, C, J) := by
  refine RM.of (L := [some (.ref (Y 38)), some (.int (iI x)), none]) cfX11_put rfl (Nat.le_of_ble_eq_true rfl) ?_
  refine i_bipush dX11_put_0 (by decide) ?_
  refine i_istore_n dX11_put_2 (L' := [some _, some _, some _]) (by decide) rfl ?_
  refine k_put_1 (k := 24) (by decide) (by omega) ?_
  refine k_put_1 (k := 16) (by decide) (show 0 ≤ V 7 + 1 ∧ V 7 + 1 < 200 by omega) ?_
  refine k_put_1 (k := 8) (by decide) (show 0 ≤ V 7 + 1 + 1 ∧ V 7 + 1 + 1 < 200 by omega) ?_
  refine k_put_1 (k := 0) (by decide) (show 0 ≤ V 7 + 1 + 1 + 1 ∧ V 7 + 1 + 1 + 1 < 200 by omega) ?_
  refine i_iload_n dX11_put_3 rfl ?_
  refine i_if_lt (tgt := 39) dX11_put_4 (by decide) (by decide) (fun c => ?_) (fun c => ?_)
  · refine i_return dX11_put_39 rfl (hp _ _ ?_ ?_ ?_ ?_)
    · repeat' (first | exact sV.rfl | refine sV.vu ?_ (by decide))
    · show V 7 + 1 + 1 + 1 + 1 = _
      omega
    · repeat' (first | exact sC.rfl | refine sC.cu ?_ (by decide))
    · show zu (zu (zu (zu (C 6) (V 7) (zby x 24)) (V 7 + 1) (zby x 16)) (V 7 + 1 + 1) (zby x 8)) (V 7 + 1 + 1 + 1) (zby x 0) = _
      unfold bPut
      rw [show V 7 + 1 + 1 = V 7 + 2 by omega, show V 7 + 2 + 1 = V 7 + 3 by omega]
  · exfalso; omega
theorem k_append {a b c e f : Int} (h7 : 0 ≤ V 7 ∧ V 7 ≤ 200) (hp1 : ¬ V 7 + 20 ≤ 200 → P (.inl (some (.int (iI (-1))))) (vu V 12 0, C, J)) (hp0 : V 7 + 20 ≤ 200 → ∀ V' C', V' 12 = 0 → V' 7 = V 7 + 20 → sV [7, 12] V V' → sC [6] C C' → C' 6 = bPut (bPut (bPut (bPut (bPut (C 6) (V 7) a) (V 7 + 4) b) (V 7 + 8) c) (V 7 + 12) e) (V 7 + 16) f → P (.inl (some (.int (iI (V 7 + 20))))) (V', C', J)) : RM G mX11_append (m_I Y h0) [.ref (Y 38), .int (iI a), .int (iI b), .int (iI c), .int (iI e), .int (iI f)] (d + 1) 0 0 P (V, C, J) := by
  refine RM.of (L := [some (.ref (Y 38)), some (.int (iI a)), some (.int (iI b)), some (.int (iI c)), some (.int (iI e)), some (.int (iI f))]) cfX11_append rfl (Nat.le_of_ble_eq_true rfl) ?_
  refine i_aload_n dX11_append_0 rfl ?_
  refine i_const dX11_append_1 ?_
  refine t_put dX11_append_2 fX11_95 (by decide) rfl rfl ?_
  refine RW.gen (fun V1 hV1 C1 hC1 J1 hJ1 => ?_)
  subst hC1; subst hJ1
  have sv1 : sV [12] V V1 := by rw [hV1]; exact sV.rfl.vu (by decide)
  have v1_12 : V1 12 = 0 := by rw [hV1]; rfl
  have hv7 : V1 7 = V 7 := sv1 7 (by decide)
  refine i_aload_n dX11_append_5 rfl ?_
  refine t_getI dX11_append_6 fX11_89 (by decide) rfl ?_
  refine i_bipush dX11_append_9 (by decide) ?_
  refine i_add dX11_append_11 ?_
  refine i_sipush dX11_append_12 (by decide) ?_
  refine i_icmp_le (tgt := 20) dX11_append_15 (by decide) (by omega) (by omega) (fun c15 => ?_) (fun c15 => ?_)
  · -- jumps
    refine i_aload_n dX11_append_20 rfl ?_
    refine i_iload_n dX11_append_21 rfl ?_
    refine t_callV (As := [_]) dX11_append_22 cfX11_put imX11_put seX11_put lX11_206 rfl rfl rfl (Nat.le_of_ble_eq_true rfl) ?_
    refine k_put (by omega) (fun V2 C2 hV2 h72 hC2 h62 => RK.n0 ?_)
    refine i_aload_n dX11_append_25 rfl ?_
    refine i_iload_n dX11_append_26 rfl ?_
    refine t_callV (As := [_]) dX11_append_27 cfX11_put imX11_put seX11_put lX11_206 rfl rfl rfl (Nat.le_of_ble_eq_true rfl) ?_
    refine k_put (by omega) (fun V3 C3 hV3 h73 hC3 h63 => RK.n0 ?_)
    refine i_aload_n dX11_append_30 rfl ?_
    refine i_iload_n dX11_append_31 rfl ?_
    refine t_callV (As := [_]) dX11_append_32 cfX11_put imX11_put seX11_put lX11_206 rfl rfl rfl (Nat.le_of_ble_eq_true rfl) ?_
    refine k_put (by omega) (fun V4 C4 hV4 h74 hC4 h64 => RK.n0 ?_)
    refine i_aload_n dX11_append_35 rfl ?_
    refine i_iload dX11_append_36 rfl ?_
    refine t_callV (As := [_]) dX11_append_38 cfX11_put imX11_put seX11_put lX11_206 rfl rfl rfl (Nat.le_of_ble_eq_true rfl) ?_
    refine k_put (by omega) (fun V5 C5 hV5 h75 hC5 h65 => RK.n0 ?_)
    refine i_aload_n dX11_append_41 rfl ?_
    refine i_iload dX11_append_42 rfl ?_
    refine t_callV (As := [_]) dX11_append_44 cfX11_put imX11_put seX11_put lX11_206 rfl rfl rfl (Nat.le_of_ble_eq_true rfl) ?_
    refine k_put (by omega) (fun V6 C6 hV6 h76 hC6 h66 => RK.n0 ?_)
    refine i_aload_n dX11_append_47 rfl ?_
    refine t_getI dX11_append_48 fX11_89 (by decide) rfl ?_
    refine i_ireturn dX11_append_51 rfl rfl ?_
    have e7 : V6 7 = V 7 + 20 := by omega
    rw [e7]
    refine hp0 (by omega) _ _ (by rw [hV6 12 (by decide), hV5 12 (by decide), hV4 12 (by decide), hV3 12 (by decide), hV2 12 (by decide), v1_12]) e7 (sV.t2 (U := [7, 12]) (sV.t2 (U := [7, 12]) (sV.t2 (U := [7, 12]) (sV.t2 (U := [7, 12]) (sV.t2 (U := [7, 12]) sv1 hV2 (by decide) (by decide)) hV3 (by decide) (by decide)) hV4 (by decide) (by decide)) hV5 (by decide) (by decide)) hV6 (by decide) (by decide)) (sC.t2 (U := [6]) (sC.t2 (U := [6]) (sC.t2 (U := [6]) (sC.t2 (U := [6]) hC2 hC3 (by decide) (by decide)) hC4 (by decide) (by decide)) hC5 (by decide) (by decide)) hC6 (by decide) (by decide)) ?_
    rw [h66, h65, h64, h63, h62, show V5 7 = V 7 + 16 by omega, show V4 7 = V 7 + 12 by omega, show V3 7 = V 7 + 8 by omega, show V2 7 = V 7 + 4 by omega, hv7]
  · -- on
    refine i_const dX11_append_18 ?_
    refine i_ireturn dX11_append_19 rfl rfl ?_
    rw [hV1]
    exact hp1 (by omega)
end M13
