/-! ===== a string is put into the input; a string is typed ===== -/
theorem RM.sm {σ : Type} {G : p_G} {M : p_M} {I : σ → p_H → Prop} {X : σ} {h : p_H} {As : List Value} {d k n : Nat} {Q : p_P} (hI : I X h) (kk : RM G M I As d k n (fun o y => ∀ h', I y h' → Q o h') X) : SM G M h As d k n Q := (kk h hI).mono (fun o h' hq => by
  obtain ⟨y, hy, hI'⟩ := hq
  exact hy h' hI')
section C88
variable {G : p_G} {Y : Nat → Nat} {h0 : p_H} {P : (Option Value) ⊕ String → c_X → Prop} {d : Nat} {V : Nat → Int} {C : Nat → Int → Int} {J : c_J}
variable {sa sv N : Nat} {bs : Int → Int}
theorem q_put_l_b  (hK : p_Zk G) (hT : p_Str G sa sv N bs) (hN : N ≤ 200) (hb : ∀ j, 0 ≤ j → j < (N : Int) → 0 ≤ bs j ∧ bs j < 128) (hp : ∀ V' C', V' 4 = (N : Int) → sV [4] V V' → sC [2] C C' → (∀ j, C' 2 j = if 0 ≤ j ∧ j < (N : Int) then bs j else C 2 j) → P (.inl none) (V', C', J)) : ∀ (zz : Nat) (k : Int) (V' : Nat → Int) (C' : Nat → Int → Int), zz = ((N : Int) - k).toNat → (0 ≤ k ∧ k ≤ (N : Int)) → (V' 4 = k) → (sV [4] V V') → (sC [2] C C') → (∀ j, C' 2 j = if 0 ≤ j ∧ j < k then bs j else C 2 j) → RW G mX1_put (b_I Y h0) P (d + 4) 0 0 7 [some (.ref (Y 1)), some (.ref sa), some (.int (iI k))] [] (V', C', J) := by
  intro zz
  induction zz using Nat.strongRecOn with
  | _ zz ih =>
    intro k V' C' hzz h1 h4 hV hC hI
    refine i_iload_n dX1_put_7 rfl ?_
    refine i_aload_n dX1_put_8 rfl ?_
    refine i_callO (As := []) (mc := 0) (ms := 0) dX1_put_9 cfJ0_length imJ0_length seJ0_length lX1_19 (fun s hs => (hT s hs).1) rfl rfl (Nat.le_of_ble_eq_true rfl) (Nat.zero_add _).symm (Nat.zero_add _).symm ?_
    refine q_slen hK hT (by omega) (RK.v ?_)
    refine i_icmp_ge (tgt := 30) dX1_put_12 (by decide) (by omega) (by omega) (fun c12 => ?_) (fun c12 => ?_)
    · -- jumps
      refine i_return dX1_put_30 rfl ?_
      obtain rfl : k = (N : Int) := by omega
      exact hp _ _ h4 hV hC hI
    · -- on
      refine i_aload_n dX1_put_15 rfl ?_
      refine i_aload_n dX1_put_16 rfl ?_
      refine i_iload_n dX1_put_17 rfl ?_
      refine i_callO (As := [_]) (mc := 0) (ms := 0) dX1_put_18 cfJ0_charAt imJ0_charAt seJ0_charAt lX1_24 (fun s hs => (hT s hs).1) rfl rfl (Nat.le_of_ble_eq_true rfl) (Nat.zero_add _).symm (Nat.zero_add _).symm ?_
      have hbk := hb k (by omega) (by omega)
      refine q_schr hK hT (by omega) (by omega) (by omega) (by omega) (RK.v ?_)
      refine u_callV_b (i := 1) (mc := 0) (ms := 0) (As := [_]) dX1_put_21 cfX1_addByte imX1_addByte seX1_addByte lX1_28 (by decide) rfl rfl rfl rfl rfl (Nat.le_of_ble_eq_true rfl) (Nat.zero_add _).symm (Nat.zero_add _).symm ?_
      refine q_addByte_b (V := V') (C := C') (by omega) (RK.n0 ?_)
      refine i_iinc dX1_put_24 rfl (L' := [some _, some _, some _]) (by decide) rfl ?_
      refine i_goto (tgt := 7) dX1_put_27 (by decide) ?_
      refine ih _ ?_ (k + 1) _ _ rfl (by omega) (by show V' 4 + 1 = k + 1; omega) (hV.vu (by decide)) (hC.cu (by decide)) (fun j => ?_)
      · omega
      show zu (C' 2) (V' 4) (bs k) j = _
      rw [h4]
      by_cases z9 : j = k
      · rw [z9, zu_at, if_pos (by omega)]
      · rw [zu_ne z9, hI j]; exact if_cg (by omega)
theorem q_put_b  (hK : p_Zk G) (hT : p_Str G sa sv N bs) (hN : N ≤ 200) (hb : ∀ j, 0 ≤ j → j < (N : Int) → 0 ≤ bs j ∧ bs j < 128) (hp : ∀ V' C', V' 4 = (N : Int) → sV [4] V V' → sC [2] C C' → (∀ j, C' 2 j = if 0 ≤ j ∧ j < (N : Int) then bs j else C 2 j) → P (.inl none) (V', C', J)) : RM G mX1_put (b_I Y h0) [.ref (Y 1), .ref sa] (d + 4) 0 0 P (V, C, J) := by
  refine RM.of (L := [some (.ref (Y 1)), some (.ref sa), none]) cfX1_put rfl (Nat.le_of_ble_eq_true rfl) ?_
  refine i_aload_n dX1_put_0 rfl ?_
  refine i_const dX1_put_1 ?_
  refine u_put_b (i := 1) (kV := 4) dX1_put_2 fX1_15 (by decide) rfl rfl rfl (Nat.le_of_ble_eq_true rfl) rfl rfl ?_
  refine i_const dX1_put_5 ?_
  refine i_istore_n dX1_put_6 (L' := [some _, some _, some _]) (by decide) rfl ?_
  exact q_put_l_b hK hT hN hb hp _ 0 _ C rfl (by omega) vu_at (sV.rfl.vu (by decide)) sC.rfl (fun j => (if_neg (by omega)).symm)
end C88
