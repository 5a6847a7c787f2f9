/-! ===== the reference: counts over states, positions, walkers, words ===== -/
/-- the bits of a mask -/
def zpc : Nat → Nat → Int
  | 0, _ => 0
  | k + 1, m => ((m % 2 : Nat) : Int) + zpc k (m / 2)
theorem zpc_0 : ∀ k, zpc k 0 = 0
  | 0 => rfl
  | k + 1 => by
    show ((0 % 2 : Nat) : Int) + zpc k (0 / 2) = 0
    rw [Nat.zero_div, zpc_0 k]; rfl
/-- the dead state: r is the first state whose set is empty, or -1 -/
def wDead (w : Int → Int) (s r : Int) : Prop := (r = -1 ∨ 0 ≤ r ∧ r < w (476 * s + 5) ∧ w (476 * s + (56 + r)) = 0) ∧ ∀ t, 0 ≤ t → t < w (476 * s + 5) → (r = -1 ∨ t < r) → w (476 * s + (56 + t)) ≠ 0
/-- among the follow positions of q, those of a street -/
def wFol (w : Int → Int) (s q c : Int) : Int := zsum (fun j => zb (zt (w (476 * s + (6 + q))) (j + 1) ∧ (w (476 * s + (31 + (j + 1))) = 6 ∨ w (476 * s + (31 + (j + 1))) = c))) (w (476 * s + 0)).toNat
/-- walkers in a state -/
def wIn (w : Int → Int) (s t : Int) : Int := zsum (fun k => zb (w (953 + 3 * k + 0) = s ∧ w (953 + 3 * k + 1) = t)) (w 952).toNat
/-- the state behind a word of the buffer -/
def wRun (w b : Int → Int) (s : Int) : Nat → Int
  | 0 => 0
  | n + 1 => w (476 * s + (116 + 6 * wRun w b s n + (b (n : Int) - 97)))
def bStr (b : Int → Int) (i : Int) : Prop := 0 ≤ b i - 97 ∧ b i - 97 ≤ 5
theorem wRun_s {w b : Int → Int} {s k : Int} (h : 0 ≤ k) : wRun w b s (k + 1).toNat = w (476 * s + (116 + 6 * wRun w b s k.toNat + (b k - 97))) := by
  rw [show (k + 1).toNat = k.toNat + 1 by omega]
  show w (476 * s + (116 + 6 * wRun w b s k.toNat + (b (k.toNat : Int) - 97))) = _
  rw [Int.toNat_of_nonneg h]
theorem wRun_ok {w b : Int → Int} {s : Int} (hO : wOK w) (hs : s = 0 ∨ s = 1) : ∀ n : Nat, (∀ i : Int, 0 ≤ i → i < n → bStr b i) → 0 ≤ wRun w b s n ∧ wRun w b s n < w (476 * s + 5)
  | 0, _ => by
    have := hO.sts hs
    show 0 ≤ (0 : Int) ∧ (0 : Int) < _
    omega
  | n + 1, h => by
    have h1 := wRun_ok hO hs n (fun i a c => h i a (by omega))
    have h2 := h n (by omega) (by omega)
    unfold bStr at h2
    exact hO.nxt hs h1.1 h1.2 h2.1 (by omega)
section M16g
variable {σ : Type} {I : σ → p_H → Prop} {G : p_G} {P : (Option Value) ⊕ String → σ → Prop} {d : Nat} {X : σ}

theorem k_bits_l {m : Int} (hp : ∀ r, r = zpc 31 m.toNat → P (.inl (some (.int (iI r)))) X) : ∀ (k : Nat) (x n : Int), k ≤ 31 → 0 ≤ x → x < 2 ^ k → x < 2147483648 → n + zpc k x.toNat = zpc 31 m.toNat → RW G mX11_bits I P d 0 0 4 [some (.int (iI m)), some (.int (iI n)), some (.int (iI x))] [] X := by
  intro k
  induction k with
  | zero =>
    intro x n hk h0 h1 h2 h3
    have hx : x = 0 := by omega
    subst hx
    refine i_iload_n dX11_bits_4 rfl ?_
    refine RW.up (fun kk => kk) ?_
    refine i_if_le (tgt := 21) dX11_bits_5 (by decide) (by decide) (fun c => ?_) (fun c => by omega)
    refine i_iload_n dX11_bits_21 rfl ?_
    exact i_ireturn dX11_bits_22 rfl rfl (hp _ (by rw [← h3]; show n = n + 0; omega))
  | succ k ih =>
    intro x n hk h0 h1 h2 h3
    refine i_iload_n dX11_bits_4 rfl ?_
    refine i_if_le (tgt := 21) dX11_bits_5 (by decide) (by omega) (fun c => ?_) (fun c => ?_)
    · have hx : x = 0 := by omega
      subst hx
      refine i_iload_n dX11_bits_21 rfl ?_
      exact i_ireturn dX11_bits_22 rfl rfl (hp _ (by rw [← h3, show (0 : Int).toNat = 0 from rfl, zpc_0]; omega))
    · refine i_iload_n dX11_bits_8 rfl ?_
      refine i_iload_n dX11_bits_9 rfl ?_
      refine i_const dX11_bits_10 ?_
      refine i_rem dX11_bits_11 (by omega) (by omega) ?_
      refine i_add dX11_bits_12 ?_
      refine i_istore_n dX11_bits_13 (L' := [some _, some _, some _]) (by decide) rfl ?_
      refine i_iload_n dX11_bits_14 rfl ?_
      refine i_const dX11_bits_15 ?_
      refine i_div dX11_bits_16 (by omega) (by omega) ?_
      refine i_istore_n dX11_bits_17 (L' := [some _, some _, some _]) (by decide) rfl ?_
      refine i_goto (tgt := 4) dX11_bits_18 (by decide) ?_
      refine ih _ _ (by omega) (by omega) ?_ (by omega) ?_
      · have : (2 : Int) ^ (k + 1) = 2 * 2 ^ k := by rw [Int.pow_succ]; omega
        omega
      · rw [← h3]
        show n + x % 2 + zpc k (x / 2).toNat = n + (((x.toNat % 2 : Nat) : Int) + zpc k (x.toNat / 2))
        rw [show (x / 2).toNat = x.toNat / 2 by omega]
        omega
theorem k_bits {m : Int} (hm : 0 ≤ m ∧ m < 2147483648) (hp : P (.inl (some (.int (iI (zpc 31 m.toNat))))) X) : RM G mX11_bits I [.int (iI m)] d 0 0 P X := by
  refine RM.of (L := [some (.int (iI m)), none, none]) cfX11_bits rfl (Nat.le_of_ble_eq_true rfl) ?_
  refine i_const dX11_bits_0 ?_
  refine i_istore_n dX11_bits_1 (L' := [some _, some _, none]) (by decide) rfl ?_
  refine i_iload_n dX11_bits_2 rfl ?_
  refine i_istore_n dX11_bits_3 (L' := [some _, some _, some _]) (by decide) rfl ?_
  exact k_bits_l (m := m) (fun r hr => by rw [hr]; exact hp) 31 m 0 (Nat.le_refl _) hm.1 (by omega) hm.2 (by omega)
end M16g
section M16
variable {G : p_G} {Y : Nat → Nat} {h0 : p_H} {P : (Option Value) ⊕ String → m_X → Prop} {d : Nat} {V : Nat → Int} {C : Nat → Int → Int} {J : Int → Int}
theorem k_dead_l {s : Int} (hO : wOK (C 0)) (hs : s = 0 ∨ s = 1) (hp : ∀ r, wDead (C 0) s r → P (.inl (some (.int (iI r)))) (V, C, J)) : ∀ (zz : Nat) (k : Int), zz = (C 0 (476 * s + 5) - k).toNat → (0 ≤ k) → (k ≤ C 0 (476 * s + 5)) → (∀ t, 0 ≤ t → t < k → C 0 (476 * s + (56 + t)) ≠ 0) → RW G mX11_deadState (m_I Y h0) P (d + 1) 0 0 23 [some (.ref (Y 38)), some (.int (iI s)), some (.int (iI k))] [] (V, C, J) := by
  intro zz
  induction zz using Nat.strongRecOn with
  | _ zz ih =>
    intro k hzz h1 h2 hI
    have b1 := hO.sts hs
    have b2 := hO.msk hs (56 + k)
    refine i_iload_n dX11_deadState_23 rfl ?_
    refine i_aload_n dX11_deadState_24 rfl ?_
    refine i_iload_n dX11_deadState_25 rfl ?_
    refine i_const dX11_deadState_26 ?_
    refine t_callV (As := [_, _]) dX11_deadState_27 cfX11_of imX11_of seX11_of lX11_115 rfl rfl rfl (Nat.le_of_ble_eq_true rfl) ?_
    refine k_of (w := C 0) rfl (by omega) (RK.v ?_)
    refine i_icmp_ge (tgt := 53) dX11_deadState_30 (by decide) (by omega) (by omega) (fun c30 => ?_) (fun c30 => ?_)
    · -- jumps
      refine i_const dX11_deadState_53 ?_
      refine i_ireturn dX11_deadState_54 rfl rfl ?_
      exact hp _ ⟨Or.inl rfl, fun t t0 t1 _ => hI t t0 (by omega)⟩
    · -- on
      refine i_aload_n dX11_deadState_33 rfl ?_
      refine i_iload_n dX11_deadState_34 rfl ?_
      refine i_bipush dX11_deadState_35 (by decide) ?_
      refine i_iload_n dX11_deadState_37 rfl ?_
      refine i_add dX11_deadState_38 ?_
      refine t_callV (As := [_, _]) dX11_deadState_39 cfX11_of imX11_of seX11_of lX11_115 rfl rfl rfl (Nat.le_of_ble_eq_true rfl) ?_
      refine k_of (w := C 0) rfl (by omega) (RK.v ?_)
      refine i_if_ne (tgt := 47) dX11_deadState_42 (by decide) (by omega) (fun c42 => ?_) (fun c42 => ?_)
      · -- jumps
        refine i_iinc dX11_deadState_47 rfl (L' := [some _, some _, some _]) (by decide) rfl ?_
        refine i_goto (tgt := 23) dX11_deadState_50 (by decide) ?_
        refine ih _ ?_ (k + 1) rfl (by omega) (by omega) (fun t t0 t1 => ?_)
        · omega
        by_cases e : t = k
        · rw [e]; assumption
        · exact hI t t0 (by omega)
      · -- on
        refine i_iload_n dX11_deadState_45 rfl ?_
        refine i_ireturn dX11_deadState_46 rfl rfl ?_
        exact hp _ ⟨Or.inr ⟨by omega, by omega, by assumption⟩, fun t t0 t1 t2 => hI t t0 (by omega)⟩
theorem k_deadState {s : Int} (hO : wOK (C 0)) (h_s : -2147483648 ≤ s ∧ s < 2147483648) (hp1 : ¬ (s = 0 ∨ s = 1) → P (.inl (some (.int (iI 0)))) (vu V 12 1, C, J)) (hp0 : s = 0 ∨ s = 1 → ∀ r, wDead (C 0) s r → P (.inl (some (.int (iI r)))) (vu V 12 0, C, J)) : RM G mX11_deadState (m_I Y h0) [.ref (Y 38), .int (iI s)] (d + 1) 0 0 P (V, C, J) := by
  refine RM.of (L := [some (.ref (Y 38)), some (.int (iI s)), none]) cfX11_deadState rfl (Nat.le_of_ble_eq_true rfl) ?_
  refine i_aload_n dX11_deadState_0 rfl ?_
  refine i_iload_n dX11_deadState_1 rfl ?_
  refine t_callS (As := [_]) dX11_deadState_2 cfX11_isSlot stX11_isSlot lX11_112 rfl rfl (Nat.le_of_ble_eq_true rfl) ?_
  refine k_isSlot (by omega) (RK.v ?_)
  refine i_ifne_b (tgt := 12) dX11_deadState_5 (by decide) (fun c5 => ?_) (fun c5 => ?_)
  · -- jumps
    refine i_const dX11_deadState_12 ?_
    refine t_callV (As := [_]) dX11_deadState_13 cfX11_throwsOne imX11_throwsOne seX11_throwsOne lX11_209 rfl rfl rfl (Nat.le_of_ble_eq_true rfl) ?_
    refine k_throwsOne (by first | exact zb_or | omega) (RK.v ?_)
    refine i_if_eq (tgt := 21) dX11_deadState_16 (by decide) (by decide) (fun c16 => ?_) (fun c16 => by omega)
    refine i_const dX11_deadState_21 ?_
    refine i_istore_n dX11_deadState_22 (L' := [some _, some _, some _]) (by decide) rfl ?_
    have b1 := hO.sts (s := s) (by omega)
    exact k_dead_l hO (by omega) (fun r hr => hp0 (by omega) r hr) _ 0 rfl (by omega) (by omega) (fun t t0 t1 => by omega)
  · -- on
    refine i_const dX11_deadState_8 ?_
    refine i_goto (tgt := 13) dX11_deadState_9 (by decide) ?_
    refine t_callV (As := [_]) dX11_deadState_13 cfX11_throwsOne imX11_throwsOne seX11_throwsOne lX11_209 rfl rfl rfl (Nat.le_of_ble_eq_true rfl) ?_
    refine k_throwsOne (by first | exact zb_or | omega) (RK.v ?_)
    refine i_if_eq (tgt := 21) dX11_deadState_16 (by decide) (by decide) (fun c16 => by omega) (fun c16 => ?_)
    refine i_const dX11_deadState_19 ?_
    refine i_ireturn dX11_deadState_20 rfl rfl ?_
    exact hp1 (by omega)
theorem k_wis_l {s t : Int} (hO : wOK (C 0)) (hs : -2147483648 ≤ s ∧ s < 2147483648) (ht : -2147483648 ≤ t ∧ t < 2147483648) (hp : P (.inl (some (.int (iI (wIn (C 0) s t))))) (V, C, J)) : ∀ (zz : Nat) (k x : Int), zz = (C 0 952 - k).toNat → (0 ≤ k) → (k ≤ C 0 952) → (x = zsum (fun k => zb (C 0 (953 + 3 * k + 0) = s ∧ C 0 (953 + 3 * k + 1) = t)) k.toNat) → RW G mX11_walkersInState (m_I Y h0) P (d + 1) 0 0 28 [some (.ref (Y 38)), some (.int (iI s)), some (.int (iI t)), some (.int (iI x)), some (.int (iI k))] [] (V, C, J) := by
  intro zz
  induction zz using Nat.strongRecOn with
  | _ zz ih =>
    intro k x hzz h1 h2 hx
    have b0 := hO.2.1
    have b1 : k < C 0 952 → _ := fun h => hO.wk h1 h
    have b3 : k < C 0 952 → C 0 (953 + 3 * k + 1) < 61 := fun h => by have := hO.sts (b1 h).1; have := b1 h; omega
    refine i_iload dX11_walkersInState_28 rfl ?_
    refine i_aload_n dX11_walkersInState_30 rfl ?_
    refine t_getA dX11_walkersInState_31 fX11_7.o rfl ?_
    refine i_sipush dX11_walkersInState_34 (by decide) ?_
    refine t_iald (N := 985) (v := C 0 952) dX11_walkersInState_37 (by decide) (by decide) rfl (by omega) rfl ?_
    refine i_icmp_ge (tgt := 77) dX11_walkersInState_38 (by decide) (by omega) (by omega) (fun c38 => ?_) (fun c38 => ?_)
    · -- jumps
      refine i_iload_n dX11_walkersInState_77 rfl ?_
      refine i_ireturn dX11_walkersInState_78 rfl rfl ?_
      obtain rfl : k = C 0 952 := by omega
      rw [hx]; exact hp
    · -- on
      refine i_iload_n dX11_walkersInState_41 rfl ?_
      refine i_aload_n dX11_walkersInState_42 rfl ?_
      refine i_iload dX11_walkersInState_43 rfl ?_
      refine i_const dX11_walkersInState_45 ?_
      refine t_callV (As := [_, _]) dX11_walkersInState_46 cfX11_walkerOf imX11_walkerOf seX11_walkerOf lX11_190 rfl rfl rfl (Nat.le_of_ble_eq_true rfl) ?_
      refine k_walkerOf (w := C 0) rfl (by omega) (by omega) (RK.v ?_)
      refine i_iload_n dX11_walkersInState_49 rfl ?_
      refine i_icmp_ne (tgt := 68) dX11_walkersInState_50 (by decide) (by omega) (by omega) (fun c50 => ?_) (fun c50 => ?_)
      · -- jumps
        refine i_const dX11_walkersInState_68 ?_
        refine i_add dX11_walkersInState_69 ?_
        refine i_istore_n dX11_walkersInState_70 (L' := [some _, some _, some _, some _, some _]) (by decide) rfl ?_
        refine i_iinc dX11_walkersInState_71 rfl (L' := [some _, some _, some _, some _, some _]) (by decide) rfl ?_
        refine i_goto (tgt := 28) dX11_walkersInState_74 (by decide) ?_
        refine ih _ ?_ (k + 1) _ rfl (by omega) (by omega) ?_
        · omega
        rw [zsum_s h1, hx]
        first | (rw [zb_t (by omega)]) | (rw [zb_f (by omega)])
      · -- on
        refine i_aload_n dX11_walkersInState_53 rfl ?_
        refine i_iload dX11_walkersInState_54 rfl ?_
        refine i_const dX11_walkersInState_56 ?_
        refine t_callV (As := [_, _]) dX11_walkersInState_57 cfX11_walkerOf imX11_walkerOf seX11_walkerOf lX11_190 rfl rfl rfl (Nat.le_of_ble_eq_true rfl) ?_
        refine k_walkerOf (w := C 0) rfl (by omega) (by omega) (RK.v ?_)
        refine i_iload_n dX11_walkersInState_60 rfl ?_
        refine i_icmp_ne (tgt := 68) dX11_walkersInState_61 (by decide) (by omega) (by omega) (fun c61 => ?_) (fun c61 => ?_)
        · -- jumps
          refine i_const dX11_walkersInState_68 ?_
          refine i_add dX11_walkersInState_69 ?_
          refine i_istore_n dX11_walkersInState_70 (L' := [some _, some _, some _, some _, some _]) (by decide) rfl ?_
          refine i_iinc dX11_walkersInState_71 rfl (L' := [some _, some _, some _, some _, some _]) (by decide) rfl ?_
          refine i_goto (tgt := 28) dX11_walkersInState_74 (by decide) ?_
          refine ih _ ?_ (k + 1) _ rfl (by omega) (by omega) ?_
          · omega
          rw [zsum_s h1, hx]
          first | (rw [zb_t (by omega)]) | (rw [zb_f (by omega)])
        · -- on
          refine i_const dX11_walkersInState_64 ?_
          refine i_goto (tgt := 69) dX11_walkersInState_65 (by decide) ?_
          refine i_add dX11_walkersInState_69 ?_
          refine i_istore_n dX11_walkersInState_70 (L' := [some _, some _, some _, some _, some _]) (by decide) rfl ?_
          refine i_iinc dX11_walkersInState_71 rfl (L' := [some _, some _, some _, some _, some _]) (by decide) rfl ?_
          refine i_goto (tgt := 28) dX11_walkersInState_74 (by decide) ?_
          refine ih _ ?_ (k + 1) _ rfl (by omega) (by omega) ?_
          · omega
          rw [zsum_s h1, hx]
          first | (rw [zb_t (by omega)]) | (rw [zb_f (by omega)])
theorem k_walkersInState {s t : Int} (hO : wOK (C 0)) (h_s : -2147483648 ≤ s ∧ s < 2147483648) (h_t : -2147483648 ≤ t ∧ t < 2147483648) (hp1 : ¬ ((s = 0 ∨ s = 1) ∧ 0 ≤ t ∧ t < C 0 (476 * s + 5)) → P (.inl (some (.int (iI 0)))) (vu V 12 1, C, J)) (hp0 : (s = 0 ∨ s = 1) ∧ 0 ≤ t ∧ t < C 0 (476 * s + 5) → P (.inl (some (.int (iI (wIn (C 0) s t))))) (vu V 12 0, C, J)) : RM G mX11_walkersInState (m_I Y h0) [.ref (Y 38), .int (iI s), .int (iI t)] (d + 2) 0 0 P (V, C, J) := by
  refine RM.of (L := [some (.ref (Y 38)), some (.int (iI s)), some (.int (iI t)), none, none]) cfX11_walkersInState rfl (Nat.le_of_ble_eq_true rfl) ?_
  refine i_aload_n dX11_walkersInState_0 rfl ?_
  refine i_aload_n dX11_walkersInState_1 rfl ?_
  refine i_iload_n dX11_walkersInState_2 rfl ?_
  refine i_iload_n dX11_walkersInState_3 rfl ?_
  refine t_callV (As := [_, _]) dX11_walkersInState_4 cfX11_isState imX11_isState seX11_isState lX11_254 rfl rfl rfl (Nat.le_of_ble_eq_true rfl) ?_
  refine k_isState (w := C 0) rfl (by omega) (by omega) hO (RK.v ?_)
  refine i_ifne_b (tgt := 14) dX11_walkersInState_7 (by decide) (fun c7 => ?_) (fun c7 => ?_)
  · -- jumps
    refine i_const dX11_walkersInState_14 ?_
    refine t_callV (As := [_]) dX11_walkersInState_15 cfX11_throwsOne imX11_throwsOne seX11_throwsOne lX11_209 rfl rfl rfl (Nat.le_of_ble_eq_true rfl) ?_
    refine k_throwsOne (by first | exact zb_or | omega) (RK.v ?_)
    refine i_if_eq (tgt := 23) dX11_walkersInState_18 (by decide) (by decide) (fun c18 => ?_) (fun c18 => by omega)
    refine i_const dX11_walkersInState_23 ?_
    refine i_istore_n dX11_walkersInState_24 (L' := [some _, some _, some _, some _, none]) (by decide) rfl ?_
    refine i_const dX11_walkersInState_25 ?_
    refine i_istore dX11_walkersInState_26 (L' := [some _, some _, some _, some _, some _]) (by decide) rfl ?_
    have b1 := hO.2.1
    exact k_wis_l hO h_s h_t (hp0 (by omega)) _ 0 0 rfl (by omega) (by omega) rfl
  · -- on
    refine i_const dX11_walkersInState_10 ?_
    refine i_goto (tgt := 15) dX11_walkersInState_11 (by decide) ?_
    refine t_callV (As := [_]) dX11_walkersInState_15 cfX11_throwsOne imX11_throwsOne seX11_throwsOne lX11_209 rfl rfl rfl (Nat.le_of_ble_eq_true rfl) ?_
    refine k_throwsOne (by first | exact zb_or | omega) (RK.v ?_)
    refine i_if_eq (tgt := 23) dX11_walkersInState_18 (by decide) (by decide) (fun c18 => by omega) (fun c18 => ?_)
    refine i_const dX11_walkersInState_21 ?_
    refine i_ireturn dX11_walkersInState_22 rfl rfl ?_
    exact hp1 (by omega)
theorem k_det_l1 {s q c : Int} (hO : wOK (C 0)) (hs : s = 0 ∨ s = 1) (hq : 1 ≤ q ∧ q ≤ C 0 (476 * s + 0)) (hc : 0 ≤ c ∧ c < 6) (kk : ∀ p, RW G mX11_isDeterministicAt (m_I Y h0) P (d + 1) 0 0 107 [some (.ref (Y 38)), some (.int (iI s)), some (.int (iI q)), some (.int (iI c)), some (.int (iI (wFol (C 0) s q c))), some (.int (iI p)), none] [] (V, C, J)) : ∀ (zz : Nat) (p : Int) (x : Int), zz = (C 0 (476 * s + 0) + 1 - p).toNat → (1 ≤ p) → (p ≤ C 0 (476 * s + 0) + 1) → (x = zsum (fun j => zb (zt (C 0 (476 * s + (6 + q))) (j + 1) ∧ (C 0 (476 * s + (31 + (j + 1))) = 6 ∨ C 0 (476 * s + (31 + (j + 1))) = c))) (p - 1).toNat) → RW G mX11_isDeterministicAt (m_I Y h0) P (d + 1) 0 0 37 [some (.ref (Y 38)), some (.int (iI s)), some (.int (iI q)), some (.int (iI c)), some (.int (iI x)), some (.int (iI p)), none] [] (V, C, J) := by
  intro zz
  induction zz using Nat.strongRecOn with
  | _ zz ih =>
    intro p x hzz h1 h2 hx
    have b0 := hO.pos hs
    have b1 := hO.msk hs (6 + q) (by omega) (by omega)
    have b2 := hO.str hs p
    refine i_iload dX11_isDeterministicAt_37 rfl ?_
    refine i_aload_n dX11_isDeterministicAt_39 rfl ?_
    refine i_iload_n dX11_isDeterministicAt_40 rfl ?_
    refine i_const dX11_isDeterministicAt_41 ?_
    refine t_callV (As := [_, _]) dX11_isDeterministicAt_42 cfX11_of imX11_of seX11_of lX11_115 rfl rfl rfl (Nat.le_of_ble_eq_true rfl) ?_
    refine k_of (w := C 0) rfl (by omega) (RK.v ?_)
    refine i_icmp_gt (tgt := 107) dX11_isDeterministicAt_45 (by decide) (by omega) (by omega) (fun c45 => ?_) (fun c45 => ?_)
    · -- jumps
      obtain rfl : p = C 0 (476 * s + 0) + 1 := by omega
      have hx2 : x = wFol (C 0) s q c := by rw [hx, show C 0 (476 * s + 0) + 1 - 1 = C 0 (476 * s + 0) by omega]; rfl
      rw [hx2]
      exact kk _
    · -- on
      refine i_aload_n dX11_isDeterministicAt_48 rfl ?_
      refine i_iload_n dX11_isDeterministicAt_49 rfl ?_
      refine i_bipush dX11_isDeterministicAt_50 (by decide) ?_
      refine i_iload dX11_isDeterministicAt_52 rfl ?_
      refine i_add dX11_isDeterministicAt_54 ?_
      refine t_callV (As := [_, _]) dX11_isDeterministicAt_55 cfX11_of imX11_of seX11_of lX11_115 rfl rfl rfl (Nat.le_of_ble_eq_true rfl) ?_
      refine k_of (w := C 0) rfl (by omega) (RK.v ?_)
      refine i_istore dX11_isDeterministicAt_58 (L' := [some _, some _, some _, some _, some _, some _, some _]) (by decide) rfl ?_
      refine i_iload dX11_isDeterministicAt_60 rfl ?_
      refine i_aload_n dX11_isDeterministicAt_62 rfl ?_
      refine i_iload_n dX11_isDeterministicAt_63 rfl ?_
      refine i_bipush dX11_isDeterministicAt_64 (by decide) ?_
      refine i_iload_n dX11_isDeterministicAt_66 rfl ?_
      refine i_add dX11_isDeterministicAt_67 ?_
      refine t_callV (As := [_, _]) dX11_isDeterministicAt_68 cfX11_of imX11_of seX11_of lX11_115 rfl rfl rfl (Nat.le_of_ble_eq_true rfl) ?_
      refine k_of (w := C 0) rfl (by omega) (RK.v ?_)
      refine i_iload dX11_isDeterministicAt_71 rfl ?_
      refine i_shr dX11_isDeterministicAt_73 (iI_shr (by omega) (by omega)) ?_
      refine i_const dX11_isDeterministicAt_74 ?_
      refine i_and dX11_isDeterministicAt_75 (zs_nn) (by omega) ?_
      refine RW.ti zs_1 ?_
      refine i_const dX11_isDeterministicAt_76 ?_
      refine i_icmp_ne_b1 (tgt := 97) dX11_isDeterministicAt_77 (by decide) (fun c77 => ?_) (fun c77 => ?_)
      · -- jumps
        refine i_const dX11_isDeterministicAt_97 ?_
        refine i_add dX11_isDeterministicAt_98 ?_
        refine i_istore dX11_isDeterministicAt_99 (L' := [some _, some _, some _, some _, some _, some _, some _]) (by decide) rfl ?_
        refine i_iinc dX11_isDeterministicAt_101 rfl (L' := [some _, some _, some _, some _, some _, some _, some _]) (by decide) rfl ?_
        refine i_goto (tgt := 37) dX11_isDeterministicAt_104 (by decide) ?_
        refine RW.wk (L' := [some _, some _, some _, some _, some _, some _, none]) (p_subL.at (by repeat (first | exact subL_nil | refine subL_s ?_ | refine subL_n ?_))) ?_
        refine ih _ ?_ (p + 1) _ rfl (by omega) (by omega) ?_
        · omega
        rw [show (p + 1 - 1).toNat = ((p - 1) + 1).toNat by omega, zsum_s (by omega), hx, show p - 1 + 1 = p by omega]
        first | rw [zb_t ⟨by assumption, by omega⟩] | (rw [zb_f]; rintro ⟨y1, y2⟩; first | contradiction | omega)
      · -- on
        refine i_iload dX11_isDeterministicAt_80 rfl ?_
        refine i_bipush dX11_isDeterministicAt_82 (by decide) ?_
        refine i_icmp_eq (tgt := 93) dX11_isDeterministicAt_84 (by decide) (by omega) (by omega) (fun c84 => ?_) (fun c84 => ?_)
        · -- jumps
          refine i_const dX11_isDeterministicAt_93 ?_
          refine i_goto (tgt := 98) dX11_isDeterministicAt_94 (by decide) ?_
          refine i_add dX11_isDeterministicAt_98 ?_
          refine i_istore dX11_isDeterministicAt_99 (L' := [some _, some _, some _, some _, some _, some _, some _]) (by decide) rfl ?_
          refine i_iinc dX11_isDeterministicAt_101 rfl (L' := [some _, some _, some _, some _, some _, some _, some _]) (by decide) rfl ?_
          refine i_goto (tgt := 37) dX11_isDeterministicAt_104 (by decide) ?_
          refine RW.wk (L' := [some _, some _, some _, some _, some _, some _, none]) (p_subL.at (by repeat (first | exact subL_nil | refine subL_s ?_ | refine subL_n ?_))) ?_
          refine ih _ ?_ (p + 1) _ rfl (by omega) (by omega) ?_
          · omega
          rw [show (p + 1 - 1).toNat = ((p - 1) + 1).toNat by omega, zsum_s (by omega), hx, show p - 1 + 1 = p by omega]
          first | rw [zb_t ⟨by assumption, by omega⟩] | (rw [zb_f]; rintro ⟨y1, y2⟩; first | contradiction | omega)
        · -- on
          refine i_iload dX11_isDeterministicAt_87 rfl ?_
          refine i_iload_n dX11_isDeterministicAt_89 rfl ?_
          refine i_icmp_ne (tgt := 97) dX11_isDeterministicAt_90 (by decide) (by omega) (by omega) (fun c90 => ?_) (fun c90 => ?_)
          · -- jumps
            refine i_const dX11_isDeterministicAt_97 ?_
            refine i_add dX11_isDeterministicAt_98 ?_
            refine i_istore dX11_isDeterministicAt_99 (L' := [some _, some _, some _, some _, some _, some _, some _]) (by decide) rfl ?_
            refine i_iinc dX11_isDeterministicAt_101 rfl (L' := [some _, some _, some _, some _, some _, some _, some _]) (by decide) rfl ?_
            refine i_goto (tgt := 37) dX11_isDeterministicAt_104 (by decide) ?_
            refine RW.wk (L' := [some _, some _, some _, some _, some _, some _, none]) (p_subL.at (by repeat (first | exact subL_nil | refine subL_s ?_ | refine subL_n ?_))) ?_
            refine ih _ ?_ (p + 1) _ rfl (by omega) (by omega) ?_
            · omega
            rw [show (p + 1 - 1).toNat = ((p - 1) + 1).toNat by omega, zsum_s (by omega), hx, show p - 1 + 1 = p by omega]
            first | rw [zb_t ⟨by assumption, by omega⟩] | (rw [zb_f]; rintro ⟨y1, y2⟩; first | contradiction | omega)
          · -- on
            refine i_const dX11_isDeterministicAt_93 ?_
            refine i_goto (tgt := 98) dX11_isDeterministicAt_94 (by decide) ?_
            refine i_add dX11_isDeterministicAt_98 ?_
            refine i_istore dX11_isDeterministicAt_99 (L' := [some _, some _, some _, some _, some _, some _, some _]) (by decide) rfl ?_
            refine i_iinc dX11_isDeterministicAt_101 rfl (L' := [some _, some _, some _, some _, some _, some _, some _]) (by decide) rfl ?_
            refine i_goto (tgt := 37) dX11_isDeterministicAt_104 (by decide) ?_
            refine RW.wk (L' := [some _, some _, some _, some _, some _, some _, none]) (p_subL.at (by repeat (first | exact subL_nil | refine subL_s ?_ | refine subL_n ?_))) ?_
            refine ih _ ?_ (p + 1) _ rfl (by omega) (by omega) ?_
            · omega
            rw [show (p + 1 - 1).toNat = ((p - 1) + 1).toNat by omega, zsum_s (by omega), hx, show p - 1 + 1 = p by omega]
            first | rw [zb_t ⟨by assumption, by omega⟩] | (rw [zb_f]; rintro ⟨y1, y2⟩; first | contradiction | omega)
theorem zsum_rg {f : Int → Int} : ∀ n : Nat, (∀ j : Int, 0 ≤ j → j < n → 0 ≤ f j ∧ f j ≤ 1) → 0 ≤ zsum f n ∧ zsum f n ≤ n
  | 0, _ => ⟨Int.le_refl _, Int.le_refl _⟩
  | n + 1, h => by
    have h1 := zsum_rg n (fun j a b => h j a (by omega))
    have h2 := h n (by omega) (by omega)
    show 0 ≤ zsum f n + f n ∧ zsum f n + f n ≤ ((n + 1 : Nat) : Int)
    omega
theorem wFol_rg {w : Int → Int} {s q c : Int} (hO : wOK w) (hs : s = 0 ∨ s = 1) : 0 ≤ wFol w s q c ∧ wFol w s q c ≤ 24 := by
  have h1 := hO.pos hs
  have h2 := zsum_rg (f := fun j => zb (zt (w (476 * s + (6 + q))) (j + 1) ∧ (w (476 * s + (31 + (j + 1))) = 6 ∨ w (476 * s + (31 + (j + 1))) = c))) (w (476 * s + 0)).toNat (fun j _ _ => zb_01)
  unfold wFol
  omega
/-- a position is deterministic -/
abbrev wDet (w : Int → Int) (s q : Int) : Prop := ∀ c, 0 ≤ c → c < 6 → wFol w s q c ≤ 1
noncomputable def zc (p : Prop) : Int := @zb p (Classical.propDecidable p)
theorem zc_t {p : Prop} (h : p) : zc p = 1 := @zb_t p (Classical.propDecidable p) h
theorem zc_f {p : Prop} (h : ¬ p) : zc p = 0 := @zb_f p (Classical.propDecidable p) h
theorem zc_c {p q : Prop} (h : p ↔ q) : zc p = zc q := by
  by_cases c : p
  · rw [zc_t c, zc_t (h.mp c)]
  · rw [zc_f c, zc_f (fun y => c (h.mpr y))]
theorem zc_or {p : Prop} : zc p = 0 ∨ zc p = 1 := by
  by_cases c : p
  · exact Or.inr (zc_t c)
  · exact Or.inl (zc_f c)
theorem i_ifeq_c {σ : Type} {G : p_G} {M : p_M} {I : σ → p_H → Prop} {P : (Option Value) ⊕ String → σ → Prop} {d k n pc : Nat} {L : p_LL} {st : List Value} {X : σ} {p : Prop} {off : Int} {tgt : Nat} (hd : decode M.2.1 pc = .ok (.ifCond .eq off, 3)) (ht : (pc : Int) + off = (tgt : Int)) (kt : ¬ p → RW G M I P d k n tgt L st X) (kf : p → RW G M I P d k n (pc + 3) L st X) : RW G M I P d k n pc L (.int (iI (zc p)) :: st) X := @i_ifeq_b σ G M I P d k n pc L st X p (Classical.propDecidable p) off tgt hd ht kt kf
theorem i_ifne_c {σ : Type} {G : p_G} {M : p_M} {I : σ → p_H → Prop} {P : (Option Value) ⊕ String → σ → Prop} {d k n pc : Nat} {L : p_LL} {st : List Value} {X : σ} {p : Prop} {off : Int} {tgt : Nat} (hd : decode M.2.1 pc = .ok (.ifCond .ne off, 3)) (ht : (pc : Int) + off = (tgt : Int)) (kt : p → RW G M I P d k n tgt L st X) (kf : ¬ p → RW G M I P d k n (pc + 3) L st X) : RW G M I P d k n pc L (.int (iI (zc p)) :: st) X := @i_ifne_b σ G M I P d k n pc L st X p (Classical.propDecidable p) off tgt hd ht kt kf
theorem zc_zb {p : Prop} [Decidable p] : zb p = zc p := by
  by_cases c : p
  · rw [zc_t c, zb_t c]
  · rw [zc_f c, zb_f c]
theorem k_det_l2 {s q : Int} (hO : wOK (C 0)) (hs : s = 0 ∨ s = 1) (hq : 1 ≤ q ∧ q ≤ C 0 (476 * s + 0)) (hp : P (.inl (some (.int (iI (zc (wDet (C 0) s q)))))) (V, C, J)) : ∀ (zz : Nat) (c : Int), zz = (6 - c).toNat → (0 ≤ c) → (c ≤ 6) → (∀ c2, 0 ≤ c2 → c2 < c → wFol (C 0) s q c2 ≤ 1) → RW G mX11_isDeterministicAt (m_I Y h0) P (d + 1) 0 0 25 [some (.ref (Y 38)), some (.int (iI s)), some (.int (iI q)), some (.int (iI c)), none, none, none] [] (V, C, J) := by
  intro zz
  induction zz using Nat.strongRecOn with
  | _ zz ih =>
    intro c hzz h1 h2 hI
    refine i_iload_n dX11_isDeterministicAt_25 rfl ?_
    refine i_bipush dX11_isDeterministicAt_26 (by decide) ?_
    refine i_icmp_ge (tgt := 121) dX11_isDeterministicAt_28 (by decide) (by omega) (by omega) (fun c28 => ?_) (fun c28 => ?_)
    · -- jumps
      refine i_const dX11_isDeterministicAt_121 ?_
      refine i_ireturn dX11_isDeterministicAt_122 rfl rfl ?_
      rw [zc_t (fun c2 c0 c1 => hI c2 c0 (by omega))] at hp; exact hp
    · -- on
      refine i_const dX11_isDeterministicAt_31 ?_
      refine i_istore dX11_isDeterministicAt_32 (L' := [some _, some _, some _, some _, some _, none, none]) (by decide) rfl ?_
      refine i_const dX11_isDeterministicAt_34 ?_
      refine i_istore dX11_isDeterministicAt_35 (L' := [some _, some _, some _, some _, some _, some _, none]) (by decide) rfl ?_
      refine k_det_l1 hO hs hq (by omega) (fun p1 => ?_) _ 1 0 rfl (by omega) (by omega) rfl
      have b5 := wFol_rg hO hs (q := q) (c := c)
      refine i_iload dX11_isDeterministicAt_107 rfl ?_
      refine i_const dX11_isDeterministicAt_109 ?_
      refine i_icmp_le (tgt := 115) dX11_isDeterministicAt_110 (by decide) (by omega) (by omega) (fun c110 => ?_) (fun c110 => ?_)
      · -- jumps
        refine i_iinc dX11_isDeterministicAt_115 rfl (L' := [some _, some _, some _, some _, some _, some _, none]) (by decide) rfl ?_
        refine i_goto (tgt := 25) dX11_isDeterministicAt_118 (by decide) ?_
        refine RW.wk (L' := [some _, some _, some _, some _, none, none, none]) (p_subL.at (by repeat (first | exact subL_nil | refine subL_s ?_ | refine subL_n ?_))) ?_
        refine ih _ ?_ (c + 1) rfl (by omega) (by omega) (fun c2 c0 c1 => ?_)
        · omega
        by_cases e : c2 = c
        · rw [e]; assumption
        · exact hI c2 c0 (by omega)
      · -- on
        refine i_const dX11_isDeterministicAt_113 ?_
        refine i_ireturn dX11_isDeterministicAt_114 rfl rfl ?_
        rw [zc_f (fun z => by have := z c (by omega) (by omega); omega)] at hp; exact hp
theorem k_isDeterministicAt {s p : Int} (hO : wOK (C 0)) (h_s : -2147483648 ≤ s ∧ s < 2147483648) (h_p : -2147483648 ≤ p ∧ p < 2147483648) (hp1 : ¬ ((s = 0 ∨ s = 1) ∧ 1 ≤ p ∧ p ≤ C 0 (476 * s + 0)) → P (.inl (some (.int (iI 0)))) (vu V 12 1, C, J)) (hp0 : (s = 0 ∨ s = 1) ∧ 1 ≤ p ∧ p ≤ C 0 (476 * s + 0) → P (.inl (some (.int (iI (zc (wDet (C 0) s p)))))) (vu V 12 0, C, J)) : RM G mX11_isDeterministicAt (m_I Y h0) [.ref (Y 38), .int (iI s), .int (iI p)] (d + 2) 0 0 P (V, C, J) := by
  refine RM.of (L := [some (.ref (Y 38)), some (.int (iI s)), some (.int (iI p)), none, none, none, none]) cfX11_isDeterministicAt rfl (Nat.le_of_ble_eq_true rfl) ?_
  refine i_aload_n dX11_isDeterministicAt_0 rfl ?_
  refine i_aload_n dX11_isDeterministicAt_1 rfl ?_
  refine i_iload_n dX11_isDeterministicAt_2 rfl ?_
  refine i_iload_n dX11_isDeterministicAt_3 rfl ?_
  refine t_callV (As := [_, _]) dX11_isDeterministicAt_4 cfX11_isPosition imX11_isPosition seX11_isPosition lX11_250 rfl rfl rfl (Nat.le_of_ble_eq_true rfl) ?_
  refine k_isPosition (w := C 0) rfl (by omega) (by omega) hO (RK.v ?_)
  refine i_ifne_b (tgt := 14) dX11_isDeterministicAt_7 (by decide) (fun c7 => ?_) (fun c7 => ?_)
  · -- jumps
    refine i_const dX11_isDeterministicAt_14 ?_
    refine t_callV (As := [_]) dX11_isDeterministicAt_15 cfX11_throwsOne imX11_throwsOne seX11_throwsOne lX11_209 rfl rfl rfl (Nat.le_of_ble_eq_true rfl) ?_
    refine k_throwsOne (by first | exact zb_or | omega) (RK.v ?_)
    refine i_if_eq (tgt := 23) dX11_isDeterministicAt_18 (by decide) (by decide) (fun c18 => ?_) (fun c18 => by omega)
    refine i_const dX11_isDeterministicAt_23 ?_
    refine i_istore_n dX11_isDeterministicAt_24 (L' := [some _, some _, some _, some _, none, none, none]) (by decide) rfl ?_
    exact k_det_l2 hO (by omega) (by omega) (hp0 (by omega)) _ 0 rfl (by omega) (by omega) (fun c2 c0 c1 => by omega)
  · -- on
    refine i_const dX11_isDeterministicAt_10 ?_
    refine i_goto (tgt := 15) dX11_isDeterministicAt_11 (by decide) ?_
    refine t_callV (As := [_]) dX11_isDeterministicAt_15 cfX11_throwsOne imX11_throwsOne seX11_throwsOne lX11_209 rfl rfl rfl (Nat.le_of_ble_eq_true rfl) ?_
    refine k_throwsOne (by first | exact zb_or | omega) (RK.v ?_)
    refine i_if_eq (tgt := 23) dX11_isDeterministicAt_18 (by decide) (by decide) (fun c18 => by omega) (fun c18 => ?_)
    refine i_const dX11_isDeterministicAt_21 ?_
    refine i_ireturn dX11_isDeterministicAt_22 rfl rfl ?_
    exact hp1 (by omega)
theorem k_acc_l {s : Int} (hO : wOK (C 0)) (hs : s = 0 ∨ s = 1) (h7 : 0 ≤ V 7 ∧ V 7 ≤ 200) (hby : ∀ i, 0 ≤ i → i < V 7 → 0 ≤ C 6 i ∧ C 6 i < 256) (hp : P (.inl (some (.int (iI (zc ((∀ i, 0 ≤ i → i < V 7 → bStr (C 6) i) ∧ wAcc (C 0) s (wRun (C 0) (C 6) s (V 7).toNat))))))) (V, C, J)) : ∀ (zz : Nat) (k : Int), zz = (V 7 - k).toNat → (0 ≤ k) → (k ≤ V 7) → (∀ i, 0 ≤ i → i < k → bStr (C 6) i) → RW G mX11_acceptsInput (m_I Y h0) P (d + 2) 0 0 25 [some (.ref (Y 38)), some (.int (iI s)), some (.int (iI (wRun (C 0) (C 6) s k.toNat))), some (.int (iI k))] [] (V, C, J) := by
  intro zz
  induction zz using Nat.strongRecOn with
  | _ zz ih =>
    intro k hzz h1 h2 hI
    have b1 := hO.sts hs
    have b2 := wRun_ok (b := C 6) hO hs k.toNat (fun i i0 i1 => hI i i0 (by omega))
    have b3 := hby k h1
    refine i_iload_n dX11_acceptsInput_25 rfl ?_
    refine i_aload_n dX11_acceptsInput_26 rfl ?_
    refine t_getI dX11_acceptsInput_27 fX11_89 (by decide) rfl ?_
    refine i_icmp_ge (tgt := 72) dX11_acceptsInput_30 (by decide) (by omega) (by omega) (fun c30 => ?_) (fun c30 => ?_)
    · -- jumps
      refine i_aload_n dX11_acceptsInput_72 rfl ?_
      refine i_iload_n dX11_acceptsInput_73 rfl ?_
      refine i_iload_n dX11_acceptsInput_74 rfl ?_
      refine t_callV (As := [_, _]) dX11_acceptsInput_75 cfX11_accepts imX11_accepts seX11_accepts lX11_257 rfl rfl rfl (Nat.le_of_ble_eq_true rfl) ?_
      refine k_accepts (w := C 0) rfl (by omega) (by omega) (hO.1 _ (by omega)) (RK.v ?_)
      refine i_ireturn dX11_acceptsInput_78 rfl (zb_nar (by first | exact zb_or | omega)) ?_
      obtain rfl : k = V 7 := by omega
      rw [zc_zb, zc_c (p := wAcc _ _ _) (q := (∀ i, 0 ≤ i → i < V 7 → bStr (C 6) i) ∧ wAcc (C 0) s (wRun (C 0) (C 6) s (V 7).toNat)) ⟨fun y => ⟨hI, y⟩, fun y => y.2⟩]; exact hp
    · -- on
      refine i_aload_n dX11_acceptsInput_33 rfl ?_
      refine t_getA dX11_acceptsInput_34 fX11_22.o rfl ?_
      refine i_iload_n dX11_acceptsInput_37 rfl ?_
      refine t_iald (N := 200) dX11_acceptsInput_38 (by decide) (by decide) rfl (by omega) rfl ?_
      refine i_bipush dX11_acceptsInput_39 (by decide) ?_
      refine i_sub dX11_acceptsInput_41 ?_
      refine t_callS (As := [_]) dX11_acceptsInput_42 cfX11_isStreet stX11_isStreet lX11_234 rfl rfl (Nat.le_of_ble_eq_true rfl) ?_
      refine k_isStreet (by omega) (RK.v ?_)
      refine i_ifne_b (tgt := 50) dX11_acceptsInput_45 (by decide) (fun c45 => ?_) (fun c45 => ?_)
      · -- jumps
        refine i_aload_n dX11_acceptsInput_50 rfl ?_
        refine i_iload_n dX11_acceptsInput_51 rfl ?_
        refine i_iload_n dX11_acceptsInput_52 rfl ?_
        refine i_aload_n dX11_acceptsInput_53 rfl ?_
        refine t_getA dX11_acceptsInput_54 fX11_22.o rfl ?_
        refine i_iload_n dX11_acceptsInput_57 rfl ?_
        refine t_iald (N := 200) dX11_acceptsInput_58 (by decide) (by decide) rfl (by omega) rfl ?_
        refine i_bipush dX11_acceptsInput_59 (by decide) ?_
        refine i_sub dX11_acceptsInput_61 ?_
        refine t_callV (As := [_, _, _]) dX11_acceptsInput_62 cfX11_goes imX11_goes seX11_goes lX11_231 rfl rfl rfl (Nat.le_of_ble_eq_true rfl) ?_
        refine k_goes (w := C 0) rfl (by omega) (by omega) (by omega) (RK.v ?_)
        refine i_istore_n dX11_acceptsInput_65 (L' := [some _, some _, some _, some _]) (by decide) rfl ?_
        refine i_iinc dX11_acceptsInput_66 rfl (L' := [some _, some _, some _, some _]) (by decide) rfl ?_
        refine i_goto (tgt := 25) dX11_acceptsInput_69 (by decide) ?_
        rw [← wRun_s (w := C 0) (b := C 6) (s := s) h1]
        refine ih _ ?_ (k + 1) rfl (by omega) (by omega) (fun i i0 i1 => ?_)
        · omega
        by_cases e : i = k
        · rw [e]; assumption
        · exact hI i i0 (by omega)
      · -- on
        refine i_const dX11_acceptsInput_48 ?_
        refine i_ireturn dX11_acceptsInput_49 rfl rfl ?_
        rw [zc_f (fun z => by have := z.1 k h1 (by omega); unfold bStr at this; omega)] at hp; exact hp
theorem k_acceptsInput {s : Int} (hO : wOK (C 0)) (h_s : -2147483648 ≤ s ∧ s < 2147483648) (h7 : 0 ≤ V 7 ∧ V 7 ≤ 200) (hby : ∀ i, 0 ≤ i → i < V 7 → 0 ≤ C 6 i ∧ C 6 i < 256) (hp1 : ¬ (s = 0 ∨ s = 1) → P (.inl (some (.int (iI 0)))) (vu V 12 1, C, J)) (hp0 : s = 0 ∨ s = 1 → P (.inl (some (.int (iI (zc ((∀ i, 0 ≤ i → i < V 7 → bStr (C 6) i) ∧ wAcc (C 0) s (wRun (C 0) (C 6) s (V 7).toNat))))))) (vu V 12 0, C, J)) : RM G mX11_acceptsInput (m_I Y h0) [.ref (Y 38), .int (iI s)] (d + 2) 0 0 P (V, C, J) := by
  refine RM.of (L := [some (.ref (Y 38)), some (.int (iI s)), none, none]) cfX11_acceptsInput rfl (Nat.le_of_ble_eq_true rfl) ?_
  refine i_aload_n dX11_acceptsInput_0 rfl ?_
  refine i_iload_n dX11_acceptsInput_1 rfl ?_
  refine t_callS (As := [_]) dX11_acceptsInput_2 cfX11_isSlot stX11_isSlot lX11_112 rfl rfl (Nat.le_of_ble_eq_true rfl) ?_
  refine k_isSlot (by omega) (RK.v ?_)
  refine i_ifne_b (tgt := 12) dX11_acceptsInput_5 (by decide) (fun c5 => ?_) (fun c5 => ?_)
  · -- jumps
    refine i_const dX11_acceptsInput_12 ?_
    refine t_callV (As := [_]) dX11_acceptsInput_13 cfX11_throwsOne imX11_throwsOne seX11_throwsOne lX11_209 rfl rfl rfl (Nat.le_of_ble_eq_true rfl) ?_
    refine k_throwsOne (by first | exact zb_or | omega) (RK.v ?_)
    refine i_if_eq (tgt := 21) dX11_acceptsInput_16 (by decide) (by decide) (fun c16 => ?_) (fun c16 => by omega)
    refine i_const dX11_acceptsInput_21 ?_
    refine i_istore_n dX11_acceptsInput_22 (L' := [some _, some _, some _, none]) (by decide) rfl ?_
    refine i_const dX11_acceptsInput_23 ?_
    refine i_istore_n dX11_acceptsInput_24 (L' := [some _, some _, some _, some _]) (by decide) rfl ?_
    exact k_acc_l (V := vu V 12 0) hO (by omega) h7 hby (hp0 (by omega)) _ 0 rfl (by omega) (show (0 : Int) ≤ V 7 by omega) (fun c2 c0 c1 => by omega)
  · -- on
    refine i_const dX11_acceptsInput_8 ?_
    refine i_goto (tgt := 13) dX11_acceptsInput_9 (by decide) ?_
    refine t_callV (As := [_]) dX11_acceptsInput_13 cfX11_throwsOne imX11_throwsOne seX11_throwsOne lX11_209 rfl rfl rfl (Nat.le_of_ble_eq_true rfl) ?_
    refine k_throwsOne (by first | exact zb_or | omega) (RK.v ?_)
    refine i_if_eq (tgt := 21) dX11_acceptsInput_16 (by decide) (by decide) (fun c16 => by omega) (fun c16 => ?_)
    refine i_const dX11_acceptsInput_19 ?_
    refine i_ireturn dX11_acceptsInput_20 rfl rfl ?_
    exact hp1 (by omega)
end M16
