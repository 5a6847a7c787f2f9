/-! ===== the reference: compile, homeShare, meanSetSize ===== -/
/-- what a compile does that finds no error -/
def mCmp (V V' : Nat → Int) (C C' : Nat → Int → Int) (w' : Int → Int) : Prop := (V' 12 = 0 ∧ V' 7 = 0 ∧ V' 8 = 0 ∧ V' 9 = -1) ∧ sV (4 :: 7 :: 8 :: 9 :: m_sv) V V' ∧ sC (0 :: 2 :: 18 :: m_sc) C C' ∧ (∀ j, 0 ≤ j → j < 985 → C' 0 j = w' j) ∧ V' 4 = (if V 4 = 8 then 7 else V 4) + 1 ∧ (∀ i j, 0 ≤ i → i < V' 4 - 1 → 0 ≤ j → j < 985 → C' 2 (985 * i + j) = C 2 (985 * (if V 4 = 8 then i + 1 else i) + j)) ∧ ∀ j, 0 ≤ j → j < 985 → C' 2 (985 * (V' 4 - 1) + j) = C 0 j
theorem mCmp.of {V V2 V3 : Nat → Int} {C C2 C3 : Nat → Int → Int} {w' : Int → Int} (hr : mRem V2 V3 C2 C3 (C 0)) (h2 : sC (0 :: 18 :: m_sc) C C2) (hw : ∀ j, 0 ≤ j → j < 985 → C2 0 j = w' j) (hv : sV (7 :: 8 :: 9 :: m_sv) V V2) (h7 : V2 7 = 0) (h8 : V2 8 = 0) (h9 : V2 9 = -1) (h12 : V2 12 = 0) : mCmp V V3 C C3 w' := by
  obtain ⟨r1, r2, r3, r4, r5⟩ := hr
  have e4 : V2 4 = V 4 := hv 4 (by decide)
  have e2 : C2 2 = C 2 := h2 2 (by decide)
  refine ⟨⟨(r1 12 (by decide)).trans h12, (r1 7 (by decide)).trans h7, (r1 8 (by decide)).trans h8, (r1 9 (by decide)).trans h9⟩, hv.t2 r1 (by decide) (by decide), h2.t2 r2 (by decide) (by decide), fun j a b => (congrFun (r2 0 (by decide)) j).trans (hw j a b), ?_, fun i j a b c e => ?_, r5⟩
  · rw [r3, e4]
  · rw [r4 i j a b c e, e4, e2]
/-- what a compile does that finds an error -/
def mFai (V V' : Nat → Int) (C C' : Nat → Int → Int) (kd off : Int) : Prop := (V' 12 = 0 ∧ V' 7 = 0 ∧ V' 8 = kd ∧ V' 9 = off) ∧ sV (7 :: 8 :: 9 :: m_sv) V V' ∧ sC (0 :: 18 :: m_sc) C C' ∧ ∀ j, 0 ≤ j → j < 985 → C' 0 j = C 0 j
section M37
variable {G : p_G} {Y : Nat → Nat} {h0 : p_H} {P : (Option Value) ⊕ String → m_X → Prop} {d : Nat} {V : Nat → Int} {C : Nat → Int → Int} {J : Int → Int}
theorem k_compile {s : Int} (hO : wOK (C 0)) (h4 : 0 ≤ V 4 ∧ V 4 ≤ 8) (h_s : -2147483648 ≤ s ∧ s < 2147483648) (hsz : 0 ≤ V 7 ∧ V 7 ≤ 200) (hB : ∀ j, 0 ≤ j → j < V 7 → 0 ≤ C 6 j ∧ C 6 j < 256) (hp1 : ¬ (s = 0 ∨ s = 1) → P (.inl (some (.int (iI 0)))) (vu V 12 1, C, J)) (hpE : s = 0 ∨ s = 1 → ∀ V' C' kd off, zCE (C 6) (V 7) kd off → mFai V V' C C' kd off → P (.inl (some (.int (iI (-1))))) (V', C', J)) (hpS : s = 0 ∨ s = 1 → ∀ V' C' N x w2, zRn (C 6) (V 7) 0 zX0 = .inr x → zDone x N → wNew x N w2 s → (∀ j, ¬ (476 * s + 0 ≤ j ∧ j < 476 * s + 476) → w2 j = C 0 j) → mCmp V V' C C' (wRes w2 s) → P (.inl (some (.int (iI x.1.1.1)))) (V', C', J)) : RM G mX11_compile (m_I Y h0) [.ref (Y 38), .int (iI s)] (d + 86) 0 0 P (V, C, J) := by
  refine RM.of (L := [some (.ref (Y 38)), some (.int (iI s)), none]) cfX11_compile rfl (Nat.le_of_ble_eq_true rfl) ?_
  refine i_aload_n dX11_compile_0 rfl ?_
  refine i_iload_n dX11_compile_1 rfl ?_
  refine t_callS (As := [_]) dX11_compile_2 cfX11_isSlot stX11_isSlot lX11_112 rfl rfl (Nat.le_of_ble_eq_true rfl) ?_
  refine k_isSlot (by omega) (RK.v ?_)
  refine i_ifne_b (tgt := 12) dX11_compile_5 (by decide) (fun c5 => ?_) (fun c5 => ?_)
  · -- jumps
    refine i_const dX11_compile_12 ?_
    refine t_callV (As := [_]) dX11_compile_13 cfX11_throwsOne imX11_throwsOne seX11_throwsOne lX11_209 rfl rfl rfl (Nat.le_of_ble_eq_true rfl) ?_
    refine k_throwsOne (by first | exact zb_or | omega) (RK.v ?_)
    refine i_if_eq (tgt := 21) dX11_compile_16 (by decide) (by decide) (fun c16 => ?_) (fun c16 => by omega)
    refine i_aload_n dX11_compile_21 rfl ?_
    refine t_callV (As := []) dX11_compile_22 cfX11_begins imX11_begins seX11_begins lX11_216 rfl rfl rfl (Nat.le_of_ble_eq_true rfl) ?_
    refine k_begins (fun C1 hC1 hf1 => RK.n0 ?_)
    have hw1 : C1 0 = C 0 := hC1 0 (by decide)
    refine i_aload_n dX11_compile_25 rfl ?_
    refine i_iload_n dX11_compile_26 rfl ?_
    refine t_callV (As := [_]) dX11_compile_27 cfX11_compiles imX11_compiles seX11_compiles lX11_83 rfl rfl rfl (Nat.le_of_ble_eq_true rfl) ?_
    refine k_compiles (sz := V 7) (by omega) rfl hsz (by rw [hC1 6 (by decide)]; exact hB) (by rw [hw1]; exact hO.2.1) (by rw [hw1]; exact fun k k0 k1 => (hO.wk k0 k1).1) (fun V2 C2 kd off hE h8 h9 hv hc => RK.v ?_) (fun V2 C2 N x w2 hx hd h8 h9 hv hc hn ho hw => RK.v ?_)
    · -- case
      refine i_istore_n dX11_compile_30 (L' := [some _, some _, some _]) (by decide) rfl ?_
      refine i_aload_n dX11_compile_31 rfl ?_
      refine i_const dX11_compile_32 ?_
      refine t_put dX11_compile_33 fX11_89 (by decide) rfl rfl ?_
      refine i_iload_n dX11_compile_36 rfl ?_
      refine i_if_ne (tgt := 46) dX11_compile_37 (by decide) (by decide) (fun c37 => by omega) (fun c37 => ?_)
      refine i_aload_n dX11_compile_40 rfl ?_
      refine t_callV (As := []) dX11_compile_41 cfX11_takesBack imX11_takesBack seX11_takesBack lX11_219 rfl rfl rfl (Nat.le_of_ble_eq_true rfl) ?_
      refine k_takesBack (fun C3 hC3 hf3 => RK.n0 ?_)
      refine i_const dX11_compile_44 ?_
      refine i_ireturn dX11_compile_45 rfl rfl ?_
      refine hpE (by omega) _ _ kd off (by rw [← hC1 6 (by decide)]; exact hE) ⟨⟨hv 12 (by decide), rfl, h8, h9⟩, ((sV.rfl (S := [12])).vu (by decide)).t2 (hv.t2 (sV.rfl.vu (S := [7]) (by decide)) (U := 7 :: cmV) (by decide) (by decide)) (by decide) (by decide), (hC1.t2 hc (U := 0 :: 18 :: m_sc) (by decide) (by decide)).t2 hC3 (by decide) (by decide), fun j j0 j1 => ?_⟩
      rw [hf3 j j0 j1, hc 1 (by decide)]
      exact hf1 j j0 j1
    · -- case
      refine i_istore_n dX11_compile_30 (L' := [some _, some _, some _]) (by decide) rfl ?_
      refine i_aload_n dX11_compile_31 rfl ?_
      refine i_const dX11_compile_32 ?_
      refine t_put dX11_compile_33 fX11_89 (by decide) rfl rfl ?_
      refine i_iload_n dX11_compile_36 rfl ?_
      refine i_if_ne (tgt := 46) dX11_compile_37 (by decide) (by decide) (fun c37 => ?_) (fun c37 => by omega)
      refine i_aload_n dX11_compile_46 rfl ?_
      refine t_callV (As := []) dX11_compile_47 cfX11_remember imX11_remember seX11_remember lX11_222 rfl rfl rfl (Nat.le_of_ble_eq_true rfl) ?_
      refine k_remember (w0 := C 0) (fun j a b => (congrFun (hc 1 (by decide)) j).trans (hf1 j a b)) (by show 0 ≤ V2 4 ∧ V2 4 ≤ 8; rw [hv 4 (by decide)]; exact h4) (fun V4 C4 hR4 => RK.n0 ?_)
      refine i_aload_n dX11_compile_50 rfl ?_
      refine i_iload_n dX11_compile_51 rfl ?_
      refine i_const dX11_compile_52 ?_
      refine t_callV (As := [_, _]) dX11_compile_53 cfX11_of imX11_of seX11_of lX11_115 rfl rfl rfl (Nat.le_of_ble_eq_true rfl) ?_
      refine k_of (w := C2 0) (hR4.2.1 0 (by decide)) (by omega) (RK.v ?_)
      refine i_ireturn dX11_compile_56 rfl rfl ?_
      have er : C2 0 (476 * s + 0) = x.1.1.1 := by
        rw [hw]
        unfold wRes
        rw [if_neg (by omega), hn.1 0 (by decide) (by decide) (by decide)]
        show zRg _ 0 _ _ _ _ _ _ (476 * 0 + 0) = _
        unfold zRg
        rw [if_pos rfl]
      rw [er]
      exact hpS (by omega) _ _ N x w2 (by rw [← hC1 6 (by decide)]; exact hx) hd hn (fun j hj => by rw [ho j hj, hw1]) (mCmp.of hR4 (hC1.t2 hc (by decide) (by decide)) (fun j _ _ => hw j) (((sV.rfl (S := [12])).vu (by decide)).t2 (hv.t2 (sV.rfl.vu (S := [7]) (by decide)) (U := 7 :: cmV) (by decide) (by decide)) (by decide) (by decide)) rfl h8 h9 (hv 12 (by decide)))
  · -- on
    refine i_const dX11_compile_8 ?_
    refine i_goto (tgt := 13) dX11_compile_9 (by decide) ?_
    refine t_callV (As := [_]) dX11_compile_13 cfX11_throwsOne imX11_throwsOne seX11_throwsOne lX11_209 rfl rfl rfl (Nat.le_of_ble_eq_true rfl) ?_
    refine k_throwsOne (by first | exact zb_or | omega) (RK.v ?_)
    refine i_if_eq (tgt := 21) dX11_compile_16 (by decide) (by decide) (fun c16 => by omega) (fun c16 => ?_)
    refine i_const dX11_compile_19 ?_
    refine i_ireturn dX11_compile_20 rfl rfl ?_
    exact hp1 (by omega)
/-- walkers in accepting states -/
def wHm (w : Int → Int) (k : Int) : Int := zsum (fun k => zb (wAcc w (w (953 + 3 * k + 0)) (w (953 + 3 * k + 1)))) k.toNat
theorem wHm_rg {w : Int → Int} {k : Int} (h : 0 ≤ k) : 0 ≤ wHm w k ∧ wHm w k ≤ k := by
  unfold wHm
  have := @zsum_rg (fun k => zb (wAcc w (w (953 + 3 * k + 0)) (w (953 + 3 * k + 1)))) k.toNat (fun j _ _ => zb_01)
  omega
theorem wHm_s {w : Int → Int} {k : Int} (h : 0 ≤ k) : wHm w (k + 1) = wHm w k + zb (wAcc w (w (953 + 3 * k + 0)) (w (953 + 3 * k + 1))) := zsum_s h
/-- the sizes of the first t sets -/
def wSz (w : Int → Int) (s t : Int) : Int := zsum (fun j => zpc 31 (w (476 * s + (56 + j)) - w (476 * s + (56 + j)) % 2).toNat) t.toNat
theorem zpc_rg : ∀ k x : Nat, 0 ≤ zpc k x ∧ zpc k x ≤ k
  | 0, _ => ⟨Int.le_refl _, Int.le_refl _⟩
  | k + 1, x => by
    have := zpc_rg k (x / 2)
    show 0 ≤ ((x % 2 : Nat) : Int) + zpc k (x / 2) ∧ ((x % 2 : Nat) : Int) + zpc k (x / 2) ≤ ((k + 1 : Nat) : Int)
    omega
theorem wSz_rg {w : Int → Int} {s t : Int} (h : 0 ≤ t) : 0 ≤ wSz w s t ∧ wSz w s t ≤ t * 31 := by
  unfold wSz
  have := @zsum_le (fun j => zpc 31 (w (476 * s + (56 + j)) - w (476 * s + (56 + j)) % 2).toNat) 31 t.toNat (fun j _ _ => zpc_rg 31 _)
  omega
theorem k_hs_l  (hO : wOK (C 0)) (hp : P (.inl (some (.float (if C 0 952 = 0 then FP.fconst0 else FP.fdiv (FP.i2f (iI (wHm (C 0) (C 0 952)))) (FP.i2f (iI (C 0 952))))))) (V, C, J)) : ∀ (zz : Nat) (k x : Int), zz = (C 0 952 - k).toNat → (0 ≤ k) → (k ≤ C 0 952) → (x = wHm (C 0) k) → RW G mX11_homeShare (m_I Y h0) P (d + 2) 0 0 9 [some (.ref (Y 38)), some (.int (iI x)), some (.int (iI k))] [] (V, C, J) := by
  intro zz
  induction zz using Nat.strongRecOn with
  | _ zz ih =>
    intro k x hzz h1 h2 hx
    have b0 := hO.2.1
    have b1 : k < C 0 952 → _ := fun h => hO.wk h1 h
    have b2 := @wHm_rg (C 0) k h1
    have b3 : k < C 0 952 → C 0 (953 + 3 * k + 1) < 61 := fun h => by have := hO.sts (b1 h).1; have := b1 h; omega
    refine i_iload_n dX11_homeShare_9 rfl ?_
    refine i_aload_n dX11_homeShare_10 rfl ?_
    refine t_getA dX11_homeShare_11 fX11_7.o rfl ?_
    refine i_sipush dX11_homeShare_14 (by decide) ?_
    refine t_iald (N := 985) (v := C 0 952) dX11_homeShare_17 (by decide) (by decide) rfl (by omega) rfl ?_
    refine i_icmp_ge (tgt := 54) dX11_homeShare_18 (by decide) (by omega) (by omega) (fun c18 => ?_) (fun c18 => ?_)
    · -- jumps
      refine i_aload_n dX11_homeShare_54 rfl ?_
      refine t_getA dX11_homeShare_55 fX11_7.o rfl ?_
      refine i_sipush dX11_homeShare_58 (by decide) ?_
      refine t_iald (N := 985) (v := C 0 952) dX11_homeShare_61 (by decide) (by decide) rfl (by omega) rfl ?_
      refine i_if_ne (tgt := 69) dX11_homeShare_62 (by decide) (by omega) (fun c62 => ?_) (fun c62 => ?_)
      · -- jumps
        refine i_iload_n dX11_homeShare_69 rfl ?_
        refine i_i2f dX11_homeShare_70 ?_
        refine i_aload_n dX11_homeShare_71 rfl ?_
        refine t_getA dX11_homeShare_72 fX11_7.o rfl ?_
        refine i_sipush dX11_homeShare_75 (by decide) ?_
        refine t_iald (N := 985) (v := C 0 952) dX11_homeShare_78 (by decide) (by decide) rfl (by omega) rfl ?_
        refine i_i2f dX11_homeShare_79 ?_
        refine i_fdiv dX11_homeShare_80 (fq_share (by omega) (by omega)) ?_
        refine i_freturn dX11_homeShare_81 rfl ?_
        obtain rfl : k = C 0 952 := by omega
        have hp' := hp
        rw [if_neg (by omega), ← hx] at hp'
        exact hp'
      · -- on
        refine i_fconst0 dX11_homeShare_65 ?_
        refine i_goto (tgt := 81) dX11_homeShare_66 (by decide) ?_
        refine i_freturn dX11_homeShare_81 rfl ?_
        obtain rfl : k = C 0 952 := by omega
        have hp' := hp
        rw [if_pos (by omega)] at hp'
        exact hp'
    · -- on
      have b4 := b1 (by omega)
      have b5 := hO.sts b4.1
      refine i_iload_n dX11_homeShare_21 rfl ?_
      refine i_aload_n dX11_homeShare_22 rfl ?_
      refine i_aload_n dX11_homeShare_23 rfl ?_
      refine i_iload_n dX11_homeShare_24 rfl ?_
      refine i_const dX11_homeShare_25 ?_
      refine t_callV (As := [_, _]) dX11_homeShare_26 cfX11_walkerOf imX11_walkerOf seX11_walkerOf lX11_190 rfl rfl rfl (Nat.le_of_ble_eq_true rfl) ?_
      refine k_walkerOf (w := C 0) rfl (by omega) (by omega) (RK.v ?_)
      refine i_aload_n dX11_homeShare_29 rfl ?_
      refine i_iload_n dX11_homeShare_30 rfl ?_
      refine i_const dX11_homeShare_31 ?_
      refine t_callV (As := [_, _]) dX11_homeShare_32 cfX11_walkerOf imX11_walkerOf seX11_walkerOf lX11_190 rfl rfl rfl (Nat.le_of_ble_eq_true rfl) ?_
      refine k_walkerOf (w := C 0) rfl (by omega) (by omega) (RK.v ?_)
      refine t_callV (As := [_, _]) dX11_homeShare_35 cfX11_accepts imX11_accepts seX11_accepts lX11_257 rfl rfl rfl (Nat.le_of_ble_eq_true rfl) ?_
      refine k_accepts (w := C 0) rfl (by omega) (by omega) (hO.1 _ (by omega)) (RK.v ?_)
      refine i_ifeq_b (tgt := 45) dX11_homeShare_38 (by decide) (fun c38 => ?_) (fun c38 => ?_)
      · -- jumps
        refine i_const dX11_homeShare_45 ?_
        refine i_add dX11_homeShare_46 ?_
        refine i_istore_n dX11_homeShare_47 (L' := [some _, some _, some _]) (by decide) rfl ?_
        refine i_iinc dX11_homeShare_48 rfl (L' := [some _, some _, some _]) (by decide) rfl ?_
        refine i_goto (tgt := 9) dX11_homeShare_51 (by decide) ?_
        refine ih _ ?_ (k + 1) _ rfl (by omega) (by omega) ?_
        · omega
        rw [wHm_s h1, hx]
        first | (rw [zb_t (by assumption)]; done) | (rw [zb_f (by assumption)]; done)
      · -- on
        refine i_const dX11_homeShare_41 ?_
        refine i_goto (tgt := 46) dX11_homeShare_42 (by decide) ?_
        refine i_add dX11_homeShare_46 ?_
        refine i_istore_n dX11_homeShare_47 (L' := [some _, some _, some _]) (by decide) rfl ?_
        refine i_iinc dX11_homeShare_48 rfl (L' := [some _, some _, some _]) (by decide) rfl ?_
        refine i_goto (tgt := 9) dX11_homeShare_51 (by decide) ?_
        refine ih _ ?_ (k + 1) _ rfl (by omega) (by omega) ?_
        · omega
        rw [wHm_s h1, hx]
        first | (rw [zb_t (by assumption)]; done) | (rw [zb_f (by assumption)]; done)
theorem k_homeShare  (hO : wOK (C 0)) (hp : P (.inl (some (.float (if C 0 952 = 0 then FP.fconst0 else FP.fdiv (FP.i2f (iI (wHm (C 0) (C 0 952)))) (FP.i2f (iI (C 0 952))))))) (vu V 12 0, C, J)) : RM G mX11_homeShare (m_I Y h0) [.ref (Y 38)] (d + 2) 0 0 P (V, C, J) := by
  refine RM.of (L := [some (.ref (Y 38)), none, none]) cfX11_homeShare rfl (Nat.le_of_ble_eq_true rfl) ?_
  refine i_aload_n dX11_homeShare_0 rfl ?_
  refine i_const dX11_homeShare_1 ?_
  refine t_put dX11_homeShare_2 fX11_95 (by decide) rfl rfl ?_
  refine i_const dX11_homeShare_5 ?_
  refine i_istore_n dX11_homeShare_6 (L' := [some _, some _, none]) (by decide) rfl ?_
  refine i_const dX11_homeShare_7 ?_
  refine i_istore_n dX11_homeShare_8 (L' := [some _, some _, some _]) (by decide) rfl ?_
  exact k_hs_l hO hp _ 0 0 rfl (by omega) (by show 0 ≤ C 0 952; exact hO.2.1.1) rfl
theorem k_ms_l {s : Int} (hO : wOK (C 0)) (hs : s = 0 ∨ s = 1) (hp : P (.inl (some (.double (FP.ddiv (FP.i2d (iI (wSz (C 0) s (C 0 (476 * s + 5))))) (FP.i2d (iI (C 0 (476 * s + 5)))))))) (V, C, J)) : ∀ (zz : Nat) (t x : Int), zz = (C 0 (476 * s + 5) - t).toNat → (0 ≤ t) → (t ≤ C 0 (476 * s + 5)) → (x = wSz (C 0) s t) → RW G mX11_meanSetSize (m_I Y h0) P (d + 1) 0 0 25 [some (.ref (Y 38)), some (.int (iI s)), some (.int (iI x)), some (.int (iI t))] [] (V, C, J) := by
  intro zz
  induction zz using Nat.strongRecOn with
  | _ zz ih =>
    intro t x hzz h1 h2 hx
    have b0 := hO.sts hs
    have b2 := @wSz_rg (C 0) s t h1
    refine i_iload_n dX11_meanSetSize_25 rfl ?_
    refine i_aload_n dX11_meanSetSize_26 rfl ?_
    refine i_iload_n dX11_meanSetSize_27 rfl ?_
    refine i_const dX11_meanSetSize_28 ?_
    refine t_callV (As := [_, _]) dX11_meanSetSize_29 cfX11_of imX11_of seX11_of lX11_115 rfl rfl rfl (Nat.le_of_ble_eq_true rfl) ?_
    refine k_of (w := C 0) rfl (by omega) (RK.v ?_)
    refine i_icmp_ge (tgt := 59) dX11_meanSetSize_32 (by decide) (by omega) (by omega) (fun c32 => ?_) (fun c32 => ?_)
    · -- jumps
      refine i_iload_n dX11_meanSetSize_59 rfl ?_
      refine i_i2d dX11_meanSetSize_60 ?_
      refine i_aload_n dX11_meanSetSize_61 rfl ?_
      refine i_iload_n dX11_meanSetSize_62 rfl ?_
      refine i_const dX11_meanSetSize_63 ?_
      refine t_callV (As := [_, _]) dX11_meanSetSize_64 cfX11_of imX11_of seX11_of lX11_115 rfl rfl rfl (Nat.le_of_ble_eq_true rfl) ?_
      refine k_of (w := C 0) rfl (by omega) (RK.v ?_)
      refine i_i2d dX11_meanSetSize_67 ?_
      refine i_ddiv dX11_meanSetSize_68 (fq_mean (by omega)) ?_
      refine i_dreturn dX11_meanSetSize_69 rfl ?_
      obtain rfl : t = C 0 (476 * s + 5) := by omega
      rw [hx]; exact hp
    · -- on
      refine i_iload_n dX11_meanSetSize_35 rfl ?_
      refine i_aload_n dX11_meanSetSize_36 rfl ?_
      have b4 := hO.msk hs (56 + t) (by omega) (by omega)
      refine i_iload_n dX11_meanSetSize_37 rfl ?_
      refine i_bipush dX11_meanSetSize_38 (by decide) ?_
      refine i_iload_n dX11_meanSetSize_40 rfl ?_
      refine i_add dX11_meanSetSize_41 ?_
      refine t_callV (As := [_, _]) dX11_meanSetSize_42 cfX11_of imX11_of seX11_of lX11_115 rfl rfl rfl (Nat.le_of_ble_eq_true rfl) ?_
      refine k_of (w := C 0) rfl (by omega) (RK.v ?_)
      refine i_bipush dX11_meanSetSize_45 (by decide) ?_
      refine i_andE dX11_meanSetSize_47 (iI_even (by omega)) ?_
      refine t_callS (As := [_]) dX11_meanSetSize_48 cfX11_bits stX11_bits lX11_292 rfl rfl (Nat.le_of_ble_eq_true rfl) ?_
      refine k_bits (by omega) (RK.v ?_)
      refine i_add dX11_meanSetSize_51 ?_
      refine i_istore_n dX11_meanSetSize_52 (L' := [some _, some _, some _, some _]) (by decide) rfl ?_
      refine i_iinc dX11_meanSetSize_53 rfl (L' := [some _, some _, some _, some _]) (by decide) rfl ?_
      refine i_goto (tgt := 25) dX11_meanSetSize_56 (by decide) ?_
      refine ih _ ?_ (t + 1) _ rfl (by omega) (by omega) ?_
      · omega
      rw [hx]; exact (zsum_s h1).symm
theorem k_meanSetSize {s : Int} (hO : wOK (C 0)) (h_s : -2147483648 ≤ s ∧ s < 2147483648) (hp1 : ¬ (s = 0 ∨ s = 1) → P (.inl (some (.double FP.dconst0))) (vu V 12 1, C, J)) (hp0 : (s = 0 ∨ s = 1) → P (.inl (some (.double (FP.ddiv (FP.i2d (iI (wSz (C 0) s (C 0 (476 * s + 5))))) (FP.i2d (iI (C 0 (476 * s + 5)))))))) (vu V 12 0, C, J)) : RM G mX11_meanSetSize (m_I Y h0) [.ref (Y 38), .int (iI s)] (d + 1) 0 0 P (V, C, J) := by
  refine RM.of (L := [some (.ref (Y 38)), some (.int (iI s)), none, none]) cfX11_meanSetSize rfl (Nat.le_of_ble_eq_true rfl) ?_
  refine i_aload_n dX11_meanSetSize_0 rfl ?_
  refine i_iload_n dX11_meanSetSize_1 rfl ?_
  refine t_callS (As := [_]) dX11_meanSetSize_2 cfX11_isSlot stX11_isSlot lX11_112 rfl rfl (Nat.le_of_ble_eq_true rfl) ?_
  refine k_isSlot (by omega) (RK.v ?_)
  refine i_ifne_b (tgt := 12) dX11_meanSetSize_5 (by decide) (fun c5 => ?_) (fun c5 => ?_)
  · -- jumps
    refine i_const dX11_meanSetSize_12 ?_
    refine t_callV (As := [_]) dX11_meanSetSize_13 cfX11_throwsOne imX11_throwsOne seX11_throwsOne lX11_209 rfl rfl rfl (Nat.le_of_ble_eq_true rfl) ?_
    refine k_throwsOne (by first | exact zb_or | omega) (RK.v ?_)
    refine i_if_eq (tgt := 21) dX11_meanSetSize_16 (by decide) (by decide) (fun c16 => ?_) (fun c16 => by omega)
    refine i_const dX11_meanSetSize_21 ?_
    refine i_istore_n dX11_meanSetSize_22 (L' := [some _, some _, some _, none]) (by decide) rfl ?_
    refine i_const dX11_meanSetSize_23 ?_
    refine i_istore_n dX11_meanSetSize_24 (L' := [some _, some _, some _, some _]) (by decide) rfl ?_
    exact k_ms_l hO (by omega) (hp0 (by omega)) _ 0 0 rfl (by omega) (by show 0 ≤ C 0 (476 * s + 5); have := hO.sts (s := s) (by omega); omega) rfl
  · -- on
    refine i_const dX11_meanSetSize_8 ?_
    refine i_goto (tgt := 13) dX11_meanSetSize_9 (by decide) ?_
    refine t_callV (As := [_]) dX11_meanSetSize_13 cfX11_throwsOne imX11_throwsOne seX11_throwsOne lX11_209 rfl rfl rfl (Nat.le_of_ble_eq_true rfl) ?_
    refine k_throwsOne (by first | exact zb_or | omega) (RK.v ?_)
    refine i_if_eq (tgt := 21) dX11_meanSetSize_16 (by decide) (by decide) (fun c16 => by omega) (fun c16 => ?_)
    refine i_dconst0 dX11_meanSetSize_19 ?_
    refine i_dreturn dX11_meanSetSize_20 rfl ?_
    exact hp1 (by omega)
end M37
