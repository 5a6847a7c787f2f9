/-! ===== the class: the first street home ===== -/
theorem zfst_c {n c : Nat} (h : c < 6) : zfst (6 * n + c + 1) = if n = 0 then c else zfst n := by
  rw [zfst]
  by_cases z : n = 0
  · rw [if_pos z, if_pos (by omega), z]; omega
  · rw [if_neg z, if_neg (by omega), show (6 * n + c) / 6 = n by omega]
theorem cSr.fst {V : Nat → Int} {C : Nat → Int → Int} {nx : Int → Int → Int} {al : Int → Prop} {s0 k c : Int} {cd : Int → Nat} (h : cSr V C nx al s0 k c cd) {i : Int} (h0 : 1 ≤ i) (h1 : i < V 12) : (C 14 i = 0 ∧ (zfst (cd i) : Int) = C 15 i) ∨ (1 ≤ C 14 i ∧ zfst (cd i) = zfst (cd (C 14 i))) := by
  have q := h.2.2.2.2 i h0 h1
  have e : cd i = 6 * cd (C 14 i) + (C 15 i).toNat + 1 := by omega
  have z0 := h.1.2.1.2
  rw [e, zfst_c (by omega)]
  by_cases z : C 14 i = 0
  · rw [z, z0, if_pos rfl]; exact Or.inl ⟨rfl, by omega⟩
  · have := h.1.2.2.2.1 0 (C 14 i) (by decide) (by omega) (by omega)
    rw [if_neg (by omega)]
    exact Or.inr ⟨by omega, rfl⟩
section C56
variable {G : p_G} {Y : Nat → Nat} {h0 : p_H} {P : (Option Value) ⊕ String → c_X → Prop} {d : Nat} {V : Nat → Int} {C : Nat → Int → Int} {J : c_J}
theorem q_beforeN  (hp : P (.inl (some (.int (iI (-1))))) (V, C, J)) : RM G mX3_before (c_I Y h0) [.ref (Y 11), .int (iI (-1))] (d + 1) 0 0 P (V, C, J) := by
  refine RM.of (L := [some (.ref (Y 11)), some (.int (iI (-1)))]) cfX3_before rfl (Nat.le_of_ble_eq_true rfl) ?_
  refine i_iload_n dX3_before_0 rfl ?_
  refine i_aload_n dX3_before_1 rfl ?_
  refine u_get (i := 11) (vv := .ref (Y (14))) dX3_before_2 fX3_19.o (by decide) rfl rfl ?_
  refine u_alen (N := 3600) dX3_before_5 (by decide) rfl (by decide) rfl ?_
  refine i_callSN (mc := 0) (ms := 0) (As := [_, _]) dX3_before_6 cfX10_isIndex stX10_isIndex lX3_53 rfl rfl (Nat.le_of_ble_eq_true rfl) (Nat.zero_add _).symm (Nat.zero_add _).symm ?_
  refine q_isIndex (by omega) (by omega) (RKN.v ?_)
  refine i_ifeq_b (tgt := 21) dX3_before_9 (by decide) (fun c9 => ?_) (fun c9 => ?_)
  · -- jumps
    refine i_const dX3_before_21 ?_
    refine i_ireturn dX3_before_22 rfl rfl ?_
    first | exact hp | (exfalso; omega)
  · -- on
    refine i_aload_n dX3_before_12 rfl ?_
    refine u_get (i := 11) (vv := .ref (Y (14))) dX3_before_13 fX3_19.o (by decide) rfl rfl ?_
    refine i_iload_n dX3_before_16 rfl ?_
    refine u_iald (i := 14) (N := 3600) (v := C 14 ((-1))) dX3_before_17 (by decide) rfl (by decide) (by omega) rfl ?_
    refine i_goto (tgt := 22) dX3_before_18 (by decide) ?_
    refine i_ireturn dX3_before_22 rfl rfl ?_
    first | exact hp | (exfalso; omega)
theorem q_first_l {nx : Int → Int → Int} {al : Int → Prop} {s0 k c n : Int} {cd : Int → Nat} (h : cSr V C nx al s0 k c cd) (hp : P (.inl (some (.int (iI n)))) (V, C, J)) : ∀ (zz : Nat) (b : Int) (m : Int) (i : Int), zz = (3600 - b).toNat → (0 ≤ b ∧ b + i ≤ 3599 ∧ (0 ≤ i ∧ i < V 12)) → ((i = 0 ∧ n = m) ∨ (1 ≤ i ∧ n = (zfst (cd i) : Int))) → RW G mX3_firstStreetTo (c_I Y h0) P (d + 2) 0 0 7 [some (.ref (Y 11)), none, some (.int (iI m)), some (.int (iI i)), some (.int (iI b))] [] (V, C, J) := by
  intro zz
  induction zz using Nat.strongRecOn with
  | _ zz ih =>
    intro b m i hzz h1 hI
    have hle := h.le
    have z14 := h.2.2.2.1.2.1
    have e14 : i = 0 → C 14 i = -1 := fun e => by rw [e]; exact z14
    have g14 : 1 ≤ i → 0 ≤ C 14 i ∧ C 14 i < i := fun e => (h.2.2.2.2 i e (by omega)).1
    refine i_iload dX3_firstStreetTo_7 rfl ?_
    refine i_sipush dX3_firstStreetTo_9 (by decide) ?_
    refine i_icmp_ge (tgt := 42) dX3_firstStreetTo_12 (by decide) (by omega) (by omega) (fun c12 => ?_) (fun c12 => ?_)
    · -- jumps
      refine i_iload_n dX3_firstStreetTo_42 rfl ?_
      refine i_ireturn dX3_firstStreetTo_43 rfl rfl ?_
      rcases hI with ⟨k1, k2⟩ | ⟨k1, k2⟩
      · rw [k2] at hp; exact hp
      · exfalso; have q5 := h.2.2.2.2 i k1 (by omega); omega
    · -- on
      refine i_aload_n dX3_firstStreetTo_15 rfl ?_
      refine i_iload_n dX3_firstStreetTo_16 rfl ?_
      refine u_callV (i := 11) (mc := 0) (ms := 0) (As := [_]) dX3_firstStreetTo_17 cfX3_before imX3_before seX3_before lX3_57 (by decide) rfl rfl rfl rfl rfl (Nat.le_of_ble_eq_true rfl) (Nat.zero_add _).symm (Nat.zero_add _).symm ?_
      refine q_before (by omega) (RK.v ?_)
      refine i_const dX3_firstStreetTo_20 ?_
      refine i_icmp_eq (tgt := 42) dX3_firstStreetTo_21 (by decide) (by omega) (by omega) (fun c21 => ?_) (fun c21 => ?_)
      · -- jumps
        refine i_iload_n dX3_firstStreetTo_42 rfl ?_
        refine i_ireturn dX3_firstStreetTo_43 rfl rfl ?_
        rcases hI with ⟨k1, k2⟩ | ⟨k1, k2⟩
        · rw [k2] at hp; exact hp
        · exfalso; have q5 := h.2.2.2.2 i k1 (by omega); omega
      · -- on
        refine i_aload_n dX3_firstStreetTo_24 rfl ?_
        refine i_iload_n dX3_firstStreetTo_25 rfl ?_
        refine u_callV (i := 11) (mc := 0) (ms := 0) (As := [_]) dX3_firstStreetTo_26 cfX3_streetInto imX3_streetInto seX3_streetInto lX3_61 (by decide) rfl rfl rfl rfl rfl (Nat.le_of_ble_eq_true rfl) (Nat.zero_add _).symm (Nat.zero_add _).symm ?_
        refine q_streetInto (by omega) (RK.v ?_)
        refine i_istore_n dX3_firstStreetTo_29 (L' := [some _, none, some _, some _, some _]) (by decide) rfl ?_
        refine i_aload_n dX3_firstStreetTo_30 rfl ?_
        refine i_iload_n dX3_firstStreetTo_31 rfl ?_
        refine u_callV (i := 11) (mc := 0) (ms := 0) (As := [_]) dX3_firstStreetTo_32 cfX3_before imX3_before seX3_before lX3_57 (by decide) rfl rfl rfl rfl rfl (Nat.le_of_ble_eq_true rfl) (Nat.zero_add _).symm (Nat.zero_add _).symm ?_
        refine q_before (by omega) (RK.v ?_)
        refine i_istore_n dX3_firstStreetTo_35 (L' := [some _, none, some _, some _, some _]) (by decide) rfl ?_
        refine i_iinc dX3_firstStreetTo_36 rfl (L' := [some _, none, some _, some _, some _]) (by decide) rfl ?_
        refine i_goto (tgt := 7) dX3_firstStreetTo_39 (by decide) ?_
        have i1 : 1 ≤ i := by omega
        have q5 := h.2.2.2.2 i i1 (by omega)
        have hI2 : n = (zfst (cd i) : Int) := by rcases hI with k1 | k1 <;> omega
        refine ih _ ?_ (b + 1) (C 15 i) (C 14 i) rfl ⟨by omega, by omega, by omega⟩ ?_
        · omega
        · rcases h.fst i1 (by omega) with ⟨k1, k2⟩ | ⟨k1, k2⟩
          · exact Or.inl ⟨k1, by omega⟩
          · exact Or.inr ⟨k1, by rw [← k2]; exact hI2⟩
theorem q_firstStreetTo {nx : Int → Int → Int} {al : Int → Prop} {s0 k c f : Int} {cd : Int → Nat} (h : cSr V C nx al s0 k c cd) (hf : f = -1 ∨ (0 ≤ f ∧ f < V 12)) (hp0 : f = -1 → P (.inl (some (.int (iI (-1))))) (V, C, J)) (hp1 : (0 ≤ f ∧ f < V 12) → P (.inl (some (.int (iI (if cd f = 0 then -1 else (zfst (cd f) : Int)))))) (V, C, J)) : RM G mX3_firstStreetTo (c_I Y h0) [.ref (Y 11), .int (iI f)] (d + 2) 0 0 P (V, C, J) := by
  refine RM.of (L := [some (.ref (Y 11)), some (.int (iI f)), none, none, none]) cfX3_firstStreetTo rfl (Nat.le_of_ble_eq_true rfl) ?_
  refine i_const dX3_firstStreetTo_0 ?_
  refine i_istore_n dX3_firstStreetTo_1 (L' := [some _, some _, some _, none, none]) (by decide) rfl ?_
  refine i_iload_n dX3_firstStreetTo_2 rfl ?_
  refine i_istore_n dX3_firstStreetTo_3 (L' := [some _, some _, some _, some _, none]) (by decide) rfl ?_
  refine i_const dX3_firstStreetTo_4 ?_
  refine i_istore dX3_firstStreetTo_5 (L' := [some _, some _, some _, some _, some _]) (by decide) rfl ?_
  refine RW.wk (L' := [some _, none, some _, some _, some _]) (p_subL.at (by repeat (first | exact subL_nil | refine subL_s ?_ | refine subL_n ?_))) ?_
  rcases hf with hf | hf
  · subst hf
    refine i_iload dX3_firstStreetTo_7 rfl ?_
    refine i_sipush dX3_firstStreetTo_9 (by decide) ?_
    refine i_icmp_ge (tgt := 42) dX3_firstStreetTo_12 (by decide) (by decide) (by decide) (fun c12 => by omega) (fun c12 => ?_)
    refine i_aload_n dX3_firstStreetTo_15 rfl ?_
    refine i_iload_n dX3_firstStreetTo_16 rfl ?_
    refine u_callV (i := 11) (mc := 0) (ms := 0) (As := [_]) dX3_firstStreetTo_17 cfX3_before imX3_before seX3_before lX3_57 (by decide) rfl rfl rfl rfl rfl (Nat.le_of_ble_eq_true rfl) (Nat.zero_add _).symm (Nat.zero_add _).symm ?_
    refine q_beforeN (RK.v ?_)
    refine i_const dX3_firstStreetTo_20 ?_
    refine i_icmp_eq (tgt := 42) dX3_firstStreetTo_21 (by decide) (by decide) (by decide) (fun c21 => ?_) (fun c21 => by omega)
    refine i_iload_n dX3_firstStreetTo_42 rfl ?_
    refine i_ireturn dX3_firstStreetTo_43 rfl rfl ?_
    exact hp0 rfl
  · have hle := h.le
    refine q_first_l h (n := if cd f = 0 then -1 else (zfst (cd f) : Int)) ?_ _ 0 (-1) f rfl (by omega) ?_
    · exact hp1 hf
    · by_cases z : f = 0
      · exact Or.inl ⟨z, by rw [z, h.1.2.1.2, if_pos rfl]⟩
      · have := h.1.2.2.2.1 0 f (by decide) (by omega) (by omega)
        exact Or.inr ⟨by omega, if_neg (by omega)⟩
variable {w : Int → Int}
theorem q_streetHome {k : Int} (hZ : p_Zs G) (hN : cNow V C J w) (hO : wOK w) (hX : ∀ s, s = 0 ∨ s = 1 → wX w s) (hSI : cSI V C) (h_k : -2147483648 ≤ k ∧ k < 2147483648) (hp1 : ¬ (0 ≤ k ∧ k < w 952) → P (.inr "java/lang/IndexOutOfBoundsException") (V, C, J)) (hp : 0 ≤ k ∧ k < w 952 → ∀ r V' C', wHome w (w (953 + 3 * k + 0)) (w (953 + 3 * k + 1)) r → cSI V' C' → sV [12] V V' → sC [12, 13, 14, 15] C C' → P (.inl (some (.int (iI r)))) (V', C', J)) : RM G mX10_streetHome (c_I Y h0) [.ref (Y 0), .int (iI k)] (d + 7) 1 6 P (V, C, J) := by
  refine RM.of (L := [some (.ref (Y 0)), some (.int (iI k))]) cfX10_streetHome rfl (Nat.le_of_ble_eq_true rfl) ?_
  refine i_aload_n dX10_streetHome_0 rfl ?_
  refine i_iload_n dX10_streetHome_1 rfl ?_
  refine u_callV (i := 0) (mc := 1) (ms := 6) (k' := 0) (n' := 0) (As := [_]) dX10_streetHome_2 cfX10_checkWalker imX10_checkWalker seX10_checkWalker lX10_146 (by decide) rfl rfl rfl rfl rfl (Nat.le_of_ble_eq_true rfl) rfl rfl ?_
  refine q_checkWalker hZ hN hO (by omega) (fun g1 => RK.n0 ?_) (fun g1 => RK.x ?_)
  · -- case
    refine i_aload_n dX10_streetHome_5 rfl ?_
    refine u_get (i := 0) (vv := .ref (Y (11))) dX10_streetHome_6 fX10_73.o (by decide) rfl rfl ?_
    refine i_aload_n dX10_streetHome_9 rfl ?_
    refine i_iload_n dX10_streetHome_10 rfl ?_
    refine u_callV (i := 0) (mc := 0) (ms := 0) (As := [_]) dX10_streetHome_11 cfX10_findHome imX10_findHome seX10_findHome lX10_299 (by decide) rfl rfl rfl rfl rfl (Nat.le_of_ble_eq_true rfl) (Nat.zero_add _).symm (Nat.zero_add _).symm ?_
    refine q_findHome hN hO hX hSI (by omega) (fun V2 C2 nx2 al2 s2 k2 cd2 hS2 hk2 hm2 hv2 hc2 => RK.v ?_) (fun V2 C2 nx2 al2 s2 cd2 hS2 hm2 hv2 hc2 => RK.v ?_)
    · -- case
      refine u_callV (i := 11) (mc := 0) (ms := 0) (As := [_]) dX10_streetHome_14 cfX3_firstStreetTo imX3_firstStreetTo seX3_firstStreetTo lX10_302 (by decide) rfl rfl rfl rfl rfl (Nat.le_of_ble_eq_true rfl) (Nat.zero_add _).symm (Nat.zero_add _).symm ?_
      refine q_firstStreetTo hS2 (Or.inr hk2) (fun q => absurd q (by omega)) (fun _ => RK.v ?_)
      refine i_ireturn dX10_streetHome_17 rfl rfl ?_
      refine hp (by omega) _ _ _ (Or.inl ⟨_, hm2, ?_⟩) hS2.SI hv2 hc2
      by_cases z9 : cd2 k2 = 0
      · exact Or.inl ⟨z9, if_pos z9⟩
      · exact Or.inr ⟨z9, if_neg z9⟩
    · -- case
      refine u_callV (i := 11) (mc := 0) (ms := 0) (As := [_]) dX10_streetHome_14 cfX3_firstStreetTo imX3_firstStreetTo seX3_firstStreetTo lX10_302 (by decide) rfl rfl rfl rfl rfl (Nat.le_of_ble_eq_true rfl) (Nat.zero_add _).symm (Nat.zero_add _).symm ?_
      refine q_firstStreetTo hS2 (Or.inl rfl) (fun _ => RK.v ?_) (fun q => absurd q (by omega))
      refine i_ireturn dX10_streetHome_17 rfl rfl ?_
      exact hp (by omega) _ _ _ (Or.inr ⟨hm2, rfl⟩) hS2.SI hv2 hc2
  · -- case
    exact hp1 (by omega)
end C56
