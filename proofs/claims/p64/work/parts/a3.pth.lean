/-! ===== the law: a word typed, a path ===== -/
theorem g256_nn {k : Int} : 0 ≤ g256 k := by
  unfold g256
  split
  · decide
  · split
    · decide
    · split <;> decide
theorem zo_z {a : Int} (h : 0 ≤ a) : zo 0 a = a := by
  unfold zo
  rw [show (0 : Int).toNat = 0 from rfl, Nat.zero_or]
  omega
theorem zu_e {f : Int → Int} {k v j : Int} (h : j = k) : zu f k v j = v := if_pos h
/-- letters in an int -/
def gWd (N : Int) (o : Nat) : Nat → Int
  | 0 => 0
  | m + 1 => zo (gWd N o m) ((97 + gLf N (o + m) % 6) * g256 (m : Int))
def gCh (N : Int) (o m i : Nat) : Int := if i < m then 97 + gLf N (o + i) % 6 else 0
theorem gCh_rg {N : Int} {o m i : Nat} : 0 ≤ gCh N o m i ∧ gCh N o m i < 128 := by
  unfold gCh
  split <;> omega
theorem gCh_t {N : Int} {o m i : Nat} (h : i < m) : gCh N o m i = 97 + gLf N (o + i) % 6 := if_pos h
theorem gCh_f {N : Int} {o m i : Nat} (h : ¬ i < m) : gCh N o m i = 0 := if_neg h
theorem gWd_v {N : Int} {o m : Nat} (hm : m ≤ 4) : gWd N o m = gCh N o m 0 * 16777216 + gCh N o m 1 * 65536 + gCh N o m 2 * 256 + gCh N o m 3 := by
  have w1 : gWd N o 1 = (97 + gLf N (o + 0) % 6) * 16777216 := by
    show zo 0 ((97 + gLf N (o + 0) % 6) * 16777216) = _
    exact zo_z (by omega)
  have w2 : gWd N o 2 = (97 + gLf N (o + 0) % 6) * 16777216 + (97 + gLf N (o + 1) % 6) * 65536 := by
    show zo (gWd N o 1) ((97 + gLf N (o + 1) % 6) * 65536) = _
    rw [w1]
    exact zo_24 (by omega) (by omega) (by omega)
  have w3 : gWd N o 3 = (97 + gLf N (o + 0) % 6) * 16777216 + (97 + gLf N (o + 1) % 6) * 65536 + (97 + gLf N (o + 2) % 6) * 256 := by
    show zo (gWd N o 2) ((97 + gLf N (o + 2) % 6) * 256) = _
    rw [w2, show (97 + gLf N (o + 0) % 6) * 16777216 + (97 + gLf N (o + 1) % 6) * 65536 = ((97 + gLf N (o + 0) % 6) * 256 + (97 + gLf N (o + 1) % 6)) * 65536 by omega]
    exact zo_16 (by omega) (by omega) (by omega)
  have w4 : gWd N o 4 = (97 + gLf N (o + 0) % 6) * 16777216 + (97 + gLf N (o + 1) % 6) * 65536 + (97 + gLf N (o + 2) % 6) * 256 + (97 + gLf N (o + 3) % 6) := by
    show zo (gWd N o 3) ((97 + gLf N (o + 3) % 6) * 1) = _
    rw [w3, Int.mul_one, show (97 + gLf N (o + 0) % 6) * 16777216 + (97 + gLf N (o + 1) % 6) * 65536 + (97 + gLf N (o + 2) % 6) * 256 = ((97 + gLf N (o + 0) % 6) * 65536 + (97 + gLf N (o + 1) % 6) * 256 + (97 + gLf N (o + 2) % 6)) * 256 by omega]
    exact zo_8 (by omega) (by omega) (by omega)
  rcases (by omega : m = 0 ∨ m = 1 ∨ m = 2 ∨ m = 3 ∨ m = 4) with rfl | rfl | rfl | rfl | rfl
  · rw [gCh_f (by omega), gCh_f (by omega), gCh_f (by omega), gCh_f (by omega)]
    rfl
  · rw [w1, gCh_t (by omega), gCh_f (by omega), gCh_f (by omega), gCh_f (by omega)]
    omega
  · rw [w2, gCh_t (by omega), gCh_t (by omega), gCh_f (by omega), gCh_f (by omega)]
    omega
  · rw [w3, gCh_t (by omega), gCh_t (by omega), gCh_t (by omega), gCh_f (by omega)]
    omega
  · rw [w4, gCh_t (by omega), gCh_t (by omega), gCh_t (by omega), gCh_t (by omega)]
theorem gWd_rg {N : Int} {o m : Nat} (hm : m ≤ 4) : 0 ≤ gWd N o m := by
  have h0 := @gCh_rg N o m 0
  have h1 := @gCh_rg N o m 1
  have h2 := @gCh_rg N o m 2
  have h3 := @gCh_rg N o m 3
  rw [gWd_v hm]
  omega
theorem gWd_b {N : Int} {o m : Nat} (hm : m ≤ 4) : zby (gWd N o m) 24 = gCh N o m 0 ∧ zby (gWd N o m) 16 = gCh N o m 1 ∧ zby (gWd N o m) 8 = gCh N o m 2 ∧ zby (gWd N o m) 0 = gCh N o m 3 := by
  have h0 := @gCh_rg N o m 0
  have h1 := @gCh_rg N o m 1
  have h2 := @gCh_rg N o m 2
  have h3 := @gCh_rg N o m 3
  exact gPack_b h0 (by omega) (by omega) (by omega) (gWd_v hm)
theorem gWd_s {N k : Int} (h : 0 ≤ k ∧ k < 4) : gWd N 0 (min (k + 1).toNat 4) = zo (gWd N 0 (min k.toNat 4)) ((97 + gLf N k.toNat % 6) * g256 k) := by
  obtain ⟨m, rfl⟩ : ∃ m : Nat, k = (m : Int) := ⟨k.toNat, by omega⟩
  rw [show min ((m : Int) + 1).toNat 4 = m + 1 by omega, show min (m : Int).toNat 4 = m by omega, Int.toNat_natCast]
  show zo _ ((97 + gLf N (0 + m) % 6) * g256 (m : Int)) = _
  rw [Nat.zero_add]
theorem gWd_t {N k : Int} (h : 4 ≤ k ∧ k < 8) : gWd N 4 ((k + 1).toNat - 4) = zo (gWd N 4 (k.toNat - 4)) ((97 + gLf N k.toNat % 6) * g256 (k - 4)) := by
  obtain ⟨m, rfl⟩ : ∃ m : Nat, k = (m : Int) + 4 := ⟨(k - 4).toNat, by omega⟩
  rw [show ((m : Int) + 4 + 1).toNat - 4 = m + 1 by omega, show ((m : Int) + 4).toNat - 4 = m by omega, show (m : Int) + 4 - 4 = (m : Int) by omega, show ((m : Int) + 4).toNat = 4 + m by omega]
  rfl
theorem gWd_at {f : Int → Int} {N n j : Int} (hn : 0 ≤ n ∧ n ≤ 8) (hj : 0 ≤ j ∧ j < n) : bPut (bPut (bPut (bPut (bPut f 0 (gWd N 0 (min n.toNat 4))) (0 + 4) (gWd N 4 (n.toNat - 4))) (0 + 8) 0) (0 + 12) 0) (0 + 16) 0 j = gB N j := by
  obtain ⟨a0, a1, a2, a3⟩ := @gWd_b N 0 (min n.toNat 4) (by omega)
  obtain ⟨b0, b1, b2, b3⟩ := @gWd_b N 4 (n.toNat - 4) (by omega)
  show _ = 97 + gLf N j.toNat % 6
  unfold bPut
  rcases (by omega : j = 0 ∨ j = 1 ∨ j = 2 ∨ j = 3 ∨ j = 4 ∨ j = 5 ∨ j = 6 ∨ j = 7) with rfl | rfl | rfl | rfl | rfl | rfl | rfl | rfl
  · repeat rw [zu_ne (by decide)]
    rw [zu_e (by decide), a0, gCh_t (by omega)]
    rfl
  · repeat rw [zu_ne (by decide)]
    rw [zu_e (by decide), a1, gCh_t (by omega)]
    rfl
  · repeat rw [zu_ne (by decide)]
    rw [zu_e (by decide), a2, gCh_t (by omega)]
    rfl
  · repeat rw [zu_ne (by decide)]
    rw [zu_e (by decide), a3, gCh_t (by omega)]
    rfl
  · repeat rw [zu_ne (by decide)]
    rw [zu_e (by decide), b0, gCh_t (by omega)]
    rfl
  · repeat rw [zu_ne (by decide)]
    rw [zu_e (by decide), b1, gCh_t (by omega)]
    rfl
  · repeat rw [zu_ne (by decide)]
    rw [zu_e (by decide), b2, gCh_t (by omega)]
    rfl
  · repeat rw [zu_ne (by decide)]
    rw [zu_e (by decide), b3, gCh_t (by omega)]
    rfl
section A3
variable {G : p_G} {Y : Nat → Nat} {h0 : p_H} {P : (Option Value) ⊕ String → c_X → Prop} {d : Nat} {V : Nat → Int} {C : Nat → Int → Int} {J : c_J}
variable {w : Int → Int}
theorem h_word_l {N n : Int} (hZ : p_Zs G) (h4 : 0 ≤ V 4 ∧ V 4 ≤ 200) (h_N : 0 ≤ N ∧ N < 2147483648) (h_n : 0 ≤ n ∧ n ≤ 8) (hp : ∀ V' C', V' 4 = n → (∀ j, 0 ≤ j → j < n → C' 2 j = gB N j) → sV [4] V V' → sC [2] C C' → P (.inl none) (V', C', J))  : ∀ (zz : Nat) (k l a b : Int), zz = (n - k).toNat → (0 ≤ k ∧ k ≤ n) → (l = gLf N k.toNat) → (a = gWd N 0 (min k.toNat 4)) → (b = gWd N 4 (k.toNat - 4)) → RW G mL_word (c_I Y h0) P (d + 7) (2) (12) 11 [some (.ref (Y 0)), some (.int (iI N)), some (.int (iI n)), some (.int (iI l)), some (.int (iI a)), some (.int (iI b)), some (.int (iI k)), none] [] (V, C, J) := by
  intro zz
  induction zz using Nat.strongRecOn with
  | _ zz ih =>
    intro k l a b hzz h1 hl ha hb
    have o := gLf_rg h_N.1 k.toNat
    have ra : 0 ≤ a := by rw [ha]; exact gWd_rg (by omega)
    have rb : 0 ≤ b := by rw [hb]; exact gWd_rg (by omega)
    have hg : 0 ≤ (97 + l % 6) * g256 k := Int.mul_nonneg (by omega) g256_nn
    have hg4 : 0 ≤ (97 + l % 6) * g256 (k - 4) := Int.mul_nonneg (by omega) g256_nn
    refine i_iload dL_word_11 rfl ?_
    refine i_iload_n dL_word_13 rfl ?_
    refine i_icmp_ge (tgt := 80) dL_word_14 (by decide) (by omega) (by omega) (fun c14 => ?_) (fun c14 => ?_)
    · -- jumps
      refine RW.room (Nat.le_refl _) (k' := 0 + 2) (n' := 0 + 12) (by omega) (by omega) ?_
      obtain rfl : n = k := by omega
      refine i_aload_n dL_word_80 rfl ?_
      refine i_const dL_word_81 ?_
      refine u_callV (i := 0) (mc := 1) (ms := 6) (k' := 0 + 1) (n' := 0 + 6) (As := [_]) dL_word_82 cfX10_truncateInput imX10_truncateInput seX10_truncateInput lL_19 (by decide) rfl rfl rfl rfl rfl (Nat.le_of_ble_eq_true rfl) (by omega) (by omega) ?_
      refine q_truncateInput (n := 0) hZ h4 (by omega) (fun _ => RK.v ?_) (fun q9 => absurd ⟨by omega, by omega⟩ q9)
      refine i_pop dL_word_85 rfl ?_
      refine i_aload_n dL_word_86 rfl ?_
      refine i_iload dL_word_87 rfl ?_
      refine i_iload dL_word_89 rfl ?_
      refine i_const dL_word_91 ?_
      refine i_const dL_word_92 ?_
      refine i_const dL_word_93 ?_
      refine u_callV (i := 0) (mc := 0) (ms := 0) (As := [_, _, _, _, _]) dL_word_94 cfX10_append imX10_append seX10_append lL_7 (by decide) rfl rfl rfl rfl rfl (Nat.le_of_ble_eq_true rfl) (Nat.zero_add _).symm (Nat.zero_add _).symm ?_
      have e4 : (vu V 4 0) 4 = 0 := vu_at
      refine q_append (by rw [e4]; decide) (fun z => absurd (by rw [e4]; decide) z) (fun _ V1 C1 a1 a2 a3 a4 => RK.v ?_)
      have a5 : V1 4 = 20 := by rw [a1, e4]; rfl
      rw [e4] at a2
      have h5 : 0 ≤ V1 4 ∧ V1 4 ≤ 200 := by omega
      refine i_pop dL_word_97 rfl ?_
      refine i_aload_n dL_word_98 rfl ?_
      refine i_iload_n dL_word_99 rfl ?_
      refine u_callV (i := 0) (mc := 1) (ms := 6) (k' := 0 + 0) (n' := 0 + 0) (As := [_]) dL_word_100 cfX10_truncateInput imX10_truncateInput seX10_truncateInput lL_19 (by decide) rfl rfl rfl rfl rfl (Nat.le_of_ble_eq_true rfl) (by omega) (by omega) ?_
      refine q_truncateInput (n := n) hZ h5 (by omega) (fun _ => RK.v ?_) (fun q9 => absurd ⟨by omega, by omega⟩ q9)
      refine i_pop dL_word_103 rfl ?_
      refine i_return dL_word_104 rfl ?_
      refine hp _ _ vu_at (fun j j0 j1 => ?_) ((((sV.rfl.vu (by decide)).tr a3 (fun _ h => h)).vu (by decide))) a4
      rw [a2, ha, hb]
      exact gWd_at h_n ⟨j0, j1⟩
    · -- on
      refine i_bipush dL_word_17 (by decide) ?_
      refine i_iload_n dL_word_19 rfl ?_
      refine i_bipush dL_word_20 (by decide) ?_
      refine i_rem dL_word_22 (by omega) (by omega) ?_
      refine i_add dL_word_23 ?_
      refine i_istore dL_word_24 (L' := [some _, some _, some _, some _, some _, some _, some _, some _]) (by decide) rfl ?_
      refine i_iload_n dL_word_26 rfl ?_
      refine i_bipush dL_word_27 (by decide) ?_
      refine i_div dL_word_29 (by omega) (by omega) ?_
      refine i_istore_n dL_word_30 (L' := [some _, some _, some _, some _, some _, some _, some _, some _]) (by decide) rfl ?_
      refine i_iload dL_word_31 rfl ?_
      refine i_const dL_word_33 ?_
      refine i_icmp_ge (tgt := 56) dL_word_34 (by decide) (by omega) (by omega) (fun c34 => ?_) (fun c34 => ?_)
      · -- jumps
        refine i_iload dL_word_56 rfl ?_
        refine i_iload dL_word_58 rfl ?_
        refine i_bipush dL_word_60 (by decide) ?_
        refine i_bipush dL_word_62 (by decide) ?_
        refine i_iload dL_word_64 rfl ?_
        refine i_const dL_word_66 ?_
        refine i_sub dL_word_67 ?_
        refine i_mul dL_word_68 ?_
        refine i_sub dL_word_69 ?_
        refine i_shl dL_word_70 (iI_shk (k := k - 4) (by omega)) ?_
        refine i_or dL_word_71 (by omega) (by omega) ?_
        refine i_istore dL_word_72 (L' := [some _, some _, some _, some _, some _, some _, some _, some _]) (by decide) rfl ?_
        refine i_iinc dL_word_74 rfl (L' := [some _, some _, some _, some _, some _, some _, some _, some _]) (by decide) rfl ?_
        refine i_goto (tgt := 11) dL_word_77 (by decide) ?_
        refine RW.wk (L' := [some _, some _, some _, some _, some _, some _, some _, none]) (p_subL.at (by repeat (first | exact subL_nil | refine subL_s ?_ | refine subL_n ?_))) ?_
        refine RW.room (Nat.le_refl _) ?_ ?_ (ih _ ?_ (k + 1) _ _ _ rfl (by omega) ?_ ?_ ?_)
        · omega
        · omega
        · omega
        · rw [gLf_s h1.1, ← hl]
        · rw [ha, show min (k + 1).toNat 4 = min k.toNat 4 by omega]
        · rw [gWd_t ⟨c34, by omega⟩, ← hl, ← hb]
      · -- on
        refine i_iload dL_word_37 rfl ?_
        refine i_iload dL_word_39 rfl ?_
        refine i_bipush dL_word_41 (by decide) ?_
        refine i_bipush dL_word_43 (by decide) ?_
        refine i_iload dL_word_45 rfl ?_
        refine i_mul dL_word_47 ?_
        refine i_sub dL_word_48 ?_
        refine i_shl dL_word_49 (iI_shk (k := k) (by omega)) ?_
        refine i_or dL_word_50 (by omega) (by omega) ?_
        refine i_istore dL_word_51 (L' := [some _, some _, some _, some _, some _, some _, some _, some _]) (by decide) rfl ?_
        refine i_goto (tgt := 74) dL_word_53 (by decide) ?_
        refine i_iinc dL_word_74 rfl (L' := [some _, some _, some _, some _, some _, some _, some _, some _]) (by decide) rfl ?_
        refine i_goto (tgt := 11) dL_word_77 (by decide) ?_
        refine RW.wk (L' := [some _, some _, some _, some _, some _, some _, some _, none]) (p_subL.at (by repeat (first | exact subL_nil | refine subL_s ?_ | refine subL_n ?_))) ?_
        refine RW.room (Nat.le_refl _) ?_ ?_ (ih _ ?_ (k + 1) _ _ _ rfl (by omega) ?_ ?_ ?_)
        · omega
        · omega
        · omega
        · rw [gLf_s h1.1, ← hl]
        · rw [gWd_s ⟨h1.1, c34⟩, ← hl, ← ha]
        · rw [hb, show (k + 1).toNat - 4 = k.toNat - 4 by omega]
theorem h_word {N n : Int} (hZ : p_Zs G) (h4 : 0 ≤ V 4 ∧ V 4 ≤ 200) (h_N : 0 ≤ N ∧ N < 2147483648) (h_n : 0 ≤ n ∧ n ≤ 8) (hp : ∀ V' C', V' 4 = n → (∀ j, 0 ≤ j → j < n → C' 2 j = gB N j) → sV [4] V V' → sC [2] C C' → P (.inl none) (V', C', J)) : RM G mL_word (c_I Y h0) [.ref (Y 0), .int (iI N), .int (iI n)] (d + 7) 2 12 P (V, C, J) := by
  refine RM.of (L := [some (.ref (Y 0)), some (.int (iI N)), some (.int (iI n)), none, none, none, none, none]) cfL_word rfl (Nat.le_of_ble_eq_true rfl) ?_
  refine i_iload_n dL_word_0 rfl ?_
  refine i_istore_n dL_word_1 (L' := [some _, some _, some _, some _, none, none, none, none]) (by decide) rfl ?_
  refine i_const dL_word_2 ?_
  refine i_istore dL_word_3 (L' := [some _, some _, some _, some _, some _, none, none, none]) (by decide) rfl ?_
  refine i_const dL_word_5 ?_
  refine i_istore dL_word_6 (L' := [some _, some _, some _, some _, some _, some _, none, none]) (by decide) rfl ?_
  refine i_const dL_word_8 ?_
  refine i_istore dL_word_9 (L' := [some _, some _, some _, some _, some _, some _, some _, none]) (by decide) rfl ?_
  exact h_word_l hZ h4 h_N h_n hp _ 0 N 0 0 rfl (by omega) rfl rfl rfl
theorem h_ip1 {s N n l t k c x : Int} {K0 N0 : Nat} (hZ : p_Zs G) (hN : cNow V C J w) (hA : wAll w) (hs : s = 0 ∨ s = 1) (hk : 0 ≤ k ∧ k < 2147483648) (ht : t = gM w s N k) (kk : RW G mL_isPath (c_I Y h0) P (d + 9) K0 N0 108 [some (.ref (Y 0)), some (.int (iI s)), some (.int (iI N)), some (.int (iI n)), some (.int (iI l)), some (.int (iI t)), some (.int (iI k)), some (.int (iI c)), some (.int (iI (gA w s N k (w (476 * s + 0))))), some (.int (iI x)), none] [] (V, C, J)) : ∀ (zz : Nat) (p a : Int), zz = (w (476 * s + 0) + 1 - p).toNat → (1 ≤ p ∧ p ≤ w (476 * s + 0) + 1) → ((k = 0 ∧ a = w (476 * s + 2)) ∨ (0 < k ∧ a = gA w s N k (p - 1))) → RW G mL_isPath (c_I Y h0) P (d + 9) (3 * zz + K0 + 1) (18 * zz + N0 + 6) 60 [some (.ref (Y 0)), some (.int (iI s)), some (.int (iI N)), some (.int (iI n)), some (.int (iI l)), some (.int (iI t)), some (.int (iI k)), some (.int (iI c)), some (.int (iI a)), some (.int (iI x)), some (.int (iI p))] [] (V, C, J) := by
  intro zz
  induction zz using Nat.strongRecOn with
  | _ zz ih =>
    intro p a hzz h1 hI
    have hO := hA.1
    have hP := hO.1 s hs
    have hX := fun s hs => (hA.2 s hs).1
    have hY := (hA.2 s hs).2
    have n0 := hP.1
    have rt : 0 ≤ t ∧ t < 33554432 := by rw [ht]; exact gM_rg hP
    have ra : 0 ≤ a ∧ a < 33554432 := by
      rcases hI with z | z
      · rw [z.2]; exact hP.2.2.1 2 (by decide) (by decide)
      · rw [z.2]; exact gA_rg hP (by omega)
    refine RW.room (Nat.le_refl _) (k' := 3 * zz + K0 + 1) (n' := 18 * zz + N0 + 6) (by omega) (by omega) ?_
    refine i_iload dL_isPath_60 rfl ?_
    refine i_aload_n dL_isPath_62 rfl ?_
    refine i_iload_n dL_isPath_63 rfl ?_
    refine u_callV (i := 0) (mc := 1) (ms := 6) (k' := 3 * zz + K0 + 0) (n' := 18 * zz + N0 + 0) (As := [_]) dL_isPath_64 cfX10_positionCount imX10_positionCount seX10_positionCount lL_32 (by decide) rfl rfl rfl rfl rfl (Nat.le_of_ble_eq_true rfl) (by omega) (by omega) ?_
    refine q_positionCount hZ hN hO (by omega) (fun _ => RK.v ?_) (fun q9 => absurd hs q9)
    refine i_icmp_gt (tgt := 108) dL_isPath_67 (by decide) (by omega) (by omega) (fun c67 => ?_) (fun c67 => ?_)
    · -- jumps
      refine RW.room (Nat.le_refl _) (k' := K0 + 0) (n' := N0 + 0) (by omega) (by omega) ?_
      refine RW.wk (L' := [some _, some _, some _, some _, some _, some _, some _, some _, some _, some _, none]) (p_subL.at (by repeat (first | exact subL_nil | refine subL_s ?_ | refine subL_n ?_))) ?_
      have e : a = gA w s N k (w (476 * s + 0)) := by
        rcases hI with z | z
        · rw [z.2, z.1, gA_0 hP (hX s hs)]
        · rw [z.2, show p - 1 = w (476 * s + 0) by omega]
      rw [e]
      exact kk
    · -- on
      refine RW.room (Nat.le_refl _) (k' := 3 * (w (476 * s + 0) + 1 - (p + 1)).toNat + K0 + 3) (n' := 18 * (w (476 * s + 0) + 1 - (p + 1)).toNat + N0 + 18) (by omega) (by omega) ?_
      refine i_iload dL_isPath_70 rfl ?_
      refine i_if_le (tgt := 108) dL_isPath_72 (by decide) (by omega) (fun c72 => ?_) (fun c72 => ?_)
      · -- jumps
        refine RW.room (Nat.le_refl _) (k' := K0 + 0) (n' := N0 + 0) (by omega) (by omega) ?_
        refine RW.wk (L' := [some _, some _, some _, some _, some _, some _, some _, some _, some _, some _, none]) (p_subL.at (by repeat (first | exact subL_nil | refine subL_s ?_ | refine subL_n ?_))) ?_
        have e : a = gA w s N k (w (476 * s + 0)) := by
          rcases hI with z | z
          · rw [z.2, z.1, gA_0 hP (hX s hs)]
          · rw [z.2, show p - 1 = w (476 * s + 0) by omega]
        rw [e]
        exact kk
      · -- on
        have eA : a = gA w s N k (p - 1) := by rcases hI with z | z <;> first | exact z.2 | omega
        refine i_iload dL_isPath_75 rfl ?_
        refine i_iload dL_isPath_77 rfl ?_
        refine i_iload dL_isPath_79 rfl ?_
        refine i_shr dL_isPath_81 (iI_shr (by omega) (by omega)) ?_
        refine i_const dL_isPath_82 ?_
        refine i_and dL_isPath_83 (zs_nn) (by omega) ?_
        refine RW.ti zs_1 ?_
        refine i_const dL_isPath_84 ?_
        refine i_icmp_ne_b1 (tgt := 98) dL_isPath_85 (by decide) (fun c85 => ?_) (fun c85 => ?_)
        · -- jumps
          refine i_const dL_isPath_98 ?_
          refine i_or dL_isPath_99 (by omega) (by omega) ?_
          refine i_istore dL_isPath_100 (L' := [some _, some _, some _, some _, some _, some _, some _, some _, some _, some _, some _]) (by decide) rfl ?_
          refine i_iinc dL_isPath_102 rfl (L' := [some _, some _, some _, some _, some _, some _, some _, some _, some _, some _, some _]) (by decide) rfl ?_
          refine i_goto (tgt := 60) dL_isPath_105 (by decide) ?_
          refine RW.room (Nat.le_refl _) ?_ ?_ (ih _ ?_ (p + 1) _ rfl (by omega) (Or.inr ⟨by omega, ?_⟩))
          · omega
          · omega
          · omega
          · rw [show p + 1 - 1 = p by omega, gA_s (by omega) h1.1, ← ht, ← eA]; rw [if_neg c85]
        · -- on
          have rf := hP.2.2.1 (6 + p) (by omega) (by omega)
          refine i_aload_n dL_isPath_88 rfl ?_
          refine i_iload_n dL_isPath_89 rfl ?_
          refine i_iload dL_isPath_90 rfl ?_
          refine u_callV (i := 0) (mc := 2) (ms := 12) (k' := 3 * (w (476 * s + 0) + 1 - (p + 1)).toNat + K0 + 1) (n' := 18 * (w (476 * s + 0) + 1 - (p + 1)).toNat + N0 + 6) (As := [_, _]) dL_isPath_92 cfX10_followPositions imX10_followPositions seX10_followPositions lL_35 (by decide) rfl rfl rfl rfl rfl (Nat.le_of_ble_eq_true rfl) (by omega) (by omega) ?_
          refine q_followPositions hZ hN hO (by omega) (by omega) (fun _ => RK.v ?_) (fun q9 => absurd ⟨hs, by omega, by omega⟩ q9)
          refine i_goto (tgt := 99) dL_isPath_95 (by decide) ?_
          refine i_or dL_isPath_99 (by omega) (by omega) ?_
          refine i_istore dL_isPath_100 (L' := [some _, some _, some _, some _, some _, some _, some _, some _, some _, some _, some _]) (by decide) rfl ?_
          refine i_iinc dL_isPath_102 rfl (L' := [some _, some _, some _, some _, some _, some _, some _, some _, some _, some _, some _]) (by decide) rfl ?_
          refine i_goto (tgt := 60) dL_isPath_105 (by decide) ?_
          refine RW.room (Nat.le_refl _) ?_ ?_ (ih _ ?_ (p + 1) _ rfl (by omega) (Or.inr ⟨by omega, ?_⟩))
          · omega
          · omega
          · omega
          · rw [show p + 1 - 1 = p by omega, gA_s (by omega) h1.1, ← ht, ← eA]; rw [if_pos c85]
theorem h_ip2 {s N n l t k c a : Int} {K0 N0 : Nat} (hZ : p_Zs G) (hN : cNow V C J w) (hA : wAll w) (hs : s = 0 ∨ s = 1) (ra : 0 ≤ a ∧ a < 33554432) (rc : 0 ≤ c ∧ c < 6) (kk : RW G mL_isPath (c_I Y h0) P (d + 9) K0 N0 174 [some (.ref (Y 0)), some (.int (iI s)), some (.int (iI N)), some (.int (iI n)), some (.int (iI l)), some (.int (iI t)), some (.int (iI k)), some (.int (iI c)), some (.int (iI a)), some (.int (iI (wThen w s a c (w (476 * s + 0)).toNat))), none] [] (V, C, J)) : ∀ (zz : Nat) (p x : Int), zz = (w (476 * s + 0) + 1 - p).toNat → (1 ≤ p ∧ p ≤ w (476 * s + 0) + 1) → (x = wThen w s a c (p - 1).toNat) → RW G mL_isPath (c_I Y h0) P (d + 9) (5 * zz + K0 + 1) (30 * zz + N0 + 6) 111 [some (.ref (Y 0)), some (.int (iI s)), some (.int (iI N)), some (.int (iI n)), some (.int (iI l)), some (.int (iI t)), some (.int (iI k)), some (.int (iI c)), some (.int (iI a)), some (.int (iI x)), some (.int (iI p))] [] (V, C, J) := by
  intro zz
  induction zz using Nat.strongRecOn with
  | _ zz ih =>
    intro p x hzz h1 hx
    have hO := hA.1
    have hP := hO.1 s hs
    have hX := fun s hs => (hA.2 s hs).1
    have hY := (hA.2 s hs).2
    have n0 := hP.1
    have rx : 0 ≤ x ∧ x < 33554432 := by rw [hx]; exact wThen_rg _ (by omega)
    have rp : p ≤ 24 → 0 ≤ zp p := fun _ => zp_nn
    refine RW.room (Nat.le_refl _) (k' := 5 * zz + K0 + 1) (n' := 30 * zz + N0 + 6) (by omega) (by omega) ?_
    refine i_iload dL_isPath_111 rfl ?_
    refine i_aload_n dL_isPath_113 rfl ?_
    refine i_iload_n dL_isPath_114 rfl ?_
    refine u_callV (i := 0) (mc := 1) (ms := 6) (k' := 5 * zz + K0 + 0) (n' := 30 * zz + N0 + 0) (As := [_]) dL_isPath_115 cfX10_positionCount imX10_positionCount seX10_positionCount lL_32 (by decide) rfl rfl rfl rfl rfl (Nat.le_of_ble_eq_true rfl) (by omega) (by omega) ?_
    refine q_positionCount hZ hN hO (by omega) (fun _ => RK.v ?_) (fun q9 => absurd hs q9)
    refine i_icmp_gt (tgt := 174) dL_isPath_118 (by decide) (by omega) (by omega) (fun c118 => ?_) (fun c118 => ?_)
    · -- jumps
      refine RW.room (Nat.le_refl _) (k' := K0 + 0) (n' := N0 + 0) (by omega) (by omega) ?_
      refine RW.wk (L' := [some _, some _, some _, some _, some _, some _, some _, some _, some _, some _, none]) (p_subL.at (by repeat (first | exact subL_nil | refine subL_s ?_ | refine subL_n ?_))) ?_
      rw [hx, show p - 1 = w (476 * s + 0) by omega]
      exact kk
    · -- on
      refine RW.room (Nat.le_refl _) (k' := 5 * (w (476 * s + 0) + 1 - (p + 1)).toNat + K0 + 5) (n' := 30 * (w (476 * s + 0) + 1 - (p + 1)).toNat + N0 + 30) (by omega) (by omega) ?_
      refine i_iload dL_isPath_121 rfl ?_
      refine i_iload dL_isPath_123 rfl ?_
      refine i_iload dL_isPath_125 rfl ?_
      refine i_shr dL_isPath_127 (iI_shr (by omega) (by omega)) ?_
      refine i_const dL_isPath_128 ?_
      refine i_and dL_isPath_129 (zs_nn) (by omega) ?_
      refine RW.ti zs_1 ?_
      refine i_const dL_isPath_130 ?_
      refine i_icmp_ne_b1 (tgt := 164) dL_isPath_131 (by decide) (fun c131 => ?_) (fun c131 => ?_)
      · -- jumps
        refine i_const dL_isPath_164 ?_
        refine i_or dL_isPath_165 (by omega) (by omega) ?_
        refine i_istore dL_isPath_166 (L' := [some _, some _, some _, some _, some _, some _, some _, some _, some _, some _, some _]) (by decide) rfl ?_
        refine i_iinc dL_isPath_168 rfl (L' := [some _, some _, some _, some _, some _, some _, some _, some _, some _, some _, some _]) (by decide) rfl ?_
        refine i_goto (tgt := 111) dL_isPath_171 (by decide) ?_
        refine RW.room (Nat.le_refl _) ?_ ?_ (ih _ ?_ (p + 1) _ rfl (by omega) ?_)
        · omega
        · omega
        · omega
        · rw [show p + 1 - 1 = p by omega, wThen_s h1.1, ← hx]; first | (rw [if_pos ⟨by assumption, by omega⟩]; done) | (rw [if_neg (fun z => by first | exact absurd z.1 (by assumption) | omega)]; done)
      · -- on
        refine i_aload_n dL_isPath_134 rfl ?_
        refine i_iload_n dL_isPath_135 rfl ?_
        refine i_iload dL_isPath_136 rfl ?_
        refine u_callV (i := 0) (mc := 2) (ms := 12) (k' := 5 * (w (476 * s + 0) + 1 - (p + 1)).toNat + K0 + 3) (n' := 30 * (w (476 * s + 0) + 1 - (p + 1)).toNat + N0 + 18) (As := [_, _]) dL_isPath_138 cfX10_streetAt imX10_streetAt seX10_streetAt lL_39 (by decide) rfl rfl rfl rfl rfl (Nat.le_of_ble_eq_true rfl) (by omega) (by omega) ?_
        refine q_streetAt hZ hN hO (by omega) (by omega) (fun _ => RK.v ?_) (fun q9 => absurd ⟨hs, by omega, by omega⟩ q9)
        obtain ⟨v1, hv1⟩ : ∃ v, v = (if w (476 * s + (31 + p)) = 6 then (-1 : Int) else w (476 * s + (31 + p))) := ⟨_, rfl⟩
        rw [← hv1]
        have hr1 : (v1 = -1 ∧ w (476 * s + (31 + p)) = 6) ∨ (v1 = w (476 * s + (31 + p)) ∧ w (476 * s + (31 + p)) ≠ 6) := by rw [hv1]; split <;> rename_i z; exact Or.inl ⟨rfl, z⟩; exact Or.inr ⟨rfl, z⟩
        have hq1 := hP.2.2.2.2.1 p (by omega) (by omega)
        refine i_iload dL_isPath_141 rfl ?_
        refine i_icmp_eq (tgt := 157) dL_isPath_143 (by decide) (by omega) (by omega) (fun c143 => ?_) (fun c143 => ?_)
        · -- jumps
          refine i_const dL_isPath_157 ?_
          refine i_iload dL_isPath_158 rfl ?_
          refine i_shl dL_isPath_160 (iI_shl1 (by omega)) ?_
          refine i_goto (tgt := 165) dL_isPath_161 (by decide) ?_
          refine i_or dL_isPath_165 (by omega) (by omega) ?_
          refine i_istore dL_isPath_166 (L' := [some _, some _, some _, some _, some _, some _, some _, some _, some _, some _, some _]) (by decide) rfl ?_
          refine i_iinc dL_isPath_168 rfl (L' := [some _, some _, some _, some _, some _, some _, some _, some _, some _, some _, some _]) (by decide) rfl ?_
          refine i_goto (tgt := 111) dL_isPath_171 (by decide) ?_
          refine RW.room (Nat.le_refl _) ?_ ?_ (ih _ ?_ (p + 1) _ rfl (by omega) ?_)
          · omega
          · omega
          · omega
          · rw [show p + 1 - 1 = p by omega, wThen_s h1.1, ← hx]; first | (rw [if_pos ⟨by assumption, by omega⟩]; done) | (rw [if_neg (fun z => by first | exact absurd z.1 (by assumption) | omega)]; done)
        · -- on
          refine i_aload_n dL_isPath_146 rfl ?_
          refine i_iload_n dL_isPath_147 rfl ?_
          refine i_iload dL_isPath_148 rfl ?_
          refine u_callV (i := 0) (mc := 2) (ms := 12) (k' := 5 * (w (476 * s + 0) + 1 - (p + 1)).toNat + K0 + 1) (n' := 30 * (w (476 * s + 0) + 1 - (p + 1)).toNat + N0 + 6) (As := [_, _]) dL_isPath_150 cfX10_streetAt imX10_streetAt seX10_streetAt lL_39 (by decide) rfl rfl rfl rfl rfl (Nat.le_of_ble_eq_true rfl) (by omega) (by omega) ?_
          refine q_streetAt hZ hN hO (by omega) (by omega) (fun _ => RK.v ?_) (fun q9 => absurd ⟨hs, by omega, by omega⟩ q9)
          obtain ⟨v2, hv2⟩ : ∃ v, v = (if w (476 * s + (31 + p)) = 6 then (-1 : Int) else w (476 * s + (31 + p))) := ⟨_, rfl⟩
          rw [← hv2]
          have hr2 : (v2 = -1 ∧ w (476 * s + (31 + p)) = 6) ∨ (v2 = w (476 * s + (31 + p)) ∧ w (476 * s + (31 + p)) ≠ 6) := by rw [hv2]; split <;> rename_i z; exact Or.inl ⟨rfl, z⟩; exact Or.inr ⟨rfl, z⟩
          have hq2 := hP.2.2.2.2.1 p (by omega) (by omega)
          refine i_const dL_isPath_153 ?_
          refine i_icmp_ne (tgt := 164) dL_isPath_154 (by decide) (by omega) (by omega) (fun c154 => ?_) (fun c154 => ?_)
          · -- jumps
            refine i_const dL_isPath_164 ?_
            refine i_or dL_isPath_165 (by omega) (by omega) ?_
            refine i_istore dL_isPath_166 (L' := [some _, some _, some _, some _, some _, some _, some _, some _, some _, some _, some _]) (by decide) rfl ?_
            refine i_iinc dL_isPath_168 rfl (L' := [some _, some _, some _, some _, some _, some _, some _, some _, some _, some _, some _]) (by decide) rfl ?_
            refine i_goto (tgt := 111) dL_isPath_171 (by decide) ?_
            refine RW.room (Nat.le_refl _) ?_ ?_ (ih _ ?_ (p + 1) _ rfl (by omega) ?_)
            · omega
            · omega
            · omega
            · rw [show p + 1 - 1 = p by omega, wThen_s h1.1, ← hx]; first | (rw [if_pos ⟨by assumption, by omega⟩]; done) | (rw [if_neg (fun z => by first | exact absurd z.1 (by assumption) | omega)]; done)
          · -- on
            refine i_const dL_isPath_157 ?_
            refine i_iload dL_isPath_158 rfl ?_
            refine i_shl dL_isPath_160 (iI_shl1 (by omega)) ?_
            refine i_goto (tgt := 165) dL_isPath_161 (by decide) ?_
            refine i_or dL_isPath_165 (by omega) (by omega) ?_
            refine i_istore dL_isPath_166 (L' := [some _, some _, some _, some _, some _, some _, some _, some _, some _, some _, some _]) (by decide) rfl ?_
            refine i_iinc dL_isPath_168 rfl (L' := [some _, some _, some _, some _, some _, some _, some _, some _, some _, some _, some _]) (by decide) rfl ?_
            refine i_goto (tgt := 111) dL_isPath_171 (by decide) ?_
            refine RW.room (Nat.le_refl _) ?_ ?_ (ih _ ?_ (p + 1) _ rfl (by omega) ?_)
            · omega
            · omega
            · omega
            · rw [show p + 1 - 1 = p by omega, wThen_s h1.1, ← hx]; first | (rw [if_pos ⟨by assumption, by omega⟩]; done) | (rw [if_neg (fun z => by first | exact absurd z.1 (by assumption) | omega)]; done)
theorem h_isPath_l {s N n : Int} (hZ : p_Zs G) (hN : cNow V C J w) (hA : wAll w) (hs : s = 0 ∨ s = 1) (h_N : 0 ≤ N ∧ N < 2147483648) (h_n : 1 ≤ n ∧ n ≤ 8) (hp : P (.inl (some (.int (iI (zb (wAcc w s (wRun w (gB N) s n.toNat))))))) (V, C, J))  : ∀ (zz : Nat) (k l t : Int), zz = (n - k).toNat → (0 ≤ k ∧ k ≤ n) → (l = gLf N k.toNat) → (t = gM w s N k) → RW G mL_isPath (c_I Y h0) P (d + 9) (195 * zz + 1) (1170 * zz + 6) 19 [some (.ref (Y 0)), some (.int (iI s)), some (.int (iI N)), some (.int (iI n)), some (.int (iI l)), some (.int (iI t)), some (.int (iI k)), none, none, none, none] [] (V, C, J) := by
  intro zz
  induction zz using Nat.strongRecOn with
  | _ zz ih =>
    intro k l t hzz h1 hl ht
    have hO := hA.1
    have hP := hO.1 s hs
    have hX := fun s hs => (hA.2 s hs).1
    have hY := (hA.2 s hs).2
    have n0 := hP.1
    have o := gLf_rg h_N.1 k.toNat
    have rt : 0 ≤ t ∧ t < 33554432 := by rw [ht]; exact gM_rg hP
    have rl := hP.2.2.1 3 (by decide) (by decide)
    have rA := gA_rg (N := N) (k := k) hP (m := w (476 * s + 0)) n0.2
    have rz := za_le2 (a := t) rl.1
    have rz0 : 0 ≤ za t (w (476 * s + 3)) := za_nn
    refine i_iload dL_isPath_19 rfl ?_
    refine i_iload_n dL_isPath_21 rfl ?_
    refine i_icmp_ge (tgt := 184) dL_isPath_22 (by decide) (by omega) (by omega) (fun c22 => ?_) (fun c22 => ?_)
    · -- jumps
      refine RW.room (Nat.le_refl _) (k' := 0 + 1) (n' := 0 + 6) (by omega) (by omega) ?_
      refine i_iload dL_isPath_184 rfl ?_
      refine i_aload_n dL_isPath_186 rfl ?_
      refine i_iload_n dL_isPath_187 rfl ?_
      refine u_callV (i := 0) (mc := 1) (ms := 6) (k' := 0 + 0) (n' := 0 + 0) (As := [_]) dL_isPath_188 cfX10_lastPositions imX10_lastPositions seX10_lastPositions lL_42 (by decide) rfl rfl rfl rfl rfl (Nat.le_of_ble_eq_true rfl) (by omega) (by omega) ?_
      refine q_lastPositions hZ hN hO (by omega) (fun _ => RK.v ?_) (fun q9 => absurd hs q9)
      refine i_and dL_isPath_191 (by omega) (by omega) ?_
      refine i_if_eq (tgt := 199) dL_isPath_192 (by decide) (by omega) (fun c192 => ?_) (fun c192 => ?_)
      · -- jumps
        refine i_const dL_isPath_199 ?_
        refine i_ireturn dL_isPath_200 rfl rfl ?_
        obtain rfl : k = n := by omega
        have e := gM_acc (N := N) hP (hX s hs) hY (k := k) (by omega)
        rw [← ht] at e
        rw [zb_f (fun z => absurd (by assumption) (e.mp z))] at hp
        exact hp
      · -- on
        refine i_const dL_isPath_195 ?_
        refine i_goto (tgt := 200) dL_isPath_196 (by decide) ?_
        refine i_ireturn dL_isPath_200 rfl rfl ?_
        obtain rfl : k = n := by omega
        have e := gM_acc (N := N) hP (hX s hs) hY (k := k) (by omega)
        rw [← ht] at e
        rw [zb_t (e.mpr (by assumption))] at hp
        exact hp
    · -- on
      refine RW.room (Nat.le_refl _) (k' := 195 * (n - (k + 1)).toNat + 1 + 195) (n' := 1170 * (n - (k + 1)).toNat + 6 + 1170) (by omega) (by omega) ?_
      refine i_iload dL_isPath_25 rfl ?_
      refine i_bipush dL_isPath_27 (by decide) ?_
      refine i_rem dL_isPath_29 (by omega) (by omega) ?_
      refine i_istore dL_isPath_30 (L' := [some _, some _, some _, some _, some _, some _, some _, some _, none, none, none]) (by decide) rfl ?_
      refine i_const dL_isPath_32 ?_
      refine i_istore dL_isPath_33 (L' := [some _, some _, some _, some _, some _, some _, some _, some _, some _, none, none]) (by decide) rfl ?_
      refine i_const dL_isPath_35 ?_
      refine i_istore dL_isPath_36 (L' := [some _, some _, some _, some _, some _, some _, some _, some _, some _, some _, none]) (by decide) rfl ?_
      refine i_iload dL_isPath_38 rfl ?_
      refine i_bipush dL_isPath_40 (by decide) ?_
      refine i_div dL_isPath_42 (by omega) (by omega) ?_
      refine i_istore dL_isPath_43 (L' := [some _, some _, some _, some _, some _, some _, some _, some _, some _, some _, none]) (by decide) rfl ?_
      refine i_iload dL_isPath_45 rfl ?_
      refine i_if_ne (tgt := 57) dL_isPath_47 (by decide) (by omega) (fun c47 => ?_) (fun c47 => ?_)
      · -- jumps
        refine i_const dL_isPath_57 ?_
        refine i_istore dL_isPath_58 (L' := [some _, some _, some _, some _, some _, some _, some _, some _, some _, some _, some _]) (by decide) rfl ?_
        refine RW.room (Nat.le_refl _) ?_ ?_ (h_ip1 (K0 := 195 * (n - (k + 1)).toNat + 1 + 121) (N0 := 1170 * (n - (k + 1)).toNat + 6 + 726) hZ hN hA hs ⟨h1.1, by omega⟩ ht ?_ _ 1 0 rfl (by omega) (Or.inr ⟨by omega, (gA_b hP (hX s hs) hY (by omega)).symm⟩))
        · omega
        · omega
        · -- behind
          refine i_const dL_isPath_108 ?_
          refine i_istore dL_isPath_109 (L' := [some _, some _, some _, some _, some _, some _, some _, some _, some _, some _, some _]) (by decide) rfl ?_
          refine RW.room (Nat.le_refl _) ?_ ?_ (h_ip2 (K0 := 195 * (n - (k + 1)).toNat + 1) (N0 := 1170 * (n - (k + 1)).toNat + 6) hZ hN hA hs rA (by omega) ?_ _ 1 0 rfl (by omega) rfl)
          · omega
          · omega
          · -- behind
            refine i_iload dL_isPath_174 rfl ?_
            refine i_istore dL_isPath_176 (L' := [some _, some _, some _, some _, some _, some _, some _, some _, some _, some _, none]) (by decide) rfl ?_
            refine i_iinc dL_isPath_178 rfl (L' := [some _, some _, some _, some _, some _, some _, some _, some _, some _, some _, none]) (by decide) rfl ?_
            refine i_goto (tgt := 19) dL_isPath_181 (by decide) ?_
            refine RW.wk (L' := [some _, some _, some _, some _, some _, some _, some _, none, none, none, none]) (p_subL.at (by repeat (first | exact subL_nil | refine subL_s ?_ | refine subL_n ?_))) ?_
            refine RW.room (Nat.le_refl _) ?_ ?_ (ih _ ?_ (k + 1) _ _ rfl (by omega) ?_ ?_)
            · omega
            · omega
            · omega
            · rw [gLf_s h1.1, ← hl]
            · rw [gM_s hP (hX s hs) hY h1.1, ← hl]
      · -- on
        refine i_aload_n dL_isPath_50 rfl ?_
        refine i_iload_n dL_isPath_51 rfl ?_
        refine u_callV (i := 0) (mc := 1) (ms := 6) (k' := 195 * (n - (k + 1)).toNat + 1 + 194) (n' := 1170 * (n - (k + 1)).toNat + 6 + 1164) (As := [_]) dL_isPath_52 cfX10_firstPositions imX10_firstPositions seX10_firstPositions lL_29 (by decide) rfl rfl rfl rfl rfl (Nat.le_of_ble_eq_true rfl) (by omega) (by omega) ?_
        refine q_firstPositions hZ hN hO (by omega) (fun _ => RK.v ?_) (fun q9 => absurd hs q9)
        refine i_istore dL_isPath_55 (L' := [some _, some _, some _, some _, some _, some _, some _, some _, some _, some _, none]) (by decide) rfl ?_
        refine i_const dL_isPath_57 ?_
        refine i_istore dL_isPath_58 (L' := [some _, some _, some _, some _, some _, some _, some _, some _, some _, some _, some _]) (by decide) rfl ?_
        refine RW.room (Nat.le_refl _) ?_ ?_ (h_ip1 (K0 := 195 * (n - (k + 1)).toNat + 1 + 121) (N0 := 1170 * (n - (k + 1)).toNat + 6 + 726) hZ hN hA hs ⟨h1.1, by omega⟩ ht ?_ _ 1 (w (476 * s + 2)) rfl (by omega) (Or.inl ⟨by omega, rfl⟩))
        · omega
        · omega
        · -- behind
          refine i_const dL_isPath_108 ?_
          refine i_istore dL_isPath_109 (L' := [some _, some _, some _, some _, some _, some _, some _, some _, some _, some _, some _]) (by decide) rfl ?_
          refine RW.room (Nat.le_refl _) ?_ ?_ (h_ip2 (K0 := 195 * (n - (k + 1)).toNat + 1) (N0 := 1170 * (n - (k + 1)).toNat + 6) hZ hN hA hs rA (by omega) ?_ _ 1 0 rfl (by omega) rfl)
          · omega
          · omega
          · -- behind
            refine i_iload dL_isPath_174 rfl ?_
            refine i_istore dL_isPath_176 (L' := [some _, some _, some _, some _, some _, some _, some _, some _, some _, some _, none]) (by decide) rfl ?_
            refine i_iinc dL_isPath_178 rfl (L' := [some _, some _, some _, some _, some _, some _, some _, some _, some _, some _, none]) (by decide) rfl ?_
            refine i_goto (tgt := 19) dL_isPath_181 (by decide) ?_
            refine RW.wk (L' := [some _, some _, some _, some _, some _, some _, some _, none, none, none, none]) (p_subL.at (by repeat (first | exact subL_nil | refine subL_s ?_ | refine subL_n ?_))) ?_
            refine RW.room (Nat.le_refl _) ?_ ?_ (ih _ ?_ (k + 1) _ _ rfl (by omega) ?_ ?_)
            · omega
            · omega
            · omega
            · rw [gLf_s h1.1, ← hl]
            · rw [gM_s hP (hX s hs) hY h1.1, ← hl]
theorem h_isPath {s N n : Int} (hZ : p_Zs G) (hN : cNow V C J w) (hA : wAll w) (hs : s = 0 ∨ s = 1) (h_N : 0 ≤ N ∧ N < 2147483648) (h_n : 1 ≤ n ∧ n ≤ 8) (hp : P (.inl (some (.int (iI (zb (wAcc w s (wRun w (gB N) s n.toNat))))))) (V, C, J)) : RM G mL_isPath (c_I Y h0) [.ref (Y 0), .int (iI s), .int (iI N), .int (iI n)] (d + 9) 1561 9366 P (V, C, J) := by
  have hO := hA.1
  refine RM.of (L := [some (.ref (Y 0)), some (.int (iI s)), some (.int (iI N)), some (.int (iI n)), none, none, none, none, none, none, none]) cfL_isPath rfl (Nat.le_of_ble_eq_true rfl) ?_
  refine RW.room (Nat.le_refl _) (k' := 0 + 1561) (n' := 0 + 9366) (by omega) (by omega) ?_
  refine i_iload_n dL_isPath_0 rfl ?_
  refine i_if_ne (tgt := 10) dL_isPath_1 (by decide) (by omega) (fun c1 => ?_) (fun c1 => ?_)
  · -- jumps
    refine i_iload_n dL_isPath_10 rfl ?_
    refine i_istore dL_isPath_11 (L' := [some _, some _, some _, some _, some _, none, none, none, none, none, none]) (by decide) rfl ?_
    refine i_const dL_isPath_13 ?_
    refine i_istore dL_isPath_14 (L' := [some _, some _, some _, some _, some _, some _, none, none, none, none, none]) (by decide) rfl ?_
    refine i_const dL_isPath_16 ?_
    refine i_istore dL_isPath_17 (L' := [some _, some _, some _, some _, some _, some _, some _, none, none, none, none]) (by decide) rfl ?_
    refine RW.room (Nat.le_refl _) ?_ ?_ (h_isPath_l hZ hN hA hs h_N h_n hp _ 0 N 0 rfl (by omega) rfl rfl)
    · omega
    · omega
  · -- on
    refine i_aload_n dL_isPath_4 rfl ?_
    refine i_iload_n dL_isPath_5 rfl ?_
    refine u_callV (i := 0) (mc := 1) (ms := 6) (k' := 0 + 1560) (n' := 0 + 9360) (As := [_]) dL_isPath_6 cfX10_acceptsEmptyWord imX10_acceptsEmptyWord seX10_acceptsEmptyWord lL_25 (by decide) rfl rfl rfl rfl rfl (Nat.le_of_ble_eq_true rfl) (by omega) (by omega) ?_
    refine q_acceptsEmptyWord hZ hN hO (by omega) (fun _ => RK.v ?_) (fun q9 => absurd hs q9)
    refine i_ireturn dL_isPath_9 rfl (zb_nar (by first | exact zb_or | omega)) ?_
    exact absurd h_n.1 (by omega)
end A3
