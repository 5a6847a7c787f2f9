/-! ===== the law: the sum over the whole ===== -/
def gS0 (w : Int → Int) : Int := w 952 + 7 * w 984 + (if w 983 = 0 then 0 else 3)
def gS1 (w : Int → Int) (s a : Int) : Nat → Int
  | 0 => a
  | m + 1 => 31 * gS1 w s a m + (w (476 * s + (56 + (m : Int))) - w (476 * s + (56 + (m : Int))) % 2) + 5 * w (476 * s + (116 + 6 * (m : Int) + (m : Int) % 6))
def gS2 (w : Int → Int) (a : Int) : Nat → Int
  | 0 => a
  | s + 1 => gS1 w s (31 * (31 * (31 * (31 * gS2 w a s + w (476 * (s : Int) + 0)) + w (476 * (s : Int) + 2)) + w (476 * (s : Int) + 3)) + w (476 * (s : Int) + 5)) (w (476 * (s : Int) + 5)).toNat
def gS3 (w : Int → Int) (a : Int) : Nat → Int
  | 0 => a
  | k + 1 => 31 * gS3 w a k + 100 * w (953 + 3 * (k : Int) + 1) + 10 * w (953 + 3 * (k : Int) + 2) + w (953 + 3 * (k : Int) + 0)
def gS4 (w : Int → Int) (a : Int) : Nat → Int
  | 0 => a
  | k + 1 => 31 * gS4 w a k + zb (w (971 + 2 * (k : Int) + w 983) = 1)
/-- the sum -/
def gSum (w : Int → Int) : Int := gS4 w (gS3 w (gS2 w (gS0 w) 2) (w 952).toNat) 6
section A6a
variable {w : Int → Int} {s a k : Int}
theorem gS1_s (h : 0 ≤ k) : gS1 w s a (k + 1).toNat = 31 * gS1 w s a k.toNat + (w (476 * s + (56 + k)) - w (476 * s + (56 + k)) % 2) + 5 * w (476 * s + (116 + 6 * k + k % 6)) := by
  obtain ⟨m, rfl⟩ : ∃ m : Nat, k = (m : Int) := ⟨k.toNat, by omega⟩
  rw [show ((m : Int) + 1).toNat = m + 1 by omega, Int.toNat_natCast]
  rfl
theorem gS2_s (h : 0 ≤ k) : gS2 w a (k + 1).toNat = gS1 w k (31 * (31 * (31 * (31 * gS2 w a k.toNat + w (476 * k + 0)) + w (476 * k + 2)) + w (476 * k + 3)) + w (476 * k + 5)) (w (476 * k + 5)).toNat := by
  obtain ⟨m, rfl⟩ : ∃ m : Nat, k = (m : Int) := ⟨k.toNat, by omega⟩
  rw [show ((m : Int) + 1).toNat = m + 1 by omega, Int.toNat_natCast]
  rfl
theorem gS3_s (h : 0 ≤ k) : gS3 w a (k + 1).toNat = 31 * gS3 w a k.toNat + 100 * w (953 + 3 * k + 1) + 10 * w (953 + 3 * k + 2) + w (953 + 3 * k + 0) := by
  obtain ⟨m, rfl⟩ : ∃ m : Nat, k = (m : Int) := ⟨k.toNat, by omega⟩
  rw [show ((m : Int) + 1).toNat = m + 1 by omega, Int.toNat_natCast]
  rfl
theorem gS4_s (h : 0 ≤ k) : gS4 w a (k + 1).toNat = 31 * gS4 w a k.toNat + zb (w (971 + 2 * k + w 983) = 1) := by
  obtain ⟨m, rfl⟩ : ∃ m : Nat, k = (m : Int) := ⟨k.toNat, by omega⟩
  rw [show ((m : Int) + 1).toNat = m + 1 by omega, Int.toNat_natCast]
  rfl
/-- no step was made -/
def wNo (w : Int → Int) : Prop := w 984 = 0 ∧ ∀ k, 0 ≤ k → k < w 952 → w (953 + 3 * k + 2) = 0
end A6a
section A6
variable {G : p_G} {Y : Nat → Nat} {h0 : p_H} {P : (Option Value) ⊕ String → c_X → Prop} {d : Nat} {V : Nat → Int} {C : Nat → Int → Int} {J : c_J}
variable {w : Int → Int}
theorem h_sum1 {s a : Int} {K0 N0 : Nat} (hZ : p_Zs G) (hN : cNow V C J w) (hA : wAll w) (hG : wNo w) (hs : s = 0 ∨ s = 1) (kk : RW G mL_sum (c_I Y h0) P (d + 9) K0 N0 142 [some (.ref (Y 0)), some (.long (lI (gS1 w s a (w (476 * s + 5)).toNat))), none, some (.int (iI s)), none] [] (V, C, J)) : ∀ (zz : Nat) (k x : Int), zz = (w (476 * s + 5) - k).toNat → (0 ≤ k ∧ k ≤ w (476 * s + 5)) → (x = gS1 w s a k.toNat) → RW G mL_sum (c_I Y h0) P (d + 9) (6 * zz + K0 + 1) (36 * zz + N0 + 6) 93 [some (.ref (Y 0)), some (.long (lI x)), none, some (.int (iI s)), some (.int (iI k))] [] (V, C, J) := by
  intro zz
  induction zz using Nat.strongRecOn with
  | _ zz ih =>
    intro k x hzz h1 hx
    have hO := hA.1
    have n1 := hN.n
    have hG1 := hG.1
    have o952 := hO.2.1
    have o983 := hO.2.2.2.2
    have hP := hO.1 s hs
    have h5 := hP.2.2.2.1
    refine RW.room (Nat.le_refl _) (k' := 6 * zz + K0 + 1) (n' := 36 * zz + N0 + 6) (by omega) (by omega) ?_
    refine i_iload dL_sum_93 rfl ?_
    refine i_aload_n dL_sum_95 rfl ?_
    refine i_iload_n dL_sum_96 rfl ?_
    refine u_callV (i := 0) (mc := 1) (ms := 6) (k' := 6 * zz + K0 + 0) (n' := 36 * zz + N0 + 0) (As := [_]) dL_sum_97 cfX10_stateCount imX10_stateCount seX10_stateCount lL_98 (by decide) rfl rfl rfl rfl rfl (Nat.le_of_ble_eq_true rfl) (by omega) (by omega) ?_
    refine q_stateCount hZ hN hO (by omega) (fun _ => RK.v ?_) (fun q9 => absurd hs q9)
    refine i_icmp_ge (tgt := 142) dL_sum_100 (by decide) (by omega) (by omega) (fun c100 => ?_) (fun c100 => ?_)
    · -- jumps
      refine RW.room (Nat.le_refl _) (k' := K0 + 0) (n' := N0 + 0) (by omega) (by omega) ?_
      refine RW.wk (L' := [some _, some _, none, some _, none]) (p_subL.at (by repeat (first | exact subL_nil | refine subL_s ?_ | refine subL_n ?_))) ?_
      rw [hx, show k = w (476 * s + 5) by omega]
      exact kk
    · -- on
      refine RW.room (Nat.le_refl _) (k' := 6 * (w (476 * s + 5) - (k + 1)).toNat + K0 + 6) (n' := 36 * (w (476 * s + 5) - (k + 1)).toNat + N0 + 36) (by omega) (by omega) ?_
      have rm := hP.2.2.1 (56 + k) (by omega) (by omega)
      have rt := hP.2.2.2.2.2 k (k % 6) (by omega) (by omega) (by omega) (by omega)
      refine i_ldc2 kL_96 dL_sum_103 ?_
      refine i_lload_n dL_sum_106 rfl ?_
      refine i_lmul dL_sum_107 ?_
      refine i_aload_n dL_sum_108 rfl ?_
      refine i_iload_n dL_sum_109 rfl ?_
      refine i_iload dL_sum_110 rfl ?_
      refine u_callV (i := 0) (mc := 2) (ms := 12) (k' := 6 * (w (476 * s + 5) - (k + 1)).toNat + K0 + 4) (n' := 36 * (w (476 * s + 5) - (k + 1)).toNat + N0 + 24) (As := [_, _]) dL_sum_112 cfX10_statePositions imX10_statePositions seX10_statePositions lL_101 (by decide) rfl rfl rfl rfl rfl (Nat.le_of_ble_eq_true rfl) (by omega) (by omega) ?_
      refine q_statePositions hZ hN hO (by omega) (by omega) (fun _ => RK.v ?_) (fun q9 => absurd ⟨hs, by omega, by omega⟩ q9)
      refine i_i2l dL_sum_115 (iI_i2l (by omega)) ?_
      refine i_ladd dL_sum_116 ?_
      refine i_ldc2 kL_104 dL_sum_117 ?_
      refine i_aload_n dL_sum_120 rfl ?_
      refine i_iload_n dL_sum_121 rfl ?_
      refine i_iload dL_sum_122 rfl ?_
      refine i_iload dL_sum_124 rfl ?_
      refine i_bipush dL_sum_126 (by decide) ?_
      refine i_rem dL_sum_128 (by omega) (by omega) ?_
      refine u_callV (i := 0) (mc := 3) (ms := 18) (k' := 6 * (w (476 * s + 5) - (k + 1)).toNat + K0 + 1) (n' := 36 * (w (476 * s + 5) - (k + 1)).toNat + N0 + 6) (As := [_, _, _]) dL_sum_129 cfX10_transition imX10_transition seX10_transition lL_45 (by decide) rfl rfl rfl rfl rfl (Nat.le_of_ble_eq_true rfl) (by omega) (by omega) ?_
      refine q_transition hZ hN hO (by omega) (by omega) (by omega) (fun _ => RK.v ?_) (fun q9 => absurd ⟨⟨hs, by omega, by omega⟩, by omega, by omega⟩ q9)
      refine i_i2l dL_sum_132 (iI_i2l (by omega)) ?_
      refine i_lmul dL_sum_133 ?_
      refine i_ladd dL_sum_134 ?_
      refine i_lstore_n dL_sum_135 (L' := [some _, some _, none, some _, some _]) (by decide) rfl ?_
      refine i_iinc dL_sum_136 rfl (L' := [some _, some _, none, some _, some _]) (by decide) rfl ?_
      refine i_goto (tgt := 93) dL_sum_139 (by decide) ?_
      refine RW.room (Nat.le_refl _) ?_ ?_ (ih _ ?_ (k + 1) _ rfl (by omega) ?_)
      · omega
      · omega
      · omega
      · rw [gS1_s h1.1, ← hx]
theorem h_sum2 {a : Int} {K0 N0 : Nat} (hZ : p_Zs G) (hN : cNow V C J w) (hA : wAll w) (hG : wNo w) (kk : RW G mL_sum (c_I Y h0) P (d + 9) K0 N0 148 [some (.ref (Y 0)), some (.long (lI (gS2 w a 2))), none, none, none] [] (V, C, J)) : ∀ (zz : Nat) (s x : Int), zz = (2 - s).toNat → (0 ≤ s ∧ s ≤ 2) → (x = gS2 w a s.toNat) → RW G mL_sum (c_I Y h0) P (d + 9) (365 * zz + K0) (2190 * zz + N0) 33 [some (.ref (Y 0)), some (.long (lI x)), none, some (.int (iI s)), none] [] (V, C, J) := by
  intro zz
  induction zz using Nat.strongRecOn with
  | _ zz ih =>
    intro s x hzz h1 hx
    have hO := hA.1
    have n1 := hN.n
    have hG1 := hG.1
    have o952 := hO.2.1
    have o983 := hO.2.2.2.2
    refine i_iload_n dL_sum_33 rfl ?_
    refine i_const dL_sum_34 ?_
    refine i_icmp_ge (tgt := 148) dL_sum_35 (by decide) (by omega) (by omega) (fun c35 => ?_) (fun c35 => ?_)
    · -- jumps
      refine RW.room (Nat.le_refl _) (k' := K0 + 0) (n' := N0 + 0) (by omega) (by omega) ?_
      refine RW.wk (L' := [some _, some _, none, none, none]) (p_subL.at (by repeat (first | exact subL_nil | refine subL_s ?_ | refine subL_n ?_))) ?_
      rw [hx, show s = 2 by omega]
      exact kk
    · -- on
      refine RW.room (Nat.le_refl _) (k' := 365 * (2 - (s + 1)).toNat + K0 + 365) (n' := 2190 * (2 - (s + 1)).toNat + N0 + 2190) (by omega) (by omega) ?_
      have hP := hO.1 s (by omega)
      have h5 := hP.2.2.2.1
      have h6 := hP.1
      have r2 := hP.2.2.1 2 (by decide) (by decide)
      have r3 := hP.2.2.1 3 (by decide) (by decide)
      refine i_ldc2 kL_96 dL_sum_38 ?_
      refine i_lload_n dL_sum_41 rfl ?_
      refine i_lmul dL_sum_42 ?_
      refine i_aload_n dL_sum_43 rfl ?_
      refine i_iload_n dL_sum_44 rfl ?_
      refine u_callV (i := 0) (mc := 1) (ms := 6) (k' := 365 * (2 - (s + 1)).toNat + K0 + 364) (n' := 2190 * (2 - (s + 1)).toNat + N0 + 2184) (As := [_]) dL_sum_45 cfX10_positionCount imX10_positionCount seX10_positionCount lL_32 (by decide) rfl rfl rfl rfl rfl (Nat.le_of_ble_eq_true rfl) (by omega) (by omega) ?_
      refine q_positionCount hZ hN hO (by omega) (fun _ => RK.v ?_) (fun q9 => absurd (show s = 0 ∨ s = 1 by omega) q9)
      refine i_i2l dL_sum_48 (iI_i2l (by omega)) ?_
      refine i_ladd dL_sum_49 ?_
      refine i_lstore_n dL_sum_50 (L' := [some _, some _, none, some _, none]) (by decide) rfl ?_
      refine i_ldc2 kL_96 dL_sum_51 ?_
      refine i_lload_n dL_sum_54 rfl ?_
      refine i_lmul dL_sum_55 ?_
      refine i_aload_n dL_sum_56 rfl ?_
      refine i_iload_n dL_sum_57 rfl ?_
      refine u_callV (i := 0) (mc := 1) (ms := 6) (k' := 365 * (2 - (s + 1)).toNat + K0 + 363) (n' := 2190 * (2 - (s + 1)).toNat + N0 + 2178) (As := [_]) dL_sum_58 cfX10_firstPositions imX10_firstPositions seX10_firstPositions lL_29 (by decide) rfl rfl rfl rfl rfl (Nat.le_of_ble_eq_true rfl) (by omega) (by omega) ?_
      refine q_firstPositions hZ hN hO (by omega) (fun _ => RK.v ?_) (fun q9 => absurd (show s = 0 ∨ s = 1 by omega) q9)
      refine i_i2l dL_sum_61 (iI_i2l (by omega)) ?_
      refine i_ladd dL_sum_62 ?_
      refine i_lstore_n dL_sum_63 (L' := [some _, some _, none, some _, none]) (by decide) rfl ?_
      refine i_ldc2 kL_96 dL_sum_64 ?_
      refine i_lload_n dL_sum_67 rfl ?_
      refine i_lmul dL_sum_68 ?_
      refine i_aload_n dL_sum_69 rfl ?_
      refine i_iload_n dL_sum_70 rfl ?_
      refine u_callV (i := 0) (mc := 1) (ms := 6) (k' := 365 * (2 - (s + 1)).toNat + K0 + 362) (n' := 2190 * (2 - (s + 1)).toNat + N0 + 2172) (As := [_]) dL_sum_71 cfX10_lastPositions imX10_lastPositions seX10_lastPositions lL_42 (by decide) rfl rfl rfl rfl rfl (Nat.le_of_ble_eq_true rfl) (by omega) (by omega) ?_
      refine q_lastPositions hZ hN hO (by omega) (fun _ => RK.v ?_) (fun q9 => absurd (show s = 0 ∨ s = 1 by omega) q9)
      refine i_i2l dL_sum_74 (iI_i2l (by omega)) ?_
      refine i_ladd dL_sum_75 ?_
      refine i_lstore_n dL_sum_76 (L' := [some _, some _, none, some _, none]) (by decide) rfl ?_
      refine i_ldc2 kL_96 dL_sum_77 ?_
      refine i_lload_n dL_sum_80 rfl ?_
      refine i_lmul dL_sum_81 ?_
      refine i_aload_n dL_sum_82 rfl ?_
      refine i_iload_n dL_sum_83 rfl ?_
      refine u_callV (i := 0) (mc := 1) (ms := 6) (k' := 365 * (2 - (s + 1)).toNat + K0 + 361) (n' := 2190 * (2 - (s + 1)).toNat + N0 + 2166) (As := [_]) dL_sum_84 cfX10_stateCount imX10_stateCount seX10_stateCount lL_98 (by decide) rfl rfl rfl rfl rfl (Nat.le_of_ble_eq_true rfl) (by omega) (by omega) ?_
      refine q_stateCount hZ hN hO (by omega) (fun _ => RK.v ?_) (fun q9 => absurd (show s = 0 ∨ s = 1 by omega) q9)
      refine i_i2l dL_sum_87 (iI_i2l (by omega)) ?_
      refine i_ladd dL_sum_88 ?_
      refine i_lstore_n dL_sum_89 (L' := [some _, some _, none, some _, none]) (by decide) rfl ?_
      refine i_const dL_sum_90 ?_
      refine i_istore dL_sum_91 (L' := [some _, some _, none, some _, some _]) (by decide) rfl ?_
      refine RW.room (Nat.le_refl _) ?_ ?_ (h_sum1 (K0 := 365 * (2 - (s + 1)).toNat + K0) (N0 := 2190 * (2 - (s + 1)).toNat + N0) (a := 31 * (31 * (31 * (31 * x + (w (476 * s + 0))) + (w (476 * s + 2))) + (w (476 * s + 3))) + (w (476 * s + 5))) hZ hN hA hG (show s = 0 ∨ s = 1 by omega) ?_ _ 0 _ rfl (by omega) rfl)
      · omega
      · omega
      · -- behind
        refine i_iinc dL_sum_142 rfl (L' := [some _, some _, none, some _, none]) (by decide) rfl ?_
        refine i_goto (tgt := 33) dL_sum_145 (by decide) ?_
        refine RW.room (Nat.le_refl _) ?_ ?_ (ih _ ?_ (s + 1) _ rfl (by omega) ?_)
        · omega
        · omega
        · omega
        · rw [gS2_s h1.1, ← hx]
theorem h_sum3 {a : Int} {K0 N0 : Nat} (hZ : p_Zs G) (hN : cNow V C J w) (hA : wAll w) (hG : wNo w) (kk : RW G mL_sum (c_I Y h0) P (d + 8) K0 N0 199 [some (.ref (Y 0)), some (.long (lI (gS3 w a (w 952).toNat))), none, none, none] [] (V, C, J)) : ∀ (zz : Nat) (k x : Int), zz = (w 952 - k).toNat → (0 ≤ k ∧ k ≤ w 952) → (x = gS3 w a k.toNat) → RW G mL_sum (c_I Y h0) P (d + 8) (3 * zz + K0) (18 * zz + N0) 150 [some (.ref (Y 0)), some (.long (lI x)), none, some (.int (iI k)), none] [] (V, C, J) := by
  intro zz
  induction zz using Nat.strongRecOn with
  | _ zz ih =>
    intro k x hzz h1 hx
    have hO := hA.1
    have n1 := hN.n
    have hG1 := hG.1
    have o952 := hO.2.1
    have o983 := hO.2.2.2.2
    refine i_iload_n dL_sum_150 rfl ?_
    refine i_aload_n dL_sum_151 rfl ?_
    refine u_callV (i := 0) (mc := 0) (ms := 0) (As := []) dL_sum_152 cfX10_walkerCount imX10_walkerCount seX10_walkerCount lL_81 (by decide) rfl rfl rfl rfl rfl (Nat.le_of_ble_eq_true rfl) (Nat.zero_add _).symm (Nat.zero_add _).symm ?_
    refine q_walkerCount (RK.v ?_)
    rw [n1.2.1]
    refine i_icmp_ge (tgt := 199) dL_sum_155 (by decide) (by omega) (by omega) (fun c155 => ?_) (fun c155 => ?_)
    · -- jumps
      refine RW.room (Nat.le_refl _) (k' := K0 + 0) (n' := N0 + 0) (by omega) (by omega) ?_
      refine RW.wk (L' := [some _, some _, none, none, none]) (p_subL.at (by repeat (first | exact subL_nil | refine subL_s ?_ | refine subL_n ?_))) ?_
      rw [hx, show k = w 952 by omega]
      exact kk
    · -- on
      refine RW.room (Nat.le_refl _) (k' := 3 * (w 952 - (k + 1)).toNat + K0 + 3) (n' := 18 * (w 952 - (k + 1)).toNat + N0 + 18) (by omega) (by omega) ?_
      have r0 := hO.2.2.1 k (by omega) (by omega)
      have r5 := (hO.1 _ r0.1).2.2.2.1
      have r2 := hG.2 k (by omega) (by omega)
      refine i_ldc2 kL_96 dL_sum_158 ?_
      refine i_lload_n dL_sum_161 rfl ?_
      refine i_lmul dL_sum_162 ?_
      refine i_ldc2 kL_106 dL_sum_163 ?_
      refine i_aload_n dL_sum_166 rfl ?_
      refine i_iload_n dL_sum_167 rfl ?_
      refine u_callV (i := 0) (mc := 1) (ms := 6) (k' := 3 * (w 952 - (k + 1)).toNat + K0 + 2) (n' := 18 * (w 952 - (k + 1)).toNat + N0 + 12) (As := [_]) dL_sum_168 cfX10_walkerState imX10_walkerState seX10_walkerState lL_108 (by decide) rfl rfl rfl rfl rfl (Nat.le_of_ble_eq_true rfl) (by omega) (by omega) ?_
      refine q_walkerState hZ hN hO (by omega) (fun _ => RK.v ?_) (fun q9 => absurd ⟨by omega, by omega⟩ q9)
      refine i_i2l dL_sum_171 (iI_i2l (by omega)) ?_
      refine i_lmul dL_sum_172 ?_
      refine i_ladd dL_sum_173 ?_
      refine i_ldc2 kL_111 dL_sum_174 ?_
      refine i_aload_n dL_sum_177 rfl ?_
      refine i_iload_n dL_sum_178 rfl ?_
      refine u_callV (i := 0) (mc := 1) (ms := 6) (k' := 3 * (w 952 - (k + 1)).toNat + K0 + 1) (n' := 18 * (w 952 - (k + 1)).toNat + N0 + 6) (As := [_]) dL_sum_179 cfX10_walkerSteps imX10_walkerSteps seX10_walkerSteps lL_113 (by decide) rfl rfl rfl rfl rfl (Nat.le_of_ble_eq_true rfl) (by omega) (by omega) ?_
      refine q_walkerSteps hZ hN hO (by omega) (fun _ => RK.v ?_) (fun q9 => absurd ⟨by omega, by omega⟩ q9)
      refine i_i2l dL_sum_182 (iI_i2l (by omega)) ?_
      refine i_lmul dL_sum_183 ?_
      refine i_ladd dL_sum_184 ?_
      refine i_aload_n dL_sum_185 rfl ?_
      refine i_iload_n dL_sum_186 rfl ?_
      refine u_callV (i := 0) (mc := 1) (ms := 6) (k' := 3 * (w 952 - (k + 1)).toNat + K0 + 0) (n' := 18 * (w 952 - (k + 1)).toNat + N0 + 0) (As := [_]) dL_sum_187 cfX10_walkerSlot imX10_walkerSlot seX10_walkerSlot lL_116 (by decide) rfl rfl rfl rfl rfl (Nat.le_of_ble_eq_true rfl) (by omega) (by omega) ?_
      refine q_walkerSlot hZ hN hO (by omega) (fun _ => RK.v ?_) (fun q9 => absurd ⟨by omega, by omega⟩ q9)
      refine i_i2l dL_sum_190 (iI_i2l (by omega)) ?_
      refine i_ladd dL_sum_191 ?_
      refine i_lstore_n dL_sum_192 (L' := [some _, some _, none, some _, none]) (by decide) rfl ?_
      refine i_iinc dL_sum_193 rfl (L' := [some _, some _, none, some _, none]) (by decide) rfl ?_
      refine i_goto (tgt := 150) dL_sum_196 (by decide) ?_
      refine RW.room (Nat.le_refl _) ?_ ?_ (ih _ ?_ (k + 1) _ rfl (by omega) ?_)
      · omega
      · omega
      · omega
      · rw [gS3_s h1.1, ← hx]
theorem h_sum4 {a : Int} {K0 N0 : Nat} (hZ : p_Zs G) (hN : cNow V C J w) (hA : wAll w) (hG : wNo w) (hp : P (.inl (some (.long (lI (gS4 w a 6))))) (V, C, J))  : ∀ (zz : Nat) (k x : Int), zz = (6 - k).toNat → (0 ≤ k ∧ k ≤ 6) → (x = gS4 w a k.toNat) → RW G mL_sum (c_I Y h0) P (d + 8) (zz + K0) (6 * zz + N0) 201 [some (.ref (Y 0)), some (.long (lI x)), none, some (.int (iI k)), none] [] (V, C, J) := by
  intro zz
  induction zz using Nat.strongRecOn with
  | _ zz ih =>
    intro k x hzz h1 hx
    have hO := hA.1
    have n1 := hN.n
    have hG1 := hG.1
    have o952 := hO.2.1
    have o983 := hO.2.2.2.2
    refine i_iload_n dL_sum_201 rfl ?_
    refine i_bipush dL_sum_202 (by decide) ?_
    refine i_icmp_ge (tgt := 234) dL_sum_204 (by decide) (by omega) (by omega) (fun c204 => ?_) (fun c204 => ?_)
    · -- jumps
      refine i_lload_n dL_sum_234 rfl ?_
      refine i_lreturn dL_sum_235 rfl ?_
      obtain rfl : k = 6 := by omega
      rw [hx]
      exact hp
    · -- on
      refine RW.room (Nat.le_refl _) (k' := (6 - (k + 1)).toNat + K0 + 1) (n' := 6 * (6 - (k + 1)).toNat + N0 + 6) (by omega) (by omega) ?_
      refine i_ldc2 kL_96 dL_sum_207 ?_
      refine i_lload_n dL_sum_210 rfl ?_
      refine i_lmul dL_sum_211 ?_
      refine i_aload_n dL_sum_212 rfl ?_
      refine i_iload_n dL_sum_213 rfl ?_
      refine u_callV (i := 0) (mc := 1) (ms := 6) (k' := (6 - (k + 1)).toNat + K0 + 0) (n' := 6 * (6 - (k + 1)).toNat + N0 + 0) (As := [_]) dL_sum_214 cfX10_isPassable imX10_isPassable seX10_isPassable lL_119 (by decide) rfl rfl rfl rfl rfl (Nat.le_of_ble_eq_true rfl) (by omega) (by omega) ?_
      refine q_isPassable hZ hN hO (by omega) (fun _ => RK.v ?_) (fun q9 => absurd ⟨by omega, by omega⟩ q9)
      refine i_ifeq_b (tgt := 224) dL_sum_217 (by decide) (fun c217 => ?_) (fun c217 => ?_)
      · -- jumps
        refine i_const dL_sum_224 ?_
        refine i_i2l dL_sum_225 (iI_i2l (by omega)) ?_
        refine i_ladd dL_sum_226 ?_
        refine i_lstore_n dL_sum_227 (L' := [some _, some _, none, some _, none]) (by decide) rfl ?_
        refine i_iinc dL_sum_228 rfl (L' := [some _, some _, none, some _, none]) (by decide) rfl ?_
        refine i_goto (tgt := 201) dL_sum_231 (by decide) ?_
        refine RW.room (Nat.le_refl _) ?_ ?_ (ih _ ?_ (k + 1) _ rfl (by omega) ?_)
        · omega
        · omega
        · omega
        · rw [gS4_s h1.1, ← hx]; first | (rw [zb_t (by have z := c217; exact z.2.2)]; done) | (rw [zb_f (fun y => c217 ⟨h1.1, by omega, y⟩)]; done)
      · -- on
        refine i_const dL_sum_220 ?_
        refine i_goto (tgt := 225) dL_sum_221 (by decide) ?_
        refine i_i2l dL_sum_225 (iI_i2l (by omega)) ?_
        refine i_ladd dL_sum_226 ?_
        refine i_lstore_n dL_sum_227 (L' := [some _, some _, none, some _, none]) (by decide) rfl ?_
        refine i_iinc dL_sum_228 rfl (L' := [some _, some _, none, some _, none]) (by decide) rfl ?_
        refine i_goto (tgt := 201) dL_sum_231 (by decide) ?_
        refine RW.room (Nat.le_refl _) ?_ ?_ (ih _ ?_ (k + 1) _ rfl (by omega) ?_)
        · omega
        · omega
        · omega
        · rw [gS4_s h1.1, ← hx]; first | (rw [zb_t (by have z := c217; exact z.2.2)]; done) | (rw [zb_f (fun y => c217 ⟨h1.1, by omega, y⟩)]; done)
theorem h_sum  (hZ : p_Zs G) (hN : cNow V C J w) (hA : wAll w) (hG : wNo w) (hp : P (.inl (some (.long (lI (gSum w))))) (V, C, J)) : RM G mL_sum (c_I Y h0) [.ref (Y 0)] (d + 9) 754 4524 P (V, C, J) := by
  have hO := hA.1
  have n1 := hN.n
  have hG1 := hG.1
  have o952 := hO.2.1
  have o983 := hO.2.2.2.2
  refine RM.of (L := [some (.ref (Y 0)), none, none, none, none]) cfL_sum rfl (Nat.le_of_ble_eq_true rfl) ?_
  refine RW.room (Nat.le_refl _) (k' := 0 + 754) (n' := 0 + 4524) (by omega) (by omega) ?_
  refine i_aload_n dL_sum_0 rfl ?_
  refine u_callV (i := 0) (mc := 0) (ms := 0) (As := []) dL_sum_1 cfX10_walkerCount imX10_walkerCount seX10_walkerCount lL_81 (by decide) rfl rfl rfl rfl rfl (Nat.le_of_ble_eq_true rfl) (Nat.zero_add _).symm (Nat.zero_add _).symm ?_
  refine q_walkerCount (RK.v ?_)
  rw [n1.2.1]
  refine i_i2l dL_sum_4 (iI_i2l (by omega)) ?_
  refine i_ldc2 kL_85 dL_sum_5 ?_
  refine i_aload_n dL_sum_8 rfl ?_
  refine u_callV (i := 0) (mc := 0) (ms := 0) (As := []) dL_sum_9 cfX10_totalSteps imX10_totalSteps seX10_totalSteps lL_87 (by decide) rfl rfl rfl rfl rfl (Nat.le_of_ble_eq_true rfl) (Nat.zero_add _).symm (Nat.zero_add _).symm ?_
  refine q_totalSteps (RK.v ?_)
  rw [n1.2.2]
  refine i_i2l dL_sum_12 (iI_i2l (by omega)) ?_
  refine i_lmul dL_sum_13 ?_
  refine i_ladd dL_sum_14 ?_
  refine i_aload_n dL_sum_15 rfl ?_
  refine u_callV (i := 0) (mc := 0) (ms := 0) (As := []) dL_sum_16 cfX10_isNight imX10_isNight seX10_isNight lL_90 (by decide) rfl rfl rfl rfl rfl (Nat.le_of_ble_eq_true rfl) (Nat.zero_add _).symm (Nat.zero_add _).symm ?_
  refine q_isNight (by rw [n1.1]; exact o983) (RK.v ?_)
  rw [n1.1]
  refine i_if_eq (tgt := 28) dL_sum_19 (by decide) (by omega) (fun c19 => ?_) (fun c19 => ?_)
  · -- jumps
    refine i_lconst dL_sum_28 (z := 0) (by decide) ?_
    refine i_ladd dL_sum_29 ?_
    refine i_lstore_n dL_sum_30 (L' := [some _, some _, none, none, none]) (by decide) rfl ?_
    refine i_const dL_sum_31 ?_
    refine i_istore_n dL_sum_32 (L' := [some _, some _, none, some _, none]) (by decide) rfl ?_
    have e0 : gS0 w = w 952 + (7 * (w 984)) + 0 := by unfold gS0; first | (rw [if_pos c19]; done) | (rw [if_neg c19]; done)
    rw [← e0]
    refine RW.room (Nat.le_refl _) ?_ ?_ (h_sum2 (K0 := 24) (N0 := 144) hZ hN hA hG ?_ _ 0 _ rfl (by decide) rfl)
    · omega
    · omega
    · -- behind
      refine i_const dL_sum_148 ?_
      refine i_istore_n dL_sum_149 (L' := [some _, some _, none, some _, none]) (by decide) rfl ?_
      refine RW.room (Nat.le_refl _) ?_ ?_ (h_sum3 (K0 := 6) (N0 := 36) hZ hN hA hG ?_ _ 0 _ rfl (by omega) rfl)
      · omega
      · omega
      · -- behind
        refine i_const dL_sum_199 ?_
        refine i_istore_n dL_sum_200 (L' := [some _, some _, none, some _, none]) (by decide) rfl ?_
        refine RW.room (Nat.le_refl _) ?_ ?_ (h_sum4 (K0 := 0) (N0 := 0) hZ hN hA hG hp _ 0 _ rfl (by decide) rfl)
        · omega
        · omega
  · -- on
    refine i_ldc2 kL_94 dL_sum_22 ?_
    refine i_goto (tgt := 29) dL_sum_25 (by decide) ?_
    refine i_ladd dL_sum_29 ?_
    refine i_lstore_n dL_sum_30 (L' := [some _, some _, none, none, none]) (by decide) rfl ?_
    refine i_const dL_sum_31 ?_
    refine i_istore_n dL_sum_32 (L' := [some _, some _, none, some _, none]) (by decide) rfl ?_
    have e0 : gS0 w = w 952 + (7 * (w 984)) + 3 := by unfold gS0; first | (rw [if_pos c19]; done) | (rw [if_neg c19]; done)
    rw [← e0]
    refine RW.room (Nat.le_refl _) ?_ ?_ (h_sum2 (K0 := 24) (N0 := 144) hZ hN hA hG ?_ _ 0 _ rfl (by decide) rfl)
    · omega
    · omega
    · -- behind
      refine i_const dL_sum_148 ?_
      refine i_istore_n dL_sum_149 (L' := [some _, some _, none, some _, none]) (by decide) rfl ?_
      refine RW.room (Nat.le_refl _) ?_ ?_ (h_sum3 (K0 := 6) (N0 := 36) hZ hN hA hG ?_ _ 0 _ rfl (by omega) rfl)
      · omega
      · omega
      · -- behind
        refine i_const dL_sum_199 ?_
        refine i_istore_n dL_sum_200 (L' := [some _, some _, none, some _, none]) (by decide) rfl ?_
        refine RW.room (Nat.le_refl _) ?_ ?_ (h_sum4 (K0 := 0) (N0 := 0) hZ hN hA hG hp _ 0 _ rfl (by decide) rfl)
        · omega
        · omega
end A6
