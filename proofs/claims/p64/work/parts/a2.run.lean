/-! ===== the law: the length of a text, a run ===== -/
theorem kL_53 : Cond.constant RL 53 (iI 2147483647) ∈ p_ws := p_in (p_t4 (List.mem_of_getElem? (i := 67) (by decide +kernel))) rfl
theorem kL_79 : Cond.constantLong RL 79 (lI (-1)) ∈ p_ws := p_in (p_t4 (List.mem_of_getElem? (i := 186) (by decide +kernel))) rfl
theorem kL_85 : Cond.constantLong RL 85 (lI 7) ∈ p_ws := p_in (p_t4 (List.mem_of_getElem? (i := 190) (by decide +kernel))) rfl
theorem kL_94 : Cond.constantLong RL 94 (lI 3) ∈ p_ws := p_in (p_t4 (List.mem_of_getElem? (i := 195) (by decide +kernel))) rfl
theorem kL_96 : Cond.constantLong RL 96 (lI 31) ∈ p_ws := p_in (p_t4 (List.mem_of_getElem? (i := 196) (by decide +kernel))) rfl
theorem kL_104 : Cond.constantLong RL 104 (lI 5) ∈ p_ws := p_in (p_t4 (List.mem_of_getElem? (i := 206) (by decide +kernel))) rfl
theorem kL_106 : Cond.constantLong RL 106 (lI 100) ∈ p_ws := p_in (p_t4 (List.mem_of_getElem? (i := 207) (by decide +kernel))) rfl
theorem kL_111 : Cond.constantLong RL 111 (lI 10) ∈ p_ws := p_in (p_t4 (List.mem_of_getElem? (i := 208) (by decide +kernel))) rfl
/-- what is left of a cell behind some parts -/
def gQ (c : Int) : Nat → Int
  | 0 => c
  | k + 1 => gQ c k % 4294967296 / 16
theorem gQ_s {c k : Int} (h : 0 ≤ k) : gQ c (k + 1).toNat = gQ c k.toNat % 4294967296 / 16 := by
  rw [show (k + 1).toNat = k.toNat + 1 by omega]
  rfl
/-- the length of a part -/
def gPl (p : Int) : Int := if p < 7 then 1 else if p < 11 then 2 else if p < 13 then 1 else 4
/-- the length of some parts -/
def gLn (c : Int) : Nat → Int
  | 0 => 0
  | k + 1 => gLn c k + gPl (gQ c k % 16)
theorem gLn_s {c k : Int} (h : 0 ≤ k) : gLn c (k + 1).toNat = gLn c k.toNat + gPl (gQ c k.toNat % 16) := by
  rw [show (k + 1).toNat = k.toNat + 1 by omega]
  rfl
theorem gPl_rg {p : Int} : 1 ≤ gPl p ∧ gPl p ≤ 4 := by
  unfold gPl
  split
  · decide
  · split
    · decide
    · split <;> decide
theorem gLn_rg {c : Int} : ∀ k : Nat, (k : Int) ≤ gLn c k ∧ gLn c k ≤ 4 * (k : Int)
  | 0 => ⟨Int.le_refl _, Int.le_refl _⟩
  | k + 1 => by
    have h := gLn_rg (c := c) k
    have h2 := @gPl_rg (gQ c k % 16)
    show ((k + 1 : Nat) : Int) ≤ gLn c k + gPl (gQ c k % 16) ∧ gLn c k + gPl (gQ c k % 16) ≤ 4 * ((k + 1 : Nat) : Int)
    omega
section A2
variable {G : p_G} {Y : Nat → Nat} {h0 : p_H} {P : (Option Value) ⊕ String → c_X → Prop} {d : Nat} {V : Nat → Int} {C : Nat → Int → Int} {J : c_J}
variable {w : Int → Int}
theorem h_len_l {c : Int} (hp : P (.inl (some (.int (iI (gLn c 5))))) (V, C, J))  : ∀ (zz : Nat) (k n l : Int), zz = (5 - k).toNat → (0 ≤ k ∧ k ≤ 5) → (n = gLn c k.toNat) → (l = gQ c k.toNat) → RW G mL_len (c_I Y h0) P (d) 0 0 6 [some (.int (iI c)), some (.int (iI n)), some (.int (iI l)), some (.int (iI k)), none] [] (V, C, J) := by
  intro zz
  induction zz using Nat.strongRecOn with
  | _ zz ih =>
    intro k n l hzz h1 hn hl
    have hr := gLn_rg (c := c) k.toNat
    refine i_iload_n dL_len_6 rfl ?_
    refine i_const dL_len_7 ?_
    refine i_icmp_ge (tgt := 64) dL_len_8 (by decide) (by omega) (by omega) (fun c8 => ?_) (fun c8 => ?_)
    · -- jumps
      refine i_iload_n dL_len_64 rfl ?_
      refine i_ireturn dL_len_65 rfl rfl ?_
      obtain rfl : k = 5 := by omega
      rw [hn]
      exact hp
    · -- on
      refine i_iload_n dL_len_11 rfl ?_
      refine i_bipush dL_len_12 (by decide) ?_
      refine i_andE dL_len_14 iI_m15 ?_
      refine i_istore dL_len_15 (L' := [some _, some _, some _, some _, some _]) (by decide) rfl ?_
      refine i_iload_n dL_len_17 rfl ?_
      refine i_const dL_len_18 ?_
      refine i_iushr dL_len_19 iI_us4 ?_
      refine i_istore_n dL_len_20 (L' := [some _, some _, some _, some _, some _]) (by decide) rfl ?_
      refine i_iload_n dL_len_21 rfl ?_
      refine i_iload dL_len_22 rfl ?_
      refine i_bipush dL_len_24 (by decide) ?_
      refine i_icmp_ge (tgt := 33) dL_len_26 (by decide) (by omega) (by omega) (fun c26 => ?_) (fun c26 => ?_)
      · -- jumps
        refine i_iload dL_len_33 rfl ?_
        refine i_bipush dL_len_35 (by decide) ?_
        refine i_icmp_ge (tgt := 44) dL_len_37 (by decide) (by omega) (by omega) (fun c37 => ?_) (fun c37 => ?_)
        · -- jumps
          refine i_iload dL_len_44 rfl ?_
          refine i_bipush dL_len_46 (by decide) ?_
          refine i_icmp_ge (tgt := 55) dL_len_48 (by decide) (by omega) (by omega) (fun c48 => ?_) (fun c48 => ?_)
          · -- jumps
            refine i_const dL_len_55 ?_
            refine i_add dL_len_56 ?_
            refine i_istore_n dL_len_57 (L' := [some _, some _, some _, some _, some _]) (by decide) rfl ?_
            refine i_iinc dL_len_58 rfl (L' := [some _, some _, some _, some _, some _]) (by decide) rfl ?_
            refine i_goto (tgt := 6) dL_len_61 (by decide) ?_
            refine RW.wk (L' := [some _, some _, some _, some _, none]) (p_subL.at (by repeat (first | exact subL_nil | refine subL_s ?_ | refine subL_n ?_))) ?_
            refine ih _ ?_ (k + 1) _ _ rfl (by omega) ?_ ?_
            · omega
            · rw [gLn_s h1.1, ← hl, ← hn]; unfold gPl; first | (rw [if_pos (by omega)]; done) | (rw [if_neg (by omega), if_pos (by omega)]; done) | (rw [if_neg (by omega), if_neg (by omega), if_pos (by omega)]; done) | (rw [if_neg (by omega), if_neg (by omega), if_neg (by omega)]; done)
            · rw [gQ_s h1.1, ← hl]
          · -- on
            refine i_const dL_len_51 ?_
            refine i_goto (tgt := 56) dL_len_52 (by decide) ?_
            refine i_add dL_len_56 ?_
            refine i_istore_n dL_len_57 (L' := [some _, some _, some _, some _, some _]) (by decide) rfl ?_
            refine i_iinc dL_len_58 rfl (L' := [some _, some _, some _, some _, some _]) (by decide) rfl ?_
            refine i_goto (tgt := 6) dL_len_61 (by decide) ?_
            refine RW.wk (L' := [some _, some _, some _, some _, none]) (p_subL.at (by repeat (first | exact subL_nil | refine subL_s ?_ | refine subL_n ?_))) ?_
            refine ih _ ?_ (k + 1) _ _ rfl (by omega) ?_ ?_
            · omega
            · rw [gLn_s h1.1, ← hl, ← hn]; unfold gPl; first | (rw [if_pos (by omega)]; done) | (rw [if_neg (by omega), if_pos (by omega)]; done) | (rw [if_neg (by omega), if_neg (by omega), if_pos (by omega)]; done) | (rw [if_neg (by omega), if_neg (by omega), if_neg (by omega)]; done)
            · rw [gQ_s h1.1, ← hl]
        · -- on
          refine i_const dL_len_40 ?_
          refine i_goto (tgt := 56) dL_len_41 (by decide) ?_
          refine i_add dL_len_56 ?_
          refine i_istore_n dL_len_57 (L' := [some _, some _, some _, some _, some _]) (by decide) rfl ?_
          refine i_iinc dL_len_58 rfl (L' := [some _, some _, some _, some _, some _]) (by decide) rfl ?_
          refine i_goto (tgt := 6) dL_len_61 (by decide) ?_
          refine RW.wk (L' := [some _, some _, some _, some _, none]) (p_subL.at (by repeat (first | exact subL_nil | refine subL_s ?_ | refine subL_n ?_))) ?_
          refine ih _ ?_ (k + 1) _ _ rfl (by omega) ?_ ?_
          · omega
          · rw [gLn_s h1.1, ← hl, ← hn]; unfold gPl; first | (rw [if_pos (by omega)]; done) | (rw [if_neg (by omega), if_pos (by omega)]; done) | (rw [if_neg (by omega), if_neg (by omega), if_pos (by omega)]; done) | (rw [if_neg (by omega), if_neg (by omega), if_neg (by omega)]; done)
          · rw [gQ_s h1.1, ← hl]
      · -- on
        refine i_const dL_len_29 ?_
        refine i_goto (tgt := 56) dL_len_30 (by decide) ?_
        refine i_add dL_len_56 ?_
        refine i_istore_n dL_len_57 (L' := [some _, some _, some _, some _, some _]) (by decide) rfl ?_
        refine i_iinc dL_len_58 rfl (L' := [some _, some _, some _, some _, some _]) (by decide) rfl ?_
        refine i_goto (tgt := 6) dL_len_61 (by decide) ?_
        refine RW.wk (L' := [some _, some _, some _, some _, none]) (p_subL.at (by repeat (first | exact subL_nil | refine subL_s ?_ | refine subL_n ?_))) ?_
        refine ih _ ?_ (k + 1) _ _ rfl (by omega) ?_ ?_
        · omega
        · rw [gLn_s h1.1, ← hl, ← hn]; unfold gPl; first | (rw [if_pos (by omega)]; done) | (rw [if_neg (by omega), if_pos (by omega)]; done) | (rw [if_neg (by omega), if_neg (by omega), if_pos (by omega)]; done) | (rw [if_neg (by omega), if_neg (by omega), if_neg (by omega)]; done)
        · rw [gQ_s h1.1, ← hl]
theorem h_len {c : Int} (hp : P (.inl (some (.int (iI (gLn c 5))))) (V, C, J)) : RM G mL_len (c_I Y h0) [.int (iI c)] (d) 0 0 P (V, C, J) := by
  refine RM.of (L := [some (.int (iI c)), none, none, none, none]) cfL_len rfl (Nat.le_of_ble_eq_true rfl) ?_
  refine i_const dL_len_0 ?_
  refine i_istore_n dL_len_1 (L' := [some _, some _, none, none, none]) (by decide) rfl ?_
  refine i_iload_n dL_len_2 rfl ?_
  refine i_istore_n dL_len_3 (L' := [some _, some _, some _, none, none]) (by decide) rfl ?_
  refine i_const dL_len_4 ?_
  refine i_istore_n dL_len_5 (L' := [some _, some _, some _, some _, none]) (by decide) rfl ?_
  exact h_len_l hp _ 0 0 c rfl (by decide) rfl rfl
theorem h_isRun_l {s N n : Int} (hZ : p_Zs G) (hN : cNow V C J w) (hA : wAll w) (hs : s = 0 ∨ s = 1) (h_N : 0 ≤ N ∧ N < 2147483648) (h_n : 0 ≤ n ∧ n ≤ 8) (hp : P (.inl (some (.int (iI (zb (wAcc w s (wRun w (gB N) s n.toNat))))))) (V, C, J))  : ∀ (zz : Nat) (k l t : Int), zz = (n - k).toNat → (0 ≤ k ∧ k ≤ n) → (l = gLf N k.toNat) → (t = wRun w (gB N) s k.toNat) → RW G mL_isRun (c_I Y h0) P (d + 9) (3 * zz + 2) (18 * zz + 12) 9 [some (.ref (Y 0)), some (.int (iI s)), some (.int (iI N)), some (.int (iI n)), some (.int (iI l)), some (.int (iI t)), some (.int (iI k))] [] (V, C, J) := by
  intro zz
  induction zz using Nat.strongRecOn with
  | _ zz ih =>
    intro k l t hzz h1 hl ht
    have hO := hA.1
    have hP := hO.1 s hs
    have hX := fun s hs => (hA.2 s hs).1
    have o := gLf_rg h_N.1 k.toNat
    have r := gRun_rg (N := N) hP k.toNat
    have h5 := hP.2.2.2.1
    refine i_iload dL_isRun_9 rfl ?_
    refine i_iload_n dL_isRun_11 rfl ?_
    refine i_icmp_ge (tgt := 42) dL_isRun_12 (by decide) (by omega) (by omega) (fun c12 => ?_) (fun c12 => ?_)
    · -- jumps
      refine RW.room (Nat.le_refl _) (k' := 0 + 2) (n' := 0 + 12) (by omega) (by omega) ?_
      refine i_aload_n dL_isRun_42 rfl ?_
      refine i_iload_n dL_isRun_43 rfl ?_
      refine i_iload dL_isRun_44 rfl ?_
      refine u_callV (i := 0) (mc := 2) (ms := 12) (k' := 0 + 0) (n' := 0 + 0) (As := [_, _]) dL_isRun_46 cfX10_isAccepting imX10_isAccepting seX10_isAccepting lL_49 (by decide) rfl rfl rfl rfl rfl (Nat.le_of_ble_eq_true rfl) (by omega) (by omega) ?_
      refine q_isAccepting hZ hN hO hX (by omega) (by omega) (fun _ => RK.v ?_) (fun q9 => absurd ⟨hs, by omega, by omega⟩ q9)
      refine i_ireturn dL_isRun_49 rfl (zb_nar (by first | exact zb_or | omega)) ?_
      obtain rfl : k = n := by omega
      rw [ht]
      exact hp
    · -- on
      refine RW.room (Nat.le_refl _) (k' := 3 * (n - (k + 1)).toNat + 2 + 3) (n' := 18 * (n - (k + 1)).toNat + 12 + 18) (by omega) (by omega) ?_
      refine i_aload_n dL_isRun_15 rfl ?_
      refine i_iload_n dL_isRun_16 rfl ?_
      refine i_iload dL_isRun_17 rfl ?_
      refine i_iload dL_isRun_19 rfl ?_
      refine i_bipush dL_isRun_21 (by decide) ?_
      refine i_rem dL_isRun_23 (by omega) (by omega) ?_
      refine u_callV (i := 0) (mc := 3) (ms := 18) (k' := 3 * (n - (k + 1)).toNat + 2 + 0) (n' := 18 * (n - (k + 1)).toNat + 12 + 0) (As := [_, _, _]) dL_isRun_24 cfX10_transition imX10_transition seX10_transition lL_45 (by decide) rfl rfl rfl rfl rfl (Nat.le_of_ble_eq_true rfl) (by omega) (by omega) ?_
      refine q_transition hZ hN hO (by omega) (by omega) (by omega) (fun _ => RK.v ?_) (fun q9 => absurd ⟨⟨hs, by omega, by omega⟩, by omega, by omega⟩ q9)
      refine i_istore dL_isRun_27 (L' := [some _, some _, some _, some _, some _, some _, some _]) (by decide) rfl ?_
      refine i_iload dL_isRun_29 rfl ?_
      refine i_bipush dL_isRun_31 (by decide) ?_
      refine i_div dL_isRun_33 (by omega) (by omega) ?_
      refine i_istore dL_isRun_34 (L' := [some _, some _, some _, some _, some _, some _, some _]) (by decide) rfl ?_
      refine i_iinc dL_isRun_36 rfl (L' := [some _, some _, some _, some _, some _, some _, some _]) (by decide) rfl ?_
      refine i_goto (tgt := 9) dL_isRun_39 (by decide) ?_
      refine RW.room (Nat.le_refl _) ?_ ?_ (ih _ ?_ (k + 1) _ _ rfl (by omega) ?_ ?_)
      · omega
      · omega
      · omega
      · rw [gLf_s h1.1, ← hl]
      · rw [gRun_s h1.1, ← hl, ← ht]
theorem h_isRun {s N n : Int} (hZ : p_Zs G) (hN : cNow V C J w) (hA : wAll w) (hs : s = 0 ∨ s = 1) (h_N : 0 ≤ N ∧ N < 2147483648) (h_n : 0 ≤ n ∧ n ≤ 8) (hp : P (.inl (some (.int (iI (zb (wAcc w s (wRun w (gB N) s n.toNat))))))) (V, C, J)) : RM G mL_isRun (c_I Y h0) [.ref (Y 0), .int (iI s), .int (iI N), .int (iI n)] (d + 9) 26 156 P (V, C, J) := by
  refine RM.of (L := [some (.ref (Y 0)), some (.int (iI s)), some (.int (iI N)), some (.int (iI n)), none, none, none]) cfL_isRun rfl (Nat.le_of_ble_eq_true rfl) ?_
  refine RW.room (Nat.le_refl _) (k' := 0 + 26) (n' := 0 + 156) (by omega) (by omega) ?_
  refine i_iload_n dL_isRun_0 rfl ?_
  refine i_istore dL_isRun_1 (L' := [some _, some _, some _, some _, some _, none, none]) (by decide) rfl ?_
  refine i_const dL_isRun_3 ?_
  refine i_istore dL_isRun_4 (L' := [some _, some _, some _, some _, some _, some _, none]) (by decide) rfl ?_
  refine i_const dL_isRun_6 ?_
  refine i_istore dL_isRun_7 (L' := [some _, some _, some _, some _, some _, some _, some _]) (by decide) rfl ?_
  refine RW.room (Nat.le_refl _) ?_ ?_ (h_isRun_l hZ hN hA hs h_N h_n hp _ 0 N 0 rfl (by omega) rfl rfl)
  · omega
  · omega
end A2
