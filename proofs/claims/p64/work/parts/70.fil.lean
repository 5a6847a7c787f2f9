/-! ===== rows filled, rows copied ===== -/
section C70
variable {G : p_G} {Y : Nat → Nat} {h0 : p_H} {P : (Option Value) ⊕ String → c_X → Prop} {d : Nat} {V : Nat → Int} {C : Nat → Int → Int} {J : c_J}
theorem q_fill_l0 {i N : Nat} {x : Int} (hi : c_ok i) (hc : ∀ f : Nat → Int → Int, c_cell Y (V, f, J) i = c_ia N (f i)) (hN : N ≤ 60000) (hp : ∀ C', sC [i] C C' → (∀ j, C' i j = if 0 ≤ j ∧ j < (N : Int) then x else C i j) → P (.inl none) (V, C', J)) : ∀ (zz : Nat) (k : Int) (C' : Nat → Int → Int), zz = ((N : Int) - k).toNat → (0 ≤ k ∧ k ≤ (N : Int)) → sC [i] C C' → (∀ j, C' i j = if 0 ≤ j ∧ j < k then x else C i j) → RW G mJ7_fill_53178 (c_I Y h0) P d 0 0 5 [some (.ref (Y i)), some (.int (iI x)), some (.int (iI k)), some (.int (iI (N : Int)))] [] (V, C', J) := by
  intro zz
  induction zz using Nat.strongRecOn with
  | _ zz ih =>
    intro k C' hzz h1 hC hI
    refine i_iload_n dJ7_fill_53178_5 rfl ?_
    refine i_iload_n dJ7_fill_53178_6 rfl ?_
    refine i_icmp_ge (tgt := 20) dJ7_fill_53178_7 (by decide) (by omega) (by omega) (fun c1 => ?_) (fun c1 => ?_)
    · refine i_return dJ7_fill_53178_20 rfl ?_
      obtain rfl : k = (N : Int) := by omega
      exact hp _ hC hI
    · refine i_aload_n dJ7_fill_53178_10 rfl ?_
      refine i_iload_n dJ7_fill_53178_11 rfl ?_
      refine i_iload_n dJ7_fill_53178_12 rfl ?_
      refine u_iast (N := N) dJ7_fill_53178_13 hi (hc C') hN (by omega) ((hc _).trans (congrArg (c_ia N) cu_at)) ?_
      refine i_iinc dJ7_fill_53178_14 rfl (L' := [some _, some _, some _, some _]) (by decide) rfl ?_
      refine i_goto (tgt := 5) dJ7_fill_53178_17 (by decide) ?_
      refine ih _ ?_ (k + 1) _ rfl (by omega) (hC.cu (by simp)) (fun j => ?_)
      · omega
      · rw [cu_at]
        by_cases z : j = k
        · rw [z, zu_at, if_pos (by omega)]
        · rw [zu_ne z, hI j]
          exact if_cg (by omega)
theorem q_fillA {i N : Nat} {x : Int} (hi : c_ok i) (hc : ∀ f : Nat → Int → Int, c_cell Y (V, f, J) i = c_ia N (f i)) (hN : N ≤ 60000) (hp : ∀ C', sC [i] C C' → (∀ j, C' i j = if 0 ≤ j ∧ j < (N : Int) then x else C i j) → P (.inl none) (V, C', J)) : RM G mJ7_fill_53178 (c_I Y h0) [.ref (Y i), .int (iI x)] d 0 0 P (V, C, J) := by
  refine RM.of (L := [some (.ref (Y i)), some (.int (iI x)), none, none]) cfJ7_fill_53178 rfl (Nat.le_of_ble_eq_true rfl) ?_
  refine i_const dJ7_fill_53178_0 ?_
  refine i_istore_n dJ7_fill_53178_1 (L' := [some _, some _, some _, none]) (by decide) rfl ?_
  refine i_aload_n dJ7_fill_53178_2 rfl ?_
  refine u_alen (N := N) dJ7_fill_53178_3 hi (hc C) (by show (0 : Nat) < 6; decide) rfl ?_
  refine i_istore_n dJ7_fill_53178_4 (L' := [some _, some _, some _, some _]) (by decide) rfl ?_
  exact q_fill_l0 hi hc hN hp _ 0 C rfl (by omega) sC.rfl (fun j => (if_neg (by omega)).symm)
end C70
