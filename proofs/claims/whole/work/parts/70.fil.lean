/-! ===== rows filled, rows copied ===== -/
theorem r_copyI {G : p_G} {M : p_M} {P : p_P} {d k n pc idx : Nat} {h : p_H} {L : p_LL} {st : List Value} {a b N0 N1 : Nat} {f g : Nat → Int32} {sp dp m : Int32} (hl : Cond.methodLink M.1.cls idx arraycopyName ∈ p_ws) (hd : decode M.2.1 pc = .ok (.invokestatic idx, 3)) (ha : h a = some (.inl (0, (N0, .inl f)))) (hb : h b = some (.inl (0, (N1, .inl g)))) (h1 : ¬ sp < 0) (h2 : ¬ dp < 0) (h3 : ¬ m < 0) (h4 : sp.toNatClampNeg + m.toNatClampNeg ≤ N0) (h5 : dp.toNatClampNeg + m.toNatClampNeg ≤ N1) (hr : (st.map fun v => v.category).sum ≤ 8)
    (kk : SW G M P (d + 1) k n (p_up h b (.inl (0, (N1, .inl (va_cpy f g sp.toNatClampNeg dp.toNatClampNeg m.toNatClampNeg))))) (pc + 3) L st) : SW G M P (d + 1) k n h pc L (.int m :: .int dp :: .ref b :: .int sp :: .ref a :: st) := by
  intro p e R s mm args below meth c H locs cells slots ls C B hS hR hL
  obtain ⟨hx, hbb, hml, -, -, hown, -, -, hU⟩ := id C
  obtain ⟨ws, hP, hD, hw⟩ := id hR
  obtain ⟨q0, hq0⟩ := hw a _ ha
  obtain ⟨q1, hq1⟩ := hw b _ hb
  obtain ⟨b1, b2, b3, b4⟩ := id B
  exact va_copyi (ty := .int) hx hbb (hml.trans hL.1.symm) hown (hU.word hl args) (hU.word (p_in (p_t5 (List.mem_of_getElem? (i := 171) (by decide +kernel))) rfl) args) (hU.word (p_in (p_t5 (List.mem_of_getElem? (i := 170) (by decide +kernel))) rfl) args) (hU.word (p_in (by decide +kernel) rfl) args) hU.K hP hD hS q0 q1 0 0 hq0 hq1 rfl rfl rfl h1 h2 h3 h4 h5 (fun _ _ => rfl) (by omega) (by show _ + (7 + 11) ≤ _; omega) hd
    (fun H1 locs1 hP1 hD1 hS1 => kk p e R s mm args below meth c H1 locs1 cells slots ls C B hS1 (p_R.set (e := .inl (0, (N1, .inl (va_cpy f g sp.toNatClampNeg dp.toNatClampNeg m.toNatClampNeg)))) hw hq1 hP1 hD1) hL)
section C70
variable {G : p_G} {Y : Nat → Nat} {h0 : p_H} {P : (Option Value) ⊕ String → c_X → Prop} {d : Nat} {V : Nat → Int} {C : Nat → Int → Int} {J : c_J}
theorem u_copy {M : p_M} {k n pc idx i j N : Nat} {L : p_LL} {st : List Value} (hl : Cond.methodLink M.1.cls idx arraycopyName ∈ p_ws) (hd : decode M.2.1 pc = .ok (.invokestatic idx, 3)) (hi : c_ok i) (hj : c_ok j) (hci : c_cell Y (V, C, J) i = c_ia N (C i)) (hcj : c_cell Y (V, C, J) j = c_ia N (C j)) (hN : N ≤ 60000) (hc' : c_cell Y (V, cu C j (fun q => if 0 ≤ q ∧ q < (N : Int) then C i q else C j q), J) j = c_ia N (fun q => if 0 ≤ q ∧ q < (N : Int) then C i q else C j q)) (hr : (st.map fun v => v.category).sum ≤ 8)
    (kk : RW G M (c_I Y h0) P (d + 1) k n (pc + 3) L st (V, cu C j (fun q => if 0 ≤ q ∧ q < (N : Int) then C i q else C j q), J)) : RW G M (c_I Y h0) P (d + 1) k n pc L (.int (iI (N : Int)) :: .int (iI 0) :: .ref (Y j) :: .int (iI 0) :: .ref (Y i) :: st) (V, C, J) := by
  intro h hI
  have e0 : (iI 0).toNatClampNeg = 0 := by decide
  have eN : (iI (N : Int)).toNatClampNeg = N := by rw [iI_clamp (by omega) (by omega)]; omega
  have n0 : ¬ iI 0 < 0 := by decide
  have nN : ¬ iI (N : Int) < 0 := fun z => by
    have := (iI_lt (a := (N : Int)) (b := 0) (by omega) (by decide)).mp z
    omega
  refine r_copyI (f := fun q => iI (C i q)) (g := fun q => iI (C j q)) (N0 := N) (N1 := N) hl hd ((hI.1.1 i hi).trans (congrArg some hci)) ((hI.1.1 j hj).trans (congrArg some hcj)) n0 n0 nN (by rw [e0, eN]; omega) (by rw [e0, eN]; omega) hr ?_
  have eq : (va_cpy (fun q : Nat => iI (C i q)) (fun q : Nat => iI (C j q)) (iI 0).toNatClampNeg (iI 0).toNatClampNeg (iI (N : Int)).toNatClampNeg) = fun q : Nat => iI ((fun q : Int => if 0 ≤ q ∧ q < (N : Int) then C i q else C j q) (q : Int)) := by
    rw [e0, eN]
    funext q
    unfold va_cpy
    by_cases z : q < N
    · rw [if_pos ⟨Nat.zero_le _, by omega⟩]
      show iI (C i ((0 + (q - 0) : Nat) : Int)) = iI (if 0 ≤ (q : Int) ∧ (q : Int) < (N : Int) then C i q else C j q)
      rw [if_pos ⟨by omega, by omega⟩, Nat.zero_add, Nat.sub_zero]
    · rw [if_neg (fun y => by omega)]
      show iI (C j q) = iI (if 0 ≤ (q : Int) ∧ (q : Int) < (N : Int) then C i q else C j q)
      rw [if_neg (fun y => by omega)]
  rw [eq]
  exact kk _ (hI.put hj hc'.symm (fun q hq hqi => c_cell_C hq (if_neg hqi)) rfl)
theorem q_fill_l0 {i N : Nat} {x : Int} (hi : c_ok i) (hc : ∀ f : Nat → Int → Int, c_cell Y (V, f, J) i = c_ia N (f i)) (hN : N ≤ 60000) (hp : ∀ C', sC [i] C C' → (∀ j, C' i j = if 0 ≤ j ∧ j < (N : Int) then x else C i j) → P (.inl none) (V, C', J)) : ∀ (zz : Nat) (k : Int) (C' : Nat → Int → Int), zz = ((N : Int) - k).toNat → (0 ≤ k ∧ k ≤ (N : Int)) → sC [i] C C' → (∀ j, C' i j = if 0 ≤ j ∧ j < k then x else C i j) → RW G mJ7_fill_53178 (c_I Y h0) P d 0 0 5 [some (.ref (Y i)), some (.int (iI x)), some (.int (iI k)), some (.int (iI (N : Int)))] [] (V, C', J) := by
  intro zz
  induction zz using Nat.strongRecOn with
  | _ zz ih =>
    intro k C' hzz h1 hC hI
    refine i_iload_n dJ7_fill_53178_5 rfl ?_
    refine i_iload_n dJ7_fill_53178_6 rfl ?_
    refine i_icmp_ge (tgt := 20) dJ7_fill_53178_7 (by decide) (by omega) (by omega) (fun c1 => ?_) (fun c1 => ?_)
    · refine i_return dJ7_fill_53178_20 rfl ?_
      obtain rfl : k = (N : Int) := by omega
      exact hp _ hC hI
    · refine i_aload_n dJ7_fill_53178_10 rfl ?_
      refine i_iload_n dJ7_fill_53178_11 rfl ?_
      refine i_iload_n dJ7_fill_53178_12 rfl ?_
      refine u_iast (N := N) dJ7_fill_53178_13 hi (hc C') hN (by omega) ((hc _).trans (congrArg (c_ia N) cu_at)) ?_
      refine i_iinc dJ7_fill_53178_14 rfl (L' := [some _, some _, some _, some _]) (by decide) rfl ?_
      refine i_goto (tgt := 5) dJ7_fill_53178_17 (by decide) ?_
      refine ih _ ?_ (k + 1) _ rfl (by omega) (hC.cu (by simp)) (fun j => ?_)
      · omega
      · rw [cu_at]
        by_cases z : j = k
        · rw [z, zu_at, if_pos (by omega)]
        · rw [zu_ne z, hI j]
          exact if_cg (by omega)
theorem q_fillA {i N : Nat} {x : Int} (hi : c_ok i) (hc : ∀ f : Nat → Int → Int, c_cell Y (V, f, J) i = c_ia N (f i)) (hN : N ≤ 60000) (hp : ∀ C', sC [i] C C' → (∀ j, C' i j = if 0 ≤ j ∧ j < (N : Int) then x else C i j) → P (.inl none) (V, C', J)) : RM G mJ7_fill_53178 (c_I Y h0) [.ref (Y i), .int (iI x)] d 0 0 P (V, C, J) := by
  refine RM.of (L := [some (.ref (Y i)), some (.int (iI x)), none, none]) cfJ7_fill_53178 rfl (Nat.le_of_ble_eq_true rfl) ?_
  refine i_const dJ7_fill_53178_0 ?_
  refine i_istore_n dJ7_fill_53178_1 (L' := [some _, some _, some _, none]) (by decide) rfl ?_
  refine i_aload_n dJ7_fill_53178_2 rfl ?_
  refine u_alen (N := N) dJ7_fill_53178_3 hi (hc C) (by show (0 : Nat) < 6; decide) rfl ?_
  refine i_istore_n dJ7_fill_53178_4 (L' := [some _, some _, some _, some _]) (by decide) rfl ?_
  exact q_fill_l0 hi hc hN hp _ 0 C rfl (by omega) sC.rfl (fun j => (if_neg (by omega)).symm)
end C70
