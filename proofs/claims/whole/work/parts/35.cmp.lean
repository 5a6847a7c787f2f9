/-! ===== the reference: compile ===== -/
def cmV : List Nat := [8, 9, 20, 21, 22, 31, 32, 33, 34, 35, 36]
def cmC : List Nat := [0, 13, 14, 15, 16, 17, 18, 19]
/-- nothing has been read -/
def zX0 : zSt := (((0, 0), (fun _ => 0), fun _ => 0), zL0, [])
/-- the row of a pattern, as it has been read -/
def zSt0 (n : Int) (st : Int → Int) (j : Int) : Int := if 32 ≤ j ∧ j ≤ 31 + n then st (j - 31) else 0
def zRow (x : zSt) : Int → Int := zRg (zSt0 x.1.1.1 x.1.2.1) 0 x.1.1.1 x.1.1.2 (if (zEb x.1.2.2 x.2.1).2.1 = true then 1 else 0) (zEb x.1.2.2 x.2.1).2.2.1 (zEb x.1.2.2 x.2.1).2.2.2 (zEb x.1.2.2 x.2.1).1
def zLd (x : zSt) : Int → Int → Int := wLead (zRow x) 0
/-- N steps find all states, 60 at most -/
def zDone (x : zSt) (N : Nat) : Prop := N = 6 * (zD (zLd x) N).1 ∧ (∀ N' : Nat, N' < N → N' / 6 < (zD (zLd x) N').1) ∧ (zD (zLd x) N).1 ≤ 60
def zOver (x : zSt) : Prop := ∃ N : Nat, (∀ N' : Nat, N' ≤ N → N' / 6 < (zD (zLd x) N').1) ∧ (zD (zLd x) (N + 1)).1 = 61
/-- the error of a text -/
def zCE (bs : Int → Int) (sz kd off : Int) : Prop := zRn bs sz 0 zX0 = .inl (kd, off) ∨ ∃ x, zRn bs sz 0 zX0 = .inr x ∧ zOver x ∧ kd = 4 ∧ off = sz
/-- the row of a pattern -/
def wNew (x : zSt) (N : Nat) (w : Int → Int) (s : Int) : Prop := (∀ k, 0 ≤ k → k < 56 → k ≠ 5 → w (476 * s + k) = zRow x (476 * 0 + k)) ∧ w (476 * s + 5) = ((zD (zLd x) N).1 : Int) ∧ (∀ j : Int, 0 ≤ j → j < ((zD (zLd x) N).1 : Int) → w (476 * s + (56 + j)) = (zD (zLd x) N).2.1 j) ∧ (∀ j : Int, ((zD (zLd x) N).1 : Int) ≤ j → j < 60 → w (476 * s + (56 + j)) = 0) ∧ ∀ i : Int, 0 ≤ i → i < (N : Int) → w (476 * s + (116 + i)) = (zD (zLd x) N).2.2 i
section CMP
variable {w r : Int → Int} {s : Int}
theorem wAft_sh {y : Int} (h : ∀ k, 0 ≤ k → k < 56 → k ≠ 5 → w (476 * s + k) = r (476 * 0 + k)) : ∀ k : Nat, k ≤ 24 → wAft w s y k = wAft r 0 y k
  | 0, _ => by
    show (if y % 2 = 1 then w (476 * s + 2) else 0) = (if y % 2 = 1 then r (476 * 0 + 2) else 0)
    rw [h 2 (by decide) (by decide) (by decide)]
  | k + 1, hk => by
    show zo _ (if zt y ((k : Int) + 1) then w (476 * s + (6 + ((k : Int) + 1))) else 0) = zo _ (if zt y ((k : Int) + 1) then r (476 * 0 + (6 + ((k : Int) + 1))) else 0)
    rw [wAft_sh h k (by omega), h (6 + ((k : Int) + 1)) (by omega) (by omega) (by omega)]
theorem wThen_sh {a c : Int} (h : ∀ k, 0 ≤ k → k < 56 → k ≠ 5 → w (476 * s + k) = r (476 * 0 + k)) : ∀ k : Nat, k ≤ 24 → wThen w s a c k = wThen r 0 a c k
  | 0, _ => rfl
  | k + 1, hk => by
    show zo _ (if zt a ((k : Int) + 1) ∧ (w (476 * s + (31 + ((k : Int) + 1))) = 6 ∨ w (476 * s + (31 + ((k : Int) + 1))) = c) then _ else 0) = zo _ (if zt a ((k : Int) + 1) ∧ (r (476 * 0 + (31 + ((k : Int) + 1))) = 6 ∨ r (476 * 0 + (31 + ((k : Int) + 1))) = c) then _ else 0)
    rw [wThen_sh h k (by omega), h (31 + ((k : Int) + 1)) (by omega) (by omega) (by omega)]
theorem wLead_sh (h : ∀ k, 0 ≤ k → k < 56 → k ≠ 5 → w (476 * s + k) = r (476 * 0 + k)) (hn : 0 ≤ r (476 * 0 + 0) ∧ r (476 * 0 + 0) ≤ 24) : wLead w s = wLead r 0 := by
  funext y c
  unfold wLead
  rw [h 0 (by decide) (by decide) (by decide), wAft_sh h _ (by omega), wThen_sh h _ (by omega)]
theorem wRaw_sh (h : ∀ k, 0 ≤ k → k < 56 → k ≠ 5 → w (476 * s + k) = r (476 * 0 + k)) (hR : wRaw r 0) : wRaw w s := by
  refine ⟨?_, fun k hk => ?_, fun p p0 p1 => ?_⟩
  · rw [h 0 (by decide) (by decide) (by decide)]; exact hR.1
  · rw [h k (by omega) (by omega) (by omega)]; exact hR.2.1 k hk
  · rw [h (31 + p) (by omega) (by omega) (by omega)]; exact hR.2.2 p p0 p1
theorem zM.lt {m lo hi : Int} (h : zM m lo hi) (h1 : hi ≤ 24) : 0 ≤ m ∧ m < 33554432 := by
  have : m.toNat < 2 ^ 25 := Nat.lt_pow_two_of_testBit m.toNat (fun i hi2 => by
    cases c : m.toNat.testBit i with
    | false => rfl
    | true =>
      have := h.2 i (by omega) (by unfold zt; rw [Int.toNat_natCast]; exact c)
      omega)
  have := h.1
  omega
/-- what has been read is a pattern's row -/
theorem zRow_raw {x : zSt} (hn : 0 ≤ x.1.1.1 ∧ x.1.1.1 ≤ 24) (hst : ∀ k, 1 ≤ k → k ≤ x.1.1.1 → 0 ≤ x.1.2.1 k ∧ x.1.2.1 k ≤ 6) (hf : zM (zEb x.1.2.2 x.2.1).2.2.1 0 x.1.1.1) (hl : zM (zEb x.1.2.2 x.2.1).2.2.2 0 x.1.1.1) (hfo : ∀ p, 0 < p → p ≤ x.1.1.1 → zM ((zEb x.1.2.2 x.2.1).1 p) 0 x.1.1.1) : wRaw (zRow x) 0 := by
  have f1 := hf.lt hn.2
  have l1 := hl.lt hn.2
  refine ⟨?_, fun k hk => ?_, fun p p0 p1 => ?_⟩
  · show 0 ≤ zRg _ 0 _ _ _ _ _ _ (476 * 0 + 0) ∧ zRg _ 0 _ _ _ _ _ _ (476 * 0 + 0) ≤ 24
    unfold zRg
    rw [if_pos rfl]
    exact hn
  · show 0 ≤ zRg _ 0 _ _ _ _ _ _ (476 * 0 + k) ∧ zRg _ 0 _ _ _ _ _ _ (476 * 0 + k) < 33554432
    unfold zRg zRf
    by_cases c3 : k = 3
    · rw [if_neg (by omega), if_pos (by omega)]; exact l1
    rw [if_neg (by omega), if_neg (by omega), if_neg (by omega)]
    by_cases c2 : k = 2
    · rw [if_pos (by omega)]; exact f1
    rw [if_neg (by omega), if_neg (by omega)]
    by_cases c6 : 476 * 0 + 7 ≤ 476 * 0 + k ∧ 476 * 0 + k < 476 * 0 + 6 + (x.1.1.1 + 1)
    · rw [if_pos c6]
      exact (hfo _ (by omega) (by omega)).lt hn.2
    rw [if_neg c6]
    unfold zSt0
    rw [if_neg (by omega)]
    decide
  · show 0 ≤ zRg _ 0 _ _ _ _ _ _ (476 * 0 + (31 + p)) ∧ zRg _ 0 _ _ _ _ _ _ (476 * 0 + (31 + p)) ≤ 6
    unfold zRg zRf
    rw [if_neg (by omega), if_neg (by omega), if_neg (by omega), if_neg (by omega), if_neg (by omega), if_neg (by omega)]
    unfold zSt0
    split
    · have := hst p p0 (by omega)
      rw [show 476 * 0 + (31 + p) - 31 = p by omega]
      exact this
    · decide
theorem zRow_eq {w0 w1 w3 : Int → Int} {n lp : Int} {st fo : Int → Int} {cur : zLv} {outer : List zLv} (hn : 0 ≤ n ∧ n ≤ 24) (h1 : ∀ j, w1 j = if 476 * s + 0 ≤ j ∧ j < 476 * s + 476 then 0 else w0 j) (hst : ∀ k, 1 ≤ k → k ≤ n → w3 (476 * s + (31 + k)) = st k) (ho : ∀ j, ¬ (476 * s + 32 ≤ j ∧ j ≤ 476 * s + 31 + n) → w3 j = w1 j) (hw : ∀ j, w j = zRg w3 s n lp (if (zEb fo cur).2.1 = true then 1 else 0) (zEb fo cur).2.2.1 (zEb fo cur).2.2.2 (zEb fo cur).1 j) (k : Int) (k0 : 0 ≤ k) (k1 : k < 476) : w (476 * s + k) = zRow (((n, lp), st, fo), cur, outer) (476 * 0 + k) := by
  rw [hw]
  show zRg w3 s n lp _ _ _ _ _ = zRg (zSt0 n st) 0 n lp _ _ _ _ _
  unfold zRg zRf
  by_cases c0 : k = 0
  · rw [if_pos (by omega), if_pos (by omega)]
  rw [if_neg (by omega), if_neg (show ¬ (476 * 0 + k = 476 * 0 + 0) by omega)]
  by_cases c3 : k = 3
  · rw [if_pos (by omega), if_pos (by omega)]
  rw [if_neg (by omega), if_neg (show ¬ (476 * 0 + k = 476 * 0 + 3) by omega)]
  by_cases c4 : k = 4
  · rw [if_pos (by omega), if_pos (by omega)]
  rw [if_neg (by omega), if_neg (show ¬ (476 * 0 + k = 476 * 0 + 4) by omega)]
  by_cases c2 : k = 2
  · rw [if_pos (by omega), if_pos (by omega)]
  rw [if_neg (by omega), if_neg (show ¬ (476 * 0 + k = 476 * 0 + 2) by omega)]
  by_cases c1 : k = 1
  · rw [if_pos (show 476 * s + k = 476 * s + 1 by omega), if_pos (show 476 * 0 + k = 476 * 0 + 1 by omega)]
  rw [if_neg (by omega), if_neg (show ¬ (476 * 0 + k = 476 * 0 + 1) by omega)]
  by_cases c6 : 7 ≤ k ∧ k < 6 + (n + 1)
  · rw [if_pos (by omega), if_pos (by omega)]
    exact congrArg _ (by omega)
  rw [if_neg (by omega), if_neg (show ¬ (476 * 0 + 7 ≤ 476 * 0 + k ∧ 476 * 0 + k < 476 * 0 + 6 + (n + 1)) by omega)]
  unfold zSt0
  by_cases c5 : 32 ≤ k ∧ k ≤ 31 + n
  · rw [if_pos (by omega), ← hst (476 * 0 + k - 31) (by omega) (by omega)]
    exact congrArg w3 (by omega)
  · rw [if_neg (by omega), ho _ (by omega), h1, if_pos (by omega)]
/-- with the states -/
theorem wNew.of {w' : Int → Int} {x : zSt} {N : Nat} (hD : wDI w w' s N) (hw : ∀ k, 0 ≤ k → k < 476 → w (476 * s + k) = zRow x (476 * 0 + k)) (hR : wRaw (zRow x) 0) (hz : ∀ k, 56 ≤ k → k < 116 → zRow x (476 * 0 + k) = 0) (hN : N = 6 * (zD (wLead w s) N).1) : wNew x N w' s := by
  have e : wLead w s = zLd x := wLead_sh (fun k k0 k1 _ => hw k k0 (by omega)) hR.1
  have lo := hD.lo
  obtain ⟨h1, h2, h3, h4⟩ := hD
  rw [e] at h1 h2 h3 h4 hN
  refine ⟨fun k k0 k1 k2 => ?_, h2, h3, fun j j0 j1 => ?_, h4⟩
  · rw [lo k k0 k1 k2]; exact hw k k0 (by omega)
  · rw [h1 _ (by omega) (by omega) (by omega), hw (56 + j) (by omega) (by omega)]
    exact hz _ (by omega) (by omega)
theorem zRow_z {x : zSt} (hn : 0 ≤ x.1.1.1 ∧ x.1.1.1 ≤ 24) (k : Int) (k0 : 56 ≤ k) (k1 : k < 116) : zRow x (476 * 0 + k) = 0 := by
  show zRg _ 0 _ _ _ _ _ _ (476 * 0 + k) = 0
  unfold zRg zRf zSt0
  rw [if_neg (by omega), if_neg (by omega), if_neg (by omega), if_neg (by omega), if_neg (by omega), if_neg (by omega), if_neg (by omega)]
theorem mPs.init {bs : Int → Int} {sz : Int} {V : Nat → Int} {C : Nat → Int → Int} (h8 : V 8 = 0) (h9 : V 9 = -1) (h7 : V 7 = sz) (h36 : V 36 = 0) (h35 : V 35 = 0) (h32 : V 32 = 0) (h31 : V 31 = 0) (h20 : V 20 = 0) (h21 : V 21 = 0) (hsz : 0 ≤ sz ∧ sz ≤ 200) (hs : s = 0 ∨ s = 1) (h6 : C 6 = bs) (hB : ∀ j, 0 ≤ j → j < sz → 0 ≤ bs j ∧ bs j < 256) : mPs bs sz s (C 0) V C (fun _ _ => False) 0 0 (fun _ => 0) 0 := by
  refine ⟨⟨⟨h8, h7, h36, h35, h32, h9⟩, hsz, by omega, by decide, by omega, by decide, hs⟩, ⟨h6, hB⟩, ?_, ?_, fun a a0 a1 => by omega, fun k k0 k1 => by omega, fun j _ => rfl⟩
  · rw [h20, h21]; exact mLk.emp
  · rw [h20]; exact ⟨fun a a0 a1 => by omega, fun q q0 q1 => by omega⟩
end CMP
section M35
variable {G : p_G} {Y : Nat → Nat} {h0 : p_H} {P : (Option Value) ⊕ String → m_X → Prop} {d : Nat} {V : Nat → Int} {C : Nat → Int → Int} {J : Int → Int}
theorem k_readsTop {bs : Int → Int} {sz s : Int} {w0 : Int → Int} : kPat G Y h0 (d + 84) bs sz s w0 0 := k_readsP (d := d) 20 0 (by decide)
theorem k_compiles {s sz : Int} (hs : s = 0 ∨ s = 1) (h7 : V 7 = sz) (hsz : 0 ≤ sz ∧ sz ≤ 200) (hB : ∀ j, 0 ≤ j → j < sz → 0 ≤ C 6 j ∧ C 6 j < 256) (hW6 : 0 ≤ C 0 952 ∧ C 0 952 ≤ 6) (hWk : ∀ k, 0 ≤ k → k < C 0 952 → C 0 (953 + 3 * k + 0) = 0 ∨ C 0 (953 + 3 * k + 0) = 1) (hpE : ∀ V' C' kd off, zCE (C 6) sz kd off → V' 8 = kd → V' 9 = off → sV cmV V V' → sC cmC C C' → P (.inl (some (.int (iI 0)))) (V', C', J)) (hpS : ∀ V' C' N x w2, zRn (C 6) sz 0 zX0 = .inr x → zDone x N → V' 8 = 0 → V' 9 = -1 → sV cmV V V' → sC cmC C C' → wNew x N w2 s → (∀ j, ¬ (476 * s + 0 ≤ j ∧ j < 476 * s + 476) → w2 j = C 0 j) → (∀ j, C' 0 j = wRes w2 s j) → P (.inl (some (.int (iI 1)))) (V', C', J)) : RM G mX11_compiles (m_I Y h0) [.ref (Y 38), .int (iI s)] (d + 85) 0 0 P (V, C, J) := by
  refine RM.of (L := [some (.ref (Y 38)), some (.int (iI s))]) cfX11_compiles rfl (Nat.le_of_ble_eq_true rfl) ?_
  refine i_aload_n dX11_compiles_0 rfl ?_
  refine i_const dX11_compiles_1 ?_
  refine t_put dX11_compiles_2 fX11_92 (by decide) rfl rfl ?_
  refine i_aload_n dX11_compiles_5 rfl ?_
  refine i_const dX11_compiles_6 ?_
  refine t_put dX11_compiles_7 fX11_25 (by decide) rfl rfl ?_
  refine i_aload_n dX11_compiles_10 rfl ?_
  refine i_iload_n dX11_compiles_11 rfl ?_
  refine t_callV (As := [_]) dX11_compiles_12 cfX11_clears imX11_clears seX11_clears lX11_193 rfl rfl rfl (Nat.le_of_ble_eq_true rfl) ?_
  refine k_clears hs (fun C1 hC1 hf1 => RK.n0 ?_)
  refine i_aload_n dX11_compiles_15 rfl ?_
  refine i_const dX11_compiles_16 ?_
  refine t_put dX11_compiles_17 fX11_119 (by decide) rfl rfl ?_
  refine i_aload_n dX11_compiles_20 rfl ?_
  refine i_const dX11_compiles_21 ?_
  refine t_put dX11_compiles_22 fX11_122 (by decide) rfl rfl ?_
  refine i_aload_n dX11_compiles_25 rfl ?_
  refine i_const dX11_compiles_26 ?_
  refine t_put dX11_compiles_27 fX11_176 (by decide) rfl rfl ?_
  refine i_aload_n dX11_compiles_30 rfl ?_
  refine i_const dX11_compiles_31 ?_
  refine t_put dX11_compiles_32 fX11_125 (by decide) rfl rfl ?_
  refine i_aload_n dX11_compiles_35 rfl ?_
  refine i_const dX11_compiles_36 ?_
  refine t_put dX11_compiles_37 fX11_160 (by decide) rfl rfl ?_
  refine i_aload_n dX11_compiles_40 rfl ?_
  refine i_const dX11_compiles_41 ?_
  refine t_put dX11_compiles_42 fX11_157 (by decide) rfl rfl ?_
  refine i_aload_n dX11_compiles_45 rfl ?_
  refine i_const dX11_compiles_46 ?_
  refine t_put dX11_compiles_47 fX11_169 (by decide) rfl rfl ?_
  refine i_aload_n dX11_compiles_50 rfl ?_
  refine i_iload_n dX11_compiles_51 rfl ?_
  refine t_callV (As := [_]) dX11_compiles_52 cfX11_readsPattern imX11_readsPattern seX11_readsPattern lX11_166 rfl rfl rfl (Nat.le_of_ble_eq_true rfl) ?_
  refine m_genR (fun V2 hV2 C2 hC2 J2 hJ2 => ?_)
  have v2_7 : V2 7 = V 7 := by rw [hV2]; rfl
  have v2_8 : V2 8 = 0 := by rw [hV2]; rfl
  have v2_9 : V2 9 = (-1) := by rw [hV2]; rfl
  have v2_20 : V2 20 = 0 := by rw [hV2]; rfl
  have v2_21 : V2 21 = 0 := by rw [hV2]; rfl
  have v2_22 : V2 22 = 0 := by rw [hV2]; rfl
  have v2_31 : V2 31 = 0 := by rw [hV2]; rfl
  have v2_32 : V2 32 = 0 := by rw [hV2]; rfl
  have v2_33 : V2 33 = V 33 := by rw [hV2]; rfl
  have v2_34 : V2 34 = V 34 := by rw [hV2]; rfl
  have v2_35 : V2 35 = 0 := by rw [hV2]; rfl
  have v2_36 : V2 36 = 0 := by rw [hV2]; rfl
  have sv2 : sV cmV V V2 := by rw [hV2]; repeat' (first | exact sV.rfl | refine sV.vu ?_ (by decide))
  clear hV2; subst hC2; subst hJ2
  have hP2 := mPs.init (s := s) (bs := C 6) (V := V2) (C := C2) (sz := sz) (by omega) (by omega) (by omega) (by omega) (by omega) (by omega) (by omega) (by omega) (by omega) hsz hs (hC1 6 (by decide)) hB
  refine k_readsTop _ _ _ _ _ _ _ _ _ [] hP2 rfl (by omega) (fun p _ => rfl) (fun V3 C3 hb3 => RK.v ?_) (fun V3 C3 E3 n3 lp3 st3 fo3 cur3 hb3 => RK.v ?_)
  · -- case
    refine i_if_ne (tgt := 60) dX11_compiles_55 (by decide) (by decide) (fun c55 => by omega) (fun c55 => ?_)
    refine i_const dX11_compiles_58 ?_
    refine i_ireturn dX11_compiles_59 rfl rfl ?_
    obtain ⟨⟨kd, off, e1, e2, e3, e4, e5⟩, e6, e7⟩ := hb3
    rw [v2_31] at e1
    exact hpE _ _ kd off (Or.inl e1) e4 e5 (sv2.t2 e6 (U := cmV) (by decide) (by decide)) (hC1.t2 e7 (U := cmC) (by decide) (by decide))
  · -- case
    refine i_if_ne (tgt := 60) dX11_compiles_55 (by decide) (by decide) (fun c55 => ?_) (fun c55 => by omega)
    refine i_aload_n dX11_compiles_60 rfl ?_
    have a3 := hb3.1.1
    have a4 := hb3.1.nn
    have a7 := hb3.2.2.2.2.2.2.2
    have a8 := hb3.2.2.2.1.1.1
    refine t_getI dX11_compiles_61 fX11_125 (by decide) rfl ?_
    refine i_aload_n dX11_compiles_64 rfl ?_
    refine t_getI dX11_compiles_65 fX11_89 (by decide) rfl ?_
    refine i_icmp_ge (tgt := 77) dX11_compiles_68 (by decide) (by omega) (by omega) (fun c68 => ?_) (fun c68 => ?_)
    · -- jumps
      refine i_aload_n dX11_compiles_77 rfl ?_
      refine i_iload_n dX11_compiles_78 rfl ?_
      refine i_aload_n dX11_compiles_79 rfl ?_
      refine t_getI dX11_compiles_80 fX11_137 (by decide) rfl ?_
      refine i_aload_n dX11_compiles_83 rfl ?_
      refine t_getI dX11_compiles_84 fX11_144 (by decide) rfl ?_
      refine t_callV (As := [_, _, _]) dX11_compiles_87 cfX11_follows imX11_follows seX11_follows lX11_197 rfl rfl rfl (Nat.le_of_ble_eq_true rfl) ?_
      obtain ⟨src, hSr⟩ := hb3.1.2.2.1
      have hGf : mGf (V3 20) (V3 21) n3 E3 src (fun q => C3 19 q - 1) C3 := ⟨hSr, hb3.1.2.2.2.1, fun q _ _ => by show _ = C3 19 q - 1 + 1; omega⟩
      have hfr := hb3.2.2.2.1
      rw [v2_20] at hfr
      have v22 : V3 22 = 0 := by rw [hb3.2.1.2.2.2.2.1 22 (by decide)]; exact v2_22
      refine k_follows hGf (by omega) (by omega) (by omega) hfr hs v22 (fun y y0 y1 => by have := hb3.1.2.2.2.2.1 y y0 y1; omega) (fun V4 C4 hV4 hC4 hw4 => RK.n0 ?_)
      rw [hb3.1.1.1.2.2.2.1] at hw4
      have hRow := zRow_eq (outer := []) (by omega) hf1 (fun q q0 q1 => (hb3.1.2.2.2.2.2.1 q q0 q1).1) hb3.1.2.2.2.2.2.2 hw4
      have hRaw : wRaw (zRow (((n3, lp3), st3, fo3), cur3, [])) 0 := zRow_raw (by show 0 ≤ n3 ∧ n3 ≤ 24; omega) (fun q q0 q1 => (hb3.1.2.2.2.2.2.1 q q0 q1).2) hfr.2.2.1 hfr.2.2.2.1 (fun q q0 q1 => hfr.2.2.2.2 q q0 q1)
      have hR : wRaw (C4 0) s := wRaw_sh (fun q q0 q1 _ => hRow q q0 (by omega)) hRaw
      have hld : wLead (C4 0) s = zLd (((n3, lp3), st3, fo3), cur3, []) := wLead_sh (fun q q0 q1 _ => hRow q q0 (by omega)) hRaw.1
      have v8 : V4 8 = 0 := by rw [hV4 8 (by decide)]; exact hb3.1.1.1.1
      refine i_aload_n dX11_compiles_90 rfl ?_
      refine i_iload_n dX11_compiles_91 rfl ?_
      refine t_callV (As := [_]) dX11_compiles_92 cfX11_determines imX11_determines seX11_determines lX11_200 rfl rfl rfl (Nat.le_of_ble_eq_true rfl) ?_
      refine k_determines hR hs v8 (fun C5 N hC5 hN1 hN2 => RK.v ?_) (fun C5 N hC5 hD hN0 hN1 hN2 => RK.v ?_)
      · -- case
        refine i_if_ne (tgt := 100) dX11_compiles_95 (by decide) (by decide) (fun c95 => by omega) (fun c95 => ?_)
        refine i_const dX11_compiles_98 ?_
        refine i_ireturn dX11_compiles_99 rfl rfl ?_
        have hrn := hb3.2.2.1
        rw [v2_31] at hrn
        rw [zRn_e (a := V3 31) (x := (((n3, lp3), st3, fo3), cur3, [])) (by omega) rfl] at hrn
        rw [hld] at hN1 hN2
        exact hpE _ _ 4 sz (Or.inr ⟨_, hrn, ⟨N, hN1, hN2⟩, rfl, rfl⟩) rfl (by show V4 31 = sz; rw [hV4 31 (by decide)]; omega) ((((sv2.t2 hb3.2.1.2.2.2.2.1 (U := cmV) (by decide) (by decide)).t2 hV4 (U := cmV) (by decide) (by decide)).vu (by decide)).vu (by decide)) (((hC1.t2 hb3.2.1.2.2.2.2.2 (U := cmC) (by decide) (by decide)).t2 hC4 (U := cmC) (by decide) (by decide)).t2 hC5 (U := cmC) (by decide) (by decide))
      · -- case
        refine i_if_ne (tgt := 100) dX11_compiles_95 (by decide) (by decide) (fun c95 => ?_) (fun c95 => by omega)
        refine i_aload_n dX11_compiles_100 rfl ?_
        refine i_iload_n dX11_compiles_101 rfl ?_
        refine t_callV (As := [_]) dX11_compiles_102 cfX11_restarts imX11_restarts seX11_restarts lX11_203 rfl rfl rfl (Nat.le_of_ble_eq_true rfl) ?_
        have hout : ∀ j, ¬ (476 * s + 0 ≤ j ∧ j < 476 * s + 476) → C5 0 j = C 0 j := fun j hj => by
          rw [hD.1 j (by omega) (by have := hN2; omega) (by have := hN2; omega), hw4]
          unfold zRg zRf
          rw [if_neg (by omega), if_neg (by omega), if_neg (by omega), if_neg (by omega), if_neg (by omega), if_neg (by omega), hb3.1.2.2.2.2.2.2 j (by omega), hf1, if_neg hj]
        have rs6 : 0 ≤ C5 0 952 ∧ C5 0 952 ≤ 6 := by rw [hout 952 (by omega)]; exact hW6
        have rsk : ∀ q, 0 ≤ q → q < C5 0 952 → C5 0 (953 + 3 * q + 0) = 0 ∨ C5 0 (953 + 3 * q + 0) = 1 := fun q q0 q1 => by rw [hout _ (by omega)]; rw [hout 952 (by omega)] at q1; exact hWk q q0 q1
        refine k_restarts (by omega) rs6 rsk (fun C6 hC6 hf6 => RK.n0 ?_)
        refine i_const dX11_compiles_105 ?_
        refine i_ireturn dX11_compiles_106 rfl rfl ?_
        have hrn := hb3.2.2.1
        rw [v2_31] at hrn
        rw [zRn_e (a := V3 31) (x := (((n3, lp3), st3, fo3), cur3, [])) (by omega) rfl] at hrn
        have hnew := wNew.of hD hRow hRaw (zRow_z (by show 0 ≤ n3 ∧ n3 ≤ 24; omega)) hN0
        rw [hld] at hN0 hN1 hN2
        exact hpS _ _ N _ (C5 0) hrn ⟨hN0, hN1, hN2⟩ v8 (by rw [hV4 9 (by decide)]; exact hb3.1.1.1.2.2.2.2.2) ((sv2.t2 hb3.2.1.2.2.2.2.1 (U := cmV) (by decide) (by decide)).t2 hV4 (U := cmV) (by decide) (by decide)) ((((hC1.t2 hb3.2.1.2.2.2.2.2 (U := cmC) (by decide) (by decide)).t2 hC4 (U := cmC) (by decide) (by decide)).t2 hC5 (U := cmC) (by decide) (by decide)).t2 hC6 (U := cmC) (by decide) (by decide)) hnew hout hf6
    · -- on
      refine i_aload_n dX11_compiles_71 rfl ?_
      refine i_const dX11_compiles_72 ?_
      refine t_callV (As := [_]) dX11_compiles_73 cfX11_fail imX11_fail seX11_fail lX11_163 rfl rfl rfl (Nat.le_of_ble_eq_true rfl) ?_
      refine k_failP hb3.1.1.1.1 (RK.v ?_)
      refine i_ireturn dX11_compiles_76 rfl rfl ?_
      have hrn := hb3.2.2.1
      rw [v2_31] at hrn
      have ha := hb3.2.2.2.2.2.2.1 (by omega)
      rw [zRn_l (a := V3 31) (x := (((n3, lp3), st3, fo3), cur3, [])) (by omega) (by omega) (zStep_x ha.1 ha.2.1 (fun _ => rfl) ha.2.2)] at hrn
      exact hpE _ _ 1 (V3 31) (Or.inl hrn) rfl rfl (((sv2.t2 hb3.2.1.2.2.2.2.1 (U := cmV) (by decide) (by decide)).vu (by decide)).vu (by decide)) (hC1.t2 hb3.2.1.2.2.2.2.2 (U := cmC) (by decide) (by decide))
end M35
