/-! ===== the class: the history ===== -/
theorem i_min {σ : Type} {G : p_G} {M : p_M} {I : σ → p_H → Prop} {P : (Option Value) ⊕ String → σ → Prop} {d k n pc idx : Nat} {L : p_LL} {st : List Value} {X : σ} {a b : Int} (hl : Cond.methodLink M.1.cls idx Lib.Math.min.name ∈ p_ws) (hd : decode M.2.1 pc = .ok (.invokestatic idx, 3)) (hr : (st.map fun v => v.category).sum ≤ 8) (ha : -2147483648 ≤ a ∧ a < 2147483648) (hb : -2147483648 ≤ b ∧ b < 2147483648) (kk : RW G M I P (d + 1) k n (pc + 3) L (.int (iI (if b < a then b else a)) :: st) X) : RW G M I P (d + 1) k n pc L (.int (iI b) :: .int (iI a) :: st) X := by
  have e0 : (if iI b < iI a then iI b else iI a) = iI (if b < a then b else a) := by
    by_cases z : b < a
    · rw [if_pos z, if_pos ((iI_lt hb ha).mpr z)]
    · rw [if_neg z, if_neg (fun y => z ((iI_lt hb ha).mp y))]
  intro h hI p e R s m args below meth c H locs cells slots ls CC B hS hR hL
  obtain ⟨hx, hbb, hml, -, -, hown, -, -, hU⟩ := id CC
  obtain ⟨b1, b2, b3, b4⟩ := id B
  have hk := kk h hI p e R s m args below meth c H locs cells slots ls CC B hS hR hL
  rw [← e0] at hk
  exact va_mmin (x := iI a) (y := iI b) hx hbb (hml.trans hL.1.symm) hown (hU.word hl args) (hU.word (p_in (p_t3 (List.mem_of_getElem? (i := 133) (by decide +kernel))) rfl) args) (hU.word (p_in (p_t1 (List.mem_of_getElem? (i := 22) (by decide +kernel))) rfl) args) (hU.word (p_in (p_t3 (List.mem_of_getElem? (i := 134) rfl)) rfl) args) (by omega) (by omega) (by omega) (by omega) hd hk
/-- the world u is the reference's numbers -/
def cWk (V : Nat → Int) (C : Nat → Int → Int) (J : c_J) (u : Nat) (w : Int → Int) : Prop := cWd (V (20 + 8 * u)) (V (21 + 8 * u)) (V (22 + 8 * u)) (V (23 + 8 * u)) (V (24 + 8 * u)) (C (31 + 4 * u)) (C (32 + 4 * u)) (C (33 + 4 * u)) (J.2.1 (2 * u)) (J.2.1 (2 * u + 1)) J.2.2 w
/-- n worlds are remembered -/
def cHs (V : Nat → Int) (C : Nat → Int → Int) (J : c_J) (n : Int) (H : Int → Int → Int) : Prop := (0 ≤ V 10 ∧ V 10 < 8) ∧ (V 11 = n ∧ 0 ≤ n ∧ n ≤ 8) ∧ ∀ i, 0 ≤ i → i < n → cWk V C J (2 + ((V 10 - n + i) % 8).toNat) (H i)
/-- one more is remembered -/
def hPush (n : Int) (H : Int → Int → Int) (w : Int → Int) : Int → Int → Int := fun i => if i = (if n = 8 then 7 else n) then w else H (if n = 8 then i + 1 else i)
/-- all but the present world and the history stays -/
def cFr (V V' : Nat → Int) (C C' : Nat → Int → Int) (J J' : c_J) : Prop := (∀ i, (i < 10 ∨ (12 ≤ i ∧ i < 20) ∨ (28 ≤ i ∧ i < 36) ∨ 100 ≤ i) → V' i = V i) ∧ (∀ i, (i < 31 ∨ (34 ≤ i ∧ i < 39) ∨ 70 ≤ i) → C' i = C i) ∧ (∀ q, q = 2 ∨ q = 3 → J'.2.1 q = J.2.1 q) ∧ J'.1 = J.1 ∧ ∀ a p, J.2.2 a = some p → J'.2.2 a = some p
section C62a
variable {V V' V1 : Nat → Int} {C C' C1 : Nat → Int → Int} {J J' J1 : c_J} {R' : Nat → Nat} {w w' : Int → Int} {u v x : Nat} {n : Int} {H : Int → Int → Int}
theorem cFr.rfl : cFr V V C C J J := ⟨fun _ _ => Eq.refl _, fun _ _ => Eq.refl _, fun _ _ => Eq.refl _, Eq.refl _, fun _ _ h => h⟩
theorem cFr.tr (h : cFr V V1 C C1 J J1) (h' : cFr V1 V' C1 C' J1 J') : cFr V V' C C' J J' :=
  ⟨fun i hi => (h'.1 i hi).trans (h.1 i hi), fun i hi => (h'.2.1 i hi).trans (h.2.1 i hi), fun q hq => (h'.2.2.1 q hq).trans (h.2.2.1 q hq), h'.2.2.2.1.trans h.2.2.2.1, fun a p hp => h'.2.2.2.2 a p (h.2.2.2.2 a p hp)⟩
theorem cWk.cg (h : cWk V C J x w) (hV : ∀ i, 20 + 8 * x ≤ i → i < 25 + 8 * x → V' i = V i) (hC : ∀ i, 31 + 4 * x ≤ i → i < 34 + 4 * x → C' i = C i) (hR : J'.2.1 (2 * x) = J.2.1 (2 * x) ∧ J'.2.1 (2 * x + 1) = J.2.1 (2 * x + 1)) (hP : ∀ a p, J.2.2 a = some p → J'.2.2 a = some p) : cWk V' C' J' x w := by
  unfold cWk at h ⊢
  rw [hV _ (Nat.le_refl _) (by omega), hV (21 + 8 * x) (by omega) (by omega), hV (22 + 8 * x) (by omega) (by omega), hV (23 + 8 * x) (by omega) (by omega), hV (24 + 8 * x) (by omega) (by omega), hC _ (Nat.le_refl _) (by omega), hC (32 + 4 * x) (by omega) (by omega), hC (33 + 4 * x) (by omega) (by omega), hR.1, hR.2]
  obtain ⟨h1, h2, h3, ⟨p, p1, p2⟩, q, q1, q2⟩ := h
  exact ⟨h1, h2, h3, ⟨p, hP _ _ p1, p2⟩, q, hP _ _ q1, q2⟩
theorem cWk.cp (h : cWk V C J v w) (h6 : 0 ≤ w 952 ∧ w 952 ≤ 6) (hc : cCp u v V V' C C' J.2.1 R') : cWk V' C' (J.1, R', J.2.2) u w := by
  obtain ⟨⟨c1, c2, c3, c4, c5⟩, -, c6, -, ⟨c7, c8⟩, -⟩ := hc
  unfold cWk at h ⊢
  rw [c1, c2, c3, c4, c5]
  show cWd _ _ _ _ _ _ _ _ (R' (2 * u)) (R' (2 * u + 1)) _ _
  rw [c7, c8]
  refine ⟨h.1, fun k k0 k1 => ?_, h.2.2⟩
  have hk := h.2.1 k k0 k1
  have h2 := c6 k k0 (by omega)
  rw [h2.1, h2.2.1, h2.2.2]
  exact hk
theorem cWk.ot (h : cWk V C J x w) (hx : x ≠ u) (hc : cCp u v V V' C C' J.2.1 R') : cWk V' C' (J.1, R', J.2.2) x w := by
  obtain ⟨-, c1, -, c2, -, c3⟩ := hc
  refine h.cg (fun i i0 i1 => c1 i ?_) (fun i i0 i1 => c2 i ?_) ⟨c3 _ (by omega) (by omega), c3 _ (by omega) (by omega)⟩ (fun _ _ h => h)
  · simp only [List.mem_cons, List.not_mem_nil, or_false]; omega
  · simp only [List.mem_cons, List.not_mem_nil, or_false]; omega
/-- the history stays -/
theorem cHs.cg (h : cHs V C J n H) (hV : ∀ i, i = 10 ∨ i = 11 ∨ (36 ≤ i ∧ i < 100) → V' i = V i) (hC : ∀ i, 39 ≤ i → i < 70 → C' i = C i) (hR : ∀ q, 4 ≤ q → q < 20 → J'.2.1 q = J.2.1 q) (hP : ∀ a p, J.2.2 a = some p → J'.2.2 a = some p) : cHs V' C' J' n H := by
  obtain ⟨h1, h2, h3⟩ := h
  have e0 := hV 10 (by omega)
  have e1 := hV 11 (by omega)
  refine ⟨by omega, by omega, fun i i0 i1 => ?_⟩
  rw [e0]
  exact (h3 i i0 i1).cg (fun j j0 j1 => hV j (by omega)) (fun j j0 j1 => hC j (by omega) (by omega)) ⟨hR _ (by omega) (by omega), hR _ (by omega) (by omega)⟩ hP
/-- as the numbers tell -/
theorem cWd.pw {nt wk al dg ng : Int} {sl sa sp : Int → Int} {r0 r1 : Nat} {PT : Nat → Option c_P} (h : cWd nt wk al dg ng sl sa sp r0 r1 PT w) (hO : wOK w) (hw : ∀ j, 0 ≤ j → j < 985 → w' j = w j) : cWd nt wk al dg ng sl sa sp r0 r1 PT w' := by
  obtain ⟨h1, h2, h3, ⟨p, p1, p2⟩, q, q1, q2⟩ := h
  have h6 := hO.2.1
  refine ⟨?_, fun k k0 k1 => ?_, ⟨h3.1, fun c c0 c1 => ?_, fun c c0 c1 => ?_⟩, ⟨p, p1, p2.cg (hO.1 0 (Or.inl rfl)) (fun j j0 j1 => hw _ (by omega) (by omega))⟩, q, q1, q2.cg (hO.1 1 (Or.inr rfl)) (fun j j0 j1 => hw _ (by omega) (by omega))⟩
  · rw [hw 983 (by decide) (by decide), hw 952 (by decide) (by decide), hw 984 (by decide) (by decide)]; exact h1
  · rw [hw 952 (by decide) (by decide)] at k1
    rw [hw _ (by omega) (by omega), hw _ (by omega) (by omega), hw _ (by omega) (by omega)]
    exact h2 k k0 k1
  · rw [hw _ (by omega) (by omega)]; exact h3.2.1 c c0 c1
  · rw [hw _ (by omega) (by omega)]; exact h3.2.2 c c0 c1
theorem cHs.pw {H' : Int → Int → Int} (h : cHs V C J n H) (hO : ∀ i, 0 ≤ i → i < n → wOK (H i)) (hw : ∀ i, 0 ≤ i → i < n → ∀ j, 0 ≤ j → j < 985 → H' i j = H i j) : cHs V C J n H' :=
  ⟨h.1, h.2.1, fun i i0 i1 => (h.2.2 i i0 i1).pw (hO i i0 i1) (hw i i0 i1)⟩
end C62a
section C62
variable {G : p_G} {Y : Nat → Nat} {h0 : p_H} {P : (Option Value) ⊕ String → c_X → Prop} {d : Nat} {V : Nat → Int} {C : Nat → Int → Int} {J : c_J}
variable {w : Int → Int} {n : Int} {H : Int → Int → Int}
theorem q_remRaw (h10 : 0 ≤ V 10 ∧ V 10 < 8) (h11 : 0 ≤ V 11 ∧ V 11 ≤ 8) (hb : V 20 = 0 ∨ V 20 = 1) (hp : ∀ V1 C' R', cCp (2 + (V 10).toNat) 0 V V1 C C' J.2.1 R' → P (.inl none) (vu (vu V1 10 ((V 10 + 1) % 8)) 11 (if 8 < V 11 + 1 then 8 else V 11 + 1), C', (J.1, R', J.2.2))) : RM G mX0_remember (c_I Y h0) [.ref (Y 9), .ref (Y 30)] (d + 1) 0 0 P (V, C, J) := by
  refine RM.of (L := [some (.ref (Y 9)), some (.ref (Y 30)), none]) cfX0_remember rfl (Nat.le_of_ble_eq_true rfl) ?_
  refine i_aload_n dX0_remember_0 rfl ?_
  refine u_get (i := 9) (vv := .int (iI (V 10))) dX0_remember_1 fX0_24 (by decide) rfl rfl ?_
  refine i_bipush dX0_remember_4 (by decide) ?_
  refine i_callSN (mc := 0) (ms := 0) (As := [_, _]) dX0_remember_6 cfX10_isIndex stX10_isIndex lX0_27 rfl rfl (Nat.le_of_ble_eq_true rfl) (Nat.zero_add _).symm (Nat.zero_add _).symm ?_
  refine q_isIndex (by omega) (by omega) (RKN.v ?_)
  refine i_ifeq_b (tgt := 24) dX0_remember_9 (by decide) (fun c9 => absurd h10 c9) (fun c9 => ?_)
  refine i_aload_n dX0_remember_12 rfl ?_
  refine u_get (i := 9) (vv := .ref (Y 10)) dX0_remember_13 fX0_11.o (by decide) rfl rfl ?_
  refine i_aload_n dX0_remember_16 rfl ?_
  refine u_get (i := 9) (vv := .int (iI (V 10))) dX0_remember_17 fX0_24 (by decide) rfl rfl ?_
  refine u_aald dX0_remember_20 h10 ?_
  have eu : 38 + 4 * (V 10).toNat = 30 + 4 * (2 + (V 10).toNat) := by omega
  rw [eu]
  refine i_goto (tgt := 25) dX0_remember_21 (by decide) ?_
  refine i_astore_n dX0_remember_25 (L' := [some _, some _, some _]) (by decide) rfl ?_
  refine i_aload_n dX0_remember_26 rfl ?_
  refine i_ifnonnull (tgt := 31) dX0_remember_27 (by decide) ?_
  refine i_aload_n dX0_remember_31 rfl ?_
  refine i_aload_n dX0_remember_32 rfl ?_
  refine u_callV (i := 30 + 4 * (2 + (V 10).toNat)) (mc := 0) (ms := 0) (As := [_]) dX0_remember_33 cfX9_copyFrom imX9_copyFrom seX9_copyFrom lX0_31 (c_okW (k := 0) (by omega) (by decide) rfl) (c_cellW (by omega)) rfl rfl rfl rfl (Nat.le_of_ble_eq_true rfl) (Nat.zero_add _).symm (Nat.zero_add _).symm ?_
  refine q_copyFrom (v := 0) (by omega) (by decide) (by omega) hb (fun V1 C1 R1 hc => RK.n0 ?_)
  have e10 : V1 10 = V 10 := hc.2.1 10 (by simp only [List.mem_cons, List.not_mem_nil, or_false]; omega)
  have e11 : V1 11 = V 11 := hc.2.1 11 (by simp only [List.mem_cons, List.not_mem_nil, or_false]; omega)
  refine i_aload_n dX0_remember_36 rfl ?_
  refine i_aload_n dX0_remember_37 rfl ?_
  refine u_get (i := 9) (vv := .int (iI (V1 10))) dX0_remember_38 fX0_24 (by decide) rfl rfl ?_
  refine i_const dX0_remember_41 ?_
  refine i_add dX0_remember_42 ?_
  refine i_bipush dX0_remember_43 (by decide) ?_
  refine i_rem dX0_remember_45 (by omega) (by omega) ?_
  refine u_put (i := 9) (kV := 10) dX0_remember_46 fX0_24 (by decide) rfl rfl rfl (Nat.le_of_ble_eq_true rfl) rfl rfl ?_
  refine i_aload_n dX0_remember_49 rfl ?_
  refine i_aload_n dX0_remember_50 rfl ?_
  refine u_get (i := 9) (vv := .int (iI (V1 11))) dX0_remember_51 fX0_20 (by decide) rfl rfl ?_
  refine i_const dX0_remember_54 ?_
  refine i_add dX0_remember_55 ?_
  refine i_bipush dX0_remember_56 (by decide) ?_
  refine i_min lX0_35 dX0_remember_58 (Nat.le_of_ble_eq_true rfl) (by omega) (by omega) ?_
  refine u_put (i := 9) (kV := 11) dX0_remember_61 fX0_20 (by decide) rfl rfl rfl (Nat.le_of_ble_eq_true rfl) rfl rfl ?_
  refine i_return dX0_remember_64 rfl ?_
  rw [e10, e11]
  exact hp _ _ _ hc
theorem q_remember (hN : cNow V C J w) (hO : wOK w) (hH : cHs V C J n H) (hp : ∀ V' C' J', cNow V' C' J' w → cHs V' C' J' ((if n = 8 then 7 else n) + 1) (hPush n H w) → cFr V V' C C' J J' → J'.2.2 = J.2.2 → P (.inl none) (V', C', J')) : RM G mX0_remember (c_I Y h0) [.ref (Y 9), .ref (Y 30)] (d + 1) 0 0 P (V, C, J) := by
  obtain ⟨h10, h11, hW⟩ := id hH
  have o := hO.nght
  have hn := hN.n
  refine q_remRaw h10 (by omega) (by omega) (fun V1 C1 R1 hc => ?_)
  have s1 : ∀ i, 100 ≤ i ∨ i < 36 → V1 i = V i := fun i hi => hc.2.1 i (by simp only [List.mem_cons, List.not_mem_nil, or_false]; omega)
  have s3 := hc.2.1
  have s2 := hc.2.2.2.1
  have s5 := hc.2.2.2.2.2
  have sv : ∀ i, i ≠ 10 → i ≠ 11 → vu (vu V1 10 ((V 10 + 1) % 8)) 11 (if 8 < V 11 + 1 then 8 else V 11 + 1) i = V1 i := fun i i0 i1 => by rw [vu_ne i1, vu_ne i0]
  refine hp _ _ _ ?_ ⟨?_, ?_, fun i i0 i1 => ?_⟩ ⟨fun i hi => ?_, fun i hi => ?_, fun q hq => s5 q (by omega) (by omega), rfl, fun _ _ h => h⟩ rfl
  · have h2 : cWk V1 C1 (J.1, R1, J.2.2) 0 w := cWk.ot (x := 0) hN (by omega) hc
    exact h2.cg (fun i i0 i1 => sv i (by omega) (by omega)) (fun _ _ _ => rfl) ⟨rfl, rfl⟩ (fun _ _ h => h)
  · rw [vu_ne (by decide), vu_at]; omega
  · rw [vu_at]; split <;> split <;> omega
  · rw [vu_ne (show 10 ≠ 11 by decide), vu_at]
    have ex : ∀ x : Nat, ∀ w1 : Int → Int, cWk V1 C1 (J.1, R1, J.2.2) x w1 → 2 ≤ x → cWk (vu (vu V1 10 ((V 10 + 1) % 8)) 11 (if 8 < V 11 + 1 then 8 else V 11 + 1)) C1 (J.1, R1, J.2.2) x w1 := fun x w1 hx x2 => hx.cg (fun i i0 i1 => sv i (by omega) (by omega)) (fun _ _ _ => rfl) ⟨rfl, rfl⟩ (fun _ _ h => h)
    unfold hPush
    by_cases z : i = (if n = 8 then 7 else n)
    · rw [if_pos z]
      rw [← z] at i1 ⊢
      have e : ((V 10 + 1) % 8 - (i + 1) + i) % 8 = V 10 := by omega
      rw [e]
      exact ex _ _ (cWk.cp (v := 0) hN hO.2.1 hc) (by omega)
    · rw [if_neg z]
      by_cases z8 : n = 8
      · rw [if_pos z8, if_pos z8]
        rw [if_pos z8] at z i1
        have e : ((V 10 + 1) % 8 - (7 + 1) + i) % 8 = (V 10 - n + (i + 1)) % 8 := by omega
        rw [e]
        exact ex _ _ ((hW (i + 1) (by omega) (by omega)).ot (by omega) hc) (by omega)
      · rw [if_neg z8, if_neg z8]
        rw [if_neg z8] at z i1
        have e : ((V 10 + 1) % 8 - (n + 1) + i) % 8 = (V 10 - n + i) % 8 := by omega
        rw [e]
        exact ex _ _ ((hW i (by omega) (by omega)).ot (by omega) hc) (by omega)
  · rw [sv i (by omega) (by omega)]
    exact s3 i (by simp only [List.mem_cons, List.not_mem_nil, or_false]; omega)
  · exact s2 i (by simp only [List.mem_cons, List.not_mem_nil, or_false]; omega)
theorem q_tkRaw (h10 : 0 ≤ V 10 ∧ V 10 < 8) (h11 : 0 ≤ V 11 ∧ V 11 ≤ 8) (hb : V 11 ≠ 0 → V (20 + 8 * (2 + ((V 10 + 8 - 1) % 8).toNat)) = 0 ∨ V (20 + 8 * (2 + ((V 10 + 8 - 1) % 8).toNat)) = 1) (hp0 : V 11 = 0 → P (.inl (some (.int (iI 0)))) (V, C, J)) (hp : V 11 ≠ 0 → ∀ V1 C' R', cCp 0 (2 + ((V 10 + 8 - 1) % 8).toNat) V V1 C C' J.2.1 R' → P (.inl (some (.int (iI 1)))) (vu (vu V1 10 ((V 10 + 8 - 1) % 8)) 11 (V 11 - 1), C', (J.1, R', J.2.2))) : RM G mX0_takeBack (c_I Y h0) [.ref (Y 9), .ref (Y 30)] (d + 1) 0 0 P (V, C, J) := by
  refine RM.of (L := [some (.ref (Y 9)), some (.ref (Y 30)), none, none]) cfX0_takeBack rfl (Nat.le_of_ble_eq_true rfl) ?_
  refine i_aload_n dX0_takeBack_0 rfl ?_
  refine u_get (i := 9) (vv := .int (iI (V 10))) dX0_takeBack_1 fX0_24 (by decide) rfl rfl ?_
  refine i_bipush dX0_takeBack_4 (by decide) ?_
  refine i_add dX0_takeBack_6 ?_
  refine i_const dX0_takeBack_7 ?_
  refine i_sub dX0_takeBack_8 ?_
  refine i_bipush dX0_takeBack_9 (by decide) ?_
  refine i_rem dX0_takeBack_11 (by omega) (by omega) ?_
  refine i_istore_n dX0_takeBack_12 (L' := [some _, some _, some _, none]) (by decide) rfl ?_
  refine i_iload_n dX0_takeBack_13 rfl ?_
  refine i_bipush dX0_takeBack_14 (by decide) ?_
  refine i_callSN (mc := 0) (ms := 0) (As := [_, _]) dX0_takeBack_16 cfX10_isIndex stX10_isIndex lX0_27 rfl rfl (Nat.le_of_ble_eq_true rfl) (Nat.zero_add _).symm (Nat.zero_add _).symm ?_
  refine q_isIndex (by omega) (by omega) (RKN.v ?_)
  have hq : 0 ≤ (V 10 + 8 - 1) % 8 ∧ (V 10 + 8 - 1) % 8 < 8 := by omega
  refine i_ifeq_b (tgt := 31) dX0_takeBack_19 (by decide) (fun c9 => absurd hq c9) (fun c9 => ?_)
  refine i_aload_n dX0_takeBack_22 rfl ?_
  refine u_get (i := 9) (vv := .ref (Y 10)) dX0_takeBack_23 fX0_11.o (by decide) rfl rfl ?_
  refine i_iload_n dX0_takeBack_26 rfl ?_
  refine u_aald dX0_takeBack_27 hq ?_
  have eu : 38 + 4 * ((V 10 + 8 - 1) % 8).toNat = 30 + 4 * (2 + ((V 10 + 8 - 1) % 8).toNat) := by omega
  rw [eu]
  refine i_goto (tgt := 32) dX0_takeBack_28 (by decide) ?_
  refine i_astore_n dX0_takeBack_32 (L' := [some _, some _, some _, some _]) (by decide) rfl ?_
  refine i_aload_n dX0_takeBack_33 rfl ?_
  refine u_get (i := 9) (vv := .int (iI (V 11))) dX0_takeBack_34 fX0_20 (by decide) rfl rfl ?_
  refine i_if_eq (tgt := 44) dX0_takeBack_37 (by decide) (by omega) (fun c37 => ?_) (fun c37 => ?_)
  · refine i_const dX0_takeBack_44 ?_
    refine i_ireturn dX0_takeBack_45 rfl rfl ?_
    exact hp0 c37
  · refine i_aload_n dX0_takeBack_40 rfl ?_
    refine i_ifnonnull (tgt := 46) dX0_takeBack_41 (by decide) ?_
    refine i_aload_n dX0_takeBack_46 rfl ?_
    refine i_aload_n dX0_takeBack_47 rfl ?_
    refine u_callV (i := 30) (mc := 0) (ms := 0) (As := [_]) dX0_takeBack_48 cfX9_copyFrom imX9_copyFrom seX9_copyFrom lX0_31 (by decide) rfl rfl rfl rfl rfl (Nat.le_of_ble_eq_true rfl) (Nat.zero_add _).symm (Nat.zero_add _).symm ?_
    refine q_copyFrom (u := 0) (by decide) (by omega) (by omega) (hb c37) (fun V1 C1 R1 hc => RK.n0 ?_)
    have e11 : V1 11 = V 11 := hc.2.1 11 (by simp only [List.mem_cons, List.not_mem_nil, or_false]; omega)
    refine i_aload_n dX0_takeBack_51 rfl ?_
    refine i_iload_n dX0_takeBack_52 rfl ?_
    refine u_put (i := 9) (kV := 10) dX0_takeBack_53 fX0_24 (by decide) rfl rfl rfl (Nat.le_of_ble_eq_true rfl) rfl rfl ?_
    refine i_aload_n dX0_takeBack_56 rfl ?_
    refine i_dup dX0_takeBack_57 rfl ?_
    refine u_get (i := 9) (vv := .int (iI (V1 11))) dX0_takeBack_58 fX0_20 (by decide) rfl rfl ?_
    refine i_const dX0_takeBack_61 ?_
    refine i_sub dX0_takeBack_62 ?_
    refine u_put (i := 9) (kV := 11) dX0_takeBack_63 fX0_20 (by decide) rfl rfl rfl (Nat.le_of_ble_eq_true rfl) rfl rfl ?_
    refine i_const dX0_takeBack_66 ?_
    refine i_ireturn dX0_takeBack_67 rfl rfl ?_
    rw [e11]
    exact hp c37 _ _ _ hc
theorem q_takeBack (hH : cHs V C J n H) (hO : ∀ i, 0 ≤ i → i < n → wOK (H i)) (hp0 : n = 0 → P (.inl (some (.int (iI 0)))) (V, C, J)) (hp : n ≠ 0 → ∀ V' C' J', cNow V' C' J' (H (n - 1)) → cHs V' C' J' (n - 1) H → cFr V V' C C' J J' → P (.inl (some (.int (iI 1)))) (V', C', J')) : RM G mX0_takeBack (c_I Y h0) [.ref (Y 9), .ref (Y 30)] (d + 1) 0 0 P (V, C, J) := by
  obtain ⟨h10, h11, hW⟩ := id hH
  have hl : n ≠ 0 → cWk V C J (2 + ((V 10 + 8 - 1) % 8).toNat) (H (n - 1)) := fun h => by
    have e : (V 10 + 8 - 1) % 8 = (V 10 - n + (n - 1)) % 8 := by omega
    rw [e]
    exact hW (n - 1) (by omega) (by omega)
  refine q_tkRaw h10 (by omega) (fun h => ?_) (fun h => hp0 (by omega)) (fun h V1 C1 R1 hc => ?_)
  · have o := (hO (n - 1) (by omega) (by omega)).nght
    have := (hl (by omega)).1.1
    omega
  · have o := hO (n - 1) (by omega) (by omega)
    have s3 := hc.2.1
    have s2 := hc.2.2.2.1
    have s5 := hc.2.2.2.2.2
    have sv : ∀ i, i ≠ 10 → i ≠ 11 → vu (vu V1 10 ((V 10 + 8 - 1) % 8)) 11 (V 11 - 1) i = V1 i := fun i i0 i1 => by rw [vu_ne i1, vu_ne i0]
    refine hp (by omega) _ _ _ ?_ ⟨?_, ?_, fun i i0 i1 => ?_⟩ ⟨fun i hi => ?_, fun i hi => ?_, fun q hq => s5 q (by omega) (by omega), rfl, fun _ _ h => h⟩
    · have h2 : cWk V1 C1 (J.1, R1, J.2.2) 0 (H (n - 1)) := (hl (by omega)).cp o.2.1 hc
      exact h2.cg (fun i i0 i1 => sv i (by omega) (by omega)) (fun _ _ _ => rfl) ⟨rfl, rfl⟩ (fun _ _ h => h)
    · rw [vu_ne (by decide), vu_at]; omega
    · rw [vu_at]; omega
    · rw [vu_ne (show 10 ≠ 11 by decide), vu_at]
      have e : ((V 10 + 8 - 1) % 8 - (n - 1) + i) % 8 = (V 10 - n + i) % 8 := by omega
      rw [e]
      exact ((hW i i0 (by omega)).ot (by omega) hc).cg (fun i i0 i1 => sv i (by omega) (by omega)) (fun _ _ _ => rfl) ⟨rfl, rfl⟩ (fun _ _ h => h)
    · rw [sv i (by omega) (by omega)]
      exact s3 i (by simp only [List.mem_cons, List.not_mem_nil, or_false]; omega)
    · exact s2 i (by simp only [List.mem_cons, List.not_mem_nil, or_false]; omega)
end C62
