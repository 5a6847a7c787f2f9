/-! ===== the class: a walker leaves, gates ===== -/
theorem zg_xn : ∀ c, c < 6 → nI (2 ^ c) ^^^ (-1 : Int32) = Int32.ofInt (-1 - ((2 ^ c : Nat) : Int)) := by decide
theorem zg_an : ∀ a, a < 64 → ∀ c, c < 6 → nI a &&& Int32.ofInt (-1 - ((2 ^ c : Nat) : Int)) = nI (a &&& (63 - 2 ^ c)) := by decide
theorem zg_tn : ∀ c, c < 6 → ∀ q, q < 6 → (63 - 2 ^ c).testBit q = decide (q ≠ c) := by decide
theorem zg_zn : ∀ a, a < 64 → ∀ c, c < 6 → ((a &&& 2 ^ c ≠ 0) ↔ a.testBit c = true) := by decide
theorem zg_x {c : Int} (h : 0 ≤ c ∧ c < 6) : iI (zp c) ^^^ iI (-1) = iI (-1 - zp c) := by
  have := zg_xn c.toNat (by omega)
  unfold zp
  rw [iI_nat]
  exact this
/-- a mask without c -/
def zcl (a c : Int) : Int := za a (63 - zp c)
theorem zg_p {c : Int} (h : 0 ≤ c ∧ c < 6) : (63 - zp c).toNat = 63 - 2 ^ c.toNat ∧ 2 ^ c.toNat ≤ 32 := by
  have : 2 ^ c.toNat ≤ 2 ^ 5 := Nat.pow_le_pow_right (by decide) (by omega)
  unfold zp
  omega
theorem zg_a {a c : Int} (ha : 0 ≤ a ∧ a < 64) (h : 0 ≤ c ∧ c < 6) : iI a &&& iI (-1 - zp c) = iI (zcl a c) := by
  have := zg_an a.toNat (by omega) c.toNat (by omega)
  unfold zcl za
  rw [(zg_p h).1, iI_nn ha.1, iI_nat]
  exact this
theorem zcl_rg {a c : Int} (ha : 0 ≤ a ∧ a < 64) : 0 ≤ zcl a c ∧ zcl a c < 64 := by
  have h1 := @za_nn a (63 - zp c)
  have h2 := @za_le a (63 - zp c) ha.1
  unfold zcl
  omega
theorem zt_zcl {a c q : Int} (h : 0 ≤ c ∧ c < 6) (hq : 0 ≤ q ∧ q < 6) : zt (zcl a c) q ↔ zt a q ∧ q ≠ c := by
  unfold zt zcl za
  rw [Int.toNat_natCast, Nat.testBit_and, (zg_p h).1, zg_tn c.toNat (by omega) q.toNat (by omega), Bool.and_eq_true, decide_eq_true_eq]
  constructor
  · rintro ⟨u, v⟩
    exact ⟨u, by omega⟩
  · rintro ⟨u, v⟩
    exact ⟨u, by omega⟩
theorem zg_z {a c : Int} (ha : 0 ≤ a ∧ a < 64) (h : 0 ≤ c ∧ c < 6) : za a (zp c) ≠ 0 ↔ zt a c := by
  have := zg_zn a.toNat (by omega) c.toNat (by omega)
  unfold za zp zt
  rw [Int.toNat_natCast, ← this]
  omega
theorem zg_o {a c : Int} (ha : 0 ≤ a ∧ a < 64) (h : 0 ≤ c ∧ c < 6) : 0 ≤ zo a (zp c) ∧ zo a (zp c) < 64 := by
  have h1 : 2 ^ c.toNat ≤ 2 ^ 5 := Nat.pow_le_pow_right (by decide) (by omega)
  have := @zo_lt a (zp c) 6 (by simpa using ha.2) (by unfold zp; omega)
  exact ⟨zo_nn, by simpa using this⟩
section C42a
variable {V V' : Nat → Int} {C C' : Nat → Int → Int} {J J' : c_J} {w w' : Int → Int} {s k c x o : Int}
theorem wDrop_k {q r : Int} (hO : wOK w) (hk : 0 ≤ k ∧ k < w 952) (h0 : 0 ≤ q) (h1 : q < w 952 - 1) (hr : 0 ≤ r ∧ r < 3) : wDrop w k (953 + 3 * q + r) = if k ≤ q then w (953 + 3 * q + r + 3) else w (953 + 3 * q + r) := by
  have h6 := hO.2.1
  unfold wDrop
  rw [if_neg (show ¬ (953 + 3 * q + r = 952) by omega)]
  by_cases z : k ≤ q
  · rw [if_pos z, if_pos (by omega)]
  · rw [if_neg z, if_neg (by omega), if_neg (by omega)]
theorem cNow.drop (h : cNow V C J w) (hO : wOK w) (hk : 0 ≤ k ∧ k < w 952) (hC : ∀ i, i = 31 ∨ i = 32 ∨ i = 33 → ∀ j, C' i j = if k ≤ j ∧ j < 5 then C i (j + 1) else C i j) : cNow (vu V 21 (V 21 - 1)) C' J (wDrop w k) := by
  have h6 := hO.2.1
  have lo : ∀ j, j < 952 ∨ 971 ≤ j → wDrop w k j = w j := fun j hj => by unfold wDrop; rw [if_neg (by omega), if_neg (by omega), if_neg (by omega)]
  have e2 : wDrop w k 952 = w 952 - 1 := if_pos rfl
  refine ⟨⟨?_, ?_, ?_⟩, fun q q0 q1 => ?_, ⟨h.2.2.1.1, fun c c0 c1 => ?_, fun c c0 c1 => ?_⟩, h.pp hO (fun j a b => lo j (Or.inl (by omega)))⟩
  · rw [lo _ (Or.inr (by decide))]; exact h.1.1
  · rw [e2]; show V 21 - 1 = _; rw [h.1.2.1]
  · rw [lo _ (Or.inr (by decide))]; exact h.1.2.2
  · rw [e2] at q1
    rw [hC 31 (Or.inl rfl), hC 32 (Or.inr (Or.inl rfl)), hC 33 (Or.inr (Or.inr rfl)), wDrop_k hO hk q0 q1 (by decide), wDrop_k hO hk q0 q1 (by decide), wDrop_k hO hk q0 q1 (by decide)]
    by_cases z : k ≤ q
    · have hq := h.k (k := q + 1) (by omega) (by omega)
      have z2 : k ≤ q ∧ q < 5 := ⟨z, by omega⟩
      simp only [if_pos z, if_pos z2]
      rw [hq.1, hq.2.1, hq.2.2]
      exact ⟨congrArg w (by omega), congrArg w (by omega), congrArg w (by omega)⟩
    · have hq := h.k (k := q) q0 (by omega)
      have z2 : ¬ (k ≤ q ∧ q < 5) := fun y => z y.1
      simp only [if_neg z, if_neg z2]
      exact hq
  · rw [lo _ (Or.inr (by omega))]; exact h.2.2.1.2.1 c c0 c1
  · rw [lo _ (Or.inr (by omega))]; exact h.2.2.1.2.2 c c0 c1
theorem cNow.gate0 (h : cNow V C J w) (hO : wOK w) (hc : 0 ≤ c ∧ c < 6) (hx : 0 ≤ x ∧ x < 64) (hq : ∀ q, 0 ≤ q → q < 6 → (zt x q ↔ if q = c then o = 1 else zt (V 23) q)) : cNow (vu V 23 x) C J (zu w (971 + 2 * c + 0) o) := by
  have h6 := hO.2.1
  refine ⟨⟨?_, ?_, ?_⟩, fun q q0 q1 => ?_, ⟨⟨hx, h.2.2.1.1.2⟩, fun q c0 c1 => ?_, fun q c0 c1 => ?_⟩, h.pp hO (fun j a b => zu_ne (by omega))⟩
  · rw [zu_ne (by omega)]; exact h.1.1
  · rw [zu_ne (by omega)]; exact h.1.2.1
  · rw [zu_ne (by omega)]; exact h.1.2.2
  · rw [zu_ne (by omega)] at q1
    rw [zu_ne (by omega), zu_ne (by omega), zu_ne (by omega)]
    exact h.k q0 q1
  · show zt x q ↔ _
    rw [hq q c0 c1]
    by_cases z : q = c
    · rw [if_pos z, z, zu_at]
    · rw [if_neg z, zu_ne (by omega)]; exact h.2.2.1.2.1 q c0 c1
  · rw [zu_ne (by omega)]; exact h.2.2.1.2.2 q c0 c1
theorem cNow.gate1 (h : cNow V C J w) (hO : wOK w) (hc : 0 ≤ c ∧ c < 6) (hx : 0 ≤ x ∧ x < 64) (hq : ∀ q, 0 ≤ q → q < 6 → (zt x q ↔ if q = c then o = 1 else zt (V 24) q)) : cNow (vu V 24 x) C J (zu w (971 + 2 * c + 1) o) := by
  have h6 := hO.2.1
  refine ⟨⟨?_, ?_, ?_⟩, fun q q0 q1 => ?_, ⟨⟨h.2.2.1.1.1, hx⟩, fun q c0 c1 => ?_, fun q c0 c1 => ?_⟩, h.pp hO (fun j a b => zu_ne (by omega))⟩
  · rw [zu_ne (by omega)]; exact h.1.1
  · rw [zu_ne (by omega)]; exact h.1.2.1
  · rw [zu_ne (by omega)]; exact h.1.2.2
  · rw [zu_ne (by omega)] at q1
    rw [zu_ne (by omega), zu_ne (by omega), zu_ne (by omega)]
    exact h.k q0 q1
  · rw [zu_ne (by omega)]; exact h.2.2.1.2.1 q c0 c1
  · show zt x q ↔ _
    rw [hq q c0 c1]
    by_cases z : q = c
    · rw [if_pos z, z, zu_at]
    · rw [if_neg z, zu_ne (by omega)]; exact h.2.2.1.2.2 q c0 c1
end C42a
section C42
variable {G : p_G} {Y : Nat → Nat} {h0 : p_H} {P : (Option Value) ⊕ String → c_X → Prop} {d : Nat} {V : Nat → Int} {C : Nat → Int → Int} {J : c_J}
variable {w : Int → Int}
theorem q_drop_l {k : Int} (hN : cNow V C J w) (hO : wOK w) (hk : 0 ≤ k ∧ k < w 952) (hp : ∀ V' C', cNow V' C' J (wDrop w k) → sV [21] V V' → sC [31, 32, 33] C C' → P (.inl none) (V', C', J)) : ∀ (zz : Nat) (q : Int) (C' : Nat → Int → Int), zz = (5 - q).toNat → (k ≤ q) → (q ≤ 5) → (sC [31, 32, 33] C C') → (∀ i, i = 31 ∨ i = 32 ∨ i = 33 → ∀ j, C' i j = if k ≤ j ∧ j < q then C i (j + 1) else C i j) → RW G mX9_dropWalker (c_I Y h0) P (d) 0 0 2 [some (.ref (Y 30)), some (.int (iI k)), some (.int (iI q))] [] (V, C', J) := by
  intro zz
  induction zz using Nat.strongRecOn with
  | _ zz ih =>
    intro q C' hzz h1 h2 hC hI
    have h6 := hO.2.1
    refine i_iload_n dX9_dropWalker_2 rfl ?_
    refine i_if_lt (tgt := 62) dX9_dropWalker_3 (by decide) (by omega) (fun c3 => ?_) (fun c3 => ?_)
    · -- jumps
      refine i_aload_n dX9_dropWalker_62 rfl ?_
      refine i_dup dX9_dropWalker_63 rfl ?_
      refine u_get (i := 30) (vv := .int (iI (V 21))) dX9_dropWalker_64 fX9_39 (by decide) rfl rfl ?_
      refine i_const dX9_dropWalker_67 ?_
      refine i_sub dX9_dropWalker_68 ?_
      refine u_put (i := 30) (kV := 21) dX9_dropWalker_69 fX9_39 (by decide) rfl rfl rfl (Nat.le_of_ble_eq_true rfl) rfl rfl ?_
      refine i_return dX9_dropWalker_72 rfl ?_
      obtain rfl : q = 5 := by omega
      exact hp _ _ (hN.drop hO hk hI) (sV.rfl.vu (by decide)) hC
    · -- on
      refine i_iload_n dX9_dropWalker_6 rfl ?_
      refine i_const dX9_dropWalker_7 ?_
      refine i_add dX9_dropWalker_8 ?_
      refine i_bipush dX9_dropWalker_9 (by decide) ?_
      refine i_icmp_ge (tgt := 62) dX9_dropWalker_11 (by decide) (by omega) (by omega) (fun c11 => ?_) (fun c11 => ?_)
      · -- jumps
        refine i_aload_n dX9_dropWalker_62 rfl ?_
        refine i_dup dX9_dropWalker_63 rfl ?_
        refine u_get (i := 30) (vv := .int (iI (V 21))) dX9_dropWalker_64 fX9_39 (by decide) rfl rfl ?_
        refine i_const dX9_dropWalker_67 ?_
        refine i_sub dX9_dropWalker_68 ?_
        refine u_put (i := 30) (kV := 21) dX9_dropWalker_69 fX9_39 (by decide) rfl rfl rfl (Nat.le_of_ble_eq_true rfl) rfl rfl ?_
        refine i_return dX9_dropWalker_72 rfl ?_
        obtain rfl : q = 5 := by omega
        exact hp _ _ (hN.drop hO hk hI) (sV.rfl.vu (by decide)) hC
      · -- on
        refine i_aload_n dX9_dropWalker_14 rfl ?_
        refine u_get (i := 30) (vv := .ref (Y (31))) dX9_dropWalker_15 fX9_18.o (by decide) rfl rfl ?_
        refine i_iload_n dX9_dropWalker_18 rfl ?_
        refine i_aload_n dX9_dropWalker_19 rfl ?_
        refine u_get (i := 30) (vv := .ref (Y (31))) dX9_dropWalker_20 fX9_18.o (by decide) rfl rfl ?_
        refine i_iload_n dX9_dropWalker_23 rfl ?_
        refine i_const dX9_dropWalker_24 ?_
        refine i_add dX9_dropWalker_25 ?_
        refine u_iald (i := 31) (N := 6) (v := C' 31 (q + 1)) dX9_dropWalker_26 (by decide) rfl (by decide) (by omega) rfl ?_
        refine u_iast (i := 31) (N := 6) dX9_dropWalker_27 (by decide) rfl (by decide) (by omega) rfl ?_
        refine i_aload_n dX9_dropWalker_28 rfl ?_
        refine u_get (i := 30) (vv := .ref (Y (32))) dX9_dropWalker_29 fX9_22.o (by decide) rfl rfl ?_
        refine i_iload_n dX9_dropWalker_32 rfl ?_
        refine i_aload_n dX9_dropWalker_33 rfl ?_
        refine u_get (i := 30) (vv := .ref (Y (32))) dX9_dropWalker_34 fX9_22.o (by decide) rfl rfl ?_
        refine i_iload_n dX9_dropWalker_37 rfl ?_
        refine i_const dX9_dropWalker_38 ?_
        refine i_add dX9_dropWalker_39 ?_
        refine u_iald (i := 32) (N := 6) (v := C' 32 (q + 1)) dX9_dropWalker_40 (by decide) rfl (by decide) (by omega) rfl ?_
        refine u_iast (i := 32) (N := 6) dX9_dropWalker_41 (by decide) rfl (by decide) (by omega) rfl ?_
        refine i_aload_n dX9_dropWalker_42 rfl ?_
        refine u_get (i := 30) (vv := .ref (Y (33))) dX9_dropWalker_43 fX9_25.o (by decide) rfl rfl ?_
        refine i_iload_n dX9_dropWalker_46 rfl ?_
        refine i_aload_n dX9_dropWalker_47 rfl ?_
        refine u_get (i := 30) (vv := .ref (Y (33))) dX9_dropWalker_48 fX9_25.o (by decide) rfl rfl ?_
        refine i_iload_n dX9_dropWalker_51 rfl ?_
        refine i_const dX9_dropWalker_52 ?_
        refine i_add dX9_dropWalker_53 ?_
        refine u_iald (i := 33) (N := 6) (v := C' 33 (q + 1)) dX9_dropWalker_54 (by decide) rfl (by decide) (by omega) rfl ?_
        refine u_iast (i := 33) (N := 6) dX9_dropWalker_55 (by decide) rfl (by decide) (by omega) rfl ?_
        refine i_iinc dX9_dropWalker_56 rfl (L' := [some _, some _, some _]) (by decide) rfl ?_
        refine i_goto (tgt := 2) dX9_dropWalker_59 (by decide) ?_
        refine ih _ ?_ (q + 1) _ rfl (by omega) (by omega) (((hC.cu (by decide)).cu (by decide)).cu (by decide)) (fun i hi j => ?_)
        · omega
        rcases hi with rfl | rfl | rfl
        · show zu (C' 31) q (C' 31 (q + 1)) j = _
          by_cases z : j = q
          · rw [z, zu_at, hI 31 (by omega), if_neg (by omega), if_pos (by omega)]
          · rw [zu_ne z, hI 31 (by omega)]; exact if_cg (by omega)
        · show zu (C' 32) q (C' 32 (q + 1)) j = _
          by_cases z : j = q
          · rw [z, zu_at, hI 32 (by omega), if_neg (by omega), if_pos (by omega)]
          · rw [zu_ne z, hI 32 (by omega)]; exact if_cg (by omega)
        · show zu (C' 33) q (C' 33 (q + 1)) j = _
          by_cases z : j = q
          · rw [z, zu_at, hI 33 (by omega), if_neg (by omega), if_pos (by omega)]
          · rw [zu_ne z, hI 33 (by omega)]; exact if_cg (by omega)
theorem q_dropWalker {k : Int} (hN : cNow V C J w) (hO : wOK w) (hk : 0 ≤ k ∧ k < w 952) (hp : ∀ V' C', cNow V' C' J (wDrop w k) → sV [21] V V' → sC [31, 32, 33] C C' → P (.inl none) (V', C', J)) : RM G mX9_dropWalker (c_I Y h0) [.ref (Y 30), .int (iI k)] (d) 0 0 P (V, C, J) := by
  refine RM.of (L := [some (.ref (Y 30)), some (.int (iI k)), none]) cfX9_dropWalker rfl (Nat.le_of_ble_eq_true rfl) ?_
  refine i_iload_n dX9_dropWalker_0 rfl ?_
  refine i_istore_n dX9_dropWalker_1 (L' := [some _, some _, some _]) (by decide) rfl ?_
  exact q_drop_l hN hO hk hp _ k C rfl (by omega) (by have := hO.2.1; omega) sC.rfl (fun i _ j => (if_neg (by omega)).symm)
theorem q_putGate {c b o : Int} (hN : cNow V C J w) (hO : wOK w) (hc : 0 ≤ c ∧ c < 6) (hb : b = 0 ∨ b = 1) (ho : o = 0 ∨ o = 1) (hp : ∀ V', cNow V' C J (zu w (971 + 2 * c + b) o) → sV [23, 24] V V' → P (.inl (some (.int (iI (zb (w (971 + 2 * c + b) = 1)))))) (V', C, J)) : RM G mX9_putGate (c_I Y h0) [.ref (Y 30), .int (iI c), .int (iI b), .int (iI o)] (d) 0 0 P (V, C, J) := by
  refine RM.of (L := [some (.ref (Y 30)), some (.int (iI c)), some (.int (iI b)), some (.int (iI o)), none, none, none]) cfX9_putGate rfl (Nat.le_of_ble_eq_true rfl) ?_
  have g23 := hN.2.2.1.1.1
  have g24 := hN.2.2.1.1.2
  have l0 := @zp_nn c
  refine i_iload_n dX9_putGate_0 rfl ?_
  refine i_if_eq (tgt := 11) dX9_putGate_1 (by decide) (by omega) (fun c1 => ?_) (fun c1 => ?_)
  · -- jumps
    refine i_aload_n dX9_putGate_11 rfl ?_
    refine u_get (i := 30) (vv := .int (iI (V 23))) dX9_putGate_12 fX9_9 (by decide) rfl rfl ?_
    refine i_istore dX9_putGate_15 (L' := [some _, some _, some _, some _, some _, none, none]) (by decide) rfl ?_
    refine i_const dX9_putGate_17 ?_
    refine i_iload_n dX9_putGate_18 rfl ?_
    refine i_shl dX9_putGate_19 (iI_shl1 (by omega)) ?_
    refine i_istore dX9_putGate_20 (L' := [some _, some _, some _, some _, some _, some _, none]) (by decide) rfl ?_
    refine i_iload_n dX9_putGate_22 rfl ?_
    refine i_if_eq (tgt := 34) dX9_putGate_23 (by decide) (by omega) (fun c23 => ?_) (fun c23 => ?_)
    · -- jumps
      refine i_iload dX9_putGate_34 rfl ?_
      refine i_iload dX9_putGate_36 rfl ?_
      refine i_const dX9_putGate_38 ?_
      refine i_xor dX9_putGate_39 (zg_x hc) ?_
      refine i_andE dX9_putGate_40 (zg_a g23 hc) ?_
      refine i_istore dX9_putGate_41 (L' := [some _, some _, some _, some _, some _, some _, some _]) (by decide) rfl ?_
      refine i_iload_n dX9_putGate_43 rfl ?_
      refine i_if_eq (tgt := 56) dX9_putGate_44 (by decide) (by omega) (fun c44 => ?_) (fun c44 => ?_)
      · -- jumps
        refine i_aload_n dX9_putGate_56 rfl ?_
        refine i_iload dX9_putGate_57 rfl ?_
        refine u_put (i := 30) (kV := 23) dX9_putGate_59 fX9_9 (by decide) rfl rfl rfl (Nat.le_of_ble_eq_true rfl) rfl rfl ?_
        refine i_iload dX9_putGate_62 rfl ?_
        refine i_iload dX9_putGate_64 rfl ?_
        have l1 := @za_nn (V 23) (zp c)
        have l2 := @za_le (V 23) (zp c) g23.1
        have l3 := @za_nn (V 24) (zp c)
        have l4 := @za_le (V 24) (zp c) g24.1
        have l5 := zg_o g23 hc
        have l6 := zg_o g24 hc
        have l7 := @zcl_rg (V 23) c g23
        have l8 := @zcl_rg (V 24) c g24
        refine i_and dX9_putGate_66 (by omega) (by omega) ?_
        refine i_if_eq (tgt := 74) dX9_putGate_67 (by decide) (by omega) (fun c67 => ?_) (fun c67 => ?_)
        · -- jumps
          refine i_const dX9_putGate_74 ?_
          refine i_ireturn dX9_putGate_75 rfl rfl ?_
          obtain rfl : b = 0 := by omega
          have hz := zg_z g23 hc
          have hg := hN.2.2.1.2.1 c (by omega) (by omega)
          obtain rfl : o = 0 := by omega
          have hq := hp _ (hN.gate0 (x := zcl (V 23) c) (o := 0) hO hc (zcl_rg g23) (fun q q0 q1 => ?_)) (sV.rfl.vu (by decide))
          · first | (rw [zb_t (hg.mp (hz.mp (by omega)))] at hq; exact hq) | (rw [zb_f (fun z => absurd (hz.mpr (hg.mpr z)) (by omega))] at hq; exact hq)
          · rw [zt_zcl hc ⟨q0, q1⟩]; by_cases z : q = c; · rw [if_pos z]; exact iff_of_false (fun y => y.2 z) (by decide)
            · rw [if_neg z]; exact ⟨fun y => y.1, fun y => ⟨y, z⟩⟩
        · -- on
          refine i_const dX9_putGate_70 ?_
          refine i_goto (tgt := 75) dX9_putGate_71 (by decide) ?_
          refine i_ireturn dX9_putGate_75 rfl rfl ?_
          obtain rfl : b = 0 := by omega
          have hz := zg_z g23 hc
          have hg := hN.2.2.1.2.1 c (by omega) (by omega)
          obtain rfl : o = 0 := by omega
          have hq := hp _ (hN.gate0 (x := zcl (V 23) c) (o := 0) hO hc (zcl_rg g23) (fun q q0 q1 => ?_)) (sV.rfl.vu (by decide))
          · first | (rw [zb_t (hg.mp (hz.mp (by omega)))] at hq; exact hq) | (rw [zb_f (fun z => absurd (hz.mpr (hg.mpr z)) (by omega))] at hq; exact hq)
          · rw [zt_zcl hc ⟨q0, q1⟩]; by_cases z : q = c; · rw [if_pos z]; exact iff_of_false (fun y => y.2 z) (by decide)
            · rw [if_neg z]; exact ⟨fun y => y.1, fun y => ⟨y, z⟩⟩
      · -- on
        refine i_aload_n dX9_putGate_47 rfl ?_
        refine i_iload dX9_putGate_48 rfl ?_
        refine u_put (i := 30) (kV := 24) dX9_putGate_50 fX9_15 (by decide) rfl rfl rfl (Nat.le_of_ble_eq_true rfl) rfl rfl ?_
        refine i_goto (tgt := 62) dX9_putGate_53 (by decide) ?_
        refine i_iload dX9_putGate_62 rfl ?_
        refine i_iload dX9_putGate_64 rfl ?_
        have l1 := @za_nn (V 23) (zp c)
        have l2 := @za_le (V 23) (zp c) g23.1
        have l3 := @za_nn (V 24) (zp c)
        have l4 := @za_le (V 24) (zp c) g24.1
        have l5 := zg_o g23 hc
        have l6 := zg_o g24 hc
        have l7 := @zcl_rg (V 23) c g23
        have l8 := @zcl_rg (V 24) c g24
        refine i_and dX9_putGate_66 (by omega) (by omega) ?_
        refine i_if_eq (tgt := 74) dX9_putGate_67 (by decide) (by omega) (fun c67 => ?_) (fun c67 => ?_)
        · -- jumps
          refine i_const dX9_putGate_74 ?_
          refine i_ireturn dX9_putGate_75 rfl rfl ?_
          exfalso; omega
        · -- on
          refine i_const dX9_putGate_70 ?_
          refine i_goto (tgt := 75) dX9_putGate_71 (by decide) ?_
          refine i_ireturn dX9_putGate_75 rfl rfl ?_
          exfalso; omega
    · -- on
      refine i_iload dX9_putGate_26 rfl ?_
      refine i_iload dX9_putGate_28 rfl ?_
      refine i_or dX9_putGate_30 (by omega) (by omega) ?_
      refine i_goto (tgt := 41) dX9_putGate_31 (by decide) ?_
      refine i_istore dX9_putGate_41 (L' := [some _, some _, some _, some _, some _, some _, some _]) (by decide) rfl ?_
      refine i_iload_n dX9_putGate_43 rfl ?_
      refine i_if_eq (tgt := 56) dX9_putGate_44 (by decide) (by omega) (fun c44 => ?_) (fun c44 => ?_)
      · -- jumps
        refine i_aload_n dX9_putGate_56 rfl ?_
        refine i_iload dX9_putGate_57 rfl ?_
        refine u_put (i := 30) (kV := 23) dX9_putGate_59 fX9_9 (by decide) rfl rfl rfl (Nat.le_of_ble_eq_true rfl) rfl rfl ?_
        refine i_iload dX9_putGate_62 rfl ?_
        refine i_iload dX9_putGate_64 rfl ?_
        have l1 := @za_nn (V 23) (zp c)
        have l2 := @za_le (V 23) (zp c) g23.1
        have l3 := @za_nn (V 24) (zp c)
        have l4 := @za_le (V 24) (zp c) g24.1
        have l5 := zg_o g23 hc
        have l6 := zg_o g24 hc
        have l7 := @zcl_rg (V 23) c g23
        have l8 := @zcl_rg (V 24) c g24
        refine i_and dX9_putGate_66 (by omega) (by omega) ?_
        refine i_if_eq (tgt := 74) dX9_putGate_67 (by decide) (by omega) (fun c67 => ?_) (fun c67 => ?_)
        · -- jumps
          refine i_const dX9_putGate_74 ?_
          refine i_ireturn dX9_putGate_75 rfl rfl ?_
          obtain rfl : b = 0 := by omega
          have hz := zg_z g23 hc
          have hg := hN.2.2.1.2.1 c (by omega) (by omega)
          obtain rfl : o = 1 := by omega
          have hq := hp _ (hN.gate0 (x := zo (V 23) (zp c)) (o := 1) hO hc (zg_o g23 hc) (fun q q0 q1 => ?_)) (sV.rfl.vu (by decide))
          · first | (rw [zb_t (hg.mp (hz.mp (by omega)))] at hq; exact hq) | (rw [zb_f (fun z => absurd (hz.mpr (hg.mpr z)) (by omega))] at hq; exact hq)
          · rw [zt_zo, zt_zp (by omega) q0]; by_cases z : q = c; · rw [if_pos z]; exact iff_of_true (Or.inr z) rfl
            · rw [if_neg z]; exact ⟨fun y => y.elim id (fun y => absurd y z), Or.inl⟩
        · -- on
          refine i_const dX9_putGate_70 ?_
          refine i_goto (tgt := 75) dX9_putGate_71 (by decide) ?_
          refine i_ireturn dX9_putGate_75 rfl rfl ?_
          obtain rfl : b = 0 := by omega
          have hz := zg_z g23 hc
          have hg := hN.2.2.1.2.1 c (by omega) (by omega)
          obtain rfl : o = 1 := by omega
          have hq := hp _ (hN.gate0 (x := zo (V 23) (zp c)) (o := 1) hO hc (zg_o g23 hc) (fun q q0 q1 => ?_)) (sV.rfl.vu (by decide))
          · first | (rw [zb_t (hg.mp (hz.mp (by omega)))] at hq; exact hq) | (rw [zb_f (fun z => absurd (hz.mpr (hg.mpr z)) (by omega))] at hq; exact hq)
          · rw [zt_zo, zt_zp (by omega) q0]; by_cases z : q = c; · rw [if_pos z]; exact iff_of_true (Or.inr z) rfl
            · rw [if_neg z]; exact ⟨fun y => y.elim id (fun y => absurd y z), Or.inl⟩
      · -- on
        refine i_aload_n dX9_putGate_47 rfl ?_
        refine i_iload dX9_putGate_48 rfl ?_
        refine u_put (i := 30) (kV := 24) dX9_putGate_50 fX9_15 (by decide) rfl rfl rfl (Nat.le_of_ble_eq_true rfl) rfl rfl ?_
        refine i_goto (tgt := 62) dX9_putGate_53 (by decide) ?_
        refine i_iload dX9_putGate_62 rfl ?_
        refine i_iload dX9_putGate_64 rfl ?_
        have l1 := @za_nn (V 23) (zp c)
        have l2 := @za_le (V 23) (zp c) g23.1
        have l3 := @za_nn (V 24) (zp c)
        have l4 := @za_le (V 24) (zp c) g24.1
        have l5 := zg_o g23 hc
        have l6 := zg_o g24 hc
        have l7 := @zcl_rg (V 23) c g23
        have l8 := @zcl_rg (V 24) c g24
        refine i_and dX9_putGate_66 (by omega) (by omega) ?_
        refine i_if_eq (tgt := 74) dX9_putGate_67 (by decide) (by omega) (fun c67 => ?_) (fun c67 => ?_)
        · -- jumps
          refine i_const dX9_putGate_74 ?_
          refine i_ireturn dX9_putGate_75 rfl rfl ?_
          exfalso; omega
        · -- on
          refine i_const dX9_putGate_70 ?_
          refine i_goto (tgt := 75) dX9_putGate_71 (by decide) ?_
          refine i_ireturn dX9_putGate_75 rfl rfl ?_
          exfalso; omega
  · -- on
    refine i_aload_n dX9_putGate_4 rfl ?_
    refine u_get (i := 30) (vv := .int (iI (V 24))) dX9_putGate_5 fX9_15 (by decide) rfl rfl ?_
    refine i_goto (tgt := 15) dX9_putGate_8 (by decide) ?_
    refine i_istore dX9_putGate_15 (L' := [some _, some _, some _, some _, some _, none, none]) (by decide) rfl ?_
    refine i_const dX9_putGate_17 ?_
    refine i_iload_n dX9_putGate_18 rfl ?_
    refine i_shl dX9_putGate_19 (iI_shl1 (by omega)) ?_
    refine i_istore dX9_putGate_20 (L' := [some _, some _, some _, some _, some _, some _, none]) (by decide) rfl ?_
    refine i_iload_n dX9_putGate_22 rfl ?_
    refine i_if_eq (tgt := 34) dX9_putGate_23 (by decide) (by omega) (fun c23 => ?_) (fun c23 => ?_)
    · -- jumps
      refine i_iload dX9_putGate_34 rfl ?_
      refine i_iload dX9_putGate_36 rfl ?_
      refine i_const dX9_putGate_38 ?_
      refine i_xor dX9_putGate_39 (zg_x hc) ?_
      refine i_andE dX9_putGate_40 (zg_a g24 hc) ?_
      refine i_istore dX9_putGate_41 (L' := [some _, some _, some _, some _, some _, some _, some _]) (by decide) rfl ?_
      refine i_iload_n dX9_putGate_43 rfl ?_
      refine i_if_eq (tgt := 56) dX9_putGate_44 (by decide) (by omega) (fun c44 => ?_) (fun c44 => ?_)
      · -- jumps
        refine i_aload_n dX9_putGate_56 rfl ?_
        refine i_iload dX9_putGate_57 rfl ?_
        refine u_put (i := 30) (kV := 23) dX9_putGate_59 fX9_9 (by decide) rfl rfl rfl (Nat.le_of_ble_eq_true rfl) rfl rfl ?_
        refine i_iload dX9_putGate_62 rfl ?_
        refine i_iload dX9_putGate_64 rfl ?_
        have l1 := @za_nn (V 23) (zp c)
        have l2 := @za_le (V 23) (zp c) g23.1
        have l3 := @za_nn (V 24) (zp c)
        have l4 := @za_le (V 24) (zp c) g24.1
        have l5 := zg_o g23 hc
        have l6 := zg_o g24 hc
        have l7 := @zcl_rg (V 23) c g23
        have l8 := @zcl_rg (V 24) c g24
        refine i_and dX9_putGate_66 (by omega) (by omega) ?_
        refine i_if_eq (tgt := 74) dX9_putGate_67 (by decide) (by omega) (fun c67 => ?_) (fun c67 => ?_)
        · -- jumps
          refine i_const dX9_putGate_74 ?_
          refine i_ireturn dX9_putGate_75 rfl rfl ?_
          exfalso; omega
        · -- on
          refine i_const dX9_putGate_70 ?_
          refine i_goto (tgt := 75) dX9_putGate_71 (by decide) ?_
          refine i_ireturn dX9_putGate_75 rfl rfl ?_
          exfalso; omega
      · -- on
        refine i_aload_n dX9_putGate_47 rfl ?_
        refine i_iload dX9_putGate_48 rfl ?_
        refine u_put (i := 30) (kV := 24) dX9_putGate_50 fX9_15 (by decide) rfl rfl rfl (Nat.le_of_ble_eq_true rfl) rfl rfl ?_
        refine i_goto (tgt := 62) dX9_putGate_53 (by decide) ?_
        refine i_iload dX9_putGate_62 rfl ?_
        refine i_iload dX9_putGate_64 rfl ?_
        have l1 := @za_nn (V 23) (zp c)
        have l2 := @za_le (V 23) (zp c) g23.1
        have l3 := @za_nn (V 24) (zp c)
        have l4 := @za_le (V 24) (zp c) g24.1
        have l5 := zg_o g23 hc
        have l6 := zg_o g24 hc
        have l7 := @zcl_rg (V 23) c g23
        have l8 := @zcl_rg (V 24) c g24
        refine i_and dX9_putGate_66 (by omega) (by omega) ?_
        refine i_if_eq (tgt := 74) dX9_putGate_67 (by decide) (by omega) (fun c67 => ?_) (fun c67 => ?_)
        · -- jumps
          refine i_const dX9_putGate_74 ?_
          refine i_ireturn dX9_putGate_75 rfl rfl ?_
          obtain rfl : b = 1 := by omega
          have hz := zg_z g24 hc
          have hg := hN.2.2.1.2.2 c (by omega) (by omega)
          obtain rfl : o = 0 := by omega
          have hq := hp _ (hN.gate1 (x := zcl (V 24) c) (o := 0) hO hc (zcl_rg g24) (fun q q0 q1 => ?_)) (sV.rfl.vu (by decide))
          · first | (rw [zb_t (hg.mp (hz.mp (by omega)))] at hq; exact hq) | (rw [zb_f (fun z => absurd (hz.mpr (hg.mpr z)) (by omega))] at hq; exact hq)
          · rw [zt_zcl hc ⟨q0, q1⟩]; by_cases z : q = c; · rw [if_pos z]; exact iff_of_false (fun y => y.2 z) (by decide)
            · rw [if_neg z]; exact ⟨fun y => y.1, fun y => ⟨y, z⟩⟩
        · -- on
          refine i_const dX9_putGate_70 ?_
          refine i_goto (tgt := 75) dX9_putGate_71 (by decide) ?_
          refine i_ireturn dX9_putGate_75 rfl rfl ?_
          obtain rfl : b = 1 := by omega
          have hz := zg_z g24 hc
          have hg := hN.2.2.1.2.2 c (by omega) (by omega)
          obtain rfl : o = 0 := by omega
          have hq := hp _ (hN.gate1 (x := zcl (V 24) c) (o := 0) hO hc (zcl_rg g24) (fun q q0 q1 => ?_)) (sV.rfl.vu (by decide))
          · first | (rw [zb_t (hg.mp (hz.mp (by omega)))] at hq; exact hq) | (rw [zb_f (fun z => absurd (hz.mpr (hg.mpr z)) (by omega))] at hq; exact hq)
          · rw [zt_zcl hc ⟨q0, q1⟩]; by_cases z : q = c; · rw [if_pos z]; exact iff_of_false (fun y => y.2 z) (by decide)
            · rw [if_neg z]; exact ⟨fun y => y.1, fun y => ⟨y, z⟩⟩
    · -- on
      refine i_iload dX9_putGate_26 rfl ?_
      refine i_iload dX9_putGate_28 rfl ?_
      refine i_or dX9_putGate_30 (by omega) (by omega) ?_
      refine i_goto (tgt := 41) dX9_putGate_31 (by decide) ?_
      refine i_istore dX9_putGate_41 (L' := [some _, some _, some _, some _, some _, some _, some _]) (by decide) rfl ?_
      refine i_iload_n dX9_putGate_43 rfl ?_
      refine i_if_eq (tgt := 56) dX9_putGate_44 (by decide) (by omega) (fun c44 => ?_) (fun c44 => ?_)
      · -- jumps
        refine i_aload_n dX9_putGate_56 rfl ?_
        refine i_iload dX9_putGate_57 rfl ?_
        refine u_put (i := 30) (kV := 23) dX9_putGate_59 fX9_9 (by decide) rfl rfl rfl (Nat.le_of_ble_eq_true rfl) rfl rfl ?_
        refine i_iload dX9_putGate_62 rfl ?_
        refine i_iload dX9_putGate_64 rfl ?_
        have l1 := @za_nn (V 23) (zp c)
        have l2 := @za_le (V 23) (zp c) g23.1
        have l3 := @za_nn (V 24) (zp c)
        have l4 := @za_le (V 24) (zp c) g24.1
        have l5 := zg_o g23 hc
        have l6 := zg_o g24 hc
        have l7 := @zcl_rg (V 23) c g23
        have l8 := @zcl_rg (V 24) c g24
        refine i_and dX9_putGate_66 (by omega) (by omega) ?_
        refine i_if_eq (tgt := 74) dX9_putGate_67 (by decide) (by omega) (fun c67 => ?_) (fun c67 => ?_)
        · -- jumps
          refine i_const dX9_putGate_74 ?_
          refine i_ireturn dX9_putGate_75 rfl rfl ?_
          exfalso; omega
        · -- on
          refine i_const dX9_putGate_70 ?_
          refine i_goto (tgt := 75) dX9_putGate_71 (by decide) ?_
          refine i_ireturn dX9_putGate_75 rfl rfl ?_
          exfalso; omega
      · -- on
        refine i_aload_n dX9_putGate_47 rfl ?_
        refine i_iload dX9_putGate_48 rfl ?_
        refine u_put (i := 30) (kV := 24) dX9_putGate_50 fX9_15 (by decide) rfl rfl rfl (Nat.le_of_ble_eq_true rfl) rfl rfl ?_
        refine i_goto (tgt := 62) dX9_putGate_53 (by decide) ?_
        refine i_iload dX9_putGate_62 rfl ?_
        refine i_iload dX9_putGate_64 rfl ?_
        have l1 := @za_nn (V 23) (zp c)
        have l2 := @za_le (V 23) (zp c) g23.1
        have l3 := @za_nn (V 24) (zp c)
        have l4 := @za_le (V 24) (zp c) g24.1
        have l5 := zg_o g23 hc
        have l6 := zg_o g24 hc
        have l7 := @zcl_rg (V 23) c g23
        have l8 := @zcl_rg (V 24) c g24
        refine i_and dX9_putGate_66 (by omega) (by omega) ?_
        refine i_if_eq (tgt := 74) dX9_putGate_67 (by decide) (by omega) (fun c67 => ?_) (fun c67 => ?_)
        · -- jumps
          refine i_const dX9_putGate_74 ?_
          refine i_ireturn dX9_putGate_75 rfl rfl ?_
          obtain rfl : b = 1 := by omega
          have hz := zg_z g24 hc
          have hg := hN.2.2.1.2.2 c (by omega) (by omega)
          obtain rfl : o = 1 := by omega
          have hq := hp _ (hN.gate1 (x := zo (V 24) (zp c)) (o := 1) hO hc (zg_o g24 hc) (fun q q0 q1 => ?_)) (sV.rfl.vu (by decide))
          · first | (rw [zb_t (hg.mp (hz.mp (by omega)))] at hq; exact hq) | (rw [zb_f (fun z => absurd (hz.mpr (hg.mpr z)) (by omega))] at hq; exact hq)
          · rw [zt_zo, zt_zp (by omega) q0]; by_cases z : q = c; · rw [if_pos z]; exact iff_of_true (Or.inr z) rfl
            · rw [if_neg z]; exact ⟨fun y => y.elim id (fun y => absurd y z), Or.inl⟩
        · -- on
          refine i_const dX9_putGate_70 ?_
          refine i_goto (tgt := 75) dX9_putGate_71 (by decide) ?_
          refine i_ireturn dX9_putGate_75 rfl rfl ?_
          obtain rfl : b = 1 := by omega
          have hz := zg_z g24 hc
          have hg := hN.2.2.1.2.2 c (by omega) (by omega)
          obtain rfl : o = 1 := by omega
          have hq := hp _ (hN.gate1 (x := zo (V 24) (zp c)) (o := 1) hO hc (zg_o g24 hc) (fun q q0 q1 => ?_)) (sV.rfl.vu (by decide))
          · first | (rw [zb_t (hg.mp (hz.mp (by omega)))] at hq; exact hq) | (rw [zb_f (fun z => absurd (hz.mpr (hg.mpr z)) (by omega))] at hq; exact hq)
          · rw [zt_zo, zt_zp (by omega) q0]; by_cases z : q = c; · rw [if_pos z]; exact iff_of_true (Or.inr z) rfl
            · rw [if_neg z]; exact ⟨fun y => y.elim id (fun y => absurd y z), Or.inl⟩
end C42
