/-! ===== more on integers ===== -/
def zs (m p : Int) : Int := ((m.toNat >>> p.toNat : Nat) : Int)
def zp (p : Int) : Int := ((2 ^ p.toNat : Nat) : Int)
theorem zs_nn {m p : Int} : 0 ≤ zs m p := Int.natCast_nonneg _
theorem zp_nn {p : Int} : 0 ≤ zp p := Int.natCast_nonneg _
theorem za_nn {a b : Int} : 0 ≤ za a b := Int.natCast_nonneg _
theorem zo_nn {a b : Int} : 0 ≤ zo a b := Int.natCast_nonneg _
theorem za_le {a b : Int} (ha : 0 ≤ a) : za a b ≤ a := by
  unfold za
  have := @Nat.and_le_left a.toNat b.toNat
  omega
theorem za_le2 {a b : Int} (ha : 0 ≤ b) : za a b ≤ b := by
  unfold za
  have := @Nat.and_le_right a.toNat b.toNat
  omega
theorem zo_lt {a b : Int} {n : Nat} (ha : a < 2 ^ n) (hb : b < 2 ^ n) : zo a b < 2 ^ n := by
  unfold zo
  have h1 : a.toNat < 2 ^ n := by have : ((2 ^ n : Nat) : Int) = 2 ^ n := by norm_cast
                                  have : 0 < (2 : Nat) ^ n := Nat.two_pow_pos n
                                  omega
  have h2 : b.toNat < 2 ^ n := by have : ((2 ^ n : Nat) : Int) = 2 ^ n := by norm_cast
                                  have : 0 < (2 : Nat) ^ n := Nat.two_pow_pos n
                                  omega
  have := Nat.or_lt_two_pow h1 h2
  exact_mod_cast this
theorem zs_1 {m p : Int} : za (zs m p) 1 = zb (zt m p) := by
  unfold za zs zb zt
  rw [Int.toNat_natCast, show (1 : Int).toNat = 1 from rfl, Nat.and_one_is_mod, Nat.shiftRight_eq_div_pow, ← Nat.toNat_testBit]
  cases m.toNat.testBit p.toNat <;> rfl
theorem za_1 {a : Int} (h : 0 ≤ a) : za a 1 = a % 2 := by
  unfold za
  rw [show (1 : Int).toNat = 1 from rfl, Nat.and_one_is_mod]
  omega
theorem iI_shl1n : ∀ n, n < 31 → (1 : Int32) <<< (nI n &&& 31) = nI (2 ^ n) := by decide
theorem iI_shl1 {p : Int} (h : 0 ≤ p ∧ p < 31) : iI 1 <<< (iI p &&& 31) = iI (zp p) := by
  unfold zp
  rw [iI_nat, iI_nn h.1]
  exact iI_shl1n _ (by omega)
theorem iI_shn : ∀ n, n < 32 → ((nI n &&& 31).toBitVec.smod 32).toNat = n := by decide
theorem iI_shr {m p : Int} (hm : 0 ≤ m ∧ m < 2147483648) (hp : 0 ≤ p ∧ p < 32) : iI m >>> (iI p &&& 31) = iI (zs m p) := by
  unfold zs
  rw [iI_nn hm.1, iI_nn hp.1, pk_shrN (by omega) _ p.toNat (iI_shn _ (by omega)), iI_nat, Nat.shiftRight_eq_div_pow]
theorem iI_char {x : Int} (h : 0 ≤ x ∧ x < 65536) : vp_nar .char (iI x) = iI x := by
  rw [iI_nn h.1]
  unfold vp_nar
  rw [(pk_charN (q := x.toNat) (by omega)).1]
theorem iI_i2c {x : Int} (h : 0 ≤ x ∧ x < 65536) : ((iI x).toUInt32 % 65536).toInt32 = iI x := by
  rw [pk_char, iI_nn h.1, pk_tn (by omega), Nat.mod_eq_of_lt (by omega)]
theorem iI_i2l {x : Int} (h : -2147483648 ≤ x ∧ x < 2147483648) : (iI x).toInt64 = lI x := Int32.toInt64_ofInt (by show -2147483648 ≤ x; omega) (by show x ≤ 2147483647; omega)
/-- the sign of a comparison -/
def lcz (a b : Int) : Int := if a < b then -1 else if a = b then 0 else 1
theorem lI_cmp {a b : Int} (ha : -9223372036854775808 ≤ a ∧ a < 9223372036854775808) (hb : -9223372036854775808 ≤ b ∧ b < 9223372036854775808) : lg_cmp (lI a) (lI b) = iI (lcz a b) := by
  have h1 : (lI a > lI b) ↔ b < a := by
    show lI b < lI a ↔ _
    rw [Int64.lt_iff_toInt_lt, lI_toInt ha, lI_toInt hb]
  have h2 : (lI a = lI b) ↔ a = b := ⟨fun q => by have := congrArg Int64.toInt q; rwa [lI_toInt ha, lI_toInt hb] at this, fun q => by rw [q]⟩
  unfold lg_cmp lcz
  by_cases q1 : b < a
  · rw [if_pos (h1.mpr q1), if_neg (by omega), if_neg (by omega)]; rfl
  · rw [if_neg (fun q => q1 (h1.mp q))]
    by_cases q2 : a = b
    · rw [if_pos (h2.mpr q2), if_neg (by omega), if_pos q2]; rfl
    · rw [if_neg (fun q => q2 (h2.mp q)), if_pos (by omega)]; rfl
theorem lc_rg {a b : Int} : -2147483648 ≤ lcz a b ∧ lcz a b < 2147483648 := by
  unfold lcz
  split
  · decide
  · split <;> decide
theorem lc_lt {a b : Int} (h : lcz a b < 0) : a < b := by
  unfold lcz at h
  split at h
  · assumption
  · split at h <;> omega
theorem lc_ge {a b : Int} (h : 0 ≤ lcz a b) : b ≤ a := by
  unfold lcz at h
  split at h <;> omega
theorem lc_le {a b : Int} (h : lcz a b ≤ 0) : a ≤ b := by
  unfold lcz at h
  split at h
  · omega
  · split at h <;> omega
theorem lc_gt {a b : Int} (h : 0 < lcz a b) : b < a := by
  unfold lcz at h
  split at h
  · omega
  · split at h <;> omega
/-- a call's locals may be fewer -/
def p_subL : p_LL → p_LL → Prop
  | [], _ => True
  | none :: a, [] => p_subL a []
  | none :: a, _ :: b => p_subL a b
  | some _ :: _, [] => False
  | some v :: a, x :: b => x = some v ∧ p_subL a b
theorem p_subL.at : ∀ {A B : p_LL}, p_subL A B → ∀ (i : Nat) (v : Value), A[i]? = some (some v) → B[i]? = some (some v)
  | [], _, _, i, v, h => by simp at h
  | none :: a, [], q, i, v, h => by
    match i, h with
    | 0, h => simp at h
    | i + 1, h =>
      have := p_subL.at (A := a) (B := []) q i v (by simpa using h)
      simp at this
  | none :: a, x :: b, q, i, v, h => by
    match i, h with
    | 0, h => simp at h
    | i + 1, h => simpa using p_subL.at (A := a) (B := b) q i v (by simpa using h)
  | some u :: a, [], q, i, v, h => q.elim
  | some u :: a, x :: b, q, i, v, h => by
    match i, h with
    | 0, h =>
      have : u = v := by simpa using h
      subst this
      simpa using q.1
    | i + 1, h => simpa using p_subL.at (A := a) (B := b) q.2 i v (by simpa using h)
theorem subL_nil {B : p_LL} : p_subL [] B := trivial
theorem subL_n {a b : p_LL} {x : Option Value} (h : p_subL a b) : p_subL (none :: a) (x :: b) := h
theorem subL_s {a b : p_LL} {x : Option Value} (h : p_subL a b) : p_subL (x :: a) (x :: b) := by
  cases x with
  | none => exact h
  | some v => exact ⟨Eq.refl _, h⟩
/-- all but the rows and numbers named are the same -/
def sC (S : List Nat) (C C' : Nat → Int → Int) : Prop := ∀ i, i ∉ S → C' i = C i
def sV (S : List Nat) (V V' : Nat → Int) : Prop := ∀ i, i ∉ S → V' i = V i
theorem sC.rfl {S : List Nat} {C : Nat → Int → Int} : sC S C C := fun _ _ => Eq.refl _
theorem sV.rfl {S : List Nat} {C : Nat → Int} : sV S C C := fun _ _ => Eq.refl _
theorem sC.cu {S : List Nat} {C C' : Nat → Int → Int} {k : Nat} {f : Int → Int} (h : sC S C C') (hk : k ∈ S) : sC S C (cu C' k f) := fun i hi => (if_neg (fun (e : i = k) => hi (e ▸ hk))).trans (h i hi)
theorem sV.vu {S : List Nat} {C C' : Nat → Int} {k : Nat} {f : Int} (h : sV S C C') (hk : k ∈ S) : sV S C (vu C' k f) := fun i hi => (if_neg (fun (e : i = k) => hi (e ▸ hk))).trans (h i hi)
theorem sC.tr {S T : List Nat} {A B C : Nat → Int → Int} (h : sC S A B) (h2 : sC T B C) (hT : ∀ i, i ∈ T → i ∈ S) : sC S A C := fun i hi => (h2 i (fun e => hi (hT i e))).trans (h i hi)
theorem sC.t2 {S T U : List Nat} {A B C : Nat → Int → Int} (h : sC S A B) (h2 : sC T B C) (hS : ∀ i, i ∈ S → i ∈ U) (hT : ∀ i, i ∈ T → i ∈ U) : sC U A C := fun i hi => (h2 i (fun e => hi (hT i e))).trans (h i (fun e => hi (hS i e)))
theorem sV.t2 {S T U : List Nat} {A B C : Nat → Int} (h : sV S A B) (h2 : sV T B C) (hS : ∀ i, i ∈ S → i ∈ U) (hT : ∀ i, i ∈ T → i ∈ U) : sV U A C := fun i hi => (h2 i (fun e => hi (hT i e))).trans (h i (fun e => hi (hS i e)))
theorem sV.tr {S T : List Nat} {A B C : Nat → Int} (h : sV S A B) (h2 : sV T B C) (hT : ∀ i, i ∈ T → i ∈ S) : sV S A C := fun i hi => (h2 i (fun e => hi (hT i e))).trans (h i hi)
section M09g
variable {σ : Type} {I : σ → p_H → Prop} {G : p_G} {P : (Option Value) ⊕ String → σ → Prop} {d : Nat} {X : σ}

theorem k_in {x a b : Int} (hx : -2147483648 ≤ x ∧ x < 2147483648) (ha : -2147483648 ≤ a ∧ a < 2147483648) (hb : -2147483648 ≤ b ∧ b < 2147483648) (hp : P (.inl (some (.int (iI (zb (a ≤ x ∧ x ≤ b)))))) X) : RM G mX11_in I [.int (iI x), .int (iI a), .int (iI b)] (d) 0 0 P X := by
  refine RM.of (L := [some (.int (iI x)), some (.int (iI a)), some (.int (iI b))]) cfX11_in rfl (Nat.le_of_ble_eq_true rfl) ?_
  refine i_iload_n dX11_in_0 rfl ?_
  refine i_iload_n dX11_in_1 rfl ?_
  refine i_icmp_lt (tgt := 14) dX11_in_2 (by decide) (by omega) (by omega) (fun c2 => ?_) (fun c2 => ?_)
  · -- jumps
    refine i_const dX11_in_14 ?_
    refine i_ireturn dX11_in_15 rfl rfl ?_
    first | (rw [zb_t (by omega)] at hp; exact hp) | (rw [zb_f (by omega)] at hp; exact hp)
  · -- on
    refine i_iload_n dX11_in_5 rfl ?_
    refine i_iload_n dX11_in_6 rfl ?_
    refine i_icmp_gt (tgt := 14) dX11_in_7 (by decide) (by omega) (by omega) (fun c7 => ?_) (fun c7 => ?_)
    · -- jumps
      refine i_const dX11_in_14 ?_
      refine i_ireturn dX11_in_15 rfl rfl ?_
      first | (rw [zb_t (by omega)] at hp; exact hp) | (rw [zb_f (by omega)] at hp; exact hp)
    · -- on
      refine i_const dX11_in_10 ?_
      refine i_goto (tgt := 15) dX11_in_11 (by decide) ?_
      refine i_ireturn dX11_in_15 rfl rfl ?_
      first | (rw [zb_t (by omega)] at hp; exact hp) | (rw [zb_f (by omega)] at hp; exact hp)
theorem k_isSlot {x : Int} (hx : -2147483648 ≤ x ∧ x < 2147483648) (hp : P (.inl (some (.int (iI (zb (x = 0 ∨ x = 1)))))) X) : RM G mX11_isSlot I [.int (iI x)] (d) 0 0 P X := by
  refine RM.of (L := [some (.int (iI x))]) cfX11_isSlot rfl (Nat.le_of_ble_eq_true rfl) ?_
  refine i_iload_n dX11_isSlot_0 rfl ?_
  refine i_if_eq (tgt := 9) dX11_isSlot_1 (by decide) (by omega) (fun c1 => ?_) (fun c1 => ?_)
  · -- jumps
    refine i_const dX11_isSlot_9 ?_
    refine i_goto (tgt := 14) dX11_isSlot_10 (by decide) ?_
    refine i_ireturn dX11_isSlot_14 rfl rfl ?_
    first | (rw [zb_t (by omega)] at hp; exact hp) | (rw [zb_f (by omega)] at hp; exact hp)
  · -- on
    refine i_iload_n dX11_isSlot_4 rfl ?_
    refine i_const dX11_isSlot_5 ?_
    refine i_icmp_ne (tgt := 13) dX11_isSlot_6 (by decide) (by omega) (by omega) (fun c6 => ?_) (fun c6 => ?_)
    · -- jumps
      refine i_const dX11_isSlot_13 ?_
      refine i_ireturn dX11_isSlot_14 rfl rfl ?_
      first | (rw [zb_t (by omega)] at hp; exact hp) | (rw [zb_f (by omega)] at hp; exact hp)
    · -- on
      refine i_const dX11_isSlot_9 ?_
      refine i_goto (tgt := 14) dX11_isSlot_10 (by decide) ?_
      refine i_ireturn dX11_isSlot_14 rfl rfl ?_
      first | (rw [zb_t (by omega)] at hp; exact hp) | (rw [zb_f (by omega)] at hp; exact hp)
end M09g
section M09
variable {G : p_G} {Y : Nat → Nat} {h0 : p_H} {P : (Option Value) ⊕ String → m_X → Prop} {d : Nat} {V : Nat → Int} {C : Nat → Int → Int} {J : Int → Int}
end M09
section M09h
variable {σ : Type} {I : σ → p_H → Prop} {G : p_G} {P : (Option Value) ⊕ String → σ → Prop} {d : Nat} {X : σ}
theorem k_isStreet {x : Int} (hx : -2147483648 ≤ x ∧ x < 2147483648) (hp : P (.inl (some (.int (iI (zb (0 ≤ x ∧ x ≤ 5)))))) X) : RM G mX11_isStreet I [.int (iI x)] (d + 1) 0 0 P X := by
  refine RM.of (L := [some (.int (iI x))]) cfX11_isStreet rfl (Nat.le_of_ble_eq_true rfl) ?_
  refine i_iload_n dX11_isStreet_0 rfl ?_
  refine i_const dX11_isStreet_1 ?_
  refine i_const dX11_isStreet_2 ?_
  refine i_callS (mc := 0) (ms := 0) (As := [_, _, _]) dX11_isStreet_3 cfX11_in stX11_in lX11_108 rfl rfl (Nat.le_of_ble_eq_true rfl) (Nat.zero_add _).symm (Nat.zero_add _).symm ?_
  refine k_in hx (by decide) (by decide) (RK.v ?_)
  exact i_ireturn dX11_isStreet_6 rfl (zb_nar zb_or) hp
end M09h
section M09
variable {G : p_G} {Y : Nat → Nat} {h0 : p_H} {P : (Option Value) ⊕ String → m_X → Prop} {d : Nat} {V : Nat → Int} {C : Nat → Int → Int} {J : Int → Int}
theorem k_thrown  (hp : P (.inl (some (.int (iI (V 12))))) (V, C, J)) : RM G mX11_thrown (m_I Y h0) [.ref (Y 38)] (d) 0 0 P (V, C, J) := by
  refine RM.of (L := [some (.ref (Y 38))]) cfX11_thrown rfl (Nat.le_of_ble_eq_true rfl) ?_
  refine i_aload_n dX11_thrown_0 rfl ?_
  refine t_getI dX11_thrown_1 fX11_95 (by decide) rfl ?_
  refine i_ireturn dX11_thrown_4 rfl rfl ?_
  exact hp
theorem k_throwsOne {a : Int} (ha : a = 0 ∨ a = 1) (hp : P (.inl (some (.int (iI a)))) (vu V 12 a, C, J)) : RM G mX11_throwsOne (m_I Y h0) [.ref (Y 38), .int (iI a)] (d) 0 0 P (V, C, J) := by
  refine RM.of (L := [some (.ref (Y 38)), some (.int (iI a))]) cfX11_throwsOne rfl (Nat.le_of_ble_eq_true rfl) ?_
  refine i_aload_n dX11_throwsOne_0 rfl ?_
  refine i_iload_n dX11_throwsOne_1 rfl ?_
  refine i_if_eq (tgt := 9) dX11_throwsOne_2 (by decide) (by omega) (fun c2 => ?_) (fun c2 => ?_)
  · -- jumps
    refine i_const dX11_throwsOne_9 ?_
    refine t_put dX11_throwsOne_10 fX11_95 (by decide) rfl rfl ?_
    refine i_iload_n dX11_throwsOne_13 rfl ?_
    refine i_ireturn dX11_throwsOne_14 rfl (zb_nar (by first | exact zb_or | omega)) ?_
    obtain rfl : a = 0 := by omega
    exact hp
  · -- on
    refine i_const dX11_throwsOne_5 ?_
    refine i_goto (tgt := 10) dX11_throwsOne_6 (by decide) ?_
    refine t_put dX11_throwsOne_10 fX11_95 (by decide) rfl rfl ?_
    refine i_iload_n dX11_throwsOne_13 rfl ?_
    refine i_ireturn dX11_throwsOne_14 rfl (zb_nar (by first | exact zb_or | omega)) ?_
    obtain rfl : a = 1 := by omega
    exact hp
theorem k_throwsOne_ {a b : Int} (ha : a = 0 ∨ a = 1) (hb : b = 0 ∨ b = 1) (hp1 : a = 1 → P (.inl (some (.int (iI 1)))) (vu V 12 1, C, J)) (hp2 : a = 0 → b = 1 → P (.inl (some (.int (iI 1)))) (vu V 12 2, C, J)) (hp3 : a = 0 → b = 0 → P (.inl (some (.int (iI 0)))) (vu V 12 0, C, J)) : RM G mX11_throwsOne_ (m_I Y h0) [.ref (Y 38), .int (iI a), .int (iI b)] (d) 0 0 P (V, C, J) := by
  refine RM.of (L := [some (.ref (Y 38)), some (.int (iI a)), some (.int (iI b))]) cfX11_throwsOne_ rfl (Nat.le_of_ble_eq_true rfl) ?_
  refine i_aload_n dX11_throwsOne__0 rfl ?_
  refine i_iload_n dX11_throwsOne__1 rfl ?_
  refine i_if_eq (tgt := 9) dX11_throwsOne__2 (by decide) (by omega) (fun c2 => ?_) (fun c2 => ?_)
  · -- jumps
    refine i_iload_n dX11_throwsOne__9 rfl ?_
    refine i_if_eq (tgt := 17) dX11_throwsOne__10 (by decide) (by omega) (fun c10 => ?_) (fun c10 => ?_)
    · -- jumps
      refine i_const dX11_throwsOne__17 ?_
      refine t_put dX11_throwsOne__18 fX11_95 (by decide) rfl rfl ?_
      refine i_iload_n dX11_throwsOne__21 rfl ?_
      refine i_if_ne (tgt := 29) dX11_throwsOne__22 (by decide) (by omega) (fun c22 => ?_) (fun c22 => ?_)
      · -- jumps
        refine i_const dX11_throwsOne__29 ?_
        refine i_goto (tgt := 34) dX11_throwsOne__30 (by decide) ?_
        refine i_ireturn dX11_throwsOne__34 rfl rfl ?_
        exfalso; omega
      · -- on
        refine i_iload_n dX11_throwsOne__25 rfl ?_
        refine i_if_eq (tgt := 33) dX11_throwsOne__26 (by decide) (by omega) (fun c26 => ?_) (fun c26 => ?_)
        · -- jumps
          refine i_const dX11_throwsOne__33 ?_
          refine i_ireturn dX11_throwsOne__34 rfl rfl ?_
          exact hp3 (by omega) (by omega)
        · -- on
          refine i_const dX11_throwsOne__29 ?_
          refine i_goto (tgt := 34) dX11_throwsOne__30 (by decide) ?_
          refine i_ireturn dX11_throwsOne__34 rfl rfl ?_
          exfalso; omega
    · -- on
      refine i_const dX11_throwsOne__13 ?_
      refine i_goto (tgt := 18) dX11_throwsOne__14 (by decide) ?_
      refine t_put dX11_throwsOne__18 fX11_95 (by decide) rfl rfl ?_
      refine i_iload_n dX11_throwsOne__21 rfl ?_
      refine i_if_ne (tgt := 29) dX11_throwsOne__22 (by decide) (by omega) (fun c22 => ?_) (fun c22 => ?_)
      · -- jumps
        refine i_const dX11_throwsOne__29 ?_
        refine i_goto (tgt := 34) dX11_throwsOne__30 (by decide) ?_
        refine i_ireturn dX11_throwsOne__34 rfl rfl ?_
        exact hp2 (by omega) (by omega)
      · -- on
        refine i_iload_n dX11_throwsOne__25 rfl ?_
        refine i_if_eq (tgt := 33) dX11_throwsOne__26 (by decide) (by omega) (fun c26 => ?_) (fun c26 => ?_)
        · -- jumps
          refine i_const dX11_throwsOne__33 ?_
          refine i_ireturn dX11_throwsOne__34 rfl rfl ?_
          exfalso; omega
        · -- on
          refine i_const dX11_throwsOne__29 ?_
          refine i_goto (tgt := 34) dX11_throwsOne__30 (by decide) ?_
          refine i_ireturn dX11_throwsOne__34 rfl rfl ?_
          exact hp2 (by omega) (by omega)
  · -- on
    refine i_const dX11_throwsOne__5 ?_
    refine i_goto (tgt := 18) dX11_throwsOne__6 (by decide) ?_
    refine t_put dX11_throwsOne__18 fX11_95 (by decide) rfl rfl ?_
    refine i_iload_n dX11_throwsOne__21 rfl ?_
    refine i_if_ne (tgt := 29) dX11_throwsOne__22 (by decide) (by omega) (fun c22 => ?_) (fun c22 => ?_)
    · -- jumps
      refine i_const dX11_throwsOne__29 ?_
      refine i_goto (tgt := 34) dX11_throwsOne__30 (by decide) ?_
      refine i_ireturn dX11_throwsOne__34 rfl rfl ?_
      exact hp1 (by omega)
    · -- on
      refine i_iload_n dX11_throwsOne__25 rfl ?_
      refine i_if_eq (tgt := 33) dX11_throwsOne__26 (by decide) (by omega) (fun c26 => ?_) (fun c26 => ?_)
      · -- jumps
        refine i_const dX11_throwsOne__33 ?_
        refine i_ireturn dX11_throwsOne__34 rfl rfl ?_
        exfalso; omega
      · -- on
        refine i_const dX11_throwsOne__29 ?_
        refine i_goto (tgt := 34) dX11_throwsOne__30 (by decide) ?_
        refine i_ireturn dX11_throwsOne__34 rfl rfl ?_
        exact hp1 (by omega)
theorem k_of {s k : Int} {w : Int → Int} (hw : C 0 = w) (hk : 0 ≤ 476 * s + k ∧ 476 * s + k < 985) (hp : P (.inl (some (.int (iI (w (476 * s + k)))))) (V, C, J)) : RM G mX11_of (m_I Y h0) [.ref (Y 38), .int (iI s), .int (iI k)] (d) 0 0 P (V, C, J) := by
  refine RM.of (L := [some (.ref (Y 38)), some (.int (iI s)), some (.int (iI k))]) cfX11_of rfl (Nat.le_of_ble_eq_true rfl) ?_
  refine i_aload_n dX11_of_0 rfl ?_
  refine t_getA dX11_of_1 fX11_7.o rfl ?_
  refine i_sipush dX11_of_4 (by decide) ?_
  refine i_iload_n dX11_of_7 rfl ?_
  refine i_mul dX11_of_8 ?_
  refine i_iload_n dX11_of_9 rfl ?_
  refine i_add dX11_of_10 ?_
  refine t_iald (N := 985) (v := C 0 (476 * s + k)) dX11_of_11 (by decide) (by decide) rfl (by omega) rfl ?_
  refine i_ireturn dX11_of_12 rfl rfl ?_
  subst hw
  exact hp
theorem k_to {s k v : Int} (hk : 0 ≤ 476 * s + k ∧ 476 * s + k < 985) (hp : P (.inl none) (V, cu C 0 (zu (C 0) (476 * s + k) v), J)) : RM G mX11_to (m_I Y h0) [.ref (Y 38), .int (iI s), .int (iI k), .int (iI v)] (d) 0 0 P (V, C, J) := by
  refine RM.of (L := [some (.ref (Y 38)), some (.int (iI s)), some (.int (iI k)), some (.int (iI v))]) cfX11_to rfl (Nat.le_of_ble_eq_true rfl) ?_
  refine i_aload_n dX11_to_0 rfl ?_
  refine t_getA dX11_to_1 fX11_7.o rfl ?_
  refine i_sipush dX11_to_4 (by decide) ?_
  refine i_iload_n dX11_to_7 rfl ?_
  refine i_mul dX11_to_8 ?_
  refine i_iload_n dX11_to_9 rfl ?_
  refine i_add dX11_to_10 ?_
  refine i_iload_n dX11_to_11 rfl ?_
  refine t_iast (N := 985) dX11_to_12 (by decide) (by decide) rfl (by omega) ?_
  refine i_return dX11_to_13 rfl ?_
  exact hp
theorem k_to2 {s k v : Int} {f : Int → Int} (hk : 0 ≤ 476 * s + k ∧ 476 * s + k < 985) (hp : P (.inl none) (V, cu C 0 (zu f (476 * s + k) v), J)) : RM G mX11_to (m_I Y h0) [.ref (Y 38), .int (iI s), .int (iI k), .int (iI v)] (d) 0 0 P (V, cu C 0 f, J) := by
  refine k_to hk ?_
  rw [cu_cu, cu_at]
  exact hp
theorem zb_c {p q : Prop} [Decidable p] [Decidable q] (h : p ↔ q) : zb p = zb q := by unfold zb; by_cases c : p <;> simp [c, h.mp, ← h]
def wP (w : Int → Int) (s : Int) : Prop := (0 ≤ w (476 * s + 0) ∧ w (476 * s + 0) ≤ 24) ∧ (w (476 * s + 1) = 0 ∨ w (476 * s + 1) = 1) ∧ (∀ k, 0 ≤ k → k < 116 → 0 ≤ w (476 * s + k) ∧ w (476 * s + k) < 33554432) ∧ (1 ≤ w (476 * s + 5) ∧ w (476 * s + 5) ≤ 60) ∧ (∀ p, 1 ≤ p → p ≤ 24 → 0 ≤ w (476 * s + (31 + p)) ∧ w (476 * s + (31 + p)) ≤ 6) ∧ ∀ t c, 0 ≤ t → t < w (476 * s + 5) → 0 ≤ c → c < 6 → 0 ≤ w (476 * s + (116 + 6 * t + c)) ∧ w (476 * s + (116 + 6 * t + c)) < w (476 * s + 5)
def wOK (w : Int → Int) : Prop := (∀ s, s = 0 ∨ s = 1 → wP w s) ∧ (0 ≤ w 952 ∧ w 952 ≤ 6) ∧ (∀ k, 0 ≤ k → k < w 952 → (w (953 + 3 * k + 0) = 0 ∨ w (953 + 3 * k + 0) = 1) ∧ 0 ≤ w (953 + 3 * k + 1) ∧ w (953 + 3 * k + 1) < w (476 * w (953 + 3 * k + 0) + 5)) ∧ (∀ c b, 0 ≤ c → c < 6 → b = 0 ∨ b = 1 → w (971 + 2 * c + b) = 0 ∨ w (971 + 2 * c + b) = 1) ∧ (w 983 = 0 ∨ w 983 = 1)
/-- accepting states -/
abbrev wAcc (w : Int → Int) (s t : Int) : Prop := za (w (476 * s + (56 + t))) (w (476 * s + 3)) ≠ 0 ∨ w (476 * s + (56 + t)) % 2 = 1 ∧ w (476 * s + 1) = 1
theorem k_isPosition {s p : Int} {w : Int → Int} (hw : C 0 = w) (hs : -2147483648 ≤ s ∧ s < 2147483648) (hp0 : -2147483648 ≤ p ∧ p < 2147483648) (hO : wOK w) (hp : P (.inl (some (.int (iI (zb ((s = 0 ∨ s = 1) ∧ 1 ≤ p ∧ p ≤ w (476 * s + 0))))))) (V, C, J)) : RM G mX11_isPosition (m_I Y h0) [.ref (Y 38), .int (iI s), .int (iI p)] (d + 1) 0 0 P (V, C, J) := by
  refine RM.of (L := [some (.ref (Y 38)), some (.int (iI s)), some (.int (iI p))]) cfX11_isPosition rfl (Nat.le_of_ble_eq_true rfl) ?_
  subst hw
  refine i_iload_n dX11_isPosition_0 rfl ?_
  refine t_callS (As := [_]) dX11_isPosition_1 cfX11_isSlot stX11_isSlot lX11_112 rfl rfl (Nat.le_of_ble_eq_true rfl) ?_
  refine k_isSlot (by omega) (RK.v ?_)
  refine i_ifeq_b (tgt := 25) dX11_isPosition_4 (by decide) (fun c4 => ?_) (fun c4 => ?_)
  · -- jumps
    refine i_const dX11_isPosition_25 ?_
    refine i_ireturn dX11_isPosition_26 rfl rfl ?_
    first | (rw [zb_t (by omega)] at hp; exact hp) | (rw [zb_f (by omega)] at hp; exact hp)
  · -- on
    refine i_iload_n dX11_isPosition_7 rfl ?_
    have b1 := (hO.1 s (by omega)).1
    refine i_const dX11_isPosition_8 ?_
    refine i_aload_n dX11_isPosition_9 rfl ?_
    refine i_iload_n dX11_isPosition_10 rfl ?_
    refine i_const dX11_isPosition_11 ?_
    refine t_callV (As := [_, _]) dX11_isPosition_12 cfX11_of imX11_of seX11_of lX11_115 rfl rfl rfl (Nat.le_of_ble_eq_true rfl) ?_
    refine k_of (w := C 0) rfl (by omega) (RK.v ?_)
    refine t_callS (As := [_, _, _]) dX11_isPosition_15 cfX11_in stX11_in lX11_108 rfl rfl (Nat.le_of_ble_eq_true rfl) ?_
    refine k_in (by omega) (by omega) (by omega) (RK.v ?_)
    refine i_ifeq_b (tgt := 25) dX11_isPosition_18 (by decide) (fun c18 => ?_) (fun c18 => ?_)
    · -- jumps
      refine i_const dX11_isPosition_25 ?_
      refine i_ireturn dX11_isPosition_26 rfl rfl ?_
      first | (rw [zb_t (by omega)] at hp; exact hp) | (rw [zb_f (by omega)] at hp; exact hp)
    · -- on
      refine i_const dX11_isPosition_21 ?_
      refine i_goto (tgt := 26) dX11_isPosition_22 (by decide) ?_
      refine i_ireturn dX11_isPosition_26 rfl rfl ?_
      first | (rw [zb_t (by omega)] at hp; exact hp) | (rw [zb_f (by omega)] at hp; exact hp)
theorem k_isState {s p : Int} {w : Int → Int} (hw : C 0 = w) (hs : -2147483648 ≤ s ∧ s < 2147483648) (hp0 : -2147483648 ≤ p ∧ p < 2147483648) (hO : wOK w) (hp : P (.inl (some (.int (iI (zb ((s = 0 ∨ s = 1) ∧ 0 ≤ p ∧ p < w (476 * s + 5))))))) (V, C, J)) : RM G mX11_isState (m_I Y h0) [.ref (Y 38), .int (iI s), .int (iI p)] (d + 1) 0 0 P (V, C, J) := by
  refine RM.of (L := [some (.ref (Y 38)), some (.int (iI s)), some (.int (iI p))]) cfX11_isState rfl (Nat.le_of_ble_eq_true rfl) ?_
  subst hw
  refine i_iload_n dX11_isState_0 rfl ?_
  refine t_callS (As := [_]) dX11_isState_1 cfX11_isSlot stX11_isSlot lX11_112 rfl rfl (Nat.le_of_ble_eq_true rfl) ?_
  refine k_isSlot (by omega) (RK.v ?_)
  refine i_ifeq_b (tgt := 27) dX11_isState_4 (by decide) (fun c4 => ?_) (fun c4 => ?_)
  · -- jumps
    refine i_const dX11_isState_27 ?_
    refine i_ireturn dX11_isState_28 rfl rfl ?_
    first | (rw [zb_t (by omega)] at hp; exact hp) | (rw [zb_f (by omega)] at hp; exact hp)
  · -- on
    refine i_iload_n dX11_isState_7 rfl ?_
    have b1 := (hO.1 s (by omega)).2.2.2.1
    refine i_const dX11_isState_8 ?_
    refine i_aload_n dX11_isState_9 rfl ?_
    refine i_iload_n dX11_isState_10 rfl ?_
    refine i_const dX11_isState_11 ?_
    refine t_callV (As := [_, _]) dX11_isState_12 cfX11_of imX11_of seX11_of lX11_115 rfl rfl rfl (Nat.le_of_ble_eq_true rfl) ?_
    refine k_of (w := C 0) rfl (by omega) (RK.v ?_)
    refine i_const dX11_isState_15 ?_
    refine i_sub dX11_isState_16 ?_
    refine t_callS (As := [_, _, _]) dX11_isState_17 cfX11_in stX11_in lX11_108 rfl rfl (Nat.le_of_ble_eq_true rfl) ?_
    refine k_in (by omega) (by omega) (by omega) (RK.v ?_)
    refine i_ifeq_b (tgt := 27) dX11_isState_20 (by decide) (fun c20 => ?_) (fun c20 => ?_)
    · -- jumps
      refine i_const dX11_isState_27 ?_
      refine i_ireturn dX11_isState_28 rfl rfl ?_
      first | (rw [zb_t (by omega)] at hp; exact hp) | (rw [zb_f (by omega)] at hp; exact hp)
    · -- on
      refine i_const dX11_isState_23 ?_
      refine i_goto (tgt := 28) dX11_isState_24 (by decide) ?_
      refine i_ireturn dX11_isState_28 rfl rfl ?_
      first | (rw [zb_t (by omega)] at hp; exact hp) | (rw [zb_f (by omega)] at hp; exact hp)
theorem k_isWalker {p : Int} {w : Int → Int} (hw : C 0 = w) (hp0 : -2147483648 ≤ p ∧ p < 2147483648) (hO : wOK w) (hp : P (.inl (some (.int (iI (zb (0 ≤ p ∧ p < w 952)))))) (V, C, J)) : RM G mX11_isWalker (m_I Y h0) [.ref (Y 38), .int (iI p)] (d + 1) 0 0 P (V, C, J) := by
  refine RM.of (L := [some (.ref (Y 38)), some (.int (iI p))]) cfX11_isWalker rfl (Nat.le_of_ble_eq_true rfl) ?_
  subst hw
  have b1 := hO.2.1
  refine i_iload_n dX11_isWalker_0 rfl ?_
  refine i_const dX11_isWalker_1 ?_
  refine i_aload_n dX11_isWalker_2 rfl ?_
  refine t_getA dX11_isWalker_3 fX11_7.o rfl ?_
  refine i_sipush dX11_isWalker_6 (by decide) ?_
  refine t_iald (N := 985) (v := C 0 952) dX11_isWalker_9 (by decide) (by decide) rfl (by omega) rfl ?_
  refine i_const dX11_isWalker_10 ?_
  refine i_sub dX11_isWalker_11 ?_
  refine t_callS (As := [_, _, _]) dX11_isWalker_12 cfX11_in stX11_in lX11_108 rfl rfl (Nat.le_of_ble_eq_true rfl) ?_
  refine k_in (by omega) (by omega) (by omega) (RK.v ?_)
  refine i_ireturn dX11_isWalker_15 rfl (zb_nar (by first | exact zb_or | omega)) ?_
  rw [show zb (0 ≤ p ∧ p < C 0 952) = zb (0 ≤ p ∧ p ≤ C 0 952 - 1) from zb_c (by omega)] at hp
  exact hp
theorem k_walkerOf {k x : Int} {w : Int → Int} (hw : C 0 = w) (hk : 0 ≤ k ∧ k < 6) (hx : 0 ≤ x ∧ x < 3) (hp : P (.inl (some (.int (iI (w (953 + 3 * k + x)))))) (V, C, J)) : RM G mX11_walkerOf (m_I Y h0) [.ref (Y 38), .int (iI k), .int (iI x)] (d) 0 0 P (V, C, J) := by
  refine RM.of (L := [some (.ref (Y 38)), some (.int (iI k)), some (.int (iI x))]) cfX11_walkerOf rfl (Nat.le_of_ble_eq_true rfl) ?_
  subst hw
  refine i_aload_n dX11_walkerOf_0 rfl ?_
  refine t_getA dX11_walkerOf_1 fX11_7.o rfl ?_
  refine i_sipush dX11_walkerOf_4 (by decide) ?_
  refine i_const dX11_walkerOf_7 ?_
  refine i_iload_n dX11_walkerOf_8 rfl ?_
  refine i_mul dX11_walkerOf_9 ?_
  refine i_add dX11_walkerOf_10 ?_
  refine i_iload_n dX11_walkerOf_11 rfl ?_
  refine i_add dX11_walkerOf_12 ?_
  refine t_iald (N := 985) (v := C 0 (953 + 3 * k + x)) dX11_walkerOf_13 (by decide) (by decide) rfl (by omega) rfl ?_
  refine i_ireturn dX11_walkerOf_14 rfl rfl ?_
  exact hp
theorem k_goes {s t c : Int} {w : Int → Int} (hw : C 0 = w) (hs : s = 0 ∨ s = 1) (ht : 0 ≤ t ∧ t < 60) (hc : 0 ≤ c ∧ c < 6) (hp : P (.inl (some (.int (iI (w (476 * s + (116 + 6 * t + c))))))) (V, C, J)) : RM G mX11_goes (m_I Y h0) [.ref (Y 38), .int (iI s), .int (iI t), .int (iI c)] (d + 1) 0 0 P (V, C, J) := by
  refine RM.of (L := [some (.ref (Y 38)), some (.int (iI s)), some (.int (iI t)), some (.int (iI c))]) cfX11_goes rfl (Nat.le_of_ble_eq_true rfl) ?_
  subst hw
  refine i_aload_n dX11_goes_0 rfl ?_
  refine i_iload_n dX11_goes_1 rfl ?_
  refine i_bipush dX11_goes_2 (by decide) ?_
  refine i_bipush dX11_goes_4 (by decide) ?_
  refine i_iload_n dX11_goes_6 rfl ?_
  refine i_mul dX11_goes_7 ?_
  refine i_add dX11_goes_8 ?_
  refine i_iload_n dX11_goes_9 rfl ?_
  refine i_add dX11_goes_10 ?_
  refine t_callV (As := [_, _]) dX11_goes_11 cfX11_of imX11_of seX11_of lX11_115 rfl rfl rfl (Nat.le_of_ble_eq_true rfl) ?_
  refine k_of (w := C 0) rfl (by omega) (RK.v ?_)
  refine i_ireturn dX11_goes_14 rfl rfl ?_
  exact hp
theorem k_accepts {s t : Int} {w : Int → Int} (hw : C 0 = w) (hs : s = 0 ∨ s = 1) (ht : 0 ≤ t ∧ t < 60) (hO : wP w s) (hp : P (.inl (some (.int (iI (zb (wAcc w s t)))))) (V, C, J)) : RM G mX11_accepts (m_I Y h0) [.ref (Y 38), .int (iI s), .int (iI t)] (d + 1) 0 0 P (V, C, J) := by
  refine RM.of (L := [some (.ref (Y 38)), some (.int (iI s)), some (.int (iI t)), none]) cfX11_accepts rfl (Nat.le_of_ble_eq_true rfl) ?_
  subst hw
  have q3 := hO.2.2.1 (56 + t) (by omega) (by omega)
  have q4 := hO.2.2.1 3 (by omega) (by omega)
  have q5 := hO.2.1
  have q1 := @za_nn (C 0 (476 * s + (56 + t))) (C 0 (476 * s + 3))
  have q2 := @za_le (C 0 (476 * s + (56 + t))) (C 0 (476 * s + 3)) q3.1
  refine i_aload_n dX11_accepts_0 rfl ?_
  refine i_iload_n dX11_accepts_1 rfl ?_
  refine i_bipush dX11_accepts_2 (by decide) ?_
  refine i_iload_n dX11_accepts_4 rfl ?_
  refine i_add dX11_accepts_5 ?_
  refine t_callV (As := [_, _]) dX11_accepts_6 cfX11_of imX11_of seX11_of lX11_115 rfl rfl rfl (Nat.le_of_ble_eq_true rfl) ?_
  refine k_of (w := C 0) rfl (by omega) (RK.v ?_)
  refine i_istore_n dX11_accepts_9 (L' := [some _, some _, some _, some _]) (by decide) rfl ?_
  refine i_iload_n dX11_accepts_10 rfl ?_
  refine i_aload_n dX11_accepts_11 rfl ?_
  refine i_iload_n dX11_accepts_12 rfl ?_
  refine i_const dX11_accepts_13 ?_
  refine t_callV (As := [_, _]) dX11_accepts_14 cfX11_of imX11_of seX11_of lX11_115 rfl rfl rfl (Nat.le_of_ble_eq_true rfl) ?_
  refine k_of (w := C 0) rfl (by omega) (RK.v ?_)
  refine i_and dX11_accepts_17 (by omega) (by omega) ?_
  refine i_if_ne (tgt := 38) dX11_accepts_18 (by decide) (by omega) (fun c18 => ?_) (fun c18 => ?_)
  · -- jumps
    refine i_const dX11_accepts_38 ?_
    refine i_goto (tgt := 43) dX11_accepts_39 (by decide) ?_
    refine i_ireturn dX11_accepts_43 rfl rfl ?_
    first | (rw [zb_t (by unfold wAcc; omega)] at hp; exact hp) | (rw [zb_f (by unfold wAcc; omega)] at hp; exact hp)
  · -- on
    refine i_iload_n dX11_accepts_21 rfl ?_
    refine i_const dX11_accepts_22 ?_
    refine i_and dX11_accepts_23 (by omega) (by omega) ?_
    refine RW.ti (za_1 (by omega)) ?_
    refine i_const dX11_accepts_24 ?_
    refine i_icmp_ne (tgt := 42) dX11_accepts_25 (by decide) (by omega) (by omega) (fun c25 => ?_) (fun c25 => ?_)
    · -- jumps
      refine i_const dX11_accepts_42 ?_
      refine i_ireturn dX11_accepts_43 rfl rfl ?_
      first | (rw [zb_t (by unfold wAcc; omega)] at hp; exact hp) | (rw [zb_f (by unfold wAcc; omega)] at hp; exact hp)
    · -- on
      refine i_aload_n dX11_accepts_28 rfl ?_
      refine i_iload_n dX11_accepts_29 rfl ?_
      refine i_const dX11_accepts_30 ?_
      refine t_callV (As := [_, _]) dX11_accepts_31 cfX11_of imX11_of seX11_of lX11_115 rfl rfl rfl (Nat.le_of_ble_eq_true rfl) ?_
      refine k_of (w := C 0) rfl (by omega) (RK.v ?_)
      refine i_const dX11_accepts_34 ?_
      refine i_icmp_ne (tgt := 42) dX11_accepts_35 (by decide) (by omega) (by omega) (fun c35 => ?_) (fun c35 => ?_)
      · -- jumps
        refine i_const dX11_accepts_42 ?_
        refine i_ireturn dX11_accepts_43 rfl rfl ?_
        first | (rw [zb_t (by unfold wAcc; omega)] at hp; exact hp) | (rw [zb_f (by unfold wAcc; omega)] at hp; exact hp)
      · -- on
        refine i_const dX11_accepts_38 ?_
        refine i_goto (tgt := 43) dX11_accepts_39 (by decide) ?_
        refine i_ireturn dX11_accepts_43 rfl rfl ?_
        first | (rw [zb_t (by unfold wAcc; omega)] at hp; exact hp) | (rw [zb_f (by unfold wAcc; omega)] at hp; exact hp)
theorem k_passes {c : Int} {w : Int → Int} (hw : C 0 = w) (hc : 0 ≤ c ∧ c < 6) (hO : wOK w) (hp : P (.inl (some (.int (iI (zb (w (971 + 2 * c + w 983) = 1)))))) (V, C, J)) : RM G mX11_passes (m_I Y h0) [.ref (Y 38), .int (iI c)] (d) 0 0 P (V, C, J) := by
  refine RM.of (L := [some (.ref (Y 38)), some (.int (iI c))]) cfX11_passes rfl (Nat.le_of_ble_eq_true rfl) ?_
  subst hw
  have b1 := hO.2.2.2.2
  have b2 := hO.2.2.2.1 c (C 0 983) hc.1 hc.2 b1
  refine i_aload_n dX11_passes_0 rfl ?_
  refine t_getA dX11_passes_1 fX11_7.o rfl ?_
  refine i_sipush dX11_passes_4 (by decide) ?_
  refine i_const dX11_passes_7 ?_
  refine i_iload_n dX11_passes_8 rfl ?_
  refine i_mul dX11_passes_9 ?_
  refine i_add dX11_passes_10 ?_
  refine i_aload_n dX11_passes_11 rfl ?_
  refine t_getA dX11_passes_12 fX11_7.o rfl ?_
  refine i_sipush dX11_passes_15 (by decide) ?_
  refine t_iald (N := 985) (v := C 0 983) dX11_passes_18 (by decide) (by decide) rfl (by omega) rfl ?_
  refine i_add dX11_passes_19 ?_
  refine t_iald (N := 985) (v := C 0 (971 + 2 * c + C 0 983)) dX11_passes_20 (by decide) (by decide) rfl (by omega) rfl ?_
  refine i_const dX11_passes_21 ?_
  refine i_icmp_ne (tgt := 29) dX11_passes_22 (by decide) (by omega) (by omega) (fun c22 => ?_) (fun c22 => ?_)
  · -- jumps
    refine i_const dX11_passes_29 ?_
    refine i_ireturn dX11_passes_30 rfl rfl ?_
    first | (rw [zb_t (by omega)] at hp; exact hp) | (rw [zb_f (by omega)] at hp; exact hp)
  · -- on
    refine i_const dX11_passes_25 ?_
    refine i_goto (tgt := 30) dX11_passes_26 (by decide) ?_
    refine i_ireturn dX11_passes_30 rfl rfl ?_
    first | (rw [zb_t (by omega)] at hp; exact hp) | (rw [zb_f (by omega)] at hp; exact hp)
theorem k_fail {k : Int} (he : -2147483648 ≤ (V 8) ∧ (V 8) < 2147483648) (hp1 : V 8 = 0 → P (.inl (some (.int (iI 0)))) (vu (vu V 8 k) 9 (V 31), C, J)) (hp2 : V 8 ≠ 0 → P (.inl (some (.int (iI 0)))) (V, C, J)) : RM G mX11_fail (m_I Y h0) [.ref (Y 38), .int (iI k)] (d) 0 0 P (V, C, J) := by
  refine RM.of (L := [some (.ref (Y 38)), some (.int (iI k))]) cfX11_fail rfl (Nat.le_of_ble_eq_true rfl) ?_
  refine i_aload_n dX11_fail_0 rfl ?_
  refine t_getI dX11_fail_1 fX11_92 (by decide) rfl ?_
  refine i_if_ne (tgt := 20) dX11_fail_4 (by decide) (by omega) (fun c4 => ?_) (fun c4 => ?_)
  · -- jumps
    refine i_const dX11_fail_20 ?_
    refine i_ireturn dX11_fail_21 rfl rfl ?_
    first | exact hp1 (by omega) | exact hp2 (by omega)
  · -- on
    refine i_aload_n dX11_fail_7 rfl ?_
    refine i_iload_n dX11_fail_8 rfl ?_
    refine t_put dX11_fail_9 fX11_92 (by decide) rfl rfl ?_
    refine i_aload_n dX11_fail_12 rfl ?_
    refine i_aload_n dX11_fail_13 rfl ?_
    refine t_getI (v := V 31) dX11_fail_14 fX11_125 (by decide) rfl ?_
    refine t_put dX11_fail_17 fX11_25 (by decide) rfl rfl ?_
    refine i_const dX11_fail_20 ?_
    refine i_ireturn dX11_fail_21 rfl rfl ?_
    first | exact hp1 (by omega) | exact hp2 (by omega)
theorem k_ahead  (h1 : 0 ≤ V 31) (h2 : V 31 ≤ V 7) (h3 : V 7 ≤ 200) (hp : P (.inl (some (.int (iI (if V 31 < V 7 then C 6 (V 31) else -1))))) (V, C, J)) : RM G mX11_ahead (m_I Y h0) [.ref (Y 38)] (d) 0 0 P (V, C, J) := by
  refine RM.of (L := [some (.ref (Y 38))]) cfX11_ahead rfl (Nat.le_of_ble_eq_true rfl) ?_
  refine i_aload_n dX11_ahead_0 rfl ?_
  refine t_getI dX11_ahead_1 fX11_125 (by decide) rfl ?_
  refine i_aload_n dX11_ahead_4 rfl ?_
  refine t_getI dX11_ahead_5 fX11_89 (by decide) rfl ?_
  refine i_icmp_ge (tgt := 23) dX11_ahead_8 (by decide) (by omega) (by omega) (fun c8 => ?_) (fun c8 => ?_)
  · -- jumps
    refine i_const dX11_ahead_23 ?_
    refine i_ireturn dX11_ahead_24 rfl rfl ?_
    first | (rw [if_pos (by omega)] at hp; exact hp) | (rw [if_neg (by omega)] at hp; exact hp)
  · -- on
    refine i_aload_n dX11_ahead_11 rfl ?_
    refine t_getA dX11_ahead_12 fX11_22.o rfl ?_
    refine i_aload_n dX11_ahead_15 rfl ?_
    refine t_getI dX11_ahead_16 fX11_125 (by decide) rfl ?_
    refine t_iald (N := 200) dX11_ahead_19 (by decide) (by decide) rfl (by omega) rfl ?_
    refine i_goto (tgt := 24) dX11_ahead_20 (by decide) ?_
    refine i_ireturn dX11_ahead_24 rfl rfl ?_
    first | (rw [if_pos (by omega)] at hp; exact hp) | (rw [if_neg (by omega)] at hp; exact hp)
theorem k_node  (h1 : 0 ≤ V 20 ∧ V 20 < 1400) (hp : P (.inl (some (.int (iI (V 20 + 1 - 1))))) (vu V 20 (V 20 + 1), cu (cu (cu C 13 (zu (C 13) (V 20) (-1))) 16 (zu (C 16) (V 20) 0)) 17 (zu (C 17) (V 20) 0), J)) : RM G mX11_node (m_I Y h0) [.ref (Y 38)] (d) 0 0 P (V, C, J) := by
  refine RM.of (L := [some (.ref (Y 38))]) cfX11_node rfl (Nat.le_of_ble_eq_true rfl) ?_
  refine i_aload_n dX11_node_0 rfl ?_
  refine t_getA dX11_node_1 fX11_33.o rfl ?_
  refine i_aload_n dX11_node_4 rfl ?_
  refine t_getI dX11_node_5 fX11_119 (by decide) rfl ?_
  refine i_const dX11_node_8 ?_
  refine t_iast (N := 1400) dX11_node_9 (by decide) (by decide) rfl (by omega) ?_
  refine i_aload_n dX11_node_10 rfl ?_
  refine t_getA dX11_node_11 fX11_42.o rfl ?_
  refine i_aload_n dX11_node_14 rfl ?_
  refine t_getI dX11_node_15 fX11_119 (by decide) rfl ?_
  refine i_const dX11_node_18 ?_
  refine t_iast (N := 1400) dX11_node_19 (by decide) (by decide) rfl (by omega) ?_
  refine i_aload_n dX11_node_20 rfl ?_
  refine t_getA dX11_node_21 fX11_45.o rfl ?_
  refine i_aload_n dX11_node_24 rfl ?_
  refine t_getI dX11_node_25 fX11_119 (by decide) rfl ?_
  refine i_const dX11_node_28 ?_
  refine t_iast (N := 1400) dX11_node_29 (by decide) (by decide) rfl (by omega) ?_
  refine i_aload_n dX11_node_30 rfl ?_
  refine i_dup dX11_node_31 rfl ?_
  refine t_getI dX11_node_32 fX11_119 (by decide) rfl ?_
  refine i_const dX11_node_35 ?_
  refine i_add dX11_node_36 ?_
  refine t_put dX11_node_37 fX11_119 (by decide) rfl rfl ?_
  refine i_aload_n dX11_node_40 rfl ?_
  refine t_getI (v := V 20 + 1) dX11_node_41 fX11_119 (by decide) rfl ?_
  refine i_const dX11_node_44 ?_
  refine i_sub dX11_node_45 ?_
  refine i_ireturn dX11_node_46 rfl rfl ?_
  exact hp
theorem k_edge {a b : Int} (ha : 0 ≤ a ∧ a < 1400) (h1 : 0 ≤ V 21 ∧ V 21 < 2800) (hp : P (.inl none) (vu V 21 (V 21 + 1), cu (cu (cu C 15 (zu (C 15) (V 21) b)) 14 (zu (C 14) (V 21) (C 13 a))) 13 (zu (C 13) a (V 21)), J)) : RM G mX11_edge (m_I Y h0) [.ref (Y 38), .int (iI a), .int (iI b)] (d) 0 0 P (V, C, J) := by
  refine RM.of (L := [some (.ref (Y 38)), some (.int (iI a)), some (.int (iI b))]) cfX11_edge rfl (Nat.le_of_ble_eq_true rfl) ?_
  refine i_aload_n dX11_edge_0 rfl ?_
  refine t_getA dX11_edge_1 fX11_39.o rfl ?_
  refine i_aload_n dX11_edge_4 rfl ?_
  refine t_getI dX11_edge_5 fX11_122 (by decide) rfl ?_
  refine i_iload_n dX11_edge_8 rfl ?_
  refine t_iast (N := 2800) dX11_edge_9 (by decide) (by decide) rfl (by omega) ?_
  refine i_aload_n dX11_edge_10 rfl ?_
  refine t_getA dX11_edge_11 fX11_36.o rfl ?_
  refine i_aload_n dX11_edge_14 rfl ?_
  refine t_getI dX11_edge_15 fX11_122 (by decide) rfl ?_
  refine i_aload_n dX11_edge_18 rfl ?_
  refine t_getA dX11_edge_19 fX11_33.o rfl ?_
  refine i_iload_n dX11_edge_22 rfl ?_
  refine t_iald (N := 1400) (v := C 13 a) dX11_edge_23 (by decide) (by decide) rfl (by omega) rfl ?_
  refine t_iast (N := 2800) dX11_edge_24 (by decide) (by decide) rfl (by omega) ?_
  refine i_aload_n dX11_edge_25 rfl ?_
  refine t_getA dX11_edge_26 fX11_33.o rfl ?_
  refine i_iload_n dX11_edge_29 rfl ?_
  refine i_aload_n dX11_edge_30 rfl ?_
  refine t_getI dX11_edge_31 fX11_122 (by decide) rfl ?_
  refine t_iast (N := 1400) dX11_edge_34 (by decide) (by decide) rfl (by omega) ?_
  refine i_aload_n dX11_edge_35 rfl ?_
  refine i_dup dX11_edge_36 rfl ?_
  refine t_getI dX11_edge_37 fX11_122 (by decide) rfl ?_
  refine i_const dX11_edge_40 ?_
  refine i_add dX11_edge_41 ?_
  refine t_put dX11_edge_42 fX11_122 (by decide) rfl rfl ?_
  refine i_return dX11_edge_45 rfl ?_
  exact hp
end M09
