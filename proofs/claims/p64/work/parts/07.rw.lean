/-! ===== integers; a judgement over abstract registers ===== -/
abbrev iI (z : Int) : Int32 := Int32.ofInt z
abbrev lI (z : Int) : Int64 := Int64.ofInt z
theorem iI_toInt {z : Int} (h : -2147483648 ≤ z ∧ z < 2147483648) : (iI z).toInt = z := Int32.toInt_ofInt_of_le (by omega) (by omega)
theorem iI_of (x : Int32) : x = iI x.toInt := (Int32.ofInt_toInt x).symm
theorem lI_of (x : Int64) : x = lI x.toInt := (Int64.ofInt_toInt x).symm
theorem iI_rg (x : Int32) : -2147483648 ≤ x.toInt ∧ x.toInt < 2147483648 := ⟨Int32.le_toInt x, Int32.toInt_lt x⟩
theorem lI_toInt {z : Int} (h : -9223372036854775808 ≤ z ∧ z < 9223372036854775808) : (lI z).toInt = z := Int64.toInt_ofInt_of_le (by omega) (by omega)
theorem iI_nat (n : Nat) : iI (n : Int) = nI n := Int32.ofInt_eq_ofNat
theorem iI_nn {z : Int} (h : 0 ≤ z) : iI z = nI z.toNat := by
  rw [← iI_nat, Int.toNat_of_nonneg h]
theorem iI_clamp {z : Int} (h0 : 0 ≤ z) (h : z < 2147483648) : (iI z).toNatClampNeg = z.toNat := by
  rw [iI_nn h0, nI_clamp (by omega)]
theorem iI_in {z : Int} {N : Nat} (h0 : 0 ≤ z) (h : z < (N : Int)) (hN : N < 2147483648) : vp_in (iI z) N := by
  rw [iI_nn h0]
  exact vp_in_nI (by omega) (by omega)
theorem iI_div {a b : Int} (h0 : 0 ≤ a) (h1 : a < 2147483648) (h2 : 0 < b) (h3 : b < 2147483648) : iI a / iI b = iI (a / b) := by
  rw [iI_nn h0, iI_nn (Int.le_of_lt h2), pk_div (by omega) (by omega) (by omega), ← iI_nat, Int.natCast_ediv, Int.toNat_of_nonneg h0, Int.toNat_of_nonneg (Int.le_of_lt h2)]
theorem iI_rem {a b : Int} (h0 : 0 ≤ a) (h1 : a < 2147483648) (h2 : 0 < b) (h3 : b < 2147483648) : iI a - iI a / iI b * iI b = iI (a % b) := by
  rw [iI_nn h0, iI_nn (Int.le_of_lt h2), pk_rem (by omega) (by omega) (by omega), ← iI_nat, Int.natCast_emod, Int.toNat_of_nonneg h0, Int.toNat_of_nonneg (Int.le_of_lt h2)]
/-- a proposition as 0 or 1 -/
def zb (p : Prop) [Decidable p] : Int := if p then 1 else 0
theorem zb_t {p : Prop} [Decidable p] (h : p) : zb p = 1 := if_pos h
theorem zb_f {p : Prop} [Decidable p] (h : ¬ p) : zb p = 0 := if_neg h
theorem zb_01 {p : Prop} [Decidable p] : 0 ≤ zb p ∧ zb p ≤ 1 := by
  unfold zb
  split <;> decide
theorem zb_iff {p : Prop} [Decidable p] : zb p = 1 ↔ p := by
  unfold zb
  split
  · rename_i h; exact ⟨fun _ => h, fun _ => rfl⟩
  · rename_i h; exact ⟨fun z => absurd z (by decide), fun z => absurd z h⟩
theorem zb_0 {p : Prop} [Decidable p] : zb p = 0 ↔ ¬ p := by
  unfold zb
  split
  · rename_i h; exact ⟨fun z => absurd z (by decide), fun z => absurd h z⟩
  · rename_i h; exact ⟨fun _ => h, fun _ => rfl⟩
theorem zb_nar {a : Int} (h : a = 0 ∨ a = 1) : narrow .boolean (.int (iI a)) = .int (iI a) := by
  rcases h with rfl | rfl <;> rfl
theorem zb_or {p : Prop} [Decidable p] : zb p = 0 ∨ zb p = 1 := by
  unfold zb
  split
  · exact Or.inr rfl
  · exact Or.inl rfl
/-- rows of integers -/
def zu (f : Int → Int) (k v : Int) : Int → Int := fun j => if j = k then v else f j
theorem zu_at {f : Int → Int} {k v : Int} : zu f k v k = v := if_pos rfl
theorem zu_ne {f : Int → Int} {k v j : Int} (h : j ≠ k) : zu f k v j = f j := if_neg h
theorem zu_upd {f : Int → Int} {k v : Int} (h : 0 ≤ k) : upd (fun j : Nat => iI (f j)) k.toNat (iI v) = fun j : Nat => iI (zu f k v j) := by
  funext j
  unfold upd zu
  by_cases e : (j : Int) = k
  · rw [if_pos e, if_pos (by omega)]
  · rw [if_neg e, if_neg (by omega)]
theorem zu_updL {f : Int → Int} {k v : Int} (h : 0 ≤ k) : vp_updL (fun j : Nat => lI (f j)) k.toNat (lI v) = fun j : Nat => lI (zu f k v j) := by
  funext j
  unfold vp_updL zu
  by_cases e : (j : Int) = k
  · rw [if_pos e, if_pos (by omega)]
  · rw [if_neg e, if_neg (by omega)]
def vu (V : Nat → Int) (k : Nat) (v : Int) : Nat → Int := fun j => if j = k then v else V j
def cu (C : Nat → Int → Int) (k : Nat) (f : Int → Int) : Nat → Int → Int := fun j => if j = k then f else C j
/-- masks -/
def za (a b : Int) : Int := ((a.toNat &&& b.toNat : Nat) : Int)
def zo (a b : Int) : Int := ((a.toNat ||| b.toNat : Nat) : Int)
abbrev zt (m p : Int) : Prop := m.toNat.testBit p.toNat = true
theorem ny_or (a b : Nat) : nI a ||| nI b = nI (a ||| b) := by
  apply Int32.toBitVec_inj.1
  show (Int32.ofNat a).toBitVec ||| (Int32.ofNat b).toBitVec = (Int32.ofNat (a ||| b)).toBitVec
  simp [BitVec.ofNat_or]
theorem ny_and (a b : Nat) : nI a &&& nI b = nI (a &&& b) := by
  apply Int32.toBitVec_inj.1
  show (Int32.ofNat a).toBitVec &&& (Int32.ofNat b).toBitVec = (Int32.ofNat (a &&& b)).toBitVec
  simp [BitVec.ofNat_and]
theorem iI_and {a b : Int} (ha : 0 ≤ a) (hb : 0 ≤ b) : iI a &&& iI b = iI (za a b) := by
  rw [iI_nn ha, iI_nn hb, ny_and]
  unfold za
  rw [iI_nat]
theorem iI_or {a b : Int} (ha : 0 ≤ a) (hb : 0 ≤ b) : iI a ||| iI b = iI (zo a b) := by
  rw [iI_nn ha, iI_nn hb, ny_or]
  unfold zo
  rw [iI_nat]
/-! the judgement -/
section RWdefs
variable {σ : Type}
def RE (I : σ → p_H → Prop) (P : (Option Value) ⊕ String → σ → Prop) : p_P := fun o h' => ∃ y : σ, P o y ∧ I y h'
def RW (G : p_G) (M : p_M) (I : σ → p_H → Prop) (P : (Option Value) ⊕ String → σ → Prop) (d k n pc : Nat) (L : p_LL) (st : List Value) (X : σ) : Prop := ∀ h : p_H, I X h → SW G M (RE I P) d k n h pc L st
def RM (G : p_G) (M : p_M) (I : σ → p_H → Prop) (As : List Value) (d k n : Nat) (P : (Option Value) ⊕ String → σ → Prop) (X : σ) : Prop := ∀ h : p_H, I X h → SM G M h As d k n (RE I P)
/-- a call's end -/
def RK (G : p_G) (M : p_M) (I : σ → p_H → Prop) (P : (Option Value) ⊕ String → σ → Prop) (d k n pc : Nat) (L : p_LL) (rest : List Value) : (Option Value) ⊕ String → σ → Prop := fun o y => match o with
  | .inl none => RW G M I P d k n pc L rest y
  | .inl (some v) => RW G M I P d k n pc L (v :: rest) y
  | .inr E => P (.inr E) y
end RWdefs
section RWrules
variable {σ : Type} {G : p_G} {M : p_M} {I : σ → p_H → Prop} {P : (Option Value) ⊕ String → σ → Prop} {d k n pc : Nat} {L : p_LL} {st : List Value} {X : σ}
theorem RW.up {pc' : Nat} {L' : p_LL} {st' : List Value} (f : ∀ {P' : p_P} {h : p_H}, SW G M P' d k n h pc' L' st' → SW G M P' d k n h pc L st) (kk : RW G M I P d k n pc' L' st' X) : RW G M I P d k n pc L st X := fun h hI => f (kk h hI)
theorem RW.up2 {c1 c2 : Prop} {pt pf : Nat} {st' : List Value} (f : ∀ {P' : p_P} {h : p_H}, (c1 → SW G M P' d k n h pt L st') → (c2 → SW G M P' d k n h pf L st') → SW G M P' d k n h pc L st) (kt : c1 → RW G M I P d k n pt L st' X) (kf : c2 → RW G M I P d k n pf L st' X) : RW G M I P d k n pc L st X := fun h hI => f (fun c => kt c h hI) (fun c => kf c h hI)
theorem RW.wk {L' : p_LL} (hs : ∀ (i : Nat) (v : Value), L'[i]? = some (some v) → L[i]? = some (some v)) (kk : RW G M I P d k n pc L' st X) : RW G M I P d k n pc L st X := RW.up (fun k => SW.wk hs k) kk
theorem RW.ti {x y : Int} (e : x = y) (kk : RW G M I P d k n pc L (.int (iI y) :: st) X) : RW G M I P d k n pc L (.int (iI x) :: st) X := e ▸ kk
theorem RW.tr {x : Int32} {y : Int} (e : x = iI y) (kk : RW G M I P d k n pc L (.int (iI y) :: st) X) : RW G M I P d k n pc L (.int x :: st) X := e ▸ kk
theorem RW.tj {x : Int64} {y : Int} (e : x = lI y) (kk : RW G M I P d k n pc L (.long (lI y) :: st) X) : RW G M I P d k n pc L (.long x :: st) X := e ▸ kk
theorem RW.lk {L' : p_LL} (e : L = L') (kk : RW G M I P d k n pc L' st X) : RW G M I P d k n pc L st X := e ▸ kk
theorem RW.xk {X' : σ} (e : X = X') (kk : RW G M I P d k n pc L st X') : RW G M I P d k n pc L st X := e ▸ kk
theorem RW.room {d' k' n' : Nat} (hd : d' ≤ d) (hk : k' ≤ k) (hn : n' ≤ n) (kk : RW G M I P d' k' n' pc L st X) : RW G M I P d k n pc L st X := fun h hI => SW.room hd hk hn (kk h hI)
theorem RM.mono {As : List Value} {P' : (Option Value) ⊕ String → σ → Prop} (kk : RM G M I As d k n P' X) (hP : ∀ o y, P' o y → P o y) : RM G M I As d k n P X := fun h hI => (kk h hI).mono (fun o h' hq => by
  obtain ⟨y, q1, q2⟩ := hq
  exact ⟨y, hP _ _ q1, q2⟩)
theorem RM.of {As : List Value} {na : Nat} (hc : p_cf M na) (hL : p_ini As M.2.2.1 = L) (hl : (lg_sl As).length ≤ M.2.2.1) (kk : RW G M I P d k n 0 L [] X) : RM G M I As d k n P X := fun h hI => SM.of2 hc hL hl (kk h hI)
theorem RK.v {v : Value} (kk : RW G M I P d k n pc L (v :: st) X) : RK G M I P d k n pc L st (.inl (some v)) X := kk
theorem RK.n0 (kk : RW G M I P d k n pc L st X) : RK G M I P d k n pc L st (.inl none) X := kk
theorem RK.x {E : String} (kk : P (.inr E) X) : RK G M I P d k n pc L st (.inr E) X := kk
theorem RK.goes : ∀ (o : (Option Value) ⊕ String) (h' : p_H), RE I (RK G M I P d k n pc L st) o h' → p_K G M (RE I P) d k n pc L st o h' := by
  intro o h' hq
  obtain ⟨y, q1, q2⟩ := hq
  match o, q1 with
  | .inl none, q1 => exact q1 h' q2
  | .inl (some v), q1 => exact q1 h' q2
  | .inr E, q1 => exact ⟨y, q1, q2⟩

theorem i_add {a b : Int} (hd : decode M.2.1 pc = .ok (.iadd, 1)) (kk : RW G M I P d k n (pc + 1) L (.int (iI (a + b)) :: st) X) : RW G M I P d k n pc L (.int (iI b) :: .int (iI a) :: st) X := RW.up (fun kk => r_iadd hd (by rw [← Int32.ofInt_add]; exact kk)) kk
theorem i_sub {a b : Int} (hd : decode M.2.1 pc = .ok (.isub, 1)) (kk : RW G M I P d k n (pc + 1) L (.int (iI (a - b)) :: st) X) : RW G M I P d k n pc L (.int (iI b) :: .int (iI a) :: st) X := RW.up (fun kk => r_isub hd (by rw [← Int32.ofInt_sub]; exact kk)) kk
theorem i_mul {a b : Int} (hd : decode M.2.1 pc = .ok (.imul, 1)) (kk : RW G M I P d k n (pc + 1) L (.int (iI (a * b)) :: st) X) : RW G M I P d k n pc L (.int (iI b) :: .int (iI a) :: st) X := RW.up (fun kk => r_imul hd (by rw [← Int32.ofInt_mul]; exact kk)) kk
theorem i_ladd {a b : Int} (hd : decode M.2.1 pc = .ok (.ladd, 1)) (kk : RW G M I P d k n (pc + 1) L (.long (lI (a + b)) :: st) X) : RW G M I P d k n pc L (.long (lI b) :: .long (lI a) :: st) X := RW.up (fun kk => r_ladd hd (by rw [← Int64.ofInt_add]; exact kk)) kk
theorem i_lsub {a b : Int} (hd : decode M.2.1 pc = .ok (.lsub, 1)) (kk : RW G M I P d k n (pc + 1) L (.long (lI (a - b)) :: st) X) : RW G M I P d k n pc L (.long (lI b) :: .long (lI a) :: st) X := RW.up (fun kk => r_lsub hd (by rw [← Int64.ofInt_sub]; exact kk)) kk
theorem i_div {a b : Int} (hd : decode M.2.1 pc = .ok (.idiv, 1)) (h0 : 0 ≤ a ∧ a < 2147483648) (h2 : 0 < b ∧ b < 2147483648) (kk : RW G M I P d k n (pc + 1) L (.int (iI (a / b)) :: st) X) : RW G M I P d k n pc L (.int (iI b) :: .int (iI a) :: st) X := RW.up (fun kk => r_idiv hd (fun z => by have := congrArg Int32.toInt z; rw [iI_toInt (by omega)] at this; change b = 0 at this; omega) (by rw [iI_div h0.1 h0.2 h2.1 h2.2]; exact kk)) kk
theorem i_rem {a b : Int} (hd : decode M.2.1 pc = .ok (.irem, 1)) (h0 : 0 ≤ a ∧ a < 2147483648) (h2 : 0 < b ∧ b < 2147483648) (kk : RW G M I P d k n (pc + 1) L (.int (iI (a % b)) :: st) X) : RW G M I P d k n pc L (.int (iI b) :: .int (iI a) :: st) X := RW.up (fun kk => r_irem hd (fun z => by have := congrArg Int32.toInt z; rw [iI_toInt (by omega)] at this; change b = 0 at this; omega) (by rw [iI_rem h0.1 h0.2 h2.1 h2.2]; exact kk)) kk
theorem i_and {a b : Int} (hd : decode M.2.1 pc = .ok (.iand, 1)) (h0 : 0 ≤ a) (h2 : 0 ≤ b) (kk : RW G M I P d k n (pc + 1) L (.int (iI (za a b)) :: st) X) : RW G M I P d k n pc L (.int (iI b) :: .int (iI a) :: st) X := RW.up (fun kk => r_iand hd (by rw [iI_and h0 h2]; exact kk)) kk
theorem i_or {a b : Int} (hd : decode M.2.1 pc = .ok (.ior, 1)) (h0 : 0 ≤ a) (h2 : 0 ≤ b) (kk : RW G M I P d k n (pc + 1) L (.int (iI (zo a b)) :: st) X) : RW G M I P d k n pc L (.int (iI b) :: .int (iI a) :: st) X := RW.up (fun kk => r_ior hd (by rw [iI_or h0 h2]; exact kk)) kk
theorem i_xor {a b : Int32} {z : Int} (hd : decode M.2.1 pc = .ok (.ixor, 1)) (hz : a ^^^ b = iI z) (kk : RW G M I P d k n (pc + 1) L (.int (iI z) :: st) X) : RW G M I P d k n pc L (.int b :: .int a :: st) X := RW.up (fun kk => r_ixor hd (by rw [hz]; exact kk)) kk
theorem i_shl {a b : Int32} {z : Int} (hd : decode M.2.1 pc = .ok (.ishl, 1)) (hz : a <<< (b &&& 31) = iI z) (kk : RW G M I P d k n (pc + 1) L (.int (iI z) :: st) X) : RW G M I P d k n pc L (.int b :: .int a :: st) X := RW.up (fun kk => r_ishl hd (by rw [hz]; exact kk)) kk
theorem i_shr {a b : Int32} {z : Int} (hd : decode M.2.1 pc = .ok (.ishr, 1)) (hz : a >>> (b &&& 31) = iI z) (kk : RW G M I P d k n (pc + 1) L (.int (iI z) :: st) X) : RW G M I P d k n pc L (.int b :: .int a :: st) X := RW.up (fun kk => r_ishr hd (by rw [hz]; exact kk)) kk
theorem i_andE {a b : Int32} {z : Int} (hd : decode M.2.1 pc = .ok (.iand, 1)) (hz : a &&& b = iI z) (kk : RW G M I P d k n (pc + 1) L (.int (iI z) :: st) X) : RW G M I P d k n pc L (.int b :: .int a :: st) X := RW.up (fun kk => r_iand hd (by rw [hz]; exact kk)) kk
theorem i_orE {a b : Int32} {z : Int} (hd : decode M.2.1 pc = .ok (.ior, 1)) (hz : a ||| b = iI z) (kk : RW G M I P d k n (pc + 1) L (.int (iI z) :: st) X) : RW G M I P d k n pc L (.int b :: .int a :: st) X := RW.up (fun kk => r_ior hd (by rw [hz]; exact kk)) kk
theorem i_iushr {a b : Int32} {z : Int} (hd : decode M.2.1 pc = .ok (.iushr, 1)) (hz : (a.toUInt32 >>> (b.toUInt32 &&& Int32.toUInt32 31)).toInt32 = iI z) (kk : RW G M I P d k n (pc + 1) L (.int (iI z) :: st) X) : RW G M I P d k n pc L (.int b :: .int a :: st) X := RW.up (fun kk => r_iushr hd (by rw [hz]; exact kk)) kk
theorem i_i2c {a : Int32} {z : Int} (hd : decode M.2.1 pc = .ok (.i2c, 1)) (hz : (a.toUInt32 % 65536).toInt32 = iI z) (kk : RW G M I P d k n (pc + 1) L (.int (iI z) :: st) X) : RW G M I P d k n pc L (.int a :: st) X := RW.up (fun kk => r_i2c hd (by rw [hz]; exact kk)) kk
theorem i_i2l {a : Int32} {z : Int} (hd : decode M.2.1 pc = .ok (.i2l, 1)) (hz : a.toInt64 = lI z) (kk : RW G M I P d k n (pc + 1) L (.long (lI z) :: st) X) : RW G M I P d k n pc L (.int a :: st) X := RW.up (fun kk => r_i2l hd (by rw [hz]; exact kk)) kk
theorem i_l2i {a : Int64} {z : Int} (hd : decode M.2.1 pc = .ok (.l2i, 1)) (hz : a.toInt32 = iI z) (kk : RW G M I P d k n (pc + 1) L (.int (iI z) :: st) X) : RW G M I P d k n pc L (.long a :: st) X := RW.up (fun kk => r_l2i hd (by rw [hz]; exact kk)) kk
theorem i_land {a b : Int64} {z : Int} (hd : decode M.2.1 pc = .ok (.land, 1)) (hz : a &&& b = lI z) (kk : RW G M I P d k n (pc + 1) L (.long (lI z) :: st) X) : RW G M I P d k n pc L (.long b :: .long a :: st) X := RW.up (fun kk => r_land hd (by rw [hz]; exact kk)) kk
theorem i_lor {a b : Int64} {z : Int} (hd : decode M.2.1 pc = .ok (.lor, 1)) (hz : a ||| b = lI z) (kk : RW G M I P d k n (pc + 1) L (.long (lI z) :: st) X) : RW G M I P d k n pc L (.long b :: .long a :: st) X := RW.up (fun kk => r_lor hd (by rw [hz]; exact kk)) kk
theorem i_lshl {a : Int64} {b : Int32} {z : Int} (hd : decode M.2.1 pc = .ok (.lshl, 1)) (hz : a <<< (b.toInt64 &&& 63) = lI z) (kk : RW G M I P d k n (pc + 1) L (.long (lI z) :: st) X) : RW G M I P d k n pc L (.int b :: .long a :: st) X := RW.up (fun kk => r_lshl hd (by rw [hz]; exact kk)) kk
theorem i_lshr {a : Int64} {b : Int32} {z : Int} (hd : decode M.2.1 pc = .ok (.lshr, 1)) (hz : a >>> (b.toInt64 &&& 63) = lI z) (kk : RW G M I P d k n (pc + 1) L (.long (lI z) :: st) X) : RW G M I P d k n pc L (.int b :: .long a :: st) X := RW.up (fun kk => r_lshr hd (by rw [hz]; exact kk)) kk
theorem i_lcmp {a b : Int64} {z : Int} (hd : decode M.2.1 pc = .ok (.lcmp, 1)) (hz : lg_cmp a b = iI z) (kk : RW G M I P d k n (pc + 1) L (.int (iI z) :: st) X) : RW G M I P d k n pc L (.long b :: .long a :: st) X := RW.up (fun kk => r_lcmp hd (by rw [hz]; exact kk)) kk
theorem i_const {q : Int} (hd : decode M.2.1 pc = .ok (.iconst q, 1)) (kk : RW G M I P d k n (pc + 1) L (.int (iI q) :: st) X) : RW G M I P d k n pc L st X := RW.up (fun kk => r_iconst hd rfl kk) kk
theorem i_bipush {q : Int} (hd : decode M.2.1 pc = .ok (.bipush q, 2)) (hv : (Int8.ofInt q).toInt32 = iI q) (kk : RW G M I P d k n (pc + 2) L (.int (iI q) :: st) X) : RW G M I P d k n pc L st X := RW.up (fun kk => r_bipush hd hv kk) kk
theorem i_sipush {q : Int} (hd : decode M.2.1 pc = .ok (.sipush q, 3)) (hv : (Int16.ofInt q).toInt32 = iI q) (kk : RW G M I P d k n (pc + 3) L (.int (iI q) :: st) X) : RW G M I P d k n pc L st X := RW.up (fun kk => r_sipush hd hv kk) kk
theorem i_lconst {q : Fin 2} {z : Int} (hd : decode M.2.1 pc = .ok (.lconst q, 1)) (hv : Int64.ofNat (q : Nat) = lI z) (kk : RW G M I P d k n (pc + 1) L (.long (lI z) :: st) X) : RW G M I P d k n pc L st X := RW.up (fun kk => r_lconst hd hv kk) kk
theorem i_null (hd : decode M.2.1 pc = .ok (.aconst_null, 1)) (kk : RW G M I P d k n (pc + 1) L (.null :: st) X) : RW G M I P d k n pc L st X := RW.up (fun kk => r_null hd kk) kk
theorem i_dup {va : Value} (hd : decode M.2.1 pc = .ok (.dup, 1)) (ha : va.category = 1) (kk : RW G M I P d k n (pc + 1) L (va :: va :: st) X) : RW G M I P d k n pc L (va :: st) X := RW.up (fun kk => r_dup hd ha kk) kk
theorem i_pop {va : Value} (hd : decode M.2.1 pc = .ok (.pop, 1)) (ha : va.category = 1) (kk : RW G M I P d k n (pc + 1) L st X) : RW G M I P d k n pc L (va :: st) X := RW.up (fun kk => r_pop hd ha kk) kk
theorem i_dup2 {va vb : Value} (hd : decode M.2.1 pc = .ok (.dup2, 1)) (ha : va.category = 1) (hb1 : vb.category = 1) (kk : RW G M I P d k n (pc + 1) L (va :: vb :: va :: vb :: st) X) : RW G M I P d k n pc L (va :: vb :: st) X := RW.up (fun kk => r_dup2 hd ha hb1 kk) kk
theorem i_iload {i : Nat} {v : Int32} (hd : decode M.2.1 pc = .ok (.iload i, 2)) (hi : L[i]? = some (some (.int v))) (kk : RW G M I P d k n (pc + 2) L (.int v :: st) X) : RW G M I P d k n pc L st X := RW.up (fun kk => r_iload hd hi kk) kk
theorem i_iload_n {q : Fin 4} {v : Int32} (hd : decode M.2.1 pc = .ok (.iload_n q, 1)) (hi : L[(q : Nat)]? = some (some (.int v))) (kk : RW G M I P d k n (pc + 1) L (.int v :: st) X) : RW G M I P d k n pc L st X := RW.up (fun kk => r_iload_n hd hi kk) kk
theorem i_lload {i : Nat} {v : Int64} (hd : decode M.2.1 pc = .ok (.lload i, 2)) (hi : L[i]? = some (some (.long v))) (kk : RW G M I P d k n (pc + 2) L (.long v :: st) X) : RW G M I P d k n pc L st X := RW.up (fun kk => r_lload hd hi kk) kk
theorem i_lload_n {q : Fin 4} {v : Int64} (hd : decode M.2.1 pc = .ok (.lload_n q, 1)) (hi : L[(q : Nat)]? = some (some (.long v))) (kk : RW G M I P d k n (pc + 1) L (.long v :: st) X) : RW G M I P d k n pc L st X := RW.up (fun kk => r_lload_n hd hi kk) kk
theorem i_dload {i : Nat} {v : UInt64} (hd : decode M.2.1 pc = .ok (.dload i, 2)) (hi : L[i]? = some (some (.double v))) (kk : RW G M I P d k n (pc + 2) L (.double v :: st) X) : RW G M I P d k n pc L st X := RW.up (fun kk => r_dload hd hi kk) kk
theorem i_dload_n {q : Fin 4} {v : UInt64} (hd : decode M.2.1 pc = .ok (.dload_n q, 1)) (hi : L[(q : Nat)]? = some (some (.double v))) (kk : RW G M I P d k n (pc + 1) L (.double v :: st) X) : RW G M I P d k n pc L st X := RW.up (fun kk => r_dload_n hd hi kk) kk
theorem i_aload {i : Nat} {v : Nat} (hd : decode M.2.1 pc = .ok (.aload i, 2)) (hi : L[i]? = some (some (.ref v))) (kk : RW G M I P d k n (pc + 2) L (.ref v :: st) X) : RW G M I P d k n pc L st X := RW.up (fun kk => r_aload hd hi kk) kk
theorem i_aload_n {q : Fin 4} {v : Nat} (hd : decode M.2.1 pc = .ok (.aload_n q, 1)) (hi : L[(q : Nat)]? = some (some (.ref v))) (kk : RW G M I P d k n (pc + 1) L (.ref v :: st) X) : RW G M I P d k n pc L st X := RW.up (fun kk => r_aload_n hd hi kk) kk
theorem i_aloadN {i : Nat} (hd : decode M.2.1 pc = .ok (.aload i, 2)) (hi : L[i]? = some (some .null)) (kk : RW G M I P d k n (pc + 2) L (.null :: st) X) : RW G M I P d k n pc L st X := RW.up (fun kk => r_aloadN hd hi kk) kk
theorem i_aload_nN {q : Fin 4} (hd : decode M.2.1 pc = .ok (.aload_n q, 1)) (hi : L[(q : Nat)]? = some (some .null)) (kk : RW G M I P d k n (pc + 1) L (.null :: st) X) : RW G M I P d k n pc L st X := RW.up (fun kk => r_aload_nN hd hi kk) kk
theorem i_istore {i : Nat} {v : Int32} {L' : p_LL} (hd : decode M.2.1 pc = .ok (.istore i, 2)) (hn : i < M.2.2.1) (hl : p_st1 L i (.int v) = L') (kk : RW G M I P d k n (pc + 2) L' st X) : RW G M I P d k n pc L (.int v :: st) X := RW.up (fun kk => r_istore hd hn hl kk) kk
theorem i_istore_n {q : Fin 4} {v : Int32} {L' : p_LL} (hd : decode M.2.1 pc = .ok (.istore_n q, 1)) (hn : (q : Nat) < M.2.2.1) (hl : p_st1 L (q : Nat) (.int v) = L') (kk : RW G M I P d k n (pc + 1) L' st X) : RW G M I P d k n pc L (.int v :: st) X := RW.up (fun kk => r_istore_n hd hn hl kk) kk
theorem i_astore {i : Nat} {v : Nat} {L' : p_LL} (hd : decode M.2.1 pc = .ok (.astore i, 2)) (hn : i < M.2.2.1) (hl : p_st1 L i (.ref v) = L') (kk : RW G M I P d k n (pc + 2) L' st X) : RW G M I P d k n pc L (.ref v :: st) X := RW.up (fun kk => r_astore hd hn hl kk) kk
theorem i_astore_n {q : Fin 4} {v : Nat} {L' : p_LL} (hd : decode M.2.1 pc = .ok (.astore_n q, 1)) (hn : (q : Nat) < M.2.2.1) (hl : p_st1 L (q : Nat) (.ref v) = L') (kk : RW G M I P d k n (pc + 1) L' st X) : RW G M I P d k n pc L (.ref v :: st) X := RW.up (fun kk => r_astore_n hd hn hl kk) kk
theorem i_lstore {i : Nat} {v : Int64} {L' : p_LL} (hd : decode M.2.1 pc = .ok (.lstore i, 2)) (hn : i + 1 < M.2.2.1) (hl : p_st2 L i (.long v) = L') (kk : RW G M I P d k n (pc + 2) L' st X) : RW G M I P d k n pc L (.long v :: st) X := RW.up (fun kk => r_lstore hd hn hl kk) kk
theorem i_lstore_n {q : Fin 4} {v : Int64} {L' : p_LL} (hd : decode M.2.1 pc = .ok (.lstore_n q, 1)) (hn : (q : Nat) + 1 < M.2.2.1) (hl : p_st2 L (q : Nat) (.long v) = L') (kk : RW G M I P d k n (pc + 1) L' st X) : RW G M I P d k n pc L (.long v :: st) X := RW.up (fun kk => r_lstore_n hd hn hl kk) kk
theorem i_dstore {i : Nat} {v : UInt64} {L' : p_LL} (hd : decode M.2.1 pc = .ok (.dstore i, 2)) (hn : i + 1 < M.2.2.1) (hl : p_st2 L i (.double v) = L') (kk : RW G M I P d k n (pc + 2) L' st X) : RW G M I P d k n pc L (.double v :: st) X := RW.up (fun kk => r_dstore hd hn hl kk) kk
theorem i_dstore_n {q : Fin 4} {v : UInt64} {L' : p_LL} (hd : decode M.2.1 pc = .ok (.dstore_n q, 1)) (hn : (q : Nat) + 1 < M.2.2.1) (hl : p_st2 L (q : Nat) (.double v) = L') (kk : RW G M I P d k n (pc + 1) L' st X) : RW G M I P d k n pc L (.double v :: st) X := RW.up (fun kk => r_dstore_n hd hn hl kk) kk
theorem i_iinc {i : Nat} {q a : Int} {L' : p_LL} (hd : decode M.2.1 pc = .ok (.iinc i q, 3)) (hi : L[i]? = some (some (.int (iI a)))) (hn : i < M.2.2.1) (hl : p_st1 L i (.int (iI (a + q))) = L') (kk : RW G M I P d k n (pc + 3) L' st X) : RW G M I P d k n pc L st X := RW.up (fun kk => r_iinc hd hi (by rw [← Int32.ofInt_add]) hn hl kk) kk
theorem i_goto {off : Int} {tgt : Nat} (hd : decode M.2.1 pc = .ok (.goto off, 3)) (ht : (pc : Int) + off = (tgt : Int)) (kk : RW G M I P d k n tgt L st X) : RW G M I P d k n pc L st X := RW.up (fun kk => r_goto hd ht kk) kk
theorem iI_eq {a b : Int} (ha : -2147483648 ≤ a ∧ a < 2147483648) (hb : -2147483648 ≤ b ∧ b < 2147483648) : iI a = iI b ↔ a = b := ⟨fun z => by
  have := congrArg Int32.toInt z
  rwa [iI_toInt ha, iI_toInt hb] at this, fun z => by rw [z]⟩
theorem iI_lt {a b : Int} (ha : -2147483648 ≤ a ∧ a < 2147483648) (hb : -2147483648 ≤ b ∧ b < 2147483648) : iI a < iI b ↔ a < b := by
  rw [Int32.lt_iff_toInt_lt, iI_toInt ha, iI_toInt hb]
theorem iI_le {a b : Int} (ha : -2147483648 ≤ a ∧ a < 2147483648) (hb : -2147483648 ≤ b ∧ b < 2147483648) : iI a ≤ iI b ↔ a ≤ b := by
  rw [Int32.le_iff_toInt_le, iI_toInt ha, iI_toInt hb]
theorem iI_00 : (0 : Int32) = iI 0 := rfl
theorem i_icmp_eq {A B : Int} {off : Int} {tgt : Nat} (hd : decode M.2.1 pc = .ok (.if_icmp .eq off, 3)) (ht : (pc : Int) + off = (tgt : Int)) (ha : -2147483648 ≤ A ∧ A < 2147483648) (hb : -2147483648 ≤ B ∧ B < 2147483648) (kt : A = B → RW G M I P d k n tgt L st X) (kf : ¬ A = B → RW G M I P d k n (pc + 3) L st X) : RW G M I P d k n pc L (.int (iI B) :: .int (iI A) :: st) X := fun h hI => r_icmp_eq hd ht (fun z => kt ((iI_eq ha hb).mp z) h hI) (fun z => kf (fun y => z ((iI_eq ha hb).mpr y)) h hI)
theorem i_if_eq {A : Int} {off : Int} {tgt : Nat} (hd : decode M.2.1 pc = .ok (.ifCond .eq off, 3)) (ht : (pc : Int) + off = (tgt : Int)) (ha : -2147483648 ≤ A ∧ A < 2147483648) (kt : A = 0 → RW G M I P d k n tgt L st X) (kf : ¬ A = 0 → RW G M I P d k n (pc + 3) L st X) : RW G M I P d k n pc L (.int (iI A) :: st) X := fun h hI => have hb : (-2147483648 : Int) ≤ 0 ∧ (0 : Int) < 2147483648 := by decide
  r_if_eq hd ht (fun z => kt ((iI_eq ha hb).mp z) h hI) (fun z => kf (fun y => z ((iI_eq ha hb).mpr y)) h hI)
theorem i_icmp_ne {A B : Int} {off : Int} {tgt : Nat} (hd : decode M.2.1 pc = .ok (.if_icmp .ne off, 3)) (ht : (pc : Int) + off = (tgt : Int)) (ha : -2147483648 ≤ A ∧ A < 2147483648) (hb : -2147483648 ≤ B ∧ B < 2147483648) (kt : ¬ A = B → RW G M I P d k n tgt L st X) (kf : A = B → RW G M I P d k n (pc + 3) L st X) : RW G M I P d k n pc L (.int (iI B) :: .int (iI A) :: st) X := fun h hI => r_icmp_ne hd ht (fun z => kt (fun y => z ((iI_eq ha hb).mpr y)) h hI) (fun z => kf ((iI_eq ha hb).mp z) h hI)
theorem i_if_ne {A : Int} {off : Int} {tgt : Nat} (hd : decode M.2.1 pc = .ok (.ifCond .ne off, 3)) (ht : (pc : Int) + off = (tgt : Int)) (ha : -2147483648 ≤ A ∧ A < 2147483648) (kt : ¬ A = 0 → RW G M I P d k n tgt L st X) (kf : A = 0 → RW G M I P d k n (pc + 3) L st X) : RW G M I P d k n pc L (.int (iI A) :: st) X := fun h hI => have hb : (-2147483648 : Int) ≤ 0 ∧ (0 : Int) < 2147483648 := by decide
  r_if_ne hd ht (fun z => kt (fun y => z ((iI_eq ha hb).mpr y)) h hI) (fun z => kf ((iI_eq ha hb).mp z) h hI)
theorem i_icmp_lt {A B : Int} {off : Int} {tgt : Nat} (hd : decode M.2.1 pc = .ok (.if_icmp .lt off, 3)) (ht : (pc : Int) + off = (tgt : Int)) (ha : -2147483648 ≤ A ∧ A < 2147483648) (hb : -2147483648 ≤ B ∧ B < 2147483648) (kt : A < B → RW G M I P d k n tgt L st X) (kf : B ≤ A → RW G M I P d k n (pc + 3) L st X) : RW G M I P d k n pc L (.int (iI B) :: .int (iI A) :: st) X := fun h hI => r_icmp_lt hd ht (fun z => kt ((iI_lt ha hb).mp z) h hI) (fun z => kf (by have y : ¬ A < B := fun y => z ((iI_lt ha hb).mpr y); omega) h hI)
theorem i_if_lt {A : Int} {off : Int} {tgt : Nat} (hd : decode M.2.1 pc = .ok (.ifCond .lt off, 3)) (ht : (pc : Int) + off = (tgt : Int)) (ha : -2147483648 ≤ A ∧ A < 2147483648) (kt : A < 0 → RW G M I P d k n tgt L st X) (kf : 0 ≤ A → RW G M I P d k n (pc + 3) L st X) : RW G M I P d k n pc L (.int (iI A) :: st) X := fun h hI => have hb : (-2147483648 : Int) ≤ 0 ∧ (0 : Int) < 2147483648 := by decide
  r_if_lt hd ht (fun z => kt ((iI_lt ha hb).mp z) h hI) (fun z => kf (by have y : ¬ A < 0 := fun y => z ((iI_lt ha hb).mpr y); omega) h hI)
theorem i_icmp_ge {A B : Int} {off : Int} {tgt : Nat} (hd : decode M.2.1 pc = .ok (.if_icmp .ge off, 3)) (ht : (pc : Int) + off = (tgt : Int)) (ha : -2147483648 ≤ A ∧ A < 2147483648) (hb : -2147483648 ≤ B ∧ B < 2147483648) (kt : B ≤ A → RW G M I P d k n tgt L st X) (kf : A < B → RW G M I P d k n (pc + 3) L st X) : RW G M I P d k n pc L (.int (iI B) :: .int (iI A) :: st) X := fun h hI => r_icmp_ge hd ht (fun z => kt ((iI_le hb ha).mp z) h hI) (fun z => kf (by have y : ¬ B ≤ A := fun y => z ((iI_le hb ha).mpr y); omega) h hI)
theorem i_if_ge {A : Int} {off : Int} {tgt : Nat} (hd : decode M.2.1 pc = .ok (.ifCond .ge off, 3)) (ht : (pc : Int) + off = (tgt : Int)) (ha : -2147483648 ≤ A ∧ A < 2147483648) (kt : 0 ≤ A → RW G M I P d k n tgt L st X) (kf : A < 0 → RW G M I P d k n (pc + 3) L st X) : RW G M I P d k n pc L (.int (iI A) :: st) X := fun h hI => have hb : (-2147483648 : Int) ≤ 0 ∧ (0 : Int) < 2147483648 := by decide
  r_if_ge hd ht (fun z => kt ((iI_le hb ha).mp z) h hI) (fun z => kf (by have y : ¬ 0 ≤ A := fun y => z ((iI_le hb ha).mpr y); omega) h hI)
theorem i_icmp_gt {A B : Int} {off : Int} {tgt : Nat} (hd : decode M.2.1 pc = .ok (.if_icmp .gt off, 3)) (ht : (pc : Int) + off = (tgt : Int)) (ha : -2147483648 ≤ A ∧ A < 2147483648) (hb : -2147483648 ≤ B ∧ B < 2147483648) (kt : B < A → RW G M I P d k n tgt L st X) (kf : A ≤ B → RW G M I P d k n (pc + 3) L st X) : RW G M I P d k n pc L (.int (iI B) :: .int (iI A) :: st) X := fun h hI => r_icmp_gt hd ht (fun z => kt ((iI_lt hb ha).mp z) h hI) (fun z => kf (by have y : ¬ B < A := fun y => z ((iI_lt hb ha).mpr y); omega) h hI)
theorem i_if_gt {A : Int} {off : Int} {tgt : Nat} (hd : decode M.2.1 pc = .ok (.ifCond .gt off, 3)) (ht : (pc : Int) + off = (tgt : Int)) (ha : -2147483648 ≤ A ∧ A < 2147483648) (kt : 0 < A → RW G M I P d k n tgt L st X) (kf : A ≤ 0 → RW G M I P d k n (pc + 3) L st X) : RW G M I P d k n pc L (.int (iI A) :: st) X := fun h hI => have hb : (-2147483648 : Int) ≤ 0 ∧ (0 : Int) < 2147483648 := by decide
  r_if_gt hd ht (fun z => kt ((iI_lt hb ha).mp z) h hI) (fun z => kf (by have y : ¬ 0 < A := fun y => z ((iI_lt hb ha).mpr y); omega) h hI)
theorem i_icmp_le {A B : Int} {off : Int} {tgt : Nat} (hd : decode M.2.1 pc = .ok (.if_icmp .le off, 3)) (ht : (pc : Int) + off = (tgt : Int)) (ha : -2147483648 ≤ A ∧ A < 2147483648) (hb : -2147483648 ≤ B ∧ B < 2147483648) (kt : A ≤ B → RW G M I P d k n tgt L st X) (kf : B < A → RW G M I P d k n (pc + 3) L st X) : RW G M I P d k n pc L (.int (iI B) :: .int (iI A) :: st) X := fun h hI => r_icmp_le hd ht (fun z => kt ((iI_le ha hb).mp z) h hI) (fun z => kf (by have y : ¬ A ≤ B := fun y => z ((iI_le ha hb).mpr y); omega) h hI)
theorem i_if_le {A : Int} {off : Int} {tgt : Nat} (hd : decode M.2.1 pc = .ok (.ifCond .le off, 3)) (ht : (pc : Int) + off = (tgt : Int)) (ha : -2147483648 ≤ A ∧ A < 2147483648) (kt : A ≤ 0 → RW G M I P d k n tgt L st X) (kf : 0 < A → RW G M I P d k n (pc + 3) L st X) : RW G M I P d k n pc L (.int (iI A) :: st) X := fun h hI => have hb : (-2147483648 : Int) ≤ 0 ∧ (0 : Int) < 2147483648 := by decide
  r_if_le hd ht (fun z => kt ((iI_le ha hb).mp z) h hI) (fun z => kf (by have y : ¬ A ≤ 0 := fun y => z ((iI_le ha hb).mpr y); omega) h hI)
theorem i_ifeq_b {p : Prop} [Decidable p] {off : Int} {tgt : Nat} (hd : decode M.2.1 pc = .ok (.ifCond .eq off, 3)) (ht : (pc : Int) + off = (tgt : Int)) (kt : ¬ p → RW G M I P d k n tgt L st X) (kf : p → RW G M I P d k n (pc + 3) L st X) : RW G M I P d k n pc L (.int (iI (zb p)) :: st) X := i_if_eq hd ht (by have := @zb_01 p _; omega) (fun z => kt (zb_0.mp z)) (fun z => kf (Decidable.of_not_not (fun y => z (zb_f y))))
theorem i_ifne_b {p : Prop} [Decidable p] {off : Int} {tgt : Nat} (hd : decode M.2.1 pc = .ok (.ifCond .ne off, 3)) (ht : (pc : Int) + off = (tgt : Int)) (kt : p → RW G M I P d k n tgt L st X) (kf : ¬ p → RW G M I P d k n (pc + 3) L st X) : RW G M I P d k n pc L (.int (iI (zb p)) :: st) X := i_if_ne hd ht (by have := @zb_01 p _; omega) (fun z => kt (Decidable.of_not_not (fun y => z (zb_f y)))) (fun z => kf (zb_0.mp z))
theorem zb_eqz {p q : Prop} [Decidable p] [Decidable q] : zb p = zb q ↔ (p ↔ q) := by
  unfold zb
  by_cases a : p <;> by_cases b : q <;> simp [a, b]
theorem i_icmp_eq_b1 {p : Prop} [Decidable p] {off : Int} {tgt : Nat} (hd : decode M.2.1 pc = .ok (.if_icmp .eq off, 3)) (ht : (pc : Int) + off = (tgt : Int)) (kt : p → RW G M I P d k n tgt L st X) (kf : ¬ p → RW G M I P d k n (pc + 3) L st X) : RW G M I P d k n pc L (.int (iI 1) :: .int (iI (zb p)) :: st) X := i_icmp_eq hd ht (by have := @zb_01 p _; omega) (by decide) (fun z => kt (zb_iff.mp z)) (fun z => kf (fun y => z (zb_t y)))
theorem i_icmp_ne_b1 {p : Prop} [Decidable p] {off : Int} {tgt : Nat} (hd : decode M.2.1 pc = .ok (.if_icmp .ne off, 3)) (ht : (pc : Int) + off = (tgt : Int)) (kt : ¬ p → RW G M I P d k n tgt L st X) (kf : p → RW G M I P d k n (pc + 3) L st X) : RW G M I P d k n pc L (.int (iI 1) :: .int (iI (zb p)) :: st) X := i_icmp_ne hd ht (by have := @zb_01 p _; omega) (by decide) (fun z => kt (fun y => z (zb_t y))) (fun z => kf (zb_iff.mp z))
theorem i_icmp_eq_bb {p q : Prop} [Decidable p] [Decidable q] {off : Int} {tgt : Nat} (hd : decode M.2.1 pc = .ok (.if_icmp .eq off, 3)) (ht : (pc : Int) + off = (tgt : Int)) (kt : (p ↔ q) → RW G M I P d k n tgt L st X) (kf : ¬ (p ↔ q) → RW G M I P d k n (pc + 3) L st X) : RW G M I P d k n pc L (.int (iI (zb q)) :: .int (iI (zb p)) :: st) X := i_icmp_eq hd ht (by have := @zb_01 p _; omega) (by have := @zb_01 q _; omega) (fun z => kt (zb_eqz.mp z)) (fun z => kf (fun y => z (zb_eqz.mpr y)))
theorem i_icmp_ne_bb {p q : Prop} [Decidable p] [Decidable q] {off : Int} {tgt : Nat} (hd : decode M.2.1 pc = .ok (.if_icmp .ne off, 3)) (ht : (pc : Int) + off = (tgt : Int)) (kt : ¬ (p ↔ q) → RW G M I P d k n tgt L st X) (kf : (p ↔ q) → RW G M I P d k n (pc + 3) L st X) : RW G M I P d k n pc L (.int (iI (zb q)) :: .int (iI (zb p)) :: st) X := i_icmp_ne hd ht (by have := @zb_01 p _; omega) (by have := @zb_01 q _; omega) (fun z => kt (fun y => z (zb_eqz.mpr y))) (fun z => kf (zb_eqz.mp z))
theorem i_ifnonnull {v : Nat} {off : Int} {tgt : Nat} (hd : decode M.2.1 pc = .ok (.ifnonnull off, 3)) (ht : (pc : Int) + off = (tgt : Int)) (kk : RW G M I P d k n tgt L st X) : RW G M I P d k n pc L (.ref v :: st) X := RW.up (fun kk => r_ifnonnull hd ht kk) kk
theorem i_ifnull {v : Nat} {off : Int} (hd : decode M.2.1 pc = .ok (.ifnull off, 3)) (kk : RW G M I P d k n (pc + 3) L st X) : RW G M I P d k n pc L (.ref v :: st) X := RW.up (fun kk => r_ifnull hd kk) kk
theorem i_ifnullN {off : Int} {tgt : Nat} (hd : decode M.2.1 pc = .ok (.ifnull off, 3)) (ht : (pc : Int) + off = (tgt : Int)) (kk : RW G M I P d k n tgt L st X) : RW G M I P d k n pc L (.null :: st) X := RW.up (fun kk => r_ifnullN hd ht kk) kk
theorem i_ifnonnullN {off : Int} (hd : decode M.2.1 pc = .ok (.ifnonnull off, 3)) (kk : RW G M I P d k n (pc + 3) L st X) : RW G M I P d k n pc L (.null :: st) X := RW.up (fun kk => r_ifnonnullN hd kk) kk
theorem i_i2f {a : Int32} (hd : decode M.2.1 pc = .ok (.i2f, 1)) (kk : RW G M I P d k n (pc + 1) L (.float (FP.i2f a) :: st) X) : RW G M I P d k n pc L (.int a :: st) X := RW.up (fun kk => r_i2f hd kk) kk
theorem i_i2d {a : Int32} (hd : decode M.2.1 pc = .ok (.i2d, 1)) (kk : RW G M I P d k n (pc + 1) L (.double (FP.i2d a) :: st) X) : RW G M I P d k n pc L (.int a :: st) X := RW.up (fun kk => r_i2d hd kk) kk
theorem i_f2d {a : UInt32} (hd : decode M.2.1 pc = .ok (.f2d, 1)) (h0 : vf_n64 (FP.f2d a)) (kk : RW G M I P d k n (pc + 1) L (.double (FP.f2d a) :: st) X) : RW G M I P d k n pc L (.float a :: st) X := RW.up (fun kk => r_f2d hd h0 kk) kk
theorem i_fdiv {a b : UInt32} (hd : decode M.2.1 pc = .ok (.fdiv, 1)) (h0 : vf_n32 (FP.fdiv a b)) (kk : RW G M I P d k n (pc + 1) L (.float (FP.fdiv a b) :: st) X) : RW G M I P d k n pc L (.float b :: .float a :: st) X := RW.up (fun kk => r_fdiv hd h0 kk) kk
theorem i_ddiv {a b : UInt64} (hd : decode M.2.1 pc = .ok (.ddiv, 1)) (h0 : vf_n64 (FP.ddiv a b)) (kk : RW G M I P d k n (pc + 1) L (.double (FP.ddiv a b) :: st) X) : RW G M I P d k n pc L (.double b :: .double a :: st) X := RW.up (fun kk => r_ddiv hd h0 kk) kk
theorem i_dcmp {a b : UInt64} {op : CmpOp} (hd : decode M.2.1 pc = .ok (.dcmp op, 1)) (kk : RW G M I P d k n (pc + 1) L (.int (Op.cmpValue (FP.dcmp a b) op) :: st) X) : RW G M I P d k n pc L (.double b :: .double a :: st) X := RW.up (fun kk => r_dcmp hd kk) kk
theorem i_fconst0 (hd : decode M.2.1 pc = .ok (.fconst 0, 1)) (kk : RW G M I P d k n (pc + 1) L (.float FP.fconst0 :: st) X) : RW G M I P d k n pc L st X := RW.up (fun kk => r_fconst0 hd kk) kk
theorem i_dconst0 (hd : decode M.2.1 pc = .ok (.dconst 0, 1)) (kk : RW G M I P d k n (pc + 1) L (.double FP.dconst0 :: st) X) : RW G M I P d k n pc L st X := RW.up (fun kk => r_dconst0 hd kk) kk
theorem i_ireturn {v : Int32} {ty : FieldType} (hd : decode M.2.1 pc = .ok (.ireturn, 1)) (hr : M.2.2.2 = some ty) (hn : narrow ty (.int v) = .int v) (hp : P (.inl (some (.int v))) X) : RW G M I P d k n pc L [.int v] X := fun h hI => r_ireturn hd hr hn ⟨X, hp, hI⟩
theorem i_lreturn {v : Int64} (hd : decode M.2.1 pc = .ok (.lreturn, 1)) (hr : M.2.2.2 = some .long) (hp : P (.inl (some (.long v))) X) : RW G M I P d k n pc L [.long v] X := fun h hI => r_lreturn hd hr ⟨X, hp, hI⟩
theorem i_freturn {v : UInt32} (hd : decode M.2.1 pc = .ok (.freturn, 1)) (hr : M.2.2.2 = some .float) (hp : P (.inl (some (.float v))) X) : RW G M I P d k n pc L [.float v] X := fun h hI => r_freturn hd hr ⟨X, hp, hI⟩
theorem i_dreturn {v : UInt64} (hd : decode M.2.1 pc = .ok (.dreturn, 1)) (hr : M.2.2.2 = some .double) (hp : P (.inl (some (.double v))) X) : RW G M I P d k n pc L [.double v] X := fun h hI => r_dreturn hd hr ⟨X, hp, hI⟩
theorem i_return (hd : decode M.2.1 pc = .ok (.return_, 1)) (hr : M.2.2.2 = none) (hp : P (.inl none) X) : RW G M I P d k n pc L [] X := fun h hI => r_return hd hr ⟨X, hp, hI⟩
theorem i_callS {M' : p_M} {na mc ms d' k' n' idx : Nat} {As rest : List Value} (hd : decode M.2.1 pc = .ok (.invokestatic idx, 3)) (hc : p_cf M' na) (hs : Cond.static M'.1 ∈ p_ws) (hl : Cond.methodLink M.1.cls idx M'.1 ∈ p_ws) (hn : As.length = na) (he : st = As.reverse ++ rest) (hr : (rest.map fun v => v.category).sum ≤ 8) (hk : k = mc + k') (hk2 : n = ms + n')
    (kk : RM G M' I As d' mc ms (RK G M I P (d' + 1) k' n' (pc + 3) L rest) X) : RW G M I P (d' + 1) k n pc L st X :=
  fun h hI => r_callS hd hc hs hl hn he hr hk hk2 ((kk h hI).mono RK.goes)
theorem i_callV {M' : p_M} {na mc ms d' k' n' idx b ci : Nat} {As rest : List Value} {q : vw_C} (hd : decode M.2.1 pc = .ok (.invokevirtual idx, 3)) (hc : p_cf M' na) (hi : Cond.instanceMethod M'.1 ∈ p_ws) (hse : Cond.selects M'.1.cls M'.1 M'.1 ∈ p_ws) (hl : Cond.methodLink M.1.cls idx M'.1 ∈ p_ws) (hb0 : ∀ h, I X h → ∃ fs, h b = some (.inr (ci, fs))) (hq : vwCl[ci]? = some q) (hq1 : q.1 = M'.1.cls) (hn : As.length = na) (he : st = As.reverse ++ .ref b :: rest) (hr : (rest.map fun v => v.category).sum ≤ 8) (hk : k = mc + k') (hk2 : n = ms + n')
    (kk : RM G M' I (.ref b :: As) d' mc ms (RK G M I P (d' + 1) k' n' (pc + 3) L rest) X) : RW G M I P (d' + 1) k n pc L st X :=
  fun h hI => by
    obtain ⟨fs, hf⟩ := hb0 h hI
    exact r_callV hd hc hi hse hl hf hq hq1 hn he hr hk hk2 ((kk h hI).mono RK.goes)
end RWrules
