/-! ===== more rules: constants, products, masks, shifts; the script ===== -/
abbrev mL_law : p_M := (yL_law, cL_law, 16, some .boolean)
section A1
variable {G : p_G} {M : p_M} {P : p_P} {d k n : Nat} {h : p_H} {pc : Nat} {L : p_LL} {st : List Value}
theorem r_lmul {x y : Int64} (hd : decode M.2.1 pc = .ok (.lmul, 1)) (kk : SW G M P d k n h (pc + 1) L (.long (x * y) :: st)) : SW G M P d k n h pc L (.long y :: .long x :: st) := SW.sk (fun hx hb _ w => lv_lmul hx hb hd w) kk
theorem r_ldc {idx : Nat} {v : Int32} (hc : Cond.constant M.1.cls idx v ∈ p_ws) (hd : decode M.2.1 pc = .ok (.ldc idx, 2)) (kk : SW G M P d k n h (pc + 2) L (.int v :: st)) : SW G M P d k n h pc L st := by
  intro p e R s m args below meth c H locs cells slots ls CC B hS hR hL
  exact lv_ldc CC.1 CC.2.1 CC.2.2.2.2.2.1 (CC.2.2.2.2.2.2.2.2.word hc args) hd (kk p e R s m args below meth c H locs cells slots ls CC B hS hR hL)
theorem r_ldc2 {idx : Nat} {v : Int64} (hc : Cond.constantLong M.1.cls idx v ∈ p_ws) (hd : decode M.2.1 pc = .ok (.ldc2_w idx, 3)) (kk : SW G M P d k n h (pc + 3) L (.long v :: st)) : SW G M P d k n h pc L st := by
  intro p e R s m args below meth c H locs cells slots ls CC B hS hR hL
  exact lv_ldc2 CC.1 CC.2.1 CC.2.2.2.2.2.1 (CC.2.2.2.2.2.2.2.2.word hc args) hd (kk p e R s m args below meth c H locs cells slots ls CC B hS hR hL)
/-- the script of n ints xs at b -/
def p_Scr (G : p_G) (b n : Nat) (xs : Nat → Int32) : Prop := va_X b n xs G.2.1 G.2.1.heap ∧ b < G.2.1.heap.size
theorem p_Scr.at {b N : Nat} {xs : Nat → Int32} (hX : p_Scr G b N xs) {U : State} (hU : p_S G U) : va_X b N xs U U.heap ∧ b < U.heap.size ∧ ¬ p_A G b :=
  ⟨(va_X.moved hU.2.1.alike hX.1).kept (hU.2.2.2 b hX.2), Nat.lt_of_lt_of_le hX.2 hU.2.2.1, Nat.not_le.mpr hX.2⟩
theorem r_sld {b N : Nat} {xs : Nat → Int32} {i : Int32} (hX : p_Scr G b N xs) (hd : decode M.2.1 pc = .ok (.iaload, 1)) (hi : vp_in i N) (kk : SW G M P d k n h (pc + 1) L (.int (xs i.toNatClampNeg) :: st)) : SW G M P d k n h pc L (.int i :: .ref b :: st) := by
  intro p e R s m args below meth c H locs cells slots ls C B hS hR hL
  obtain ⟨hx, hb, hml, hret, hlk, hown, hnam, hE, hU⟩ := id C
  obtain ⟨h1, h2, h3⟩ := hX.at hU
  exact va_sld hx hb h1 h2 h3 hS hi hd (kk p e R s m args below meth c H locs cells slots ls C B hS hR hL)
theorem r_slen {b N : Nat} {xs : Nat → Int32} (hX : p_Scr G b N xs) (hd : decode M.2.1 pc = .ok (.arraylength, 1)) (kk : SW G M P d k n h (pc + 1) L (.int (Int32.ofNat N) :: st)) : SW G M P d k n h pc L (.ref b :: st) := by
  intro p e R s m args below meth c H locs cells slots ls C B hS hR hL
  obtain ⟨hx, hb, hml, hret, hlk, hown, hnam, hE, hU⟩ := id C
  obtain ⟨h1, h2, h3⟩ := hX.at hU
  exact va_slen hx hb h1 h2 h3 hS hd (kk p e R s m args below meth c H locs cells slots ls C B hS hR hL)
end A1
section A1b
variable {σ : Type} {G : p_G} {M : p_M} {I : σ → p_H → Prop} {P : (Option Value) ⊕ String → σ → Prop} {d k n pc : Nat} {L : p_LL} {st : List Value} {X : σ}
theorem i_lmul {a b : Int} (hd : decode M.2.1 pc = .ok (.lmul, 1)) (kk : RW G M I P d k n (pc + 1) L (.long (lI (a * b)) :: st) X) : RW G M I P d k n pc L (.long (lI b) :: .long (lI a) :: st) X := RW.up (fun kk => r_lmul hd (by rw [← Int64.ofInt_mul]; exact kk)) kk
theorem i_ldc {idx : Nat} {v : Int} (hc : Cond.constant M.1.cls idx (iI v) ∈ p_ws) (hd : decode M.2.1 pc = .ok (.ldc idx, 2)) (kk : RW G M I P d k n (pc + 2) L (.int (iI v) :: st) X) : RW G M I P d k n pc L st X := RW.up (fun kk => r_ldc hc hd kk) kk
theorem i_ldc2 {idx : Nat} {v : Int} (hc : Cond.constantLong M.1.cls idx (lI v) ∈ p_ws) (hd : decode M.2.1 pc = .ok (.ldc2_w idx, 3)) (kk : RW G M I P d k n (pc + 3) L (.long (lI v) :: st) X) : RW G M I P d k n pc L st X := RW.up (fun kk => r_ldc2 hc hd kk) kk
/-- a cell of the script, 0 behind its end -/
theorem h_cell {b N : Nat} {xs : Nat → Int32} {j : Int} (hX : p_Scr G b N xs) (hN : N < 2147483648) (h0 : 0 ≤ j ∧ j < 2147483648) (hp : ∀ c : Int, -2147483648 ≤ c → c < 2147483648 → P (.inl (some (.int (iI c)))) X) : RM G mL_cell I [.ref b, .int (iI j)] d 0 0 P X := by
  refine RM.of (L := [some (.ref b), some (.int (iI j))]) cfL_cell rfl (Nat.le_of_ble_eq_true rfl) ?_
  refine i_iload_n dL_cell_0 rfl ?_
  refine i_aload_n dL_cell_1 rfl ?_
  refine RW.up (fun kk => r_slen hX dL_cell_2 kk) ?_
  refine RW.tr (show Int32.ofNat N = iI (N : Int) from (iI_nat N).symm) ?_
  refine i_icmp_ge (tgt := 12) dL_cell_3 (by decide) (by omega) (by omega) (fun c3 => ?_) (fun c3 => ?_)
  · refine i_const dL_cell_12 ?_
    exact i_ireturn dL_cell_13 rfl rfl (hp 0 (by decide) (by decide))
  · refine i_aload_n dL_cell_6 rfl ?_
    refine i_iload_n dL_cell_7 rfl ?_
    refine RW.up (fun kk => r_sld hX dL_cell_8 (iI_in h0.1 c3 hN) kk) ?_
    refine RW.tr (iI_of _) ?_
    refine i_goto (tgt := 13) dL_cell_9 (by decide) ?_
    have h := iI_rg (xs (iI j).toNatClampNeg)
    exact i_ireturn dL_cell_13 rfl rfl (hp _ h.1 h.2)
end A1b
theorem iI_tn {x : Int} : ((iI x).toBitVec.toNat : Int) = x % 4294967296 := by
  show (((BitVec.ofInt 32 x).toNat : Nat) : Int) = _
  rw [BitVec.toNat_ofInt]
  omega
theorem iI_us4 {x : Int} : ((iI x).toUInt32 >>> ((iI 4).toUInt32 &&& Int32.toUInt32 31)).toInt32 = iI (x % 4294967296 / 16) := by
  have e := iI_tn (x := x)
  have hb := (iI x).toBitVec.isLt
  rw [show x % 4294967296 / 16 = (((iI x).toBitVec.toNat / 2 ^ 4 : Nat) : Int) by omega, iI_nat]
  apply Int32.toBitVec_inj.1
  apply BitVec.eq_of_toNat_eq
  show ((iI x).toBitVec >>> (4 : Nat)).toNat = ((iI x).toBitVec.toNat / 2 ^ 4) % 2 ^ 32
  rw [BitVec.toNat_ushiftRight, Nat.shiftRight_eq_div_pow]
  omega
theorem iI_us20 {x : Int} : ((iI x).toUInt32 >>> ((iI 20).toUInt32 &&& Int32.toUInt32 31)).toInt32 = iI (x % 4294967296 / 1048576) := by
  have e := iI_tn (x := x)
  have hb := (iI x).toBitVec.isLt
  rw [show x % 4294967296 / 1048576 = (((iI x).toBitVec.toNat / 2 ^ 20 : Nat) : Int) by omega, iI_nat]
  apply Int32.toBitVec_inj.1
  apply BitVec.eq_of_toNat_eq
  show ((iI x).toBitVec >>> (20 : Nat)).toNat = ((iI x).toBitVec.toNat / 2 ^ 20) % 2 ^ 32
  rw [BitVec.toNat_ushiftRight, Nat.shiftRight_eq_div_pow]
  omega
theorem iI_us21 {x : Int} : ((iI x).toUInt32 >>> ((iI 21).toUInt32 &&& Int32.toUInt32 31)).toInt32 = iI (x % 4294967296 / 2097152) := by
  have e := iI_tn (x := x)
  have hb := (iI x).toBitVec.isLt
  rw [show x % 4294967296 / 2097152 = (((iI x).toBitVec.toNat / 2 ^ 21 : Nat) : Int) by omega, iI_nat]
  apply Int32.toBitVec_inj.1
  apply BitVec.eq_of_toNat_eq
  show ((iI x).toBitVec >>> (21 : Nat)).toNat = ((iI x).toBitVec.toNat / 2 ^ 21) % 2 ^ 32
  rw [BitVec.toNat_ushiftRight, Nat.shiftRight_eq_div_pow]
  omega
theorem iI_self {x : Int} : iI x = nI (iI x).toBitVec.toNat := by
  apply Int32.toBitVec_inj.1
  apply BitVec.eq_of_toNat_eq
  have hb := (iI x).toBitVec.isLt
  show (iI x).toBitVec.toNat = (iI x).toBitVec.toNat % 2 ^ 32
  omega
theorem iI_mk {x m : Int} {n : Nat} (hm : iI m = nI (2 ^ n - 1)) (h : x % 4294967296 % ((2 ^ n : Nat) : Int) = x % ((2 ^ n : Nat) : Int)) : iI x &&& iI m = iI (x % ((2 ^ n : Nat) : Int)) := by
  have e := iI_tn (x := x)
  rw [hm, iI_self, ny_and, Nat.and_two_pow_sub_one_eq_mod, ← iI_nat]
  congr 1
  rw [← h, ← e, Int.natCast_emod]
theorem iI_m15 {x : Int} : iI x &&& iI 15 = iI (x % 16) := iI_mk (n := 4) rfl (by omega)
theorem iI_m1 {x : Int} : iI x &&& iI 1 = iI (x % 2) := iI_mk (n := 1) rfl (by omega)
theorem iI_m255 {x : Int} : iI x &&& iI 255 = iI (x % 256) := iI_mk (n := 8) rfl (by omega)
theorem iI_m31 {x : Int} : iI x &&& iI 2147483647 = iI (x % 2147483648) := iI_mk (n := 31) rfl (by omega)
theorem iI_sh8 {x : Int} : iI x <<< (iI 8 &&& 31) = iI (x * 256) := by
  apply Int32.toBitVec_inj.1
  apply BitVec.eq_of_toNat_eq
  have e := iI_tn (x := x)
  have e2 := iI_tn (x := x * 256)
  have hb := (iI x).toBitVec.isLt
  show ((iI x).toBitVec <<< (8 : Nat)).toNat = (iI (x * 256)).toBitVec.toNat
  rw [BitVec.toNat_shiftLeft, Nat.shiftLeft_eq]
  omega
theorem iI_sh16 {x : Int} : iI x <<< (iI 16 &&& 31) = iI (x * 65536) := by
  apply Int32.toBitVec_inj.1
  apply BitVec.eq_of_toNat_eq
  have e := iI_tn (x := x)
  have e2 := iI_tn (x := x * 65536)
  have hb := (iI x).toBitVec.isLt
  show ((iI x).toBitVec <<< (16 : Nat)).toNat = (iI (x * 65536)).toBitVec.toNat
  rw [BitVec.toNat_shiftLeft, Nat.shiftLeft_eq]
  omega
theorem iI_sh24 {x : Int} : iI x <<< (iI 24 &&& 31) = iI (x * 16777216) := by
  apply Int32.toBitVec_inj.1
  apply BitVec.eq_of_toNat_eq
  have e := iI_tn (x := x)
  have e2 := iI_tn (x := x * 16777216)
  have hb := (iI x).toBitVec.isLt
  show ((iI x).toBitVec <<< (24 : Nat)).toNat = (iI (x * 16777216)).toBitVec.toNat
  rw [BitVec.toNat_shiftLeft, Nat.shiftLeft_eq]
  omega
theorem iI_sh0 {x : Int} : iI x <<< (iI 0 &&& 31) = iI (x * 1) := by
  apply Int32.toBitVec_inj.1
  apply BitVec.eq_of_toNat_eq
  have hb := (iI x).toBitVec.isLt
  rw [Int.mul_one]
  show ((iI x).toBitVec <<< (0 : Nat)).toNat = (iI x).toBitVec.toNat
  rw [BitVec.toNat_shiftLeft, Nat.shiftLeft_eq]
  omega
/-- a power of 256 -/
def g256 (k : Int) : Int := if k = 0 then 16777216 else if k = 1 then 65536 else if k = 2 then 256 else 1
theorem iI_shk {x k : Int} (hk : 0 ≤ k ∧ k < 4) : iI x <<< (iI (24 - 8 * k) &&& 31) = iI (x * g256 k) := by
  rcases (by omega : k = 0 ∨ k = 1 ∨ k = 2 ∨ k = 3) with rfl | rfl | rfl | rfl
  · exact iI_sh24
  · exact iI_sh16
  · exact iI_sh8
  · exact iI_sh0
theorem zo_add {q b : Int} {i : Nat} (hq : 0 ≤ q) (hb : 0 ≤ b) (h : b < ((2 ^ i : Nat) : Int)) : zo (q * ((2 ^ i : Nat) : Int)) b = q * ((2 ^ i : Nat) : Int) + b := by
  obtain ⟨q', rfl⟩ : ∃ q' : Nat, q = (q' : Int) := ⟨q.toNat, by omega⟩
  obtain ⟨b', rfl⟩ : ∃ b' : Nat, b = (b' : Int) := ⟨b.toNat, by omega⟩
  unfold zo
  have e : ((q' : Int) * ((2 ^ i : Nat) : Int)).toNat = 2 ^ i * q' := by
    rw [← Int.natCast_mul, Int.toNat_natCast, Nat.mul_comm]
  rw [e, Int.toNat_natCast, ← Nat.two_pow_add_eq_or_of_lt (by omega), Int.natCast_add, Int.natCast_mul, Int.mul_comm]
theorem zo_24 {q b : Int} (hq : 0 ≤ q) (hb : 0 ≤ b) (h : b < 16777216) : zo (q * 16777216) b = q * 16777216 + b := zo_add (i := 24) hq hb h
theorem zo_16 {q b : Int} (hq : 0 ≤ q) (hb : 0 ≤ b) (h : b < 65536) : zo (q * 65536) b = q * 65536 + b := zo_add (i := 16) hq hb h
theorem zo_8 {q b : Int} (hq : 0 ≤ q) (hb : 0 ≤ b) (h : b < 256) : zo (q * 256) b = q * 256 + b := zo_add (i := 8) hq hb h
theorem zby_v {x : Int} (h : 0 ≤ x ∧ x < 2147483648) : zby x 24 = x / 16777216 ∧ zby x 16 = x / 65536 % 256 ∧ zby x 8 = x / 256 % 256 ∧ zby x 0 = x % 256 := by
  have e := iI_tn (x := x)
  have e2 : ((iI x).toBitVec.toNat : Int) = x := by omega
  refine ⟨?_, ?_, ?_, ?_⟩
  · show ((((iI x).toBitVec.toNat >>> 24) % 256 : Nat) : Int) = _
    rw [Nat.shiftRight_eq_div_pow]
    omega
  · show ((((iI x).toBitVec.toNat >>> 16) % 256 : Nat) : Int) = _
    rw [Nat.shiftRight_eq_div_pow]
    omega
  · show ((((iI x).toBitVec.toNat >>> 8) % 256 : Nat) : Int) = _
    rw [Nat.shiftRight_eq_div_pow]
    omega
  · show ((((iI x).toBitVec.toNat >>> 0) % 256 : Nat) : Int) = _
    rw [Nat.shiftRight_eq_div_pow]
    omega
/-- four bytes in one -/
theorem gPack {a b c d : Int} (ha : 0 ≤ a ∧ a < 128) (hb : 0 ≤ b ∧ b < 128) (hc : 0 ≤ c ∧ c < 128) (hd : 0 ≤ d ∧ d < 128) : zo (zo (zo (a * 16777216) (b * 65536)) (c * 256)) d = a * 16777216 + b * 65536 + c * 256 + d := by
  rw [zo_24 ha.1 (by omega) (by omega), show a * 16777216 + b * 65536 = (a * 256 + b) * 65536 by omega, zo_16 (by omega) (by omega) (by omega), show (a * 256 + b) * 65536 + c * 256 = (a * 65536 + b * 256 + c) * 256 by omega, zo_8 (by omega) hd.1 (by omega)]
theorem gPack_b {a b c d x : Int} (ha : 0 ≤ a ∧ a < 128) (hb : 0 ≤ b ∧ b < 256) (hc : 0 ≤ c ∧ c < 256) (hd : 0 ≤ d ∧ d < 256) (hx : x = a * 16777216 + b * 65536 + c * 256 + d) : zby x 24 = a ∧ zby x 16 = b ∧ zby x 8 = c ∧ zby x 0 = d := by
  obtain ⟨h1, h2, h3, h4⟩ := zby_v (x := x) (by omega)
  rw [h1, h2, h3, h4]
  omega
