/-! ===== string constants: length, charAt ===== -/
abbrev mJ0_length : p_M := (yJ0_length_8abf5, cJ0_length_8abf5, 1, some .int)
abbrev mJ0_charAt : p_M := (yJ0_charAt_5068e, cJ0_charAt_5068e, 2, some .char)
abbrev mJ0_coder : p_M := (yJ0_coder_7d493, cJ0_coder_7d493, 1, some .byte)
abbrev mJ0_isLatin1 : p_M := (yJ0_isLatin1_aae02, cJ0_isLatin1_aae02, 1, some .boolean)
abbrev mJ1_charAt : p_M := (yJ1_charAt_3b067, cJ1_charAt_3b067, 2, some .char)
abbrev mJ0_checkIndex : p_M := (yJ0_checkIndex_df160, cJ0_checkIndex_df160, 2, none)
abbrev mJ3_checkIndex : p_M := (yJ3_checkIndex_8e157, cJ3_checkIndex_8e157, 3, some .int)
theorem cfJ0_length : p_cf mJ0_length 0 := p_cf.of (p_t1 (List.mem_of_getElem? (i := 161) rfl)) (p_t1 (List.mem_of_getElem? (i := 6) (by decide +kernel))) (by decide +kernel)
theorem cfJ0_charAt : p_cf mJ0_charAt 1 := p_cf.of (p_t1 (List.mem_of_getElem? (i := 171) rfl)) (p_t1 (List.mem_of_getElem? (i := 6) (by decide +kernel))) (by decide +kernel)
theorem cfJ0_coder : p_cf mJ0_coder 0 := p_cf.of (p_t1 (List.mem_of_getElem? (i := 165) rfl)) (p_t1 (List.mem_of_getElem? (i := 6) (by decide +kernel))) (by decide +kernel)
theorem cfJ0_isLatin1 : p_cf mJ0_isLatin1 0 := p_cf.of (p_t1 (List.mem_of_getElem? (i := 175) rfl)) (p_t1 (List.mem_of_getElem? (i := 6) (by decide +kernel))) (by decide +kernel)
theorem cfJ1_charAt : p_cf mJ1_charAt 2 := p_cf.of (p_t1 (List.mem_of_getElem? (i := 178) rfl)) (p_t1 (List.mem_of_getElem? (i := 7) (by decide +kernel))) (by decide +kernel)
theorem cfJ0_checkIndex : p_cf mJ0_checkIndex 2 := p_cf.of (p_t1 (List.mem_of_getElem? (i := 181) rfl)) (p_t1 (List.mem_of_getElem? (i := 6) (by decide +kernel))) (by decide +kernel)
theorem cfJ3_checkIndex : p_cf mJ3_checkIndex 3 := p_cf.of (p_t1 (List.mem_of_getElem? (i := 186) rfl)) (p_t1 (List.mem_of_getElem? (i := 8) (by decide +kernel))) (by decide +kernel)
theorem imJ0_length : Cond.instanceMethod yJ0_length_8abf5 ∈ p_ws := p_in (p_t1 (List.mem_of_getElem? (i := 159) (by decide +kernel))) rfl
theorem imJ0_charAt : Cond.instanceMethod yJ0_charAt_5068e ∈ p_ws := p_in (p_t1 (List.mem_of_getElem? (i := 169) (by decide +kernel))) rfl
theorem imJ0_coder : Cond.instanceMethod yJ0_coder_7d493 ∈ p_ws := p_in (p_t1 (List.mem_of_getElem? (i := 163) (by decide +kernel))) rfl
theorem imJ0_isLatin1 : Cond.instanceMethod yJ0_isLatin1_aae02 ∈ p_ws := p_in (p_t1 (List.mem_of_getElem? (i := 173) (by decide +kernel))) rfl
theorem seJ0_length : Cond.selects yJ0_length_8abf5.cls yJ0_length_8abf5 yJ0_length_8abf5 ∈ p_ws := p_in (p_t1 (List.mem_of_getElem? (i := 160) (by decide +kernel))) rfl
theorem seJ0_charAt : Cond.selects yJ0_charAt_5068e.cls yJ0_charAt_5068e yJ0_charAt_5068e ∈ p_ws := p_in (p_t1 (List.mem_of_getElem? (i := 170) (by decide +kernel))) rfl
theorem seJ0_coder : Cond.selects yJ0_coder_7d493.cls yJ0_coder_7d493 yJ0_coder_7d493 ∈ p_ws := p_in (p_t1 (List.mem_of_getElem? (i := 164) (by decide +kernel))) rfl
theorem seJ0_isLatin1 : Cond.selects yJ0_isLatin1_aae02.cls yJ0_isLatin1_aae02 yJ0_isLatin1_aae02 ∈ p_ws := p_in (p_t1 (List.mem_of_getElem? (i := 174) (by decide +kernel))) rfl
theorem stJ1_charAt : Cond.static yJ1_charAt_3b067 ∈ p_ws := p_in (p_t1 (List.mem_of_getElem? (i := 177) (by decide +kernel))) rfl
theorem stJ0_checkIndex : Cond.static yJ0_checkIndex_df160 ∈ p_ws := p_in (p_t1 (List.mem_of_getElem? (i := 180) (by decide +kernel))) rfl
theorem stJ3_checkIndex : Cond.static yJ3_checkIndex_8e157 ∈ p_ws := p_in (p_t1 (List.mem_of_getElem? (i := 185) (by decide +kernel))) rfl
theorem lJ0_335 : Cond.methodLink RJ0 335 yJ0_coder_7d493 ∈ p_ws := p_in (p_t1 (List.mem_of_getElem? (i := 162) (by decide +kernel))) rfl
theorem lJ0_492 : Cond.methodLink RJ0 492 yJ0_isLatin1_aae02 ∈ p_ws := p_in (p_t1 (List.mem_of_getElem? (i := 172) (by decide +kernel))) rfl
theorem lJ0_495 : Cond.methodLink RJ0 495 yJ1_charAt_3b067 ∈ p_ws := p_in (p_t1 (List.mem_of_getElem? (i := 176) (by decide +kernel))) rfl
theorem lJ1_9 : Cond.methodLink RJ1 9 yJ0_checkIndex_df160 ∈ p_ws := p_in (p_t1 (List.mem_of_getElem? (i := 179) (by decide +kernel))) rfl
theorem lJ0_1059 : Cond.methodLink RJ0 1059 yJ3_checkIndex_8e157 ∈ p_ws := p_in (p_t1 (List.mem_of_getElem? (i := 184) (by decide +kernel))) rfl
theorem gJ0_38 : Cond.fieldLink RJ0 38 RJ0 "COMPACT_STRINGS" "Z" ∈ p_ws := p_in (p_t1 (List.mem_of_getElem? (i := 166) (by decide +kernel))) rfl
theorem gJ0_1053 : Cond.fieldLink RJ0 1053 RJ3 "SIOOBE_FORMATTER" "Ljava/util/function/BiFunction;" ∈ p_ws := p_in (p_t1 (List.mem_of_getElem? (i := 182) (by decide +kernel))) rfl
theorem gJ0_9 : Cond.fieldLink RJ0 9 RJ0 "value" "[B" ∈ p_ws := p_in (p_t4 (List.mem_of_getElem? (i := 214) (by decide +kernel))) rfl
theorem gJ0_15 : Cond.fieldLink RJ0 15 RJ0 "coder" "B" ∈ p_ws := p_in (p_t4 (List.mem_of_getElem? (i := 215) (by decide +kernel))) rfl
/-- a string constant at a, its bytes at v -/
def p_Str (G : p_G) (a v N : Nat) (bs : Int → Int) : Prop := ∀ s, p_S G s → va_O RJ0 a (p_A G) s s.heap ∧ va_OF RJ0 "coder" "B" (.int 0) a (p_A G) s s.heap ∧ va_OF RJ0 "value" "[B" (.ref v) a (p_A G) s s.heap ∧ va_T .byte v N (fun j => .int (iI (bs (j : Int)))) (p_A G) s s.heap
/-- two statics of the library -/
def p_Zk (G : p_G) : Prop := (∀ s, p_S G s → va_Z RJ0 "COMPACT_STRINGS" "Z" (.int 1) (p_A G) s s.heap) ∧ ∃ v : Value, (v = .null ∨ ∃ a, v = .ref a) ∧ ∀ s, p_S G s → va_Z RJ3 "SIOOBE_FORMATTER" "Ljava/util/function/BiFunction;" v (p_A G) s s.heap
section C86a
variable {G : p_G} {M : p_M} {P : p_P} {d k n pc : Nat} {h : p_H} {L : p_LL} {st : List Value}
theorem r_ldcS {idx q : Nat} {tx : String} (hd : decode M.2.1 pc = .ok (.ldc idx, 2)) (hR : ∀ s, p_S G s → vk_R M.1.cls idx tx q s) (kk : SW G M P d k n h (pc + 2) L (.ref q :: st)) : SW G M P d k n h pc L st := by
  intro p e R s m args below meth c H locs cells slots ls C B hS hR' hL
  obtain ⟨hx, hb, hml, hret, hlk, hown, hnam, hE, hU⟩ := id C
  exact va_ldcS hx hb hown (hR s hU) hd (kk p e R s m args below meth c H locs cells slots ls C B hS hR' hL)
theorem r_getO {idx q : Nat} {o f ty : String} {v : Value} (hd : decode M.2.1 pc = .ok (.getfield idx, 3)) (hE : ∀ s, p_S G s → va_OF o f ty v q (p_A G) s s.heap) (hl : Cond.fieldLink M.1.cls idx o f ty ∈ p_ws) (kk : SW G M P d k n h (pc + 3) L (v :: st)) : SW G M P d k n h pc L (.ref q :: st) := by
  intro p e R s m args below meth c H locs cells slots ls C B hS hR hL
  obtain ⟨hx, hb, hml, hret, hlk, hown, hnam, hE', hU⟩ := id C
  exact vk_getf hx hb (hE s hU) hS hown (hU.word hl args) (fun x h => h) hd (kk p e R s m args below meth c H locs cells slots ls C B hS hR hL)
theorem r_getS {idx : Nat} {o f ty : String} {v : Value} (hd : decode M.2.1 pc = .ok (.getstatic idx, 3)) (hE : ∀ s, p_S G s → va_Z o f ty v (p_A G) s s.heap) (hl : Cond.fieldLink M.1.cls idx o f ty ∈ p_ws) (kk : SW G M P d k n h (pc + 3) L (v :: st)) : SW G M P d k n h pc L st := by
  intro p e R s m args below meth c H locs cells slots ls C B hS hR hL
  obtain ⟨hx, hb, hml, hret, hlk, hown, hnam, hE', hU⟩ := id C
  exact va_gets hx hb (hE s hU) hS hown (hU.word hl args) (fun x h => h) hd (kk p e R s m args below meth c H locs cells slots ls C B hS hR hL)
theorem r_alenO {t N : Nat} {ty : FieldType} {f : Nat → Value} (hd : decode M.2.1 pc = .ok (.arraylength, 1)) (hE : ∀ s, p_S G s → va_T ty t N f (p_A G) s s.heap) (kk : SW G M P d k n h (pc + 1) L (.int (Int32.ofNat N) :: st)) : SW G M P d k n h pc L (.ref t :: st) := by
  intro p e R s m args below meth c H locs cells slots ls C B hS hR hL
  obtain ⟨hx, hb, hml, hret, hlk, hown, hnam, hE', hU⟩ := id C
  exact va_tlen hx hb (hE s hU) hS rfl hd (kk p e R s m args below meth c H locs cells slots ls C B hS hR hL)
theorem r_baldO {t N : Nat} {f : Nat → Value} {i : Int32} (hd : decode M.2.1 pc = .ok (.baload, 1)) (hE : ∀ s, p_S G s → va_T .byte t N f (p_A G) s s.heap) (hi : vp_in i N) (kk : SW G M P d k n h (pc + 1) L (f i.toNatClampNeg :: st)) : SW G M P d k n h pc L (.int i :: .ref t :: st) := by
  intro p e R s m args below meth c H locs cells slots ls C B hS hR hL
  obtain ⟨hx, hb, hml, hret, hlk, hown, hnam, hE', hU⟩ := id C
  exact va_tb hx hb (hE s hU) hS hi rfl hd (kk p e R s m args below meth c H locs cells slots ls C B hS hR hL)
/-- a method of an object that was there before -/
theorem r_callO {M' : p_M} {na mc ms d' k' n' idx b : Nat} {As rest : List Value} (hd : decode M.2.1 pc = .ok (.invokevirtual idx, 3)) (hc : p_cf M' na) (hi : Cond.instanceMethod M'.1 ∈ p_ws) (hse : Cond.selects M'.1.cls M'.1 M'.1 ∈ p_ws) (hl : Cond.methodLink M.1.cls idx M'.1 ∈ p_ws) (hE : ∀ s, p_S G s → va_O M'.1.cls b (p_A G) s s.heap) (hn : As.length = na) (he : st = As.reverse ++ .ref b :: rest) (hr : (rest.map fun v => v.category).sum ≤ 8) (hk : k = mc + k') (hk2 : n = ms + n')
    (kk : SM G M' h (.ref b :: As) d' mc ms (p_K G M P (d' + 1) k' n' (pc + 3) L rest)) : SW G M P (d' + 1) k n h pc L st := by
  intro p e R s m args below meth c H locs cells slots ls C B hS hR hL
  subst hk; subst hk2
  obtain ⟨hx, hb, hml, hret, hlk, hown, hnam, hE', hU⟩ := id C
  refine p_run (rest := rest) (a := (Value.ref b :: As).toArray) C B hS hL ?_
  obtain ⟨cell, h1, h2, h3, -⟩ := (hE s hU).kept hS.2.1
  exact vx_runV (Ts := []) ⟨hx, hb, hml, hown, fun w hw => by cases hw⟩ kk ⟨p_callB hU hc hl B, hU.word hi args, hU.word hse args⟩ ⟨p_blind, ⟨cell, h1, h2, h3⟩, fun U hh hW => ⟨rfl, hU.call hS hh hW, by rw [hh]; exact hR⟩⟩ rfl hn hL.1 he (lv_room hr) hd ⟨by have := B.2.2.1; omega, by have := B.2.2.2; omega⟩
end C86a
theorem iI_ff : ∀ k, k < 128 → nI k &&& 255 = nI k := by decide
section C86b
variable {σ : Type} {G : p_G} {I : σ → p_H → Prop} {P : (Option Value) ⊕ String → σ → Prop} {M : p_M} {d k n pc : Nat} {L : p_LL} {st : List Value} {X : σ} {a v N : Nat} {bs : Int → Int}
theorem i_callO {M' : p_M} {na mc ms d' k' n' idx b : Nat} {As rest : List Value} (hd : decode M.2.1 pc = .ok (.invokevirtual idx, 3)) (hc : p_cf M' na) (hi : Cond.instanceMethod M'.1 ∈ p_ws) (hse : Cond.selects M'.1.cls M'.1 M'.1 ∈ p_ws) (hl : Cond.methodLink M.1.cls idx M'.1 ∈ p_ws) (hE : ∀ s, p_S G s → va_O M'.1.cls b (p_A G) s s.heap) (hn : As.length = na) (he : st = As.reverse ++ .ref b :: rest) (hr : (rest.map fun v => v.category).sum ≤ 8) (hk : k = mc + k') (hk2 : n = ms + n')
    (kk : RM G M' I (.ref b :: As) d' mc ms (RK G M I P (d' + 1) k' n' (pc + 3) L rest) X) : RW G M I P (d' + 1) k n pc L st X := fun h hI => r_callO hd hc hi hse hl hE hn he hr hk hk2 ((kk h hI).mono RK.goes)
theorem i_getO {idx q : Nat} {o f ty : String} {v : Value} (hd : decode M.2.1 pc = .ok (.getfield idx, 3)) (hE : ∀ s, p_S G s → va_OF o f ty v q (p_A G) s s.heap) (hl : Cond.fieldLink M.1.cls idx o f ty ∈ p_ws) (kk : RW G M I P d k n (pc + 3) L (v :: st) X) : RW G M I P d k n pc L (.ref q :: st) X := RW.up (fun kk => r_getO hd hE hl kk) kk
theorem i_getS {idx : Nat} {o f ty : String} {v : Value} (hd : decode M.2.1 pc = .ok (.getstatic idx, 3)) (hE : ∀ s, p_S G s → va_Z o f ty v (p_A G) s s.heap) (hl : Cond.fieldLink M.1.cls idx o f ty ∈ p_ws) (kk : RW G M I P d k n (pc + 3) L (v :: st) X) : RW G M I P d k n pc L st X := RW.up (fun kk => r_getS hd hE hl kk) kk
theorem i_alenO {t N : Nat} {ty : FieldType} {f : Nat → Value} (hd : decode M.2.1 pc = .ok (.arraylength, 1)) (hE : ∀ s, p_S G s → va_T ty t N f (p_A G) s s.heap) (kk : RW G M I P d k n (pc + 1) L (.int (iI (N : Int)) :: st) X) : RW G M I P d k n pc L (.ref t :: st) X := RW.up (fun kk => r_alenO hd hE (by rw [show Int32.ofNat N = iI (N : Int) from (iI_nat N).symm]; exact kk)) kk
theorem i_baldO {t N : Nat} {i : Int} (hd : decode M.2.1 pc = .ok (.baload, 1)) (hE : ∀ s, p_S G s → va_T .byte t N (fun j => .int (iI (bs (j : Int)))) (p_A G) s s.heap) (h0 : 0 ≤ i) (h1 : i < (N : Int)) (hN : N < 2147483648) (kk : RW G M I P d k n (pc + 1) L (.int (iI (bs i)) :: st) X) : RW G M I P d k n pc L (.int (iI i) :: .ref t :: st) X := RW.up (fun kk => r_baldO hd hE (iI_in h0 h1 hN) (by
  rw [iI_clamp h0 (by omega)]
  show SW _ _ _ _ _ _ _ _ _ (.int (iI (bs ((i.toNat : Nat) : Int))) :: st)
  rw [Int.toNat_of_nonneg h0]
  exact kk)) kk
theorem q_coder (hK : p_Zk G) (hS : p_Str G a v N bs) (hp : P (.inl (some (.int (iI 0)))) X) : RM G mJ0_coder I [.ref a] d 0 0 P X := by
  refine RM.of (L := [some (.ref a)]) cfJ0_coder rfl (Nat.le_of_ble_eq_true rfl) ?_
  refine i_getS dJ0_coder_7d493_0 hK.1 gJ0_38 ?_
  refine i_if_eq (A := 1) (tgt := 13) dJ0_coder_7d493_3 (by decide) (by decide) (fun c => absurd c (by decide)) (fun _ => ?_)
  refine i_aload_n dJ0_coder_7d493_6 rfl ?_
  refine i_getO dJ0_coder_7d493_7 (fun s hs => (hS s hs).2.1) gJ0_15 ?_
  refine i_goto (tgt := 14) dJ0_coder_7d493_10 (by decide) ?_
  exact i_ireturn dJ0_coder_7d493_14 rfl rfl hp
theorem q_isLatin1 (hK : p_Zk G) (hS : p_Str G a v N bs) (hp : P (.inl (some (.int (iI 1)))) X) : RM G mJ0_isLatin1 I [.ref a] d 0 0 P X := by
  refine RM.of (L := [some (.ref a)]) cfJ0_isLatin1 rfl (Nat.le_of_ble_eq_true rfl) ?_
  refine i_getS dJ0_isLatin1_aae02_0 hK.1 gJ0_38 ?_
  refine i_if_eq (A := 1) (tgt := 17) dJ0_isLatin1_aae02_3 (by decide) (by decide) (fun c => absurd c (by decide)) (fun _ => ?_)
  refine i_aload_n dJ0_isLatin1_aae02_6 rfl ?_
  refine i_getO dJ0_isLatin1_aae02_7 (fun s hs => (hS s hs).2.1) gJ0_15 ?_
  refine i_if_ne (A := 0) (tgt := 17) dJ0_isLatin1_aae02_10 (by decide) (by decide) (fun c => absurd rfl c) (fun _ => ?_)
  refine i_const dJ0_isLatin1_aae02_13 ?_
  refine i_goto (tgt := 18) dJ0_isLatin1_aae02_14 (by decide) ?_
  exact i_ireturn dJ0_isLatin1_aae02_18 rfl rfl hp
theorem q_slen (hK : p_Zk G) (hS : p_Str G a v N bs) (hN : N < 2147483648) (hp : P (.inl (some (.int (iI (N : Int))))) X) : RM G mJ0_length I [.ref a] (d + 1) 0 0 P X := by
  refine RM.of (L := [some (.ref a)]) cfJ0_length rfl (Nat.le_of_ble_eq_true rfl) ?_
  refine i_aload_n dJ0_length_8abf5_0 rfl ?_
  refine i_getO dJ0_length_8abf5_1 (fun s hs => (hS s hs).2.2.1) gJ0_9 ?_
  refine i_alenO dJ0_length_8abf5_4 (fun s hs => (hS s hs).2.2.2) ?_
  refine i_aload_n dJ0_length_8abf5_5 rfl ?_
  refine i_callO (As := []) (mc := 0) (ms := 0) dJ0_length_8abf5_6 cfJ0_coder imJ0_coder seJ0_coder lJ0_335 (fun s hs => (hS s hs).1) rfl rfl (Nat.le_of_ble_eq_true rfl) (Nat.zero_add _).symm (Nat.zero_add _).symm ?_
  refine q_coder hK hS (RK.v ?_)
  refine i_shr dJ0_length_8abf5_9 (iI_shr (by omega) (by decide)) ?_
  refine RW.ti (show zs (N : Int) 0 = (N : Int) from ?_) ?_
  · unfold zs
    simp
  · exact i_ireturn dJ0_length_8abf5_10 rfl rfl hp
theorem q_J3check {x y : Int} {f : Value} (hf : f = .null ∨ ∃ a, f = .ref a) (h0 : 0 ≤ x) (h1 : x < y) (hy : y < 2147483648) (hp : P (.inl (some (.int (iI x)))) X) : RM G mJ3_checkIndex I [.int (iI x), .int (iI y), f] d 0 0 P X := by
  have main : ∀ L : p_LL, L = [some (.int (iI x)), some (.int (iI y)), some f] → RW G mJ3_checkIndex I P d 0 0 0 L [] X := fun L hL => by
    subst hL
    refine i_iload_n dJ3_checkIndex_8e157_0 rfl ?_
    refine i_if_lt (tgt := 9) dJ3_checkIndex_8e157_1 (by decide) (by omega) (fun c => absurd c (by omega)) (fun _ => ?_)
    refine i_iload_n dJ3_checkIndex_8e157_4 rfl ?_
    refine i_iload_n dJ3_checkIndex_8e157_5 rfl ?_
    refine i_icmp_lt (tgt := 16) dJ3_checkIndex_8e157_6 (by decide) (by omega) (by omega) (fun _ => ?_) (fun c => absurd h1 (by omega))
    refine i_iload_n dJ3_checkIndex_8e157_16 rfl ?_
    exact i_ireturn dJ3_checkIndex_8e157_17 rfl rfl hp
  rcases hf with rfl | ⟨a, rfl⟩
  · exact RM.of cfJ3_checkIndex rfl (Nat.le_of_ble_eq_true rfl) (main _ rfl)
  · exact RM.of cfJ3_checkIndex rfl (Nat.le_of_ble_eq_true rfl) (main _ rfl)
theorem q_J0check {x y : Int} (hK : p_Zk G) (h0 : 0 ≤ x) (h1 : x < y) (hy : y < 2147483648) (hp : P (.inl none) X) : RM G mJ0_checkIndex I [.int (iI x), .int (iI y)] (d + 1) 0 0 P X := by
  obtain ⟨f, hf, hz⟩ := hK.2
  refine RM.of (L := [some (.int (iI x)), some (.int (iI y))]) cfJ0_checkIndex rfl (Nat.le_of_ble_eq_true rfl) ?_
  refine i_iload_n dJ0_checkIndex_df160_0 rfl ?_
  refine i_iload_n dJ0_checkIndex_df160_1 rfl ?_
  refine i_getS dJ0_checkIndex_df160_2 hz gJ0_1053 ?_
  refine i_callS (mc := 0) (ms := 0) (As := [_, _, _]) dJ0_checkIndex_df160_5 cfJ3_checkIndex stJ3_checkIndex lJ0_1059 rfl rfl (Nat.le_of_ble_eq_true rfl) (Nat.zero_add _).symm (Nat.zero_add _).symm ?_
  refine q_J3check hf h0 h1 hy (RK.v ?_)
  refine i_pop dJ0_checkIndex_df160_8 rfl ?_
  exact i_return dJ0_checkIndex_df160_9 rfl hp
theorem q_schr {x : Int} (hK : p_Zk G) (hS : p_Str G a v N bs) (hN : N < 2147483648) (h0 : 0 ≤ x) (h1 : x < (N : Int)) (hb : 0 ≤ bs x ∧ bs x < 128) (hp : P (.inl (some (.int (iI (bs x))))) X) : RM G mJ0_charAt I [.ref a, .int (iI x)] (d + 3) 0 0 P X := by
  refine RM.of (L := [some (.ref a), some (.int (iI x))]) cfJ0_charAt rfl (Nat.le_of_ble_eq_true rfl) ?_
  refine i_aload_n dJ0_charAt_5068e_0 rfl ?_
  refine i_callO (As := []) (mc := 0) (ms := 0) dJ0_charAt_5068e_1 cfJ0_isLatin1 imJ0_isLatin1 seJ0_isLatin1 lJ0_492 (fun s hs => (hS s hs).1) rfl rfl (Nat.le_of_ble_eq_true rfl) (Nat.zero_add _).symm (Nat.zero_add _).symm ?_
  refine q_isLatin1 hK hS (RK.v ?_)
  refine i_if_eq (A := 1) (tgt := 16) dJ0_charAt_5068e_4 (by decide) (by decide) (fun c => absurd c (by decide)) (fun _ => ?_)
  refine i_aload_n dJ0_charAt_5068e_7 rfl ?_
  refine i_getO dJ0_charAt_5068e_8 (fun s hs => (hS s hs).2.2.1) gJ0_9 ?_
  refine i_iload_n dJ0_charAt_5068e_11 rfl ?_
  refine i_callS (mc := 0) (ms := 0) (As := [_, _]) dJ0_charAt_5068e_12 cfJ1_charAt stJ1_charAt lJ0_495 rfl rfl (Nat.le_of_ble_eq_true rfl) (Nat.zero_add _).symm (Nat.zero_add _).symm ?_
  refine RM.of (L := [some (.ref v), some (.int (iI x))]) cfJ1_charAt rfl (Nat.le_of_ble_eq_true rfl) ?_
  refine i_iload_n dJ1_charAt_3b067_0 rfl ?_
  refine i_aload_n dJ1_charAt_3b067_1 rfl ?_
  refine i_alenO dJ1_charAt_3b067_2 (fun s hs => (hS s hs).2.2.2) ?_
  refine i_callS (mc := 0) (ms := 0) (As := [_, _]) dJ1_charAt_3b067_3 cfJ0_checkIndex stJ0_checkIndex lJ1_9 rfl rfl (Nat.le_of_ble_eq_true rfl) (Nat.zero_add _).symm (Nat.zero_add _).symm ?_
  refine q_J0check hK h0 h1 (by omega) (RK.n0 ?_)
  refine i_aload_n dJ1_charAt_3b067_6 rfl ?_
  refine i_iload_n dJ1_charAt_3b067_7 rfl ?_
  refine i_baldO dJ1_charAt_3b067_8 (fun s hs => (hS s hs).2.2.2) h0 h1 hN ?_
  refine i_sipush dJ1_charAt_3b067_9 (by decide) ?_
  refine i_andE (z := bs x) dJ1_charAt_3b067_12 (by rw [iI_nn hb.1]; exact iI_ff _ (by omega)) ?_
  refine i_i2c dJ1_charAt_3b067_13 (iI_i2c (by omega)) ?_
  refine i_ireturn dJ1_charAt_3b067_14 rfl ?_ (RK.v ?_)
  · exact congrArg Value.int (iI_char (by omega))
  · refine i_ireturn dJ0_charAt_5068e_15 rfl ?_ hp
    exact congrArg Value.int (iI_char (by omega))
end C86b
